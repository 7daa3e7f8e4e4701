-- X8_judge X8_ways X8_divisor X8_fraction X8_share X8_mark X8_snowed X8_findWhose
abbrev rm_X8_judge : Room := { frames := 5, cells := 0, slots := 0, locals := 120 }
set_option maxHeartbeats 4000000 in
set_option maxRecDepth 100000 in
theorem c_X8_judge (l : Launch) (dC : Nat → ClassId) (dI : Nat → Nat → Nat) (cI cZ : ClassId) (q_t q_t_text q_t_beat q_t_kind q_t_readSnow q_t_readWalker q_t_page q_t_trial q_t_book q_t_kept q_t_isKept q_t_markStep q_t_markTread q_t_order q_t_gains q_t_value : Nat) (sz : Nat) (t_thrown : Int32) (t_textSize : Int32) (t_place : Int32) (t_depth : Int32) (t_noon : Int32) (t_later : Int32) (t_walkers : Int32) (t_readWalkers : Int32) (t_acts : Int32) (t_marks : Int32) (t_seed : Int64) (t_stumbled : Int32) (t_lineMany : Int32) (t_lineOrder : Int32) (t_whoseMany : Int32) (t_whoseFirst : Int32) (t_restMany : Int32) (t_restFirst : Int32) (t_page : Nat → Int32) (t_trial : Nat → Int32) (t_kind : Nat → Int32) (t_beat : Nat → Int32) (x1 : Int32) (x2 : Int64) (r_ : Int32) (o_t_thrown : Int32) (o_t_stumbled : Int32) (o_t_trial : Nat → Int32) (hf : f_X8_judge x1 x2 t_thrown t_depth t_noon t_later t_walkers t_stumbled t_page t_trial t_kind t_beat = some (r_, o_t_thrown, o_t_stumbled, o_t_trial)) : Met l yX8_judge wsX8_judge rm_X8_judge (va_Pc [.ref q_t, .int x1, .long x2] (PU (dC, dI) cI cZ [(q_t, .inr (8, [.int t_thrown, .ref q_t_text, .int t_textSize, .int t_place, .int t_depth, .int t_noon, .int t_later, .int t_walkers, .ref q_t_beat, .ref q_t_kind, .ref q_t_readSnow, .int t_readWalkers, .ref q_t_readWalker, .ref q_t_page, .ref q_t_trial, .ref q_t_book, .int t_acts, .ref q_t_kept, .ref q_t_isKept, .int t_marks, .ref q_t_markStep, .ref q_t_markTread, .long t_seed, .int t_stumbled, .ref q_t_order, .int t_lineMany, .int t_lineOrder, .int t_whoseMany, .int t_whoseFirst, .int t_restMany, .int t_restFirst, .ref q_t_gains, .ref q_t_value])), (q_t_page, .inl (cI, 17, .inl t_page)), (q_t_trial, .inl (cI, 17, .inl t_trial)), (q_t_kind, .inl (cI, 5, .inl t_kind)), (q_t_beat, .inl (cI, 5, .inl t_beat))] sz)) (va_Qi (fun (r : Int32) (_ : Unit) => r = r_) (fun _ t => va_P (dC, dI) vwCl [(q_t, .inr (8, [.int o_t_thrown, .ref q_t_text, .int t_textSize, .int t_place, .int t_depth, .int t_noon, .int t_later, .int t_walkers, .ref q_t_beat, .ref q_t_kind, .ref q_t_readSnow, .int t_readWalkers, .ref q_t_readWalker, .ref q_t_page, .ref q_t_trial, .ref q_t_book, .int t_acts, .ref q_t_kept, .ref q_t_isKept, .int t_marks, .ref q_t_markStep, .ref q_t_markTread, .long t_seed, .int o_t_stumbled, .ref q_t_order, .int t_lineMany, .int t_lineOrder, .int t_whoseMany, .int t_whoseFirst, .int t_restMany, .int t_restFirst, .ref q_t_gains, .ref q_t_value])), (q_t_page, .inl (cI, 17, .inl t_page)), (q_t_trial, .inl (cI, 17, .inl o_t_trial)), (q_t_kind, .inl (cI, 5, .inl t_kind)), (q_t_beat, .inl (cI, 5, .inl t_beat))] t.heap) (va_A [(q_t, .inr (8, [.int t_thrown, .ref q_t_text, .int t_textSize, .int t_place, .int t_depth, .int t_noon, .int t_later, .int t_walkers, .ref q_t_beat, .ref q_t_kind, .ref q_t_readSnow, .int t_readWalkers, .ref q_t_readWalker, .ref q_t_page, .ref q_t_trial, .ref q_t_book, .int t_acts, .ref q_t_kept, .ref q_t_isKept, .int t_marks, .ref q_t_markStep, .ref q_t_markTread, .long t_seed, .int t_stumbled, .ref q_t_order, .int t_lineMany, .int t_lineOrder, .int t_whoseMany, .int t_whoseFirst, .int t_restMany, .int t_restFirst, .ref q_t_gains, .ref q_t_value])), (q_t_page, .inl (cI, 17, .inl t_page)), (q_t_trial, .inl (cI, 17, .inl t_trial)), (q_t_kind, .inl (cI, 5, .inl t_kind)), (q_t_beat, .inl (cI, 5, .inl t_beat))] sz)) 0 0 (va_A [(q_t, .inr (8, [.int t_thrown, .ref q_t_text, .int t_textSize, .int t_place, .int t_depth, .int t_noon, .int t_later, .int t_walkers, .ref q_t_beat, .ref q_t_kind, .ref q_t_readSnow, .int t_readWalkers, .ref q_t_readWalker, .ref q_t_page, .ref q_t_trial, .ref q_t_book, .int t_acts, .ref q_t_kept, .ref q_t_isKept, .int t_marks, .ref q_t_markStep, .ref q_t_markTread, .long t_seed, .int t_stumbled, .ref q_t_order, .int t_lineMany, .int t_lineOrder, .int t_whoseMany, .int t_whoseFirst, .int t_restMany, .int t_restFirst, .ref q_t_gains, .ref q_t_value])), (q_t_page, .inl (cI, 17, .inl t_page)), (q_t_trial, .inl (cI, 17, .inl t_trial)), (q_t_kind, .inl (cI, 5, .inl t_kind)), (q_t_beat, .inl (cI, 5, .inl t_beat))] sz) := by
  refine MetI (cc := cX8_judge) (maxL := 5) (by decide) rfl (Nat.le_of_ble_eq_true rfl) (fun _ h => h) ?_
  intro p e s m args below meth c A Q ls hx CF hK hA hD hP hS hl hB hAe hsz hret
  have hb := CF.2.1
  have hml := CF.2.2.1
  have hown := CF.2.2.2.1
  have hts := CF.2.2.2.2
  have hD0 := hD
  replace hl : lv_has ls 5 [(0, .ref q_t), (1, .int x1), (2, .long x2)] := hl
  have hinX8 : ∀ w ∈ wsX80, w ∈ wsX8_judge := fun _ h => List.mem_cons_of_mem _ (List.mem_append_right _ h)
  have w_0 := hts (.constantLong RX8 200 (1000)) (by decide +kernel)
  have w_1 := hts (.fieldLink RX8 63 "PassInStepModel" "thrown" "I") (by decide +kernel)
  have w_2 := hts (.constantLong RX8 198 (4)) (by decide +kernel)
  have h_44 : ∀ (x1 : Int32) (x2 : Int64) (t_thrown : Int32) (t_stumbled : Int32) (fu44 : Nat) (x4 : Int32) (t_trial : Nat → Int32) (H : Heap) (locs : List Loc) (ls : Array Slot), va_P (dC, dI) vwCl [(q_t, .inr (8, [.int t_thrown, .ref q_t_text, .int t_textSize, .int t_place, .int t_depth, .int t_noon, .int t_later, .int t_walkers, .ref q_t_beat, .ref q_t_kind, .ref q_t_readSnow, .int t_readWalkers, .ref q_t_readWalker, .ref q_t_page, .ref q_t_trial, .ref q_t_book, .int t_acts, .ref q_t_kept, .ref q_t_isKept, .int t_marks, .ref q_t_markStep, .ref q_t_markTread, .long t_seed, .int t_stumbled, .ref q_t_order, .int t_lineMany, .int t_lineOrder, .int t_whoseMany, .int t_whoseFirst, .int t_restMany, .int t_restFirst, .ref q_t_gains, .ref q_t_value])), (q_t_page, .inl (cI, 17, .inl t_page)), (q_t_trial, .inl (cI, 17, .inl t_trial)), (q_t_kind, .inl (cI, 5, .inl t_kind)), (q_t_beat, .inl (cI, 5, .inl t_beat))] H → va_S A s.heap H locs → lv_has ls 5 [(0, .ref q_t), (1, .int x1), (2, .long x2), (4, .int x4)] → L_X8_judge_44 x1 x2 t_thrown t_depth t_noon t_later t_walkers t_stumbled t_kind t_beat fu44 x4 t_trial = some (r_, o_t_thrown, o_t_stumbled, o_t_trial) → W p l e rm_X8_judge s m args below meth c H locs 0 0 Q (F0 m 44 ls []) := by
    intro x1 x2 t_thrown t_stumbled fu44
    induction fu44 with
    | zero =>
      intro x4 t_trial H locs ls hP hS hl hf
      rw [L_X8_judge_44] at hf
      cases hf
    | succ fu44 ih44 =>
      intro x4 t_trial H locs ls hP hS hl hf
      have hD : va_D A [(q_t, .inr (8, [.int t_thrown, .ref q_t_text, .int t_textSize, .int t_place, .int t_depth, .int t_noon, .int t_later, .int t_walkers, .ref q_t_beat, .ref q_t_kind, .ref q_t_readSnow, .int t_readWalkers, .ref q_t_readWalker, .ref q_t_page, .ref q_t_trial, .ref q_t_book, .int t_acts, .ref q_t_kept, .ref q_t_isKept, .int t_marks, .ref q_t_markStep, .ref q_t_markTread, .long t_seed, .int t_stumbled, .ref q_t_order, .int t_lineMany, .int t_lineOrder, .int t_whoseMany, .int t_whoseFirst, .int t_restMany, .int t_restFirst, .ref q_t_gains, .ref q_t_value])), (q_t_page, .inl (cI, 17, .inl t_page)), (q_t_trial, .inl (cI, 17, .inl t_trial)), (q_t_kind, .inl (cI, 5, .inl t_kind)), (q_t_beat, .inl (cI, 5, .inl t_beat))] := wd hD0 rfl
      rw [L_X8_judge_44] at hf
      refine lv_iload hx hb dX8_judge_44 (lv_at hl 3 rfl) ?_
      refine lv_iload_n hx hb dX8_judge_46 rfl (lv_at hl 1 rfl) ?_
      refine lv_icmp_ge (tgt := 85) hx hb dX8_judge_47 (by decide) (fun hc => ?_) (fun hc => ?_)
      · replace hf := ip hc hf
        refine lv_bipush (v := (-9)) hx hb dX8_judge_85 (by decide) ?_
        obtain ⟨e0, hf⟩ := ij2 hf
        obtain ⟨e1, hf⟩ := ijc hf
        obtain ⟨e2, hf⟩ := ijc hf
        have e3 := hf
        refine W.eq (congrArg (fun z => F0 m 87 ls [.int z]) e0) ?_
        exact hret _ _ _ _ (by rw [← e1, ← e2, ← e3]; exact hP) hS dX8_judge_87
      · replace hf := iq hc hf
        refine lv_aload_n hx hb dX8_judge_50 rfl (lv_at hl 0 rfl) ?_
        refine lv_lload_n hx hb dX8_judge_51 rfl (lv_at hl 2 rfl) ?_
        refine lv_ldc2 (v := 1000) hx hb hown w_0 dX8_judge_52 ?_
        refine lv_iload_n hx hb dX8_judge_55 rfl (lv_at hl 1 rfl) ?_
        refine lv_iconst (v := 1) hx hb dX8_judge_56 (by decide) ?_
        refine lv_isub hx hb dX8_judge_57 ?_
        refine lv_iload hx hb dX8_judge_58 (lv_at hl 3 rfl) ?_
        refine lv_isub hx hb dX8_judge_60 ?_
        obtain ⟨r1, e3, hf⟩ := bd_ok hf
        refine kSl (As := [.long (1000 : Int64), .int ((x1 - 1) - x4)]) CF (va_cwS 2 hts gX8_judge_X8_longPower rfl rfl rfl (by decide +kernel) ⟨Nat.le_of_ble_eq_true rfl, Nat.le_of_ble_eq_true rfl⟩) PU_blind hP hD hS hA [] (fun h1 h2 h3 => PU_pre hK h1 A h2 h3) (c_X8_longPower l dC dI cI cZ _ (1000 : Int64) ((x1 - 1) - x4) r1 e3) rfl rfl rfl rfl hl.1 rfl (Nat.le_of_ble_eq_true rfl) dX8_judge_61 ⟨Nat.zero_le _, Nat.zero_le _⟩ (fun H locs hP hS => ?_)
        replace hP : va_P (dC, dI) vwCl [(q_t, .inr (8, [.int t_thrown, .ref q_t_text, .int t_textSize, .int t_place, .int t_depth, .int t_noon, .int t_later, .int t_walkers, .ref q_t_beat, .ref q_t_kind, .ref q_t_readSnow, .int t_readWalkers, .ref q_t_readWalker, .ref q_t_page, .ref q_t_trial, .ref q_t_book, .int t_acts, .ref q_t_kept, .ref q_t_isKept, .int t_marks, .ref q_t_markStep, .ref q_t_markTread, .long t_seed, .int t_stumbled, .ref q_t_order, .int t_lineMany, .int t_lineOrder, .int t_whoseMany, .int t_whoseFirst, .int t_restMany, .int t_restFirst, .ref q_t_gains, .ref q_t_value])), (q_t_page, .inl (cI, 17, .inl t_page)), (q_t_trial, .inl (cI, 17, .inl t_trial)), (q_t_kind, .inl (cI, 5, .inl t_kind)), (q_t_beat, .inl (cI, 5, .inl t_beat))] H := hP
        obtain ⟨hne, hf⟩ := dvl_ok hf
        refine lv_ldiv hx hb dX8_judge_64 hne ?_
        refine lv_ldc2 (v := 1000) hx hb hown w_0 dX8_judge_65 ?_
        refine lv_lrem hx hb dX8_judge_68 (by decide) ?_
        refine lv_l2i hx hb dX8_judge_69 rfl ?_
        obtain ⟨⟨r4, o5⟩, e7, hf⟩ := bd_ok hf
        refine kVi (As := [.int ((((x2 / r1) - (x2 / r1) / (1000 : Int64) * (1000 : Int64))).toInt32)]) CF (cwV 1 hts gX8_judge_X8_does rfl rfl rfl (by decide +kernel) ⟨Nat.le_of_ble_eq_true rfl, Nat.le_of_ble_eq_true rfl⟩) PU_blind hP hD hS hA (va_recv hK.1 hP (ci := 8) (q0 := 0) rfl rfl) [0, 2, 3, 4] (fun h1 h2 h3 => PU_pre hK h1 A h2 h3) (c_X8_does l dC dI cI cZ q_t q_t_text q_t_beat q_t_kind q_t_readSnow q_t_readWalker q_t_page q_t_trial q_t_book q_t_kept q_t_isKept q_t_markStep q_t_markTread q_t_order q_t_gains q_t_value _ t_thrown t_textSize t_place t_depth t_noon t_later t_walkers t_readWalkers t_acts t_marks t_seed t_stumbled t_lineMany t_lineOrder t_whoseMany t_whoseFirst t_restMany t_restFirst t_trial t_kind t_beat ((((x2 / r1) - (x2 / r1) / (1000 : Int64) * (1000 : Int64))).toInt32) r4 o5 e7) rfl rfl rfl rfl hl.1 rfl (Nat.le_of_ble_eq_true rfl) dX8_judge_70 ⟨Nat.zero_le _, Nat.zero_le _⟩ (fun H locs hP hS => ?_)
        replace hP : va_P (dC, dI) vwCl [(q_t, .inr (8, [.int t_thrown, .ref q_t_text, .int t_textSize, .int t_place, .int t_depth, .int t_noon, .int t_later, .int t_walkers, .ref q_t_beat, .ref q_t_kind, .ref q_t_readSnow, .int t_readWalkers, .ref q_t_readWalker, .ref q_t_page, .ref q_t_trial, .ref q_t_book, .int t_acts, .ref q_t_kept, .ref q_t_isKept, .int t_marks, .ref q_t_markStep, .ref q_t_markTread, .long t_seed, .int t_stumbled, .ref q_t_order, .int t_lineMany, .int t_lineOrder, .int t_whoseMany, .int t_whoseFirst, .int t_restMany, .int t_restFirst, .ref q_t_gains, .ref q_t_value])), (q_t_page, .inl (cI, 17, .inl t_page)), (q_t_trial, .inl (cI, 17, .inl o5)), (q_t_kind, .inl (cI, 5, .inl t_kind)), (q_t_beat, .inl (cI, 5, .inl t_beat))] H := hP
        replace hD : va_D A [(q_t, .inr (8, [.int t_thrown, .ref q_t_text, .int t_textSize, .int t_place, .int t_depth, .int t_noon, .int t_later, .int t_walkers, .ref q_t_beat, .ref q_t_kind, .ref q_t_readSnow, .int t_readWalkers, .ref q_t_readWalker, .ref q_t_page, .ref q_t_trial, .ref q_t_book, .int t_acts, .ref q_t_kept, .ref q_t_isKept, .int t_marks, .ref q_t_markStep, .ref q_t_markTread, .long t_seed, .int t_stumbled, .ref q_t_order, .int t_lineMany, .int t_lineOrder, .int t_whoseMany, .int t_whoseFirst, .int t_restMany, .int t_restFirst, .ref q_t_gains, .ref q_t_value])), (q_t_page, .inl (cI, 17, .inl t_page)), (q_t_trial, .inl (cI, 17, .inl o5)), (q_t_kind, .inl (cI, 5, .inl t_kind)), (q_t_beat, .inl (cI, 5, .inl t_beat))] := wd hD rfl
        refine lv_if_ne (tgt := 79) hx hb dX8_judge_73 (by decide) (fun hc => ?_) (fun hc => ?_)
        · replace hf := iq hc hf
          refine lv_iinc (v := (x4 + 1)) (lv' := [(4, .int (x4 + 1)), (0, .ref q_t), (1, .int x1), (2, .long x2)]) hx hb dX8_judge_79 hl (k := 3) rfl rfl (by decide) rfl (fun ls hl => ?_)
          refine lv_goto (tgt := 44) hx hb dX8_judge_82 (by decide) ?_
          exact ih44 (x4 + 1) o5 _ _ _ hP hS (lv_sub hl [1, 2, 3, 0] rfl) hf
        · replace hf := ip hc hf
          refine lv_iload hx hb dX8_judge_76 (lv_at hl 3 rfl) ?_
          obtain ⟨e0, hf⟩ := ij2 hf
          obtain ⟨e1, hf⟩ := ijc hf
          obtain ⟨e2, hf⟩ := ijc hf
          have e3 := hf
          refine W.eq (congrArg (fun z => F0 m 78 ls [.int z]) e0) ?_
          exact hret _ _ _ _ (by rw [← e1, ← e2, ← e3]; exact hP) hS dX8_judge_78
  rw [f_X8_judge] at hf
  refine lv_aload_n hx hb dX8_judge_0 rfl (lv_at hl 0 rfl) ?_
  refine lv_iconst (v := 0) hx hb dX8_judge_1 (by decide) ?_
  refine va_put (D := (dC, dI)) (ci := 8) (v := .int 0) (ty := .int) (C := RX8) (T := TX8) (N := 33) hx hb hts hinX8 tyX8 tyX8_ok nmX8 hown hK.1 hP hD hS 0 rfl rfl 0 (by decide) w_1 (fun _ h9 => h9) rfl (by decide +kernel) rfl rfl (Nat.le_of_ble_eq_true rfl) dX8_judge_2 (fun H locs hP hD hS => ?_)
  replace hP : va_P (dC, dI) vwCl [(q_t, .inr (8, [.int 0, .ref q_t_text, .int t_textSize, .int t_place, .int t_depth, .int t_noon, .int t_later, .int t_walkers, .ref q_t_beat, .ref q_t_kind, .ref q_t_readSnow, .int t_readWalkers, .ref q_t_readWalker, .ref q_t_page, .ref q_t_trial, .ref q_t_book, .int t_acts, .ref q_t_kept, .ref q_t_isKept, .int t_marks, .ref q_t_markStep, .ref q_t_markTread, .long t_seed, .int t_stumbled, .ref q_t_order, .int t_lineMany, .int t_lineOrder, .int t_whoseMany, .int t_whoseFirst, .int t_restMany, .int t_restFirst, .ref q_t_gains, .ref q_t_value])), (q_t_page, .inl (cI, 17, .inl t_page)), (q_t_trial, .inl (cI, 17, .inl t_trial)), (q_t_kind, .inl (cI, 5, .inl t_kind)), (q_t_beat, .inl (cI, 5, .inl t_beat))] H := hP
  replace hD : va_D A [(q_t, .inr (8, [.int 0, .ref q_t_text, .int t_textSize, .int t_place, .int t_depth, .int t_noon, .int t_later, .int t_walkers, .ref q_t_beat, .ref q_t_kind, .ref q_t_readSnow, .int t_readWalkers, .ref q_t_readWalker, .ref q_t_page, .ref q_t_trial, .ref q_t_book, .int t_acts, .ref q_t_kept, .ref q_t_isKept, .int t_marks, .ref q_t_markStep, .ref q_t_markTread, .long t_seed, .int t_stumbled, .ref q_t_order, .int t_lineMany, .int t_lineOrder, .int t_whoseMany, .int t_whoseFirst, .int t_restMany, .int t_restFirst, .ref q_t_gains, .ref q_t_value])), (q_t_page, .inl (cI, 17, .inl t_page)), (q_t_trial, .inl (cI, 17, .inl t_trial)), (q_t_kind, .inl (cI, 5, .inl t_kind)), (q_t_beat, .inl (cI, 5, .inl t_beat))] := hD
  refine lv_iload_n hx hb dX8_judge_5 rfl (lv_at hl 1 rfl) ?_
  refine lv_i2l hx hb dX8_judge_6 rfl ?_
  refine lv_lconst (v := 1) hx hb dX8_judge_7 (by decide) ?_
  refine lv_ldc2 (v := 4) hx hb hown w_2 dX8_judge_8 ?_
  obtain ⟨r8, e10, hf⟩ := bd_ok hf
  refine kSi (As := [.long ((x1).toInt64), .long (1 : Int64), .long (4 : Int64)]) CF (va_cwS 3 hts gX8_judge_X8_in rfl rfl rfl (by decide +kernel) ⟨Nat.le_of_ble_eq_true rfl, Nat.le_of_ble_eq_true rfl⟩) PU_blind hP hD hS hA [] (fun h1 h2 h3 => PU_pre hK h1 A h2 h3) (c_X8_in l dC dI cI cZ _ ((x1).toInt64) (1 : Int64) (4 : Int64) r8 e10) rfl rfl rfl rfl hl.1 rfl (Nat.le_of_ble_eq_true rfl) dX8_judge_11 ⟨Nat.zero_le _, Nat.zero_le _⟩ (fun H locs hP hS => ?_)
  replace hP : va_P (dC, dI) vwCl [(q_t, .inr (8, [.int 0, .ref q_t_text, .int t_textSize, .int t_place, .int t_depth, .int t_noon, .int t_later, .int t_walkers, .ref q_t_beat, .ref q_t_kind, .ref q_t_readSnow, .int t_readWalkers, .ref q_t_readWalker, .ref q_t_page, .ref q_t_trial, .ref q_t_book, .int t_acts, .ref q_t_kept, .ref q_t_isKept, .int t_marks, .ref q_t_markStep, .ref q_t_markTread, .long t_seed, .int t_stumbled, .ref q_t_order, .int t_lineMany, .int t_lineOrder, .int t_whoseMany, .int t_whoseFirst, .int t_restMany, .int t_restFirst, .ref q_t_gains, .ref q_t_value])), (q_t_page, .inl (cI, 17, .inl t_page)), (q_t_trial, .inl (cI, 17, .inl t_trial)), (q_t_kind, .inl (cI, 5, .inl t_kind)), (q_t_beat, .inl (cI, 5, .inl t_beat))] H := hP
  refine lv_if_eq (tgt := 34) hx hb dX8_judge_14 (by decide) (fun hc => ?_) (fun hc => ?_)
  · replace hf := ip hc hf
    refine lv_bipush (v := (-2)) hx hb dX8_judge_34 (by decide) ?_
    obtain ⟨e0, hf⟩ := ij2 hf
    obtain ⟨e1, hf⟩ := ijc hf
    obtain ⟨e2, hf⟩ := ijc hf
    have e3 := hf
    refine W.eq (congrArg (fun z => F0 m 36 ls [.int z]) e0) ?_
    exact hret _ _ _ _ (by rw [← e1, ← e2, ← e3]; exact hP) hS dX8_judge_36
  · replace hf := iq hc hf
    refine lv_lload_n hx hb dX8_judge_17 rfl (lv_at hl 2 rfl) ?_
    refine lv_lconst (v := 0) hx hb dX8_judge_18 (by decide) ?_
    refine lv_ldc2 (v := 1000) hx hb hown w_0 dX8_judge_19 ?_
    refine lv_iload_n hx hb dX8_judge_22 rfl (lv_at hl 1 rfl) ?_
    obtain ⟨r11, e13, hf⟩ := bd_ok hf
    refine kSl (As := [.long (1000 : Int64), .int x1]) CF (va_cwS 2 hts gX8_judge_X8_longPower rfl rfl rfl (by decide +kernel) ⟨Nat.le_of_ble_eq_true rfl, Nat.le_of_ble_eq_true rfl⟩) PU_blind hP hD hS hA [] (fun h1 h2 h3 => PU_pre hK h1 A h2 h3) (c_X8_longPower l dC dI cI cZ _ (1000 : Int64) x1 r11 e13) rfl rfl rfl rfl hl.1 rfl (Nat.le_of_ble_eq_true rfl) dX8_judge_23 ⟨Nat.zero_le _, Nat.zero_le _⟩ (fun H locs hP hS => ?_)
    replace hP : va_P (dC, dI) vwCl [(q_t, .inr (8, [.int 0, .ref q_t_text, .int t_textSize, .int t_place, .int t_depth, .int t_noon, .int t_later, .int t_walkers, .ref q_t_beat, .ref q_t_kind, .ref q_t_readSnow, .int t_readWalkers, .ref q_t_readWalker, .ref q_t_page, .ref q_t_trial, .ref q_t_book, .int t_acts, .ref q_t_kept, .ref q_t_isKept, .int t_marks, .ref q_t_markStep, .ref q_t_markTread, .long t_seed, .int t_stumbled, .ref q_t_order, .int t_lineMany, .int t_lineOrder, .int t_whoseMany, .int t_whoseFirst, .int t_restMany, .int t_restFirst, .ref q_t_gains, .ref q_t_value])), (q_t_page, .inl (cI, 17, .inl t_page)), (q_t_trial, .inl (cI, 17, .inl t_trial)), (q_t_kind, .inl (cI, 5, .inl t_kind)), (q_t_beat, .inl (cI, 5, .inl t_beat))] H := hP
    refine lv_lconst (v := 1) hx hb dX8_judge_26 (by decide) ?_
    refine lv_lsub hx hb dX8_judge_27 ?_
    obtain ⟨r14, e16, hf⟩ := bd_ok hf
    refine kSi (As := [.long x2, .long (0 : Int64), .long (r11 - (1 : Int64))]) CF (va_cwS 3 hts gX8_judge_X8_in rfl rfl rfl (by decide +kernel) ⟨Nat.le_of_ble_eq_true rfl, Nat.le_of_ble_eq_true rfl⟩) PU_blind hP hD hS hA [] (fun h1 h2 h3 => PU_pre hK h1 A h2 h3) (c_X8_in l dC dI cI cZ _ x2 (0 : Int64) (r11 - (1 : Int64)) r14 e16) rfl rfl rfl rfl hl.1 rfl (Nat.le_of_ble_eq_true rfl) dX8_judge_28 ⟨Nat.zero_le _, Nat.zero_le _⟩ (fun H locs hP hS => ?_)
    replace hP : va_P (dC, dI) vwCl [(q_t, .inr (8, [.int 0, .ref q_t_text, .int t_textSize, .int t_place, .int t_depth, .int t_noon, .int t_later, .int t_walkers, .ref q_t_beat, .ref q_t_kind, .ref q_t_readSnow, .int t_readWalkers, .ref q_t_readWalker, .ref q_t_page, .ref q_t_trial, .ref q_t_book, .int t_acts, .ref q_t_kept, .ref q_t_isKept, .int t_marks, .ref q_t_markStep, .ref q_t_markTread, .long t_seed, .int t_stumbled, .ref q_t_order, .int t_lineMany, .int t_lineOrder, .int t_whoseMany, .int t_whoseFirst, .int t_restMany, .int t_restFirst, .ref q_t_gains, .ref q_t_value])), (q_t_page, .inl (cI, 17, .inl t_page)), (q_t_trial, .inl (cI, 17, .inl t_trial)), (q_t_kind, .inl (cI, 5, .inl t_kind)), (q_t_beat, .inl (cI, 5, .inl t_beat))] H := hP
    refine lv_if_ne (tgt := 37) hx hb dX8_judge_31 (by decide) (fun hc => ?_) (fun hc => ?_)
    · replace hf := iq hc hf
      refine lv_aload_n hx hb dX8_judge_37 rfl (lv_at hl 0 rfl) ?_
      obtain ⟨⟨o17, o18⟩, e20, hf⟩ := bd_ok hf
      refine kVv (As := []) CF (cwV 0 hts gX8_judge_X8_begin rfl rfl rfl (by decide +kernel) ⟨Nat.le_of_ble_eq_true rfl, Nat.le_of_ble_eq_true rfl⟩) PU_blind hP hD hS hA (va_recv hK.1 hP (ci := 8) (q0 := 0) rfl rfl) [0, 1, 2] (fun h1 h2 h3 => PU_pre hK h1 A h2 h3) (c_X8_begin l dC dI cI cZ q_t q_t_text q_t_beat q_t_kind q_t_readSnow q_t_readWalker q_t_page q_t_trial q_t_book q_t_kept q_t_isKept q_t_markStep q_t_markTread q_t_order q_t_gains q_t_value _ 0 t_textSize t_place t_depth t_noon t_later t_walkers t_readWalkers t_acts t_marks t_seed t_stumbled t_lineMany t_lineOrder t_whoseMany t_whoseFirst t_restMany t_restFirst t_page t_trial o17 o18 e20) rfl rfl rfl rfl hl.1 rfl (Nat.le_of_ble_eq_true rfl) dX8_judge_38 ⟨Nat.zero_le _, Nat.zero_le _⟩ (fun H locs hP hS => ?_)
      replace hP : va_P (dC, dI) vwCl [(q_t, .inr (8, [.int 0, .ref q_t_text, .int t_textSize, .int t_place, .int t_depth, .int t_noon, .int t_later, .int t_walkers, .ref q_t_beat, .ref q_t_kind, .ref q_t_readSnow, .int t_readWalkers, .ref q_t_readWalker, .ref q_t_page, .ref q_t_trial, .ref q_t_book, .int t_acts, .ref q_t_kept, .ref q_t_isKept, .int t_marks, .ref q_t_markStep, .ref q_t_markTread, .long t_seed, .int o17, .ref q_t_order, .int t_lineMany, .int t_lineOrder, .int t_whoseMany, .int t_whoseFirst, .int t_restMany, .int t_restFirst, .ref q_t_gains, .ref q_t_value])), (q_t_page, .inl (cI, 17, .inl t_page)), (q_t_trial, .inl (cI, 17, .inl o18)), (q_t_kind, .inl (cI, 5, .inl t_kind)), (q_t_beat, .inl (cI, 5, .inl t_beat))] H := hP
      replace hD : va_D A [(q_t, .inr (8, [.int 0, .ref q_t_text, .int t_textSize, .int t_place, .int t_depth, .int t_noon, .int t_later, .int t_walkers, .ref q_t_beat, .ref q_t_kind, .ref q_t_readSnow, .int t_readWalkers, .ref q_t_readWalker, .ref q_t_page, .ref q_t_trial, .ref q_t_book, .int t_acts, .ref q_t_kept, .ref q_t_isKept, .int t_marks, .ref q_t_markStep, .ref q_t_markTread, .long t_seed, .int o17, .ref q_t_order, .int t_lineMany, .int t_lineOrder, .int t_whoseMany, .int t_whoseFirst, .int t_restMany, .int t_restFirst, .ref q_t_gains, .ref q_t_value])), (q_t_page, .inl (cI, 17, .inl t_page)), (q_t_trial, .inl (cI, 17, .inl o18)), (q_t_kind, .inl (cI, 5, .inl t_kind)), (q_t_beat, .inl (cI, 5, .inl t_beat))] := wd hD rfl
      refine lv_iconst (v := 0) hx hb dX8_judge_41 (by decide) ?_
      refine lv_istore (lv' := [(4, .int 0), (0, .ref q_t), (1, .int x1), (2, .long x2)]) hx hb dX8_judge_42 hl (by decide) rfl (fun ls hl => ?_)
      exact h_44 x1 x2 0 o17 fuelC 0 o18 _ _ _ hP hS (lv_sub hl [1, 2, 3, 0] rfl) hf
    · replace hf := ip hc hf
      refine lv_bipush (v := (-2)) hx hb dX8_judge_34 (by decide) ?_
      obtain ⟨e0, hf⟩ := ij2 hf
      obtain ⟨e1, hf⟩ := ijc hf
      obtain ⟨e2, hf⟩ := ijc hf
      have e3 := hf
      refine W.eq (congrArg (fun z => F0 m 36 ls [.int z]) e0) ?_
      exact hret _ _ _ _ (by rw [← e1, ← e2, ← e3]; exact hP) hS dX8_judge_36
abbrev rm_X8_ways : Room := { frames := 0, cells := 0, slots := 0, locals := 0 }
set_option maxHeartbeats 4000000 in
set_option maxRecDepth 100000 in
theorem c_X8_ways (l : Launch) (dC : Nat → ClassId) (dI : Nat → Nat → Nat) (cI cZ : ClassId) (sz : Nat) (x0 : Int32) (r_ : Int32) (hf : f_X8_ways x0 = some r_) : Met l yX8_ways wsX8_ways rm_X8_ways (va_Pc [.int x0] (PU (dC, dI) cI cZ [] sz)) (va_Qi (fun (r : Int32) (_ : Unit) => r = r_) (fun _ t => va_P (dC, dI) vwCl [] t.heap) (va_A [] sz)) 0 0 (va_A [] sz) := by
  refine MetI (cc := cX8_ways) (maxL := 3) (by decide) rfl (Nat.le_of_ble_eq_true rfl) (fun _ h => h) ?_
  intro p e s m args below meth c A Q ls hx CF hK hA hD hP hS hl hB hAe hsz hret
  have hb := CF.2.1
  have hml := CF.2.2.1
  have hown := CF.2.2.2.1
  have hts := CF.2.2.2.2
  have hD0 := hD
  replace hl : lv_has ls 3 [(0, .int x0)] := hl
  have h_4 : ∀ (x0 : Int32) (fu4 : Nat) (x1 : Int32) (x2 : Int32) (H : Heap) (locs : List Loc) (ls : Array Slot), va_P (dC, dI) vwCl [] H → va_S A s.heap H locs → lv_has ls 3 [(0, .int x0), (1, .int x1), (2, .int x2)] → L_X8_ways_4 x0 fu4 x1 x2 = some r_ → W p l e rm_X8_ways s m args below meth c H locs 0 0 Q (F0 m 4 ls []) := by
    intro x0 fu4
    induction fu4 with
    | zero =>
      intro x1 x2 H locs ls hP hS hl hf
      rw [L_X8_ways_4] at hf
      cases hf
    | succ fu4 ih4 =>
      intro x1 x2 H locs ls hP hS hl hf
      have hD : va_D A [] := wd hD0 rfl
      rw [L_X8_ways_4] at hf
      refine lv_iload_n hx hb dX8_ways_4 rfl (lv_at hl 2 rfl) ?_
      refine lv_iload_n hx hb dX8_ways_5 rfl (lv_at hl 0 rfl) ?_
      refine lv_icmp_gt (tgt := 19) hx hb dX8_ways_6 (by decide) (fun hc => ?_) (fun hc => ?_)
      · replace hf := ip hc hf
        refine lv_iload_n hx hb dX8_ways_19 rfl (lv_at hl 1 rfl) ?_
        have e0 := ij1 hf
        refine W.eq (congrArg (fun z => F0 m 20 ls [.int z]) e0) ?_
        exact hret _ _ _ _ hP hS dX8_ways_20
      · replace hf := iq hc hf
        refine lv_iload_n hx hb dX8_ways_9 rfl (lv_at hl 1 rfl) ?_
        refine lv_iload_n hx hb dX8_ways_10 rfl (lv_at hl 2 rfl) ?_
        refine lv_imul hx hb dX8_ways_11 ?_
        refine lv_istore_n (lv' := [(1, .int (x1 * x2)), (0, .int x0), (2, .int x2)]) hx hb dX8_ways_12 rfl hl (by decide) rfl (fun ls hl => ?_)
        refine lv_iinc (v := (x2 + 1)) (lv' := [(2, .int (x2 + 1)), (1, .int (x1 * x2)), (0, .int x0)]) hx hb dX8_ways_13 hl (k := 2) rfl rfl (by decide) rfl (fun ls hl => ?_)
        refine lv_goto (tgt := 4) hx hb dX8_ways_16 (by decide) ?_
        exact ih4 (x1 * x2) (x2 + 1) _ _ _ hP hS (lv_sub hl [2, 1, 0] rfl) hf
  rw [f_X8_ways] at hf
  refine lv_iconst (v := 1) hx hb dX8_ways_0 (by decide) ?_
  refine lv_istore_n (lv' := [(1, .int 1), (0, .int x0)]) hx hb dX8_ways_1 rfl hl (by decide) rfl (fun ls hl => ?_)
  refine lv_iconst (v := 2) hx hb dX8_ways_2 (by decide) ?_
  refine lv_istore_n (lv' := [(2, .int 2), (1, .int 1), (0, .int x0)]) hx hb dX8_ways_3 rfl hl (by decide) rfl (fun ls hl => ?_)
  exact h_4 x0 fuelC 1 2 _ _ _ hP hS (lv_sub hl [2, 1, 0] rfl) hf
abbrev rm_X8_divisor : Room := { frames := 0, cells := 0, slots := 0, locals := 0 }
set_option maxHeartbeats 4000000 in
set_option maxRecDepth 100000 in
theorem c_X8_divisor (l : Launch) (dC : Nat → ClassId) (dI : Nat → Nat → Nat) (cI cZ : ClassId) (sz : Nat) (x0 : Int32) (x1 : Int32) (r_ : Int32) (hf : f_X8_divisor x0 x1 = some r_) : Met l yX8_divisor wsX8_divisor rm_X8_divisor (va_Pc [.int x0, .int x1] (PU (dC, dI) cI cZ [] sz)) (va_Qi (fun (r : Int32) (_ : Unit) => r = r_) (fun _ t => va_P (dC, dI) vwCl [] t.heap) (va_A [] sz)) 0 0 (va_A [] sz) := by
  refine MetI (cc := cX8_divisor) (maxL := 5) (by decide) rfl (Nat.le_of_ble_eq_true rfl) (fun _ h => h) ?_
  intro p e s m args below meth c A Q ls hx CF hK hA hD hP hS hl hB hAe hsz hret
  have hb := CF.2.1
  have hml := CF.2.2.1
  have hown := CF.2.2.2.1
  have hts := CF.2.2.2.2
  have hD0 := hD
  replace hl : lv_has ls 5 [(0, .int x0), (1, .int x1)] := hl
  have h_13 : ∀ (fu13 : Nat) (x2 : Int32) (x3 : Int32) (H : Heap) (locs : List Loc) (ls : Array Slot), va_P (dC, dI) vwCl [] H → va_S A s.heap H locs → lv_has ls 5 [(2, .int x2), (3, .int x3)] → L_X8_divisor_13 fu13 x2 x3 = some r_ → W p l e rm_X8_divisor s m args below meth c H locs 0 0 Q (F0 m 13 ls []) := by
    intro fu13
    induction fu13 with
    | zero =>
      intro x2 x3 H locs ls hP hS hl hf
      rw [L_X8_divisor_13] at hf
      cases hf
    | succ fu13 ih13 =>
      intro x2 x3 H locs ls hP hS hl hf
      have hD : va_D A [] := wd hD0 rfl
      rw [L_X8_divisor_13] at hf
      refine lv_iload_n hx hb dX8_divisor_13 rfl (lv_at hl 1 rfl) ?_
      refine lv_if_eq (tgt := 30) hx hb dX8_divisor_14 (by decide) (fun hc => ?_) (fun hc => ?_)
      · replace hf := ip hc hf
        refine lv_iload_n hx hb dX8_divisor_30 rfl (lv_at hl 0 rfl) ?_
        have e0 := ij1 hf
        refine W.eq (congrArg (fun z => F0 m 31 ls [.int z]) e0) ?_
        exact hret _ _ _ _ hP hS dX8_divisor_31
      · replace hf := iq hc hf
        refine lv_iload_n hx hb dX8_divisor_17 rfl (lv_at hl 0 rfl) ?_
        refine lv_iload_n hx hb dX8_divisor_18 rfl (lv_at hl 1 rfl) ?_
        obtain ⟨hne, hf⟩ := dv_ok hf
        refine lv_irem hx hb dX8_divisor_19 hne ?_
        refine lv_istore (lv' := [(4, .int (x2 - x2 / x3 * x3)), (2, .int x2), (3, .int x3)]) hx hb dX8_divisor_20 hl (by decide) rfl (fun ls hl => ?_)
        refine lv_iload_n hx hb dX8_divisor_22 rfl (lv_at hl 2 rfl) ?_
        refine lv_istore_n (lv' := [(2, .int x3), (4, .int (x2 - x2 / x3 * x3)), (3, .int x3)]) hx hb dX8_divisor_23 rfl hl (by decide) rfl (fun ls hl => ?_)
        refine lv_iload hx hb dX8_divisor_24 (lv_at hl 1 rfl) ?_
        refine lv_istore_n (lv' := [(3, .int (x2 - x2 / x3 * x3)), (2, .int x3), (4, .int (x2 - x2 / x3 * x3))]) hx hb dX8_divisor_26 rfl hl (by decide) rfl (fun ls hl => ?_)
        refine lv_goto (tgt := 13) hx hb dX8_divisor_27 (by decide) ?_
        exact ih13 x3 (x2 - x2 / x3 * x3) _ _ _ hP hS (lv_sub hl [1, 0] rfl) hf
  have h_10 : ∀ (x1 : Int32) (s0 : Int32) (H : Heap) (locs : List Loc) (ls : Array Slot), va_P (dC, dI) vwCl [] H → va_S A s.heap H locs → lv_has ls 5 [(1, .int x1)] → J_X8_divisor_10 x1 s0 = some r_ → W p l e rm_X8_divisor s m args below meth c H locs 0 0 Q (F0 m 10 ls [.int s0]) := by
    intro x1 s0 H locs ls hP hS hl hf
    have hD : va_D A [] := wd hD0 rfl
    rw [J_X8_divisor_10] at hf
    refine lv_istore_n (lv' := [(2, .int s0), (1, .int x1)]) hx hb dX8_divisor_10 rfl hl (by decide) rfl (fun ls hl => ?_)
    refine lv_iload_n hx hb dX8_divisor_11 rfl (lv_at hl 1 rfl) ?_
    refine lv_istore_n (lv' := [(3, .int x1), (2, .int s0), (1, .int x1)]) hx hb dX8_divisor_12 rfl hl (by decide) rfl (fun ls hl => ?_)
    exact h_13 fuelC s0 x1 _ _ _ hP hS (lv_sub hl [1, 0] rfl) hf
  rw [f_X8_divisor] at hf
  refine lv_iload_n hx hb dX8_divisor_0 rfl (lv_at hl 0 rfl) ?_
  refine lv_if_ge (tgt := 9) hx hb dX8_divisor_1 (by decide) (fun hc => ?_) (fun hc => ?_)
  · replace hf := ip hc hf
    refine lv_iload_n hx hb dX8_divisor_9 rfl (lv_at hl 0 rfl) ?_
    exact h_10 x1 x0 _ _ _ hP hS (lv_sub hl [1] rfl) hf
  · replace hf := iq hc hf
    refine lv_iload_n hx hb dX8_divisor_4 rfl (lv_at hl 0 rfl) ?_
    refine lv_ineg hx hb dX8_divisor_5 ?_
    refine lv_goto (tgt := 10) hx hb dX8_divisor_6 (by decide) ?_
    exact h_10 x1 (-x0) _ _ _ hP hS (lv_sub hl [1] rfl) hf
abbrev rm_X8_fraction : Room := { frames := 1, cells := 0, slots := 0, locals := 24 }
set_option maxHeartbeats 4000000 in
set_option maxRecDepth 100000 in
theorem c_X8_fraction (l : Launch) (dC : Nat → ClassId) (dI : Nat → Nat → Nat) (cI cZ : ClassId) (sz : Nat) (x0 : Int32) (x1 : Int32) (x2 : Int32) (r_ : Int32) (hf : f_X8_fraction x0 x1 x2 = some r_) : Met l yX8_fraction wsX8_fraction rm_X8_fraction (va_Pc [.int x0, .int x1, .int x2] (PU (dC, dI) cI cZ [] sz)) (va_Qi (fun (r : Int32) (_ : Unit) => r = r_) (fun _ t => va_P (dC, dI) vwCl [] t.heap) (va_A [] sz)) 0 0 (va_A [] sz) := by
  refine MetI (cc := cX8_fraction) (maxL := 4) (by decide) rfl (Nat.le_of_ble_eq_true rfl) (fun _ h => h) ?_
  intro p e s m args below meth c A Q ls hx CF hK hA hD hP hS hl hB hAe hsz hret
  have hb := CF.2.1
  have hml := CF.2.2.1
  have hown := CF.2.2.2.1
  have hts := CF.2.2.2.2
  have hD0 := hD
  replace hl : lv_has ls 4 [(0, .int x0), (1, .int x1), (2, .int x2)] := hl
  rw [f_X8_fraction] at hf
  refine lv_iload_n hx hb dX8_fraction_0 rfl (lv_at hl 0 rfl) ?_
  refine lv_iload_n hx hb dX8_fraction_1 rfl (lv_at hl 1 rfl) ?_
  obtain ⟨r1, e3, hf⟩ := bd_ok hf
  refine kSi (As := [.int x0, .int x1]) CF (va_cwS 2 hts gX8_fraction_X8_divisor rfl rfl rfl (by decide +kernel) ⟨Nat.le_of_ble_eq_true rfl, Nat.le_of_ble_eq_true rfl⟩) PU_blind hP hD hS hA [] (fun h1 h2 h3 => PU_pre hK h1 A h2 h3) (c_X8_divisor l dC dI cI cZ _ x0 x1 r1 e3) rfl rfl rfl rfl hl.1 rfl (Nat.le_of_ble_eq_true rfl) dX8_fraction_2 ⟨Nat.zero_le _, Nat.zero_le _⟩ (fun H locs hP hS => ?_)
  replace hP : va_P (dC, dI) vwCl [] H := hP
  refine lv_istore_n (lv' := [(3, .int r1), (0, .int x0), (1, .int x1), (2, .int x2)]) hx hb dX8_fraction_5 rfl hl (by decide) rfl (fun ls hl => ?_)
  refine lv_iload_n hx hb dX8_fraction_6 rfl (lv_at hl 3 rfl) ?_
  refine lv_if_eq (tgt := 16) hx hb dX8_fraction_7 (by decide) (fun hc => ?_) (fun hc => ?_)
  · replace hf := ip hc hf
    refine lv_iload_n hx hb dX8_fraction_16 rfl (lv_at hl 2 rfl) ?_
    refine lv_iload_n hx hb dX8_fraction_17 rfl (lv_at hl 0 rfl) ?_
    obtain ⟨hne, hf⟩ := dv_ok hf
    refine lv_idiv hx hb dX8_fraction_18 hne ?_
    have e0 := ij1 hf
    refine W.eq (congrArg (fun z => F0 m 19 ls [.int z]) e0) ?_
    exact hret _ _ _ _ hP hS dX8_fraction_19
  · replace hf := iq hc hf
    refine lv_iload_n hx hb dX8_fraction_10 rfl (lv_at hl 1 rfl) ?_
    refine lv_iload_n hx hb dX8_fraction_11 rfl (lv_at hl 0 rfl) ?_
    obtain ⟨hne, hf⟩ := dv_ok hf
    refine lv_idiv hx hb dX8_fraction_12 hne ?_
    refine lv_goto (tgt := 19) hx hb dX8_fraction_13 (by decide) ?_
    have e0 := ij1 hf
    refine W.eq (congrArg (fun z => F0 m 19 ls [.int z]) e0) ?_
    exact hret _ _ _ _ hP hS dX8_fraction_19
abbrev rm_X8_share : Room := { frames := 5, cells := 0, slots := 0, locals := 118 }
set_option maxHeartbeats 4000000 in
set_option maxRecDepth 100000 in
theorem c_X8_share (l : Launch) (dC : Nat → ClassId) (dI : Nat → Nat → Nat) (cI cZ : ClassId) (q_t q_t_text q_t_beat q_t_kind q_t_readSnow q_t_readWalker q_t_page q_t_trial q_t_book q_t_kept q_t_isKept q_t_markStep q_t_markTread q_t_order q_t_gains q_t_value : Nat) (sz : Nat) (t_thrown : Int32) (t_textSize : Int32) (t_place : Int32) (t_depth : Int32) (t_noon : Int32) (t_later : Int32) (t_walkers : Int32) (t_readWalkers : Int32) (t_acts : Int32) (t_marks : Int32) (t_seed : Int64) (t_stumbled : Int32) (t_lineMany : Int32) (t_lineOrder : Int32) (t_whoseMany : Int32) (t_whoseFirst : Int32) (t_restMany : Int32) (t_restFirst : Int32) (t_page : Nat → Int32) (t_trial : Nat → Int32) (t_kind : Nat → Int32) (t_beat : Nat → Int32) (t_value : Nat → Int32) (x1 : Int32) (x2 : Int32) (r_ : Int32) (o_t_thrown : Int32) (o_t_stumbled : Int32) (o_t_trial : Nat → Int32) (o_t_value : Nat → Int32) (hf : f_X8_share x1 x2 t_thrown t_depth t_noon t_later t_walkers t_stumbled t_page t_trial t_kind t_beat t_value = some (r_, o_t_thrown, o_t_stumbled, o_t_trial, o_t_value)) : Met l yX8_share wsX8_share rm_X8_share (va_Pc [.ref q_t, .int x1, .int x2] (PU (dC, dI) cI cZ [(q_t, .inr (8, [.int t_thrown, .ref q_t_text, .int t_textSize, .int t_place, .int t_depth, .int t_noon, .int t_later, .int t_walkers, .ref q_t_beat, .ref q_t_kind, .ref q_t_readSnow, .int t_readWalkers, .ref q_t_readWalker, .ref q_t_page, .ref q_t_trial, .ref q_t_book, .int t_acts, .ref q_t_kept, .ref q_t_isKept, .int t_marks, .ref q_t_markStep, .ref q_t_markTread, .long t_seed, .int t_stumbled, .ref q_t_order, .int t_lineMany, .int t_lineOrder, .int t_whoseMany, .int t_whoseFirst, .int t_restMany, .int t_restFirst, .ref q_t_gains, .ref q_t_value])), (q_t_page, .inl (cI, 17, .inl t_page)), (q_t_trial, .inl (cI, 17, .inl t_trial)), (q_t_kind, .inl (cI, 5, .inl t_kind)), (q_t_beat, .inl (cI, 5, .inl t_beat)), (q_t_value, .inl (cI, 32, .inl t_value))] sz)) (va_Qi (fun (r : Int32) (_ : Unit) => r = r_) (fun _ t => va_P (dC, dI) vwCl [(q_t, .inr (8, [.int o_t_thrown, .ref q_t_text, .int t_textSize, .int t_place, .int t_depth, .int t_noon, .int t_later, .int t_walkers, .ref q_t_beat, .ref q_t_kind, .ref q_t_readSnow, .int t_readWalkers, .ref q_t_readWalker, .ref q_t_page, .ref q_t_trial, .ref q_t_book, .int t_acts, .ref q_t_kept, .ref q_t_isKept, .int t_marks, .ref q_t_markStep, .ref q_t_markTread, .long t_seed, .int o_t_stumbled, .ref q_t_order, .int t_lineMany, .int t_lineOrder, .int t_whoseMany, .int t_whoseFirst, .int t_restMany, .int t_restFirst, .ref q_t_gains, .ref q_t_value])), (q_t_page, .inl (cI, 17, .inl t_page)), (q_t_trial, .inl (cI, 17, .inl o_t_trial)), (q_t_kind, .inl (cI, 5, .inl t_kind)), (q_t_beat, .inl (cI, 5, .inl t_beat)), (q_t_value, .inl (cI, 32, .inl o_t_value))] t.heap) (va_A [(q_t, .inr (8, [.int t_thrown, .ref q_t_text, .int t_textSize, .int t_place, .int t_depth, .int t_noon, .int t_later, .int t_walkers, .ref q_t_beat, .ref q_t_kind, .ref q_t_readSnow, .int t_readWalkers, .ref q_t_readWalker, .ref q_t_page, .ref q_t_trial, .ref q_t_book, .int t_acts, .ref q_t_kept, .ref q_t_isKept, .int t_marks, .ref q_t_markStep, .ref q_t_markTread, .long t_seed, .int t_stumbled, .ref q_t_order, .int t_lineMany, .int t_lineOrder, .int t_whoseMany, .int t_whoseFirst, .int t_restMany, .int t_restFirst, .ref q_t_gains, .ref q_t_value])), (q_t_page, .inl (cI, 17, .inl t_page)), (q_t_trial, .inl (cI, 17, .inl t_trial)), (q_t_kind, .inl (cI, 5, .inl t_kind)), (q_t_beat, .inl (cI, 5, .inl t_beat)), (q_t_value, .inl (cI, 32, .inl t_value))] sz)) 0 0 (va_A [(q_t, .inr (8, [.int t_thrown, .ref q_t_text, .int t_textSize, .int t_place, .int t_depth, .int t_noon, .int t_later, .int t_walkers, .ref q_t_beat, .ref q_t_kind, .ref q_t_readSnow, .int t_readWalkers, .ref q_t_readWalker, .ref q_t_page, .ref q_t_trial, .ref q_t_book, .int t_acts, .ref q_t_kept, .ref q_t_isKept, .int t_marks, .ref q_t_markStep, .ref q_t_markTread, .long t_seed, .int t_stumbled, .ref q_t_order, .int t_lineMany, .int t_lineOrder, .int t_whoseMany, .int t_whoseFirst, .int t_restMany, .int t_restFirst, .ref q_t_gains, .ref q_t_value])), (q_t_page, .inl (cI, 17, .inl t_page)), (q_t_trial, .inl (cI, 17, .inl t_trial)), (q_t_kind, .inl (cI, 5, .inl t_kind)), (q_t_beat, .inl (cI, 5, .inl t_beat)), (q_t_value, .inl (cI, 32, .inl t_value))] sz) := by
  refine MetI (cc := cX8_share) (maxL := 6) (by decide) rfl (Nat.le_of_ble_eq_true rfl) (fun _ h => h) ?_
  intro p e s m args below meth c A Q ls hx CF hK hA hD hP hS hl hB hAe hsz hret
  have hb := CF.2.1
  have hml := CF.2.2.1
  have hown := CF.2.2.2.1
  have hts := CF.2.2.2.2
  have hD0 := hD
  replace hl : lv_has ls 6 [(0, .ref q_t), (1, .int x1), (2, .int x2)] := hl
  have hinX8 : ∀ w ∈ wsX80, w ∈ wsX8_share := fun _ h => List.mem_cons_of_mem _ (List.mem_append_right _ h)
  have w_0 := hts (.fieldLink RX8 66 "PassInStepModel" "walkers" "I") (by decide +kernel)
  have w_1 := hts (.fieldLink RX8 60 "PassInStepModel" "value" "[I") (by decide +kernel)
  have w_2 := hts (.fieldLink RX8 35 "PassInStepModel" "trial" "[I") (by decide +kernel)
  have w_3 := hts (.fieldLink RX8 63 "PassInStepModel" "thrown" "I") (by decide +kernel)
  have h_87 : ∀ (x1 : Int32) (x2 : Int32) (t_thrown : Int32) (t_stumbled : Int32) (t_trial : Nat → Int32) (t_value : Nat → Int32) (fu87 : Nat) (x3 : Int32) (x4 : Int32) (H : Heap) (locs : List Loc) (ls : Array Slot), va_P (dC, dI) vwCl [(q_t, .inr (8, [.int t_thrown, .ref q_t_text, .int t_textSize, .int t_place, .int t_depth, .int t_noon, .int t_later, .int t_walkers, .ref q_t_beat, .ref q_t_kind, .ref q_t_readSnow, .int t_readWalkers, .ref q_t_readWalker, .ref q_t_page, .ref q_t_trial, .ref q_t_book, .int t_acts, .ref q_t_kept, .ref q_t_isKept, .int t_marks, .ref q_t_markStep, .ref q_t_markTread, .long t_seed, .int t_stumbled, .ref q_t_order, .int t_lineMany, .int t_lineOrder, .int t_whoseMany, .int t_whoseFirst, .int t_restMany, .int t_restFirst, .ref q_t_gains, .ref q_t_value])), (q_t_page, .inl (cI, 17, .inl t_page)), (q_t_trial, .inl (cI, 17, .inl t_trial)), (q_t_kind, .inl (cI, 5, .inl t_kind)), (q_t_beat, .inl (cI, 5, .inl t_beat)), (q_t_value, .inl (cI, 32, .inl t_value))] H → va_S A s.heap H locs → lv_has ls 6 [(0, .ref q_t), (1, .int x1), (2, .int x2), (3, .int x3), (4, .int x4)] → L_X8_share_87 x1 x2 t_thrown t_walkers t_stumbled t_trial t_value fu87 x3 x4 = some (r_, o_t_thrown, o_t_stumbled, o_t_trial, o_t_value) → W p l e rm_X8_share s m args below meth c H locs 0 0 Q (F0 m 87 ls []) := by
    intro x1 x2 t_thrown t_stumbled t_trial t_value fu87
    induction fu87 with
    | zero =>
      intro x3 x4 H locs ls hP hS hl hf
      rw [L_X8_share_87] at hf
      cases hf
    | succ fu87 ih87 =>
      have h_155 : ∀ (x3 : Int32) (x4 : Int32) (H : Heap) (locs : List Loc) (ls : Array Slot), va_P (dC, dI) vwCl [(q_t, .inr (8, [.int t_thrown, .ref q_t_text, .int t_textSize, .int t_place, .int t_depth, .int t_noon, .int t_later, .int t_walkers, .ref q_t_beat, .ref q_t_kind, .ref q_t_readSnow, .int t_readWalkers, .ref q_t_readWalker, .ref q_t_page, .ref q_t_trial, .ref q_t_book, .int t_acts, .ref q_t_kept, .ref q_t_isKept, .int t_marks, .ref q_t_markStep, .ref q_t_markTread, .long t_seed, .int t_stumbled, .ref q_t_order, .int t_lineMany, .int t_lineOrder, .int t_whoseMany, .int t_whoseFirst, .int t_restMany, .int t_restFirst, .ref q_t_gains, .ref q_t_value])), (q_t_page, .inl (cI, 17, .inl t_page)), (q_t_trial, .inl (cI, 17, .inl t_trial)), (q_t_kind, .inl (cI, 5, .inl t_kind)), (q_t_beat, .inl (cI, 5, .inl t_beat)), (q_t_value, .inl (cI, 32, .inl t_value))] H → va_S A s.heap H locs → lv_has ls 6 [(0, .ref q_t), (1, .int x1), (2, .int x2), (3, .int x3), (4, .int x4)] → J_X8_share_155 (L_X8_share_87 x1 x2 t_thrown t_walkers t_stumbled t_trial t_value fu87) x3 x4 = some (r_, o_t_thrown, o_t_stumbled, o_t_trial, o_t_value) → W p l e rm_X8_share s m args below meth c H locs 0 0 Q (F0 m 155 ls []) := by
        intro x3 x4 H locs ls hP hS hl hf
        have hD : va_D A [(q_t, .inr (8, [.int t_thrown, .ref q_t_text, .int t_textSize, .int t_place, .int t_depth, .int t_noon, .int t_later, .int t_walkers, .ref q_t_beat, .ref q_t_kind, .ref q_t_readSnow, .int t_readWalkers, .ref q_t_readWalker, .ref q_t_page, .ref q_t_trial, .ref q_t_book, .int t_acts, .ref q_t_kept, .ref q_t_isKept, .int t_marks, .ref q_t_markStep, .ref q_t_markTread, .long t_seed, .int t_stumbled, .ref q_t_order, .int t_lineMany, .int t_lineOrder, .int t_whoseMany, .int t_whoseFirst, .int t_restMany, .int t_restFirst, .ref q_t_gains, .ref q_t_value])), (q_t_page, .inl (cI, 17, .inl t_page)), (q_t_trial, .inl (cI, 17, .inl t_trial)), (q_t_kind, .inl (cI, 5, .inl t_kind)), (q_t_beat, .inl (cI, 5, .inl t_beat)), (q_t_value, .inl (cI, 32, .inl t_value))] := wd hD0 rfl
        rw [J_X8_share_155] at hf
        refine lv_iinc (v := (x4 + 1)) (lv' := [(4, .int (x4 + 1)), (0, .ref q_t), (1, .int x1), (2, .int x2), (3, .int x3)]) hx hb dX8_share_155 hl (k := 4) rfl rfl (by decide) rfl (fun ls hl => ?_)
        refine lv_goto (tgt := 87) hx hb dX8_share_158 (by decide) ?_
        exact ih87 x3 (x4 + 1) _ _ _ hP hS (lv_sub hl [1, 2, 3, 4, 0] rfl) hf
      intro x3 x4 H locs ls hP hS hl hf
      have hD : va_D A [(q_t, .inr (8, [.int t_thrown, .ref q_t_text, .int t_textSize, .int t_place, .int t_depth, .int t_noon, .int t_later, .int t_walkers, .ref q_t_beat, .ref q_t_kind, .ref q_t_readSnow, .int t_readWalkers, .ref q_t_readWalker, .ref q_t_page, .ref q_t_trial, .ref q_t_book, .int t_acts, .ref q_t_kept, .ref q_t_isKept, .int t_marks, .ref q_t_markStep, .ref q_t_markTread, .long t_seed, .int t_stumbled, .ref q_t_order, .int t_lineMany, .int t_lineOrder, .int t_whoseMany, .int t_whoseFirst, .int t_restMany, .int t_restFirst, .ref q_t_gains, .ref q_t_value])), (q_t_page, .inl (cI, 17, .inl t_page)), (q_t_trial, .inl (cI, 17, .inl t_trial)), (q_t_kind, .inl (cI, 5, .inl t_kind)), (q_t_beat, .inl (cI, 5, .inl t_beat)), (q_t_value, .inl (cI, 32, .inl t_value))] := wd hD0 rfl
      rw [L_X8_share_87] at hf
      refine lv_iload hx hb dX8_share_87 (lv_at hl 4 rfl) ?_
      refine lv_iconst (v := 1) hx hb dX8_share_89 (by decide) ?_
      refine lv_aload_n hx hb dX8_share_90 rfl (lv_at hl 0 rfl) ?_
      refine va_get (D := (dC, dI)) (ci := 8) (v := .int t_walkers) (C := RX8) (T := TX8) (N := 33) hx hb hts hinX8 hown hK.1 hP 0 rfl rfl 7 (by decide) w_0 (fun _ h9 => h9) rfl dX8_share_91 ?_
      refine lv_ishl hx hb dX8_share_94 ?_
      refine lv_icmp_ge (tgt := 161) hx hb dX8_share_95 (by decide) (fun hc => ?_) (fun hc => ?_)
      · replace hf := ip hc hf
        refine lv_iload_n hx hb dX8_share_161 rfl (lv_at hl 3 rfl) ?_
        refine lv_aload_n hx hb dX8_share_162 rfl (lv_at hl 0 rfl) ?_
        refine va_get (D := (dC, dI)) (ci := 8) (v := .int t_walkers) (C := RX8) (T := TX8) (N := 33) hx hb hts hinX8 hown hK.1 hP 0 rfl rfl 7 (by decide) w_0 (fun _ h9 => h9) rfl dX8_share_163 ?_
        obtain ⟨r1, e3, hf⟩ := bd_ok hf
        refine kSi (As := [.int t_walkers]) CF (va_cwS 1 hts gX8_share_X8_ways rfl rfl rfl (by decide +kernel) ⟨Nat.le_of_ble_eq_true rfl, Nat.le_of_ble_eq_true rfl⟩) PU_blind hP hD hS hA [] (fun h1 h2 h3 => PU_pre hK h1 A h2 h3) (c_X8_ways l dC dI cI cZ _ t_walkers r1 e3) rfl rfl rfl rfl hl.1 rfl (Nat.le_of_ble_eq_true rfl) dX8_share_166 ⟨Nat.zero_le _, Nat.zero_le _⟩ (fun H locs hP hS => ?_)
        replace hP : va_P (dC, dI) vwCl [(q_t, .inr (8, [.int t_thrown, .ref q_t_text, .int t_textSize, .int t_place, .int t_depth, .int t_noon, .int t_later, .int t_walkers, .ref q_t_beat, .ref q_t_kind, .ref q_t_readSnow, .int t_readWalkers, .ref q_t_readWalker, .ref q_t_page, .ref q_t_trial, .ref q_t_book, .int t_acts, .ref q_t_kept, .ref q_t_isKept, .int t_marks, .ref q_t_markStep, .ref q_t_markTread, .long t_seed, .int t_stumbled, .ref q_t_order, .int t_lineMany, .int t_lineOrder, .int t_whoseMany, .int t_whoseFirst, .int t_restMany, .int t_restFirst, .ref q_t_gains, .ref q_t_value])), (q_t_page, .inl (cI, 17, .inl t_page)), (q_t_trial, .inl (cI, 17, .inl t_trial)), (q_t_kind, .inl (cI, 5, .inl t_kind)), (q_t_beat, .inl (cI, 5, .inl t_beat)), (q_t_value, .inl (cI, 32, .inl t_value))] H := hP
        refine lv_iload_n hx hb dX8_share_169 rfl (lv_at hl 2 rfl) ?_
        obtain ⟨r4, e6, hf⟩ := bd_ok hf
        refine kSi (As := [.int x3, .int r1, .int x2]) CF (va_cwS 3 hts gX8_share_X8_fraction rfl rfl rfl (by decide +kernel) ⟨Nat.le_of_ble_eq_true rfl, Nat.le_of_ble_eq_true rfl⟩) PU_blind hP hD hS hA [] (fun h1 h2 h3 => PU_pre hK h1 A h2 h3) (c_X8_fraction l dC dI cI cZ _ x3 r1 x2 r4 e6) rfl rfl rfl rfl hl.1 rfl (Nat.le_of_ble_eq_true rfl) dX8_share_170 ⟨Nat.zero_le _, Nat.zero_le _⟩ (fun H locs hP hS => ?_)
        replace hP : va_P (dC, dI) vwCl [(q_t, .inr (8, [.int t_thrown, .ref q_t_text, .int t_textSize, .int t_place, .int t_depth, .int t_noon, .int t_later, .int t_walkers, .ref q_t_beat, .ref q_t_kind, .ref q_t_readSnow, .int t_readWalkers, .ref q_t_readWalker, .ref q_t_page, .ref q_t_trial, .ref q_t_book, .int t_acts, .ref q_t_kept, .ref q_t_isKept, .int t_marks, .ref q_t_markStep, .ref q_t_markTread, .long t_seed, .int t_stumbled, .ref q_t_order, .int t_lineMany, .int t_lineOrder, .int t_whoseMany, .int t_whoseFirst, .int t_restMany, .int t_restFirst, .ref q_t_gains, .ref q_t_value])), (q_t_page, .inl (cI, 17, .inl t_page)), (q_t_trial, .inl (cI, 17, .inl t_trial)), (q_t_kind, .inl (cI, 5, .inl t_kind)), (q_t_beat, .inl (cI, 5, .inl t_beat)), (q_t_value, .inl (cI, 32, .inl t_value))] H := hP
        obtain ⟨e0, hf⟩ := ij2 hf
        obtain ⟨e1, hf⟩ := ijc hf
        obtain ⟨e2, hf⟩ := ijc hf
        obtain ⟨e3, hf⟩ := ijc hf
        have e4 := hf
        refine W.eq (congrArg (fun z => F0 m 173 ls [.int z]) e0) ?_
        exact hret _ _ _ _ (by rw [← e1, ← e2, ← e3, ← e4]; exact hP) hS dX8_share_173
      · replace hf := iq hc hf
        refine lv_iload hx hb dX8_share_98 (lv_at hl 4 rfl) ?_
        refine lv_iload_n hx hb dX8_share_100 rfl (lv_at hl 1 rfl) ?_
        obtain ⟨r7, e9, hf⟩ := bd_ok hf
        refine kSi (As := [.int x4, .int x1]) CF (va_cwS 2 hts gX8_share_X8_has rfl rfl rfl (by decide +kernel) ⟨Nat.le_of_ble_eq_true rfl, Nat.le_of_ble_eq_true rfl⟩) PU_blind hP hD hS hA [] (fun h1 h2 h3 => PU_pre hK h1 A h2 h3) (c_X8_has l dC dI cI cZ _ x4 x1 r7 e9) rfl rfl rfl rfl hl.1 rfl (Nat.le_of_ble_eq_true rfl) dX8_share_101 ⟨Nat.zero_le _, Nat.zero_le _⟩ (fun H locs hP hS => ?_)
        replace hP : va_P (dC, dI) vwCl [(q_t, .inr (8, [.int t_thrown, .ref q_t_text, .int t_textSize, .int t_place, .int t_depth, .int t_noon, .int t_later, .int t_walkers, .ref q_t_beat, .ref q_t_kind, .ref q_t_readSnow, .int t_readWalkers, .ref q_t_readWalker, .ref q_t_page, .ref q_t_trial, .ref q_t_book, .int t_acts, .ref q_t_kept, .ref q_t_isKept, .int t_marks, .ref q_t_markStep, .ref q_t_markTread, .long t_seed, .int t_stumbled, .ref q_t_order, .int t_lineMany, .int t_lineOrder, .int t_whoseMany, .int t_whoseFirst, .int t_restMany, .int t_restFirst, .ref q_t_gains, .ref q_t_value])), (q_t_page, .inl (cI, 17, .inl t_page)), (q_t_trial, .inl (cI, 17, .inl t_trial)), (q_t_kind, .inl (cI, 5, .inl t_kind)), (q_t_beat, .inl (cI, 5, .inl t_beat)), (q_t_value, .inl (cI, 32, .inl t_value))] H := hP
        refine lv_if_ne (tgt := 155) hx hb dX8_share_104 (by decide) (fun hc => ?_) (fun hc => ?_)
        · replace hf := iq hc hf
          exact h_155 x3 x4 _ _ _ hP hS (lv_sub hl [0, 1, 2, 3, 4] rfl) hf
        · replace hf := ip hc hf
          refine lv_iload hx hb dX8_share_107 (lv_at hl 4 rfl) ?_
          obtain ⟨r10, e12, hf⟩ := bd_ok hf
          refine kSi (As := [.int x4]) CF (va_cwS 1 hts gX8_share_X8_many rfl rfl rfl (by decide +kernel) ⟨Nat.le_of_ble_eq_true rfl, Nat.le_of_ble_eq_true rfl⟩) PU_blind hP hD hS hA [] (fun h1 h2 h3 => PU_pre hK h1 A h2 h3) (c_X8_many l dC dI cI cZ _ x4 r10 e12) rfl rfl rfl rfl hl.1 rfl (Nat.le_of_ble_eq_true rfl) dX8_share_109 ⟨Nat.zero_le _, Nat.zero_le _⟩ (fun H locs hP hS => ?_)
          replace hP : va_P (dC, dI) vwCl [(q_t, .inr (8, [.int t_thrown, .ref q_t_text, .int t_textSize, .int t_place, .int t_depth, .int t_noon, .int t_later, .int t_walkers, .ref q_t_beat, .ref q_t_kind, .ref q_t_readSnow, .int t_readWalkers, .ref q_t_readWalker, .ref q_t_page, .ref q_t_trial, .ref q_t_book, .int t_acts, .ref q_t_kept, .ref q_t_isKept, .int t_marks, .ref q_t_markStep, .ref q_t_markTread, .long t_seed, .int t_stumbled, .ref q_t_order, .int t_lineMany, .int t_lineOrder, .int t_whoseMany, .int t_whoseFirst, .int t_restMany, .int t_restFirst, .ref q_t_gains, .ref q_t_value])), (q_t_page, .inl (cI, 17, .inl t_page)), (q_t_trial, .inl (cI, 17, .inl t_trial)), (q_t_kind, .inl (cI, 5, .inl t_kind)), (q_t_beat, .inl (cI, 5, .inl t_beat)), (q_t_value, .inl (cI, 32, .inl t_value))] H := hP
          refine lv_istore (lv' := [(5, .int r10), (0, .ref q_t), (1, .int x1), (2, .int x2), (3, .int x3), (4, .int x4)]) hx hb dX8_share_112 hl (by decide) rfl (fun ls hl => ?_)
          refine lv_iload_n hx hb dX8_share_114 rfl (lv_at hl 4 rfl) ?_
          refine lv_iload hx hb dX8_share_115 (lv_at hl 0 rfl) ?_
          obtain ⟨r13, e15, hf⟩ := bd_ok hf
          refine kSi (As := [.int r10]) CF (va_cwS 1 hts gX8_share_X8_ways rfl rfl rfl (by decide +kernel) ⟨Nat.le_of_ble_eq_true rfl, Nat.le_of_ble_eq_true rfl⟩) PU_blind hP hD hS hA [] (fun h1 h2 h3 => PU_pre hK h1 A h2 h3) (c_X8_ways l dC dI cI cZ _ r10 r13 e15) rfl rfl rfl rfl hl.1 rfl (Nat.le_of_ble_eq_true rfl) dX8_share_117 ⟨Nat.zero_le _, Nat.zero_le _⟩ (fun H locs hP hS => ?_)
          replace hP : va_P (dC, dI) vwCl [(q_t, .inr (8, [.int t_thrown, .ref q_t_text, .int t_textSize, .int t_place, .int t_depth, .int t_noon, .int t_later, .int t_walkers, .ref q_t_beat, .ref q_t_kind, .ref q_t_readSnow, .int t_readWalkers, .ref q_t_readWalker, .ref q_t_page, .ref q_t_trial, .ref q_t_book, .int t_acts, .ref q_t_kept, .ref q_t_isKept, .int t_marks, .ref q_t_markStep, .ref q_t_markTread, .long t_seed, .int t_stumbled, .ref q_t_order, .int t_lineMany, .int t_lineOrder, .int t_whoseMany, .int t_whoseFirst, .int t_restMany, .int t_restFirst, .ref q_t_gains, .ref q_t_value])), (q_t_page, .inl (cI, 17, .inl t_page)), (q_t_trial, .inl (cI, 17, .inl t_trial)), (q_t_kind, .inl (cI, 5, .inl t_kind)), (q_t_beat, .inl (cI, 5, .inl t_beat)), (q_t_value, .inl (cI, 32, .inl t_value))] H := hP
          refine lv_aload_n hx hb dX8_share_120 rfl (lv_at hl 1 rfl) ?_
          refine va_get (D := (dC, dI)) (ci := 8) (v := .int t_walkers) (C := RX8) (T := TX8) (N := 33) hx hb hts hinX8 hown hK.1 hP 0 rfl rfl 7 (by decide) w_0 (fun _ h9 => h9) rfl dX8_share_121 ?_
          refine lv_iconst (v := 1) hx hb dX8_share_124 (by decide) ?_
          refine lv_isub hx hb dX8_share_125 ?_
          refine lv_iload hx hb dX8_share_126 (lv_at hl 0 rfl) ?_
          refine lv_isub hx hb dX8_share_128 ?_
          obtain ⟨r16, e18, hf⟩ := bd_ok hf
          refine kSi (As := [.int ((t_walkers - 1) - r10)]) CF (va_cwS 1 hts gX8_share_X8_ways rfl rfl rfl (by decide +kernel) ⟨Nat.le_of_ble_eq_true rfl, Nat.le_of_ble_eq_true rfl⟩) PU_blind hP hD hS hA [] (fun h1 h2 h3 => PU_pre hK h1 A h2 h3) (c_X8_ways l dC dI cI cZ _ ((t_walkers - 1) - r10) r16 e18) rfl rfl rfl rfl hl.1 rfl (Nat.le_of_ble_eq_true rfl) dX8_share_129 ⟨Nat.zero_le _, Nat.zero_le _⟩ (fun H locs hP hS => ?_)
          replace hP : va_P (dC, dI) vwCl [(q_t, .inr (8, [.int t_thrown, .ref q_t_text, .int t_textSize, .int t_place, .int t_depth, .int t_noon, .int t_later, .int t_walkers, .ref q_t_beat, .ref q_t_kind, .ref q_t_readSnow, .int t_readWalkers, .ref q_t_readWalker, .ref q_t_page, .ref q_t_trial, .ref q_t_book, .int t_acts, .ref q_t_kept, .ref q_t_isKept, .int t_marks, .ref q_t_markStep, .ref q_t_markTread, .long t_seed, .int t_stumbled, .ref q_t_order, .int t_lineMany, .int t_lineOrder, .int t_whoseMany, .int t_whoseFirst, .int t_restMany, .int t_restFirst, .ref q_t_gains, .ref q_t_value])), (q_t_page, .inl (cI, 17, .inl t_page)), (q_t_trial, .inl (cI, 17, .inl t_trial)), (q_t_kind, .inl (cI, 5, .inl t_kind)), (q_t_beat, .inl (cI, 5, .inl t_beat)), (q_t_value, .inl (cI, 32, .inl t_value))] H := hP
          refine lv_imul hx hb dX8_share_132 ?_
          refine lv_aload_n hx hb dX8_share_133 rfl (lv_at hl 1 rfl) ?_
          refine va_get (D := (dC, dI)) (ci := 8) (v := .ref q_t_value) (C := RX8) (T := TX8) (N := 33) hx hb hts hinX8 hown hK.1 hP 0 rfl rfl 32 (by decide) w_1 (fun _ h9 => h9) rfl dX8_share_134 ?_
          refine lv_iload hx hb dX8_share_137 (lv_at hl 5 rfl) ?_
          refine lv_iconst (v := 1) hx hb dX8_share_139 (by decide) ?_
          refine lv_iload_n hx hb dX8_share_140 rfl (lv_at hl 2 rfl) ?_
          refine lv_ishl hx hb dX8_share_141 ?_
          refine lv_ior hx hb dX8_share_142 ?_
          refine kald hx hb hK.1 hP 5 0 rfl rfl dX8_share_143 hf (fun v19 hf => ?_)
          refine lv_aload_n hx hb dX8_share_144 rfl (lv_at hl 1 rfl) ?_
          refine va_get (D := (dC, dI)) (ci := 8) (v := .ref q_t_value) (C := RX8) (T := TX8) (N := 33) hx hb hts hinX8 hown hK.1 hP 0 rfl rfl 32 (by decide) w_1 (fun _ h9 => h9) rfl dX8_share_145 ?_
          refine lv_iload hx hb dX8_share_148 (lv_at hl 5 rfl) ?_
          refine kald hx hb hK.1 hP 5 0 rfl rfl dX8_share_150 hf (fun v20 hf => ?_)
          refine lv_isub hx hb dX8_share_151 ?_
          refine lv_imul hx hb dX8_share_152 ?_
          refine lv_iadd hx hb dX8_share_153 ?_
          refine lv_istore_n (lv' := [(3, .int (x3 + ((r13 * r16) * (v19 - v20)))), (5, .int r10), (0, .ref q_t), (1, .int x1), (2, .int x2), (4, .int x4)]) hx hb dX8_share_154 rfl hl (by decide) rfl (fun ls hl => ?_)
          exact h_155 (x3 + ((r13 * r16) * (v19 - v20))) x4 _ _ _ hP hS (lv_sub hl [2, 3, 4, 0, 5] rfl) hf
  have h_17 : ∀ (x1 : Int32) (x2 : Int32) (t_thrown : Int32) (fu17 : Nat) (x3 : Int32) (t_stumbled : Int32) (t_trial : Nat → Int32) (t_value : Nat → Int32) (H : Heap) (locs : List Loc) (ls : Array Slot), va_P (dC, dI) vwCl [(q_t, .inr (8, [.int t_thrown, .ref q_t_text, .int t_textSize, .int t_place, .int t_depth, .int t_noon, .int t_later, .int t_walkers, .ref q_t_beat, .ref q_t_kind, .ref q_t_readSnow, .int t_readWalkers, .ref q_t_readWalker, .ref q_t_page, .ref q_t_trial, .ref q_t_book, .int t_acts, .ref q_t_kept, .ref q_t_isKept, .int t_marks, .ref q_t_markStep, .ref q_t_markTread, .long t_seed, .int t_stumbled, .ref q_t_order, .int t_lineMany, .int t_lineOrder, .int t_whoseMany, .int t_whoseFirst, .int t_restMany, .int t_restFirst, .ref q_t_gains, .ref q_t_value])), (q_t_page, .inl (cI, 17, .inl t_page)), (q_t_trial, .inl (cI, 17, .inl t_trial)), (q_t_kind, .inl (cI, 5, .inl t_kind)), (q_t_beat, .inl (cI, 5, .inl t_beat)), (q_t_value, .inl (cI, 32, .inl t_value))] H → va_S A s.heap H locs → lv_has ls 6 [(0, .ref q_t), (1, .int x1), (2, .int x2), (3, .int x3)] → L_X8_share_17 x1 x2 t_thrown t_depth t_noon t_later t_walkers t_page t_kind t_beat fu17 x3 t_stumbled t_trial t_value = some (r_, o_t_thrown, o_t_stumbled, o_t_trial, o_t_value) → W p l e rm_X8_share s m args below meth c H locs 0 0 Q (F0 m 17 ls []) := by
    intro x1 x2 t_thrown fu17
    induction fu17 with
    | zero =>
      intro x3 t_stumbled t_trial t_value H locs ls hP hS hl hf
      rw [L_X8_share_17] at hf
      cases hf
    | succ fu17 ih17 =>
      intro x3 t_stumbled t_trial t_value H locs ls hP hS hl hf
      have hD : va_D A [(q_t, .inr (8, [.int t_thrown, .ref q_t_text, .int t_textSize, .int t_place, .int t_depth, .int t_noon, .int t_later, .int t_walkers, .ref q_t_beat, .ref q_t_kind, .ref q_t_readSnow, .int t_readWalkers, .ref q_t_readWalker, .ref q_t_page, .ref q_t_trial, .ref q_t_book, .int t_acts, .ref q_t_kept, .ref q_t_isKept, .int t_marks, .ref q_t_markStep, .ref q_t_markTread, .long t_seed, .int t_stumbled, .ref q_t_order, .int t_lineMany, .int t_lineOrder, .int t_whoseMany, .int t_whoseFirst, .int t_restMany, .int t_restFirst, .ref q_t_gains, .ref q_t_value])), (q_t_page, .inl (cI, 17, .inl t_page)), (q_t_trial, .inl (cI, 17, .inl t_trial)), (q_t_kind, .inl (cI, 5, .inl t_kind)), (q_t_beat, .inl (cI, 5, .inl t_beat)), (q_t_value, .inl (cI, 32, .inl t_value))] := wd hD0 rfl
      rw [L_X8_share_17] at hf
      refine lv_iload_n hx hb dX8_share_17 rfl (lv_at hl 3 rfl) ?_
      refine lv_iconst (v := 1) hx hb dX8_share_18 (by decide) ?_
      refine lv_aload_n hx hb dX8_share_19 rfl (lv_at hl 0 rfl) ?_
      refine va_get (D := (dC, dI)) (ci := 8) (v := .int t_walkers) (C := RX8) (T := TX8) (N := 33) hx hb hts hinX8 hown hK.1 hP 0 rfl rfl 7 (by decide) w_0 (fun _ h9 => h9) rfl dX8_share_20 ?_
      refine lv_ishl hx hb dX8_share_23 ?_
      refine lv_icmp_ge (tgt := 82) hx hb dX8_share_24 (by decide) (fun hc => ?_) (fun hc => ?_)
      · replace hf := ip hc hf
        refine lv_iconst (v := 0) hx hb dX8_share_82 (by decide) ?_
        refine lv_istore_n (lv' := [(3, .int 0), (0, .ref q_t), (1, .int x1), (2, .int x2)]) hx hb dX8_share_83 rfl hl (by decide) rfl (fun ls hl => ?_)
        refine lv_iconst (v := 0) hx hb dX8_share_84 (by decide) ?_
        refine lv_istore (lv' := [(4, .int 0), (3, .int 0), (0, .ref q_t), (1, .int x1), (2, .int x2)]) hx hb dX8_share_85 hl (by decide) rfl (fun ls hl => ?_)
        exact h_87 x1 x2 t_thrown t_stumbled t_trial t_value fuelC 0 0 _ _ _ hP hS (lv_sub hl [2, 3, 4, 1, 0] rfl) hf
      · replace hf := iq hc hf
        refine lv_aload_n hx hb dX8_share_27 rfl (lv_at hl 0 rfl) ?_
        obtain ⟨⟨o21, o22⟩, e24, hf⟩ := bd_ok hf
        refine kVv (As := []) CF (cwV 0 hts gX8_share_X8_begin rfl rfl rfl (by decide +kernel) ⟨Nat.le_of_ble_eq_true rfl, Nat.le_of_ble_eq_true rfl⟩) PU_blind hP hD hS hA (va_recv hK.1 hP (ci := 8) (q0 := 0) rfl rfl) [0, 1, 2] (fun h1 h2 h3 => PU_pre hK h1 A h2 h3) (c_X8_begin l dC dI cI cZ q_t q_t_text q_t_beat q_t_kind q_t_readSnow q_t_readWalker q_t_page q_t_trial q_t_book q_t_kept q_t_isKept q_t_markStep q_t_markTread q_t_order q_t_gains q_t_value _ t_thrown t_textSize t_place t_depth t_noon t_later t_walkers t_readWalkers t_acts t_marks t_seed t_stumbled t_lineMany t_lineOrder t_whoseMany t_whoseFirst t_restMany t_restFirst t_page t_trial o21 o22 e24) rfl rfl rfl rfl hl.1 rfl (Nat.le_of_ble_eq_true rfl) dX8_share_28 ⟨Nat.zero_le _, Nat.zero_le _⟩ (fun H locs hP hS => ?_)
        replace hP : va_P (dC, dI) vwCl [(q_t, .inr (8, [.int t_thrown, .ref q_t_text, .int t_textSize, .int t_place, .int t_depth, .int t_noon, .int t_later, .int t_walkers, .ref q_t_beat, .ref q_t_kind, .ref q_t_readSnow, .int t_readWalkers, .ref q_t_readWalker, .ref q_t_page, .ref q_t_trial, .ref q_t_book, .int t_acts, .ref q_t_kept, .ref q_t_isKept, .int t_marks, .ref q_t_markStep, .ref q_t_markTread, .long t_seed, .int o21, .ref q_t_order, .int t_lineMany, .int t_lineOrder, .int t_whoseMany, .int t_whoseFirst, .int t_restMany, .int t_restFirst, .ref q_t_gains, .ref q_t_value])), (q_t_page, .inl (cI, 17, .inl t_page)), (q_t_trial, .inl (cI, 17, .inl o22)), (q_t_kind, .inl (cI, 5, .inl t_kind)), (q_t_beat, .inl (cI, 5, .inl t_beat)), (q_t_value, .inl (cI, 32, .inl t_value))] H := hP
        replace hD : va_D A [(q_t, .inr (8, [.int t_thrown, .ref q_t_text, .int t_textSize, .int t_place, .int t_depth, .int t_noon, .int t_later, .int t_walkers, .ref q_t_beat, .ref q_t_kind, .ref q_t_readSnow, .int t_readWalkers, .ref q_t_readWalker, .ref q_t_page, .ref q_t_trial, .ref q_t_book, .int t_acts, .ref q_t_kept, .ref q_t_isKept, .int t_marks, .ref q_t_markStep, .ref q_t_markTread, .long t_seed, .int o21, .ref q_t_order, .int t_lineMany, .int t_lineOrder, .int t_whoseMany, .int t_whoseFirst, .int t_restMany, .int t_restFirst, .ref q_t_gains, .ref q_t_value])), (q_t_page, .inl (cI, 17, .inl t_page)), (q_t_trial, .inl (cI, 17, .inl o22)), (q_t_kind, .inl (cI, 5, .inl t_kind)), (q_t_beat, .inl (cI, 5, .inl t_beat)), (q_t_value, .inl (cI, 32, .inl t_value))] := wd hD rfl
        refine lv_aload_n hx hb dX8_share_31 rfl (lv_at hl 0 rfl) ?_
        refine va_get (D := (dC, dI)) (ci := 8) (v := .ref q_t_trial) (C := RX8) (T := TX8) (N := 33) hx hb hts hinX8 hown hK.1 hP 0 rfl rfl 14 (by decide) w_2 (fun _ h9 => h9) rfl dX8_share_32 ?_
        refine lv_bipush (v := 15) hx hb dX8_share_35 (by decide) ?_
        refine lv_dup2_11 hx hb dX8_share_37 rfl rfl ?_
        refine kald hx hb hK.1 hP 2 0 rfl rfl dX8_share_38 hf (fun v25 hf => ?_)
        refine lv_iconst (v := 1) hx hb dX8_share_39 (by decide) ?_
        refine lv_aload_n hx hb dX8_share_40 rfl (lv_at hl 0 rfl) ?_
        refine va_get (D := (dC, dI)) (ci := 8) (v := .int t_walkers) (C := RX8) (T := TX8) (N := 33) hx hb hts hinX8 hown hK.1 hP 0 rfl rfl 7 (by decide) w_0 (fun _ h9 => h9) rfl dX8_share_41 ?_
        refine lv_ishl hx hb dX8_share_44 ?_
        refine lv_iconst (v := 1) hx hb dX8_share_45 (by decide) ?_
        refine lv_isub hx hb dX8_share_46 ?_
        refine lv_iload_n hx hb dX8_share_47 rfl (lv_at hl 3 rfl) ?_
        refine lv_iconst (v := (-1)) hx hb dX8_share_48 (by decide) ?_
        refine lv_ixor hx hb dX8_share_49 ?_
        refine lv_iand hx hb dX8_share_50 ?_
        refine lv_ior hx hb dX8_share_51 ?_
        refine kast hx hb hK.1 hP hD hS 2 0 rfl rfl dX8_share_52 hf (fun w26 H locs hP hD hS hf => ?_)
        replace hP : va_P (dC, dI) vwCl [(q_t, .inr (8, [.int t_thrown, .ref q_t_text, .int t_textSize, .int t_place, .int t_depth, .int t_noon, .int t_later, .int t_walkers, .ref q_t_beat, .ref q_t_kind, .ref q_t_readSnow, .int t_readWalkers, .ref q_t_readWalker, .ref q_t_page, .ref q_t_trial, .ref q_t_book, .int t_acts, .ref q_t_kept, .ref q_t_isKept, .int t_marks, .ref q_t_markStep, .ref q_t_markTread, .long t_seed, .int o21, .ref q_t_order, .int t_lineMany, .int t_lineOrder, .int t_whoseMany, .int t_whoseFirst, .int t_restMany, .int t_restFirst, .ref q_t_gains, .ref q_t_value])), (q_t_page, .inl (cI, 17, .inl t_page)), (q_t_trial, .inl (cI, 17, .inl w26)), (q_t_kind, .inl (cI, 5, .inl t_kind)), (q_t_beat, .inl (cI, 5, .inl t_beat)), (q_t_value, .inl (cI, 32, .inl t_value))] H := hP
        replace hD : va_D A [(q_t, .inr (8, [.int t_thrown, .ref q_t_text, .int t_textSize, .int t_place, .int t_depth, .int t_noon, .int t_later, .int t_walkers, .ref q_t_beat, .ref q_t_kind, .ref q_t_readSnow, .int t_readWalkers, .ref q_t_readWalker, .ref q_t_page, .ref q_t_trial, .ref q_t_book, .int t_acts, .ref q_t_kept, .ref q_t_isKept, .int t_marks, .ref q_t_markStep, .ref q_t_markTread, .long t_seed, .int o21, .ref q_t_order, .int t_lineMany, .int t_lineOrder, .int t_whoseMany, .int t_whoseFirst, .int t_restMany, .int t_restFirst, .ref q_t_gains, .ref q_t_value])), (q_t_page, .inl (cI, 17, .inl t_page)), (q_t_trial, .inl (cI, 17, .inl w26)), (q_t_kind, .inl (cI, 5, .inl t_kind)), (q_t_beat, .inl (cI, 5, .inl t_beat)), (q_t_value, .inl (cI, 32, .inl t_value))] := hD
        refine lv_aload_n hx hb dX8_share_53 rfl (lv_at hl 0 rfl) ?_
        refine lv_bipush (v := 6) hx hb dX8_share_54 (by decide) ?_
        obtain ⟨o27, e29, hf⟩ := bd_ok hf
        refine kVv (As := [.int 6]) CF (cwV 1 hts gX8_share_X8_goSteps rfl rfl rfl (by decide +kernel) ⟨Nat.le_of_ble_eq_true rfl, Nat.le_of_ble_eq_true rfl⟩) PU_blind hP hD hS hA (va_recv hK.1 hP (ci := 8) (q0 := 0) rfl rfl) [0, 2, 3, 4] (fun h1 h2 h3 => PU_pre hK h1 A h2 h3) (c_X8_goSteps l dC dI cI cZ q_t q_t_text q_t_beat q_t_kind q_t_readSnow q_t_readWalker q_t_page q_t_trial q_t_book q_t_kept q_t_isKept q_t_markStep q_t_markTread q_t_order q_t_gains q_t_value _ t_thrown t_textSize t_place t_depth t_noon t_later t_walkers t_readWalkers t_acts t_marks t_seed o21 t_lineMany t_lineOrder t_whoseMany t_whoseFirst t_restMany t_restFirst w26 t_kind t_beat 6 o27 e29) rfl rfl rfl rfl hl.1 rfl (Nat.le_of_ble_eq_true rfl) dX8_share_56 ⟨Nat.zero_le _, Nat.zero_le _⟩ (fun H locs hP hS => ?_)
        replace hP : va_P (dC, dI) vwCl [(q_t, .inr (8, [.int t_thrown, .ref q_t_text, .int t_textSize, .int t_place, .int t_depth, .int t_noon, .int t_later, .int t_walkers, .ref q_t_beat, .ref q_t_kind, .ref q_t_readSnow, .int t_readWalkers, .ref q_t_readWalker, .ref q_t_page, .ref q_t_trial, .ref q_t_book, .int t_acts, .ref q_t_kept, .ref q_t_isKept, .int t_marks, .ref q_t_markStep, .ref q_t_markTread, .long t_seed, .int o21, .ref q_t_order, .int t_lineMany, .int t_lineOrder, .int t_whoseMany, .int t_whoseFirst, .int t_restMany, .int t_restFirst, .ref q_t_gains, .ref q_t_value])), (q_t_page, .inl (cI, 17, .inl t_page)), (q_t_trial, .inl (cI, 17, .inl o27)), (q_t_kind, .inl (cI, 5, .inl t_kind)), (q_t_beat, .inl (cI, 5, .inl t_beat)), (q_t_value, .inl (cI, 32, .inl t_value))] H := hP
        replace hD : va_D A [(q_t, .inr (8, [.int t_thrown, .ref q_t_text, .int t_textSize, .int t_place, .int t_depth, .int t_noon, .int t_later, .int t_walkers, .ref q_t_beat, .ref q_t_kind, .ref q_t_readSnow, .int t_readWalkers, .ref q_t_readWalker, .ref q_t_page, .ref q_t_trial, .ref q_t_book, .int t_acts, .ref q_t_kept, .ref q_t_isKept, .int t_marks, .ref q_t_markStep, .ref q_t_markTread, .long t_seed, .int o21, .ref q_t_order, .int t_lineMany, .int t_lineOrder, .int t_whoseMany, .int t_whoseFirst, .int t_restMany, .int t_restFirst, .ref q_t_gains, .ref q_t_value])), (q_t_page, .inl (cI, 17, .inl t_page)), (q_t_trial, .inl (cI, 17, .inl o27)), (q_t_kind, .inl (cI, 5, .inl t_kind)), (q_t_beat, .inl (cI, 5, .inl t_beat)), (q_t_value, .inl (cI, 32, .inl t_value))] := wd hD rfl
        refine lv_aload_n hx hb dX8_share_59 rfl (lv_at hl 0 rfl) ?_
        refine va_get (D := (dC, dI)) (ci := 8) (v := .ref q_t_value) (C := RX8) (T := TX8) (N := 33) hx hb hts hinX8 hown hK.1 hP 0 rfl rfl 32 (by decide) w_1 (fun _ h9 => h9) rfl dX8_share_60 ?_
        refine lv_iload_n hx hb dX8_share_63 rfl (lv_at hl 3 rfl) ?_
        refine lv_aload_n hx hb dX8_share_64 rfl (lv_at hl 0 rfl) ?_
        refine lv_aload_n hx hb dX8_share_65 rfl (lv_at hl 0 rfl) ?_
        refine va_get (D := (dC, dI)) (ci := 8) (v := .ref q_t_trial) (C := RX8) (T := TX8) (N := 33) hx hb hts hinX8 hown hK.1 hP 0 rfl rfl 14 (by decide) w_2 (fun _ h9 => h9) rfl dX8_share_66 ?_
        obtain ⟨r30, e32, hf⟩ := bd_ok hf
        refine kVi (As := [.ref q_t_trial]) CF (cwV 1 hts gX8_share_X8_up rfl rfl rfl (by decide +kernel) ⟨Nat.le_of_ble_eq_true rfl, Nat.le_of_ble_eq_true rfl⟩) PU_blind hP hD hS hA (va_recv hK.1 hP (ci := 8) (q0 := 0) rfl rfl) [0, 2] (fun h1 h2 h3 => PU_pre hK h1 A h2 h3) (c_X8_up l dC dI cI cZ q_t q_t_text q_t_beat q_t_kind q_t_readSnow q_t_readWalker q_t_page q_t_trial q_t_book q_t_kept q_t_isKept q_t_markStep q_t_markTread q_t_order q_t_gains q_t_value q_t_trial _ t_thrown t_textSize t_place t_depth t_noon t_later t_walkers t_readWalkers t_acts t_marks t_seed o21 t_lineMany t_lineOrder t_whoseMany t_whoseFirst t_restMany t_restFirst o27 17 r30 e32) rfl rfl rfl rfl hl.1 rfl (Nat.le_of_ble_eq_true rfl) dX8_share_69 ⟨Nat.zero_le _, Nat.zero_le _⟩ (fun H locs hP hS => ?_)
        replace hP : va_P (dC, dI) vwCl [(q_t, .inr (8, [.int t_thrown, .ref q_t_text, .int t_textSize, .int t_place, .int t_depth, .int t_noon, .int t_later, .int t_walkers, .ref q_t_beat, .ref q_t_kind, .ref q_t_readSnow, .int t_readWalkers, .ref q_t_readWalker, .ref q_t_page, .ref q_t_trial, .ref q_t_book, .int t_acts, .ref q_t_kept, .ref q_t_isKept, .int t_marks, .ref q_t_markStep, .ref q_t_markTread, .long t_seed, .int o21, .ref q_t_order, .int t_lineMany, .int t_lineOrder, .int t_whoseMany, .int t_whoseFirst, .int t_restMany, .int t_restFirst, .ref q_t_gains, .ref q_t_value])), (q_t_page, .inl (cI, 17, .inl t_page)), (q_t_trial, .inl (cI, 17, .inl o27)), (q_t_kind, .inl (cI, 5, .inl t_kind)), (q_t_beat, .inl (cI, 5, .inl t_beat)), (q_t_value, .inl (cI, 32, .inl t_value))] H := hP
        obtain ⟨r33, e35, hf⟩ := bd_ok hf
        refine kSi (As := [.int r30]) CF (va_cwS 1 hts gX8_share_X8_many rfl rfl rfl (by decide +kernel) ⟨Nat.le_of_ble_eq_true rfl, Nat.le_of_ble_eq_true rfl⟩) PU_blind hP hD hS hA [] (fun h1 h2 h3 => PU_pre hK h1 A h2 h3) (c_X8_many l dC dI cI cZ _ r30 r33 e35) rfl rfl rfl rfl hl.1 rfl (Nat.le_of_ble_eq_true rfl) dX8_share_72 ⟨Nat.zero_le _, Nat.zero_le _⟩ (fun H locs hP hS => ?_)
        replace hP : va_P (dC, dI) vwCl [(q_t, .inr (8, [.int t_thrown, .ref q_t_text, .int t_textSize, .int t_place, .int t_depth, .int t_noon, .int t_later, .int t_walkers, .ref q_t_beat, .ref q_t_kind, .ref q_t_readSnow, .int t_readWalkers, .ref q_t_readWalker, .ref q_t_page, .ref q_t_trial, .ref q_t_book, .int t_acts, .ref q_t_kept, .ref q_t_isKept, .int t_marks, .ref q_t_markStep, .ref q_t_markTread, .long t_seed, .int o21, .ref q_t_order, .int t_lineMany, .int t_lineOrder, .int t_whoseMany, .int t_whoseFirst, .int t_restMany, .int t_restFirst, .ref q_t_gains, .ref q_t_value])), (q_t_page, .inl (cI, 17, .inl t_page)), (q_t_trial, .inl (cI, 17, .inl o27)), (q_t_kind, .inl (cI, 5, .inl t_kind)), (q_t_beat, .inl (cI, 5, .inl t_beat)), (q_t_value, .inl (cI, 32, .inl t_value))] H := hP
        refine kast hx hb hK.1 hP hD hS 5 0 rfl rfl dX8_share_75 hf (fun w36 H locs hP hD hS hf => ?_)
        replace hP : va_P (dC, dI) vwCl [(q_t, .inr (8, [.int t_thrown, .ref q_t_text, .int t_textSize, .int t_place, .int t_depth, .int t_noon, .int t_later, .int t_walkers, .ref q_t_beat, .ref q_t_kind, .ref q_t_readSnow, .int t_readWalkers, .ref q_t_readWalker, .ref q_t_page, .ref q_t_trial, .ref q_t_book, .int t_acts, .ref q_t_kept, .ref q_t_isKept, .int t_marks, .ref q_t_markStep, .ref q_t_markTread, .long t_seed, .int o21, .ref q_t_order, .int t_lineMany, .int t_lineOrder, .int t_whoseMany, .int t_whoseFirst, .int t_restMany, .int t_restFirst, .ref q_t_gains, .ref q_t_value])), (q_t_page, .inl (cI, 17, .inl t_page)), (q_t_trial, .inl (cI, 17, .inl o27)), (q_t_kind, .inl (cI, 5, .inl t_kind)), (q_t_beat, .inl (cI, 5, .inl t_beat)), (q_t_value, .inl (cI, 32, .inl w36))] H := hP
        replace hD : va_D A [(q_t, .inr (8, [.int t_thrown, .ref q_t_text, .int t_textSize, .int t_place, .int t_depth, .int t_noon, .int t_later, .int t_walkers, .ref q_t_beat, .ref q_t_kind, .ref q_t_readSnow, .int t_readWalkers, .ref q_t_readWalker, .ref q_t_page, .ref q_t_trial, .ref q_t_book, .int t_acts, .ref q_t_kept, .ref q_t_isKept, .int t_marks, .ref q_t_markStep, .ref q_t_markTread, .long t_seed, .int o21, .ref q_t_order, .int t_lineMany, .int t_lineOrder, .int t_whoseMany, .int t_whoseFirst, .int t_restMany, .int t_restFirst, .ref q_t_gains, .ref q_t_value])), (q_t_page, .inl (cI, 17, .inl t_page)), (q_t_trial, .inl (cI, 17, .inl o27)), (q_t_kind, .inl (cI, 5, .inl t_kind)), (q_t_beat, .inl (cI, 5, .inl t_beat)), (q_t_value, .inl (cI, 32, .inl w36))] := hD
        refine lv_iinc (v := (x3 + 1)) (lv' := [(3, .int (x3 + 1)), (0, .ref q_t), (1, .int x1), (2, .int x2)]) hx hb dX8_share_76 hl (k := 3) rfl rfl (by decide) rfl (fun ls hl => ?_)
        refine lv_goto (tgt := 17) hx hb dX8_share_79 (by decide) ?_
        exact ih17 (x3 + 1) o21 o27 w36 _ _ _ hP hS (lv_sub hl [1, 2, 3, 0] rfl) hf
  rw [f_X8_share] at hf
  refine lv_aload_n hx hb dX8_share_0 rfl (lv_at hl 0 rfl) ?_
  refine lv_iconst (v := 0) hx hb dX8_share_1 (by decide) ?_
  refine va_put (D := (dC, dI)) (ci := 8) (v := .int 0) (ty := .int) (C := RX8) (T := TX8) (N := 33) hx hb hts hinX8 tyX8 tyX8_ok nmX8 hown hK.1 hP hD hS 0 rfl rfl 0 (by decide) w_3 (fun _ h9 => h9) rfl (by decide +kernel) rfl rfl (Nat.le_of_ble_eq_true rfl) dX8_share_2 (fun H locs hP hD hS => ?_)
  replace hP : va_P (dC, dI) vwCl [(q_t, .inr (8, [.int 0, .ref q_t_text, .int t_textSize, .int t_place, .int t_depth, .int t_noon, .int t_later, .int t_walkers, .ref q_t_beat, .ref q_t_kind, .ref q_t_readSnow, .int t_readWalkers, .ref q_t_readWalker, .ref q_t_page, .ref q_t_trial, .ref q_t_book, .int t_acts, .ref q_t_kept, .ref q_t_isKept, .int t_marks, .ref q_t_markStep, .ref q_t_markTread, .long t_seed, .int t_stumbled, .ref q_t_order, .int t_lineMany, .int t_lineOrder, .int t_whoseMany, .int t_whoseFirst, .int t_restMany, .int t_restFirst, .ref q_t_gains, .ref q_t_value])), (q_t_page, .inl (cI, 17, .inl t_page)), (q_t_trial, .inl (cI, 17, .inl t_trial)), (q_t_kind, .inl (cI, 5, .inl t_kind)), (q_t_beat, .inl (cI, 5, .inl t_beat)), (q_t_value, .inl (cI, 32, .inl t_value))] H := hP
  replace hD : va_D A [(q_t, .inr (8, [.int 0, .ref q_t_text, .int t_textSize, .int t_place, .int t_depth, .int t_noon, .int t_later, .int t_walkers, .ref q_t_beat, .ref q_t_kind, .ref q_t_readSnow, .int t_readWalkers, .ref q_t_readWalker, .ref q_t_page, .ref q_t_trial, .ref q_t_book, .int t_acts, .ref q_t_kept, .ref q_t_isKept, .int t_marks, .ref q_t_markStep, .ref q_t_markTread, .long t_seed, .int t_stumbled, .ref q_t_order, .int t_lineMany, .int t_lineOrder, .int t_whoseMany, .int t_whoseFirst, .int t_restMany, .int t_restFirst, .ref q_t_gains, .ref q_t_value])), (q_t_page, .inl (cI, 17, .inl t_page)), (q_t_trial, .inl (cI, 17, .inl t_trial)), (q_t_kind, .inl (cI, 5, .inl t_kind)), (q_t_beat, .inl (cI, 5, .inl t_beat)), (q_t_value, .inl (cI, 32, .inl t_value))] := hD
  refine lv_aload_n hx hb dX8_share_5 rfl (lv_at hl 0 rfl) ?_
  refine lv_iload_n hx hb dX8_share_6 rfl (lv_at hl 1 rfl) ?_
  obtain ⟨r37, e39, hf⟩ := bd_ok hf
  refine kVi (As := [.int x1]) CF (cwV 1 hts gX8_share_X8_noWalker rfl rfl rfl (by decide +kernel) ⟨Nat.le_of_ble_eq_true rfl, Nat.le_of_ble_eq_true rfl⟩) PU_blind hP hD hS hA (va_recv hK.1 hP (ci := 8) (q0 := 0) rfl rfl) [0] (fun h1 h2 h3 => PU_pre hK h1 A h2 h3) (c_X8_noWalker l dC dI cI cZ q_t q_t_text q_t_beat q_t_kind q_t_readSnow q_t_readWalker q_t_page q_t_trial q_t_book q_t_kept q_t_isKept q_t_markStep q_t_markTread q_t_order q_t_gains q_t_value _ 0 t_textSize t_place t_depth t_noon t_later t_walkers t_readWalkers t_acts t_marks t_seed t_stumbled t_lineMany t_lineOrder t_whoseMany t_whoseFirst t_restMany t_restFirst x1 r37 e39) rfl rfl rfl rfl hl.1 rfl (Nat.le_of_ble_eq_true rfl) dX8_share_7 ⟨Nat.zero_le _, Nat.zero_le _⟩ (fun H locs hP hS => ?_)
  replace hP : va_P (dC, dI) vwCl [(q_t, .inr (8, [.int 0, .ref q_t_text, .int t_textSize, .int t_place, .int t_depth, .int t_noon, .int t_later, .int t_walkers, .ref q_t_beat, .ref q_t_kind, .ref q_t_readSnow, .int t_readWalkers, .ref q_t_readWalker, .ref q_t_page, .ref q_t_trial, .ref q_t_book, .int t_acts, .ref q_t_kept, .ref q_t_isKept, .int t_marks, .ref q_t_markStep, .ref q_t_markTread, .long t_seed, .int t_stumbled, .ref q_t_order, .int t_lineMany, .int t_lineOrder, .int t_whoseMany, .int t_whoseFirst, .int t_restMany, .int t_restFirst, .ref q_t_gains, .ref q_t_value])), (q_t_page, .inl (cI, 17, .inl t_page)), (q_t_trial, .inl (cI, 17, .inl t_trial)), (q_t_kind, .inl (cI, 5, .inl t_kind)), (q_t_beat, .inl (cI, 5, .inl t_beat)), (q_t_value, .inl (cI, 32, .inl t_value))] H := hP
  refine lv_if_eq (tgt := 15) hx hb dX8_share_10 (by decide) (fun hc => ?_) (fun hc => ?_)
  · replace hf := ip hc hf
    refine lv_iconst (v := 0) hx hb dX8_share_15 (by decide) ?_
    refine lv_istore_n (lv' := [(3, .int 0), (0, .ref q_t), (1, .int x1), (2, .int x2)]) hx hb dX8_share_16 rfl hl (by decide) rfl (fun ls hl => ?_)
    exact h_17 x1 x2 0 fuelC 0 t_stumbled t_trial t_value _ _ _ hP hS (lv_sub hl [1, 2, 3, 0] rfl) hf
  · replace hf := iq hc hf
    refine lv_iconst (v := (-1)) hx hb dX8_share_13 (by decide) ?_
    obtain ⟨e0, hf⟩ := ij2 hf
    obtain ⟨e1, hf⟩ := ijc hf
    obtain ⟨e2, hf⟩ := ijc hf
    obtain ⟨e3, hf⟩ := ijc hf
    have e4 := hf
    refine W.eq (congrArg (fun z => F0 m 14 ls [.int z]) e0) ?_
    exact hret _ _ _ _ (by rw [← e1, ← e2, ← e3, ← e4]; exact hP) hS dX8_share_14
abbrev rm_X8_mark : Room := { frames := 1, cells := 0, slots := 0, locals := 25 }
set_option maxHeartbeats 4000000 in
set_option maxRecDepth 100000 in
theorem c_X8_mark (l : Launch) (dC : Nat → ClassId) (dI : Nat → Nat → Nat) (cI cZ : ClassId) (q_t q_t_text q_t_beat q_t_kind q_t_readSnow q_t_readWalker q_t_page q_t_trial q_t_book q_t_kept q_t_isKept q_t_markStep q_t_markTread q_t_order q_t_gains q_t_value : Nat) (sz : Nat) (t_thrown : Int32) (t_textSize : Int32) (t_place : Int32) (t_depth : Int32) (t_noon : Int32) (t_later : Int32) (t_walkers : Int32) (t_readWalkers : Int32) (t_acts : Int32) (t_marks : Int32) (t_seed : Int64) (t_stumbled : Int32) (t_lineMany : Int32) (t_lineOrder : Int32) (t_whoseMany : Int32) (t_whoseFirst : Int32) (t_restMany : Int32) (t_restFirst : Int32) (t_markStep : Nat → Int32) (t_markTread : Nat → Int32) (x1 : Int32) (x2 : Int32) (r_ : Int32) (o_t_thrown : Int32) (o_t_marks : Int32) (o_t_markStep : Nat → Int32) (o_t_markTread : Nat → Int32) (hf : f_X8_mark x1 x2 t_thrown t_marks t_markStep t_markTread = some (r_, o_t_thrown, o_t_marks, o_t_markStep, o_t_markTread)) : Met l yX8_mark wsX8_mark rm_X8_mark (va_Pc [.ref q_t, .int x1, .int x2] (PU (dC, dI) cI cZ [(q_t, .inr (8, [.int t_thrown, .ref q_t_text, .int t_textSize, .int t_place, .int t_depth, .int t_noon, .int t_later, .int t_walkers, .ref q_t_beat, .ref q_t_kind, .ref q_t_readSnow, .int t_readWalkers, .ref q_t_readWalker, .ref q_t_page, .ref q_t_trial, .ref q_t_book, .int t_acts, .ref q_t_kept, .ref q_t_isKept, .int t_marks, .ref q_t_markStep, .ref q_t_markTread, .long t_seed, .int t_stumbled, .ref q_t_order, .int t_lineMany, .int t_lineOrder, .int t_whoseMany, .int t_whoseFirst, .int t_restMany, .int t_restFirst, .ref q_t_gains, .ref q_t_value])), (q_t_markStep, .inl (cI, 6, .inl t_markStep)), (q_t_markTread, .inl (cI, 6, .inl t_markTread))] sz)) (va_Qi (fun (r : Int32) (_ : Unit) => r = r_) (fun _ t => va_P (dC, dI) vwCl [(q_t, .inr (8, [.int o_t_thrown, .ref q_t_text, .int t_textSize, .int t_place, .int t_depth, .int t_noon, .int t_later, .int t_walkers, .ref q_t_beat, .ref q_t_kind, .ref q_t_readSnow, .int t_readWalkers, .ref q_t_readWalker, .ref q_t_page, .ref q_t_trial, .ref q_t_book, .int t_acts, .ref q_t_kept, .ref q_t_isKept, .int o_t_marks, .ref q_t_markStep, .ref q_t_markTread, .long t_seed, .int t_stumbled, .ref q_t_order, .int t_lineMany, .int t_lineOrder, .int t_whoseMany, .int t_whoseFirst, .int t_restMany, .int t_restFirst, .ref q_t_gains, .ref q_t_value])), (q_t_markStep, .inl (cI, 6, .inl o_t_markStep)), (q_t_markTread, .inl (cI, 6, .inl o_t_markTread))] t.heap) (va_A [(q_t, .inr (8, [.int t_thrown, .ref q_t_text, .int t_textSize, .int t_place, .int t_depth, .int t_noon, .int t_later, .int t_walkers, .ref q_t_beat, .ref q_t_kind, .ref q_t_readSnow, .int t_readWalkers, .ref q_t_readWalker, .ref q_t_page, .ref q_t_trial, .ref q_t_book, .int t_acts, .ref q_t_kept, .ref q_t_isKept, .int t_marks, .ref q_t_markStep, .ref q_t_markTread, .long t_seed, .int t_stumbled, .ref q_t_order, .int t_lineMany, .int t_lineOrder, .int t_whoseMany, .int t_whoseFirst, .int t_restMany, .int t_restFirst, .ref q_t_gains, .ref q_t_value])), (q_t_markStep, .inl (cI, 6, .inl t_markStep)), (q_t_markTread, .inl (cI, 6, .inl t_markTread))] sz)) 0 0 (va_A [(q_t, .inr (8, [.int t_thrown, .ref q_t_text, .int t_textSize, .int t_place, .int t_depth, .int t_noon, .int t_later, .int t_walkers, .ref q_t_beat, .ref q_t_kind, .ref q_t_readSnow, .int t_readWalkers, .ref q_t_readWalker, .ref q_t_page, .ref q_t_trial, .ref q_t_book, .int t_acts, .ref q_t_kept, .ref q_t_isKept, .int t_marks, .ref q_t_markStep, .ref q_t_markTread, .long t_seed, .int t_stumbled, .ref q_t_order, .int t_lineMany, .int t_lineOrder, .int t_whoseMany, .int t_whoseFirst, .int t_restMany, .int t_restFirst, .ref q_t_gains, .ref q_t_value])), (q_t_markStep, .inl (cI, 6, .inl t_markStep)), (q_t_markTread, .inl (cI, 6, .inl t_markTread))] sz) := by
  refine MetI (cc := cX8_mark) (maxL := 3) (by decide) rfl (Nat.le_of_ble_eq_true rfl) (fun _ h => h) ?_
  intro p e s m args below meth c A Q ls hx CF hK hA hD hP hS hl hB hAe hsz hret
  have hb := CF.2.1
  have hml := CF.2.2.1
  have hown := CF.2.2.2.1
  have hts := CF.2.2.2.2
  have hD0 := hD
  replace hl : lv_has ls 3 [(0, .ref q_t), (1, .int x1), (2, .int x2)] := hl
  have hinX8 : ∀ w ∈ wsX80, w ∈ wsX8_mark := fun _ h => List.mem_cons_of_mem _ (List.mem_append_right _ h)
  have w_0 := hts (.fieldLink RX8 63 "PassInStepModel" "thrown" "I") (by decide +kernel)
  have w_1 := hts (.constantLong RX8 168 (20)) (by decide +kernel)
  have w_2 := hts (.constantLong RX8 219 (12)) (by decide +kernel)
  have w_3 := hts (.fieldLink RX8 131 "PassInStepModel" "marks" "I") (by decide +kernel)
  have w_4 := hts (.fieldLink RX8 48 "PassInStepModel" "markStep" "[I") (by decide +kernel)
  have w_5 := hts (.fieldLink RX8 51 "PassInStepModel" "markTread" "[I") (by decide +kernel)
  rw [f_X8_mark] at hf
  refine lv_aload_n hx hb dX8_mark_0 rfl (lv_at hl 0 rfl) ?_
  refine lv_iconst (v := 0) hx hb dX8_mark_1 (by decide) ?_
  refine va_put (D := (dC, dI)) (ci := 8) (v := .int 0) (ty := .int) (C := RX8) (T := TX8) (N := 33) hx hb hts hinX8 tyX8 tyX8_ok nmX8 hown hK.1 hP hD hS 0 rfl rfl 0 (by decide) w_0 (fun _ h9 => h9) rfl (by decide +kernel) rfl rfl (Nat.le_of_ble_eq_true rfl) dX8_mark_2 (fun H locs hP hD hS => ?_)
  replace hP : va_P (dC, dI) vwCl [(q_t, .inr (8, [.int 0, .ref q_t_text, .int t_textSize, .int t_place, .int t_depth, .int t_noon, .int t_later, .int t_walkers, .ref q_t_beat, .ref q_t_kind, .ref q_t_readSnow, .int t_readWalkers, .ref q_t_readWalker, .ref q_t_page, .ref q_t_trial, .ref q_t_book, .int t_acts, .ref q_t_kept, .ref q_t_isKept, .int t_marks, .ref q_t_markStep, .ref q_t_markTread, .long t_seed, .int t_stumbled, .ref q_t_order, .int t_lineMany, .int t_lineOrder, .int t_whoseMany, .int t_whoseFirst, .int t_restMany, .int t_restFirst, .ref q_t_gains, .ref q_t_value])), (q_t_markStep, .inl (cI, 6, .inl t_markStep)), (q_t_markTread, .inl (cI, 6, .inl t_markTread))] H := hP
  replace hD : va_D A [(q_t, .inr (8, [.int 0, .ref q_t_text, .int t_textSize, .int t_place, .int t_depth, .int t_noon, .int t_later, .int t_walkers, .ref q_t_beat, .ref q_t_kind, .ref q_t_readSnow, .int t_readWalkers, .ref q_t_readWalker, .ref q_t_page, .ref q_t_trial, .ref q_t_book, .int t_acts, .ref q_t_kept, .ref q_t_isKept, .int t_marks, .ref q_t_markStep, .ref q_t_markTread, .long t_seed, .int t_stumbled, .ref q_t_order, .int t_lineMany, .int t_lineOrder, .int t_whoseMany, .int t_whoseFirst, .int t_restMany, .int t_restFirst, .ref q_t_gains, .ref q_t_value])), (q_t_markStep, .inl (cI, 6, .inl t_markStep)), (q_t_markTread, .inl (cI, 6, .inl t_markTread))] := hD
  refine lv_iload_n hx hb dX8_mark_5 rfl (lv_at hl 1 rfl) ?_
  refine lv_i2l hx hb dX8_mark_6 rfl ?_
  refine lv_lconst (v := 0) hx hb dX8_mark_7 (by decide) ?_
  refine lv_ldc2 (v := 20) hx hb hown w_1 dX8_mark_8 ?_
  obtain ⟨r1, e3, hf⟩ := bd_ok hf
  refine kSi (As := [.long ((x1).toInt64), .long (0 : Int64), .long (20 : Int64)]) CF (va_cwS 3 hts gX8_mark_X8_in rfl rfl rfl (by decide +kernel) ⟨Nat.le_of_ble_eq_true rfl, Nat.le_of_ble_eq_true rfl⟩) PU_blind hP hD hS hA [] (fun h1 h2 h3 => PU_pre hK h1 A h2 h3) (c_X8_in l dC dI cI cZ _ ((x1).toInt64) (0 : Int64) (20 : Int64) r1 e3) rfl rfl rfl rfl hl.1 rfl (Nat.le_of_ble_eq_true rfl) dX8_mark_11 ⟨Nat.zero_le _, Nat.zero_le _⟩ (fun H locs hP hS => ?_)
  replace hP : va_P (dC, dI) vwCl [(q_t, .inr (8, [.int 0, .ref q_t_text, .int t_textSize, .int t_place, .int t_depth, .int t_noon, .int t_later, .int t_walkers, .ref q_t_beat, .ref q_t_kind, .ref q_t_readSnow, .int t_readWalkers, .ref q_t_readWalker, .ref q_t_page, .ref q_t_trial, .ref q_t_book, .int t_acts, .ref q_t_kept, .ref q_t_isKept, .int t_marks, .ref q_t_markStep, .ref q_t_markTread, .long t_seed, .int t_stumbled, .ref q_t_order, .int t_lineMany, .int t_lineOrder, .int t_whoseMany, .int t_whoseFirst, .int t_restMany, .int t_restFirst, .ref q_t_gains, .ref q_t_value])), (q_t_markStep, .inl (cI, 6, .inl t_markStep)), (q_t_markTread, .inl (cI, 6, .inl t_markTread))] H := hP
  refine lv_if_eq (tgt := 29) hx hb dX8_mark_14 (by decide) (fun hc => ?_) (fun hc => ?_)
  · replace hf := ip hc hf
    refine lv_bipush (v := (-2)) hx hb dX8_mark_29 (by decide) ?_
    obtain ⟨e0, hf⟩ := ij2 hf
    obtain ⟨e1, hf⟩ := ijc hf
    obtain ⟨e2, hf⟩ := ijc hf
    obtain ⟨e3, hf⟩ := ijc hf
    have e4 := hf
    refine W.eq (congrArg (fun z => F0 m 31 ls [.int z]) e0) ?_
    exact hret _ _ _ _ (by rw [← e1, ← e2, ← e3, ← e4]; exact hP) hS dX8_mark_31
  · replace hf := iq hc hf
    refine lv_iload_n hx hb dX8_mark_17 rfl (lv_at hl 2 rfl) ?_
    refine lv_i2l hx hb dX8_mark_18 rfl ?_
    refine lv_lconst (v := 0) hx hb dX8_mark_19 (by decide) ?_
    refine lv_ldc2 (v := 12) hx hb hown w_2 dX8_mark_20 ?_
    obtain ⟨r4, e6, hf⟩ := bd_ok hf
    refine kSi (As := [.long ((x2).toInt64), .long (0 : Int64), .long (12 : Int64)]) CF (va_cwS 3 hts gX8_mark_X8_in rfl rfl rfl (by decide +kernel) ⟨Nat.le_of_ble_eq_true rfl, Nat.le_of_ble_eq_true rfl⟩) PU_blind hP hD hS hA [] (fun h1 h2 h3 => PU_pre hK h1 A h2 h3) (c_X8_in l dC dI cI cZ _ ((x2).toInt64) (0 : Int64) (12 : Int64) r4 e6) rfl rfl rfl rfl hl.1 rfl (Nat.le_of_ble_eq_true rfl) dX8_mark_23 ⟨Nat.zero_le _, Nat.zero_le _⟩ (fun H locs hP hS => ?_)
    replace hP : va_P (dC, dI) vwCl [(q_t, .inr (8, [.int 0, .ref q_t_text, .int t_textSize, .int t_place, .int t_depth, .int t_noon, .int t_later, .int t_walkers, .ref q_t_beat, .ref q_t_kind, .ref q_t_readSnow, .int t_readWalkers, .ref q_t_readWalker, .ref q_t_page, .ref q_t_trial, .ref q_t_book, .int t_acts, .ref q_t_kept, .ref q_t_isKept, .int t_marks, .ref q_t_markStep, .ref q_t_markTread, .long t_seed, .int t_stumbled, .ref q_t_order, .int t_lineMany, .int t_lineOrder, .int t_whoseMany, .int t_whoseFirst, .int t_restMany, .int t_restFirst, .ref q_t_gains, .ref q_t_value])), (q_t_markStep, .inl (cI, 6, .inl t_markStep)), (q_t_markTread, .inl (cI, 6, .inl t_markTread))] H := hP
    refine lv_if_ne (tgt := 32) hx hb dX8_mark_26 (by decide) (fun hc => ?_) (fun hc => ?_)
    · replace hf := iq hc hf
      refine lv_aload_n hx hb dX8_mark_32 rfl (lv_at hl 0 rfl) ?_
      refine va_get (D := (dC, dI)) (ci := 8) (v := .int t_marks) (C := RX8) (T := TX8) (N := 33) hx hb hts hinX8 hown hK.1 hP 0 rfl rfl 19 (by decide) w_3 (fun _ h9 => h9) rfl dX8_mark_33 ?_
      refine lv_bipush (v := 6) hx hb dX8_mark_36 (by decide) ?_
      refine lv_icmp_ne (tgt := 44) hx hb dX8_mark_38 (by decide) (fun hc => ?_) (fun hc => ?_)
      · replace hf := iq hc hf
        refine lv_aload_n hx hb dX8_mark_44 rfl (lv_at hl 0 rfl) ?_
        refine va_get (D := (dC, dI)) (ci := 8) (v := .ref q_t_markStep) (C := RX8) (T := TX8) (N := 33) hx hb hts hinX8 hown hK.1 hP 0 rfl rfl 20 (by decide) w_4 (fun _ h9 => h9) rfl dX8_mark_45 ?_
        refine lv_aload_n hx hb dX8_mark_48 rfl (lv_at hl 0 rfl) ?_
        refine va_get (D := (dC, dI)) (ci := 8) (v := .int t_marks) (C := RX8) (T := TX8) (N := 33) hx hb hts hinX8 hown hK.1 hP 0 rfl rfl 19 (by decide) w_3 (fun _ h9 => h9) rfl dX8_mark_49 ?_
        refine lv_iload_n hx hb dX8_mark_52 rfl (lv_at hl 1 rfl) ?_
        refine kast hx hb hK.1 hP hD hS 1 0 rfl rfl dX8_mark_53 hf (fun w7 H locs hP hD hS hf => ?_)
        replace hP : va_P (dC, dI) vwCl [(q_t, .inr (8, [.int 0, .ref q_t_text, .int t_textSize, .int t_place, .int t_depth, .int t_noon, .int t_later, .int t_walkers, .ref q_t_beat, .ref q_t_kind, .ref q_t_readSnow, .int t_readWalkers, .ref q_t_readWalker, .ref q_t_page, .ref q_t_trial, .ref q_t_book, .int t_acts, .ref q_t_kept, .ref q_t_isKept, .int t_marks, .ref q_t_markStep, .ref q_t_markTread, .long t_seed, .int t_stumbled, .ref q_t_order, .int t_lineMany, .int t_lineOrder, .int t_whoseMany, .int t_whoseFirst, .int t_restMany, .int t_restFirst, .ref q_t_gains, .ref q_t_value])), (q_t_markStep, .inl (cI, 6, .inl w7)), (q_t_markTread, .inl (cI, 6, .inl t_markTread))] H := hP
        replace hD : va_D A [(q_t, .inr (8, [.int 0, .ref q_t_text, .int t_textSize, .int t_place, .int t_depth, .int t_noon, .int t_later, .int t_walkers, .ref q_t_beat, .ref q_t_kind, .ref q_t_readSnow, .int t_readWalkers, .ref q_t_readWalker, .ref q_t_page, .ref q_t_trial, .ref q_t_book, .int t_acts, .ref q_t_kept, .ref q_t_isKept, .int t_marks, .ref q_t_markStep, .ref q_t_markTread, .long t_seed, .int t_stumbled, .ref q_t_order, .int t_lineMany, .int t_lineOrder, .int t_whoseMany, .int t_whoseFirst, .int t_restMany, .int t_restFirst, .ref q_t_gains, .ref q_t_value])), (q_t_markStep, .inl (cI, 6, .inl w7)), (q_t_markTread, .inl (cI, 6, .inl t_markTread))] := hD
        refine lv_aload_n hx hb dX8_mark_54 rfl (lv_at hl 0 rfl) ?_
        refine va_get (D := (dC, dI)) (ci := 8) (v := .ref q_t_markTread) (C := RX8) (T := TX8) (N := 33) hx hb hts hinX8 hown hK.1 hP 0 rfl rfl 21 (by decide) w_5 (fun _ h9 => h9) rfl dX8_mark_55 ?_
        refine lv_aload_n hx hb dX8_mark_58 rfl (lv_at hl 0 rfl) ?_
        refine va_get (D := (dC, dI)) (ci := 8) (v := .int t_marks) (C := RX8) (T := TX8) (N := 33) hx hb hts hinX8 hown hK.1 hP 0 rfl rfl 19 (by decide) w_3 (fun _ h9 => h9) rfl dX8_mark_59 ?_
        refine lv_iload_n hx hb dX8_mark_62 rfl (lv_at hl 2 rfl) ?_
        refine kast hx hb hK.1 hP hD hS 2 0 rfl rfl dX8_mark_63 hf (fun w8 H locs hP hD hS hf => ?_)
        replace hP : va_P (dC, dI) vwCl [(q_t, .inr (8, [.int 0, .ref q_t_text, .int t_textSize, .int t_place, .int t_depth, .int t_noon, .int t_later, .int t_walkers, .ref q_t_beat, .ref q_t_kind, .ref q_t_readSnow, .int t_readWalkers, .ref q_t_readWalker, .ref q_t_page, .ref q_t_trial, .ref q_t_book, .int t_acts, .ref q_t_kept, .ref q_t_isKept, .int t_marks, .ref q_t_markStep, .ref q_t_markTread, .long t_seed, .int t_stumbled, .ref q_t_order, .int t_lineMany, .int t_lineOrder, .int t_whoseMany, .int t_whoseFirst, .int t_restMany, .int t_restFirst, .ref q_t_gains, .ref q_t_value])), (q_t_markStep, .inl (cI, 6, .inl w7)), (q_t_markTread, .inl (cI, 6, .inl w8))] H := hP
        replace hD : va_D A [(q_t, .inr (8, [.int 0, .ref q_t_text, .int t_textSize, .int t_place, .int t_depth, .int t_noon, .int t_later, .int t_walkers, .ref q_t_beat, .ref q_t_kind, .ref q_t_readSnow, .int t_readWalkers, .ref q_t_readWalker, .ref q_t_page, .ref q_t_trial, .ref q_t_book, .int t_acts, .ref q_t_kept, .ref q_t_isKept, .int t_marks, .ref q_t_markStep, .ref q_t_markTread, .long t_seed, .int t_stumbled, .ref q_t_order, .int t_lineMany, .int t_lineOrder, .int t_whoseMany, .int t_whoseFirst, .int t_restMany, .int t_restFirst, .ref q_t_gains, .ref q_t_value])), (q_t_markStep, .inl (cI, 6, .inl w7)), (q_t_markTread, .inl (cI, 6, .inl w8))] := hD
        refine lv_aload_n hx hb dX8_mark_64 rfl (lv_at hl 0 rfl) ?_
        refine lv_dup hx hb dX8_mark_65 rfl ?_
        refine va_get (D := (dC, dI)) (ci := 8) (v := .int t_marks) (C := RX8) (T := TX8) (N := 33) hx hb hts hinX8 hown hK.1 hP 0 rfl rfl 19 (by decide) w_3 (fun _ h9 => h9) rfl dX8_mark_66 ?_
        refine lv_iconst (v := 1) hx hb dX8_mark_69 (by decide) ?_
        refine lv_iadd hx hb dX8_mark_70 ?_
        refine va_put (D := (dC, dI)) (ci := 8) (v := .int (t_marks + 1)) (ty := .int) (C := RX8) (T := TX8) (N := 33) hx hb hts hinX8 tyX8 tyX8_ok nmX8 hown hK.1 hP hD hS 0 rfl rfl 19 (by decide) w_3 (fun _ h9 => h9) rfl (by decide +kernel) rfl rfl (Nat.le_of_ble_eq_true rfl) dX8_mark_71 (fun H locs hP hD hS => ?_)
        replace hP : va_P (dC, dI) vwCl [(q_t, .inr (8, [.int 0, .ref q_t_text, .int t_textSize, .int t_place, .int t_depth, .int t_noon, .int t_later, .int t_walkers, .ref q_t_beat, .ref q_t_kind, .ref q_t_readSnow, .int t_readWalkers, .ref q_t_readWalker, .ref q_t_page, .ref q_t_trial, .ref q_t_book, .int t_acts, .ref q_t_kept, .ref q_t_isKept, .int (t_marks + 1), .ref q_t_markStep, .ref q_t_markTread, .long t_seed, .int t_stumbled, .ref q_t_order, .int t_lineMany, .int t_lineOrder, .int t_whoseMany, .int t_whoseFirst, .int t_restMany, .int t_restFirst, .ref q_t_gains, .ref q_t_value])), (q_t_markStep, .inl (cI, 6, .inl w7)), (q_t_markTread, .inl (cI, 6, .inl w8))] H := hP
        replace hD : va_D A [(q_t, .inr (8, [.int 0, .ref q_t_text, .int t_textSize, .int t_place, .int t_depth, .int t_noon, .int t_later, .int t_walkers, .ref q_t_beat, .ref q_t_kind, .ref q_t_readSnow, .int t_readWalkers, .ref q_t_readWalker, .ref q_t_page, .ref q_t_trial, .ref q_t_book, .int t_acts, .ref q_t_kept, .ref q_t_isKept, .int (t_marks + 1), .ref q_t_markStep, .ref q_t_markTread, .long t_seed, .int t_stumbled, .ref q_t_order, .int t_lineMany, .int t_lineOrder, .int t_whoseMany, .int t_whoseFirst, .int t_restMany, .int t_restFirst, .ref q_t_gains, .ref q_t_value])), (q_t_markStep, .inl (cI, 6, .inl w7)), (q_t_markTread, .inl (cI, 6, .inl w8))] := hD
        refine lv_aload_n hx hb dX8_mark_74 rfl (lv_at hl 0 rfl) ?_
        refine va_get (D := (dC, dI)) (ci := 8) (v := .int (t_marks + 1)) (C := RX8) (T := TX8) (N := 33) hx hb hts hinX8 hown hK.1 hP 0 rfl rfl 19 (by decide) w_3 (fun _ h9 => h9) rfl dX8_mark_75 ?_
        obtain ⟨e0, hf⟩ := ij2 hf
        obtain ⟨e1, hf⟩ := ijc hf
        obtain ⟨e2, hf⟩ := ijc hf
        obtain ⟨e3, hf⟩ := ijc hf
        have e4 := hf
        refine W.eq (congrArg (fun z => F0 m 78 ls [.int z]) e0) ?_
        exact hret _ _ _ _ (by rw [← e1, ← e2, ← e3, ← e4]; exact hP) hS dX8_mark_78
      · replace hf := ip hc hf
        refine lv_bipush (v := (-4)) hx hb dX8_mark_41 (by decide) ?_
        obtain ⟨e0, hf⟩ := ij2 hf
        obtain ⟨e1, hf⟩ := ijc hf
        obtain ⟨e2, hf⟩ := ijc hf
        obtain ⟨e3, hf⟩ := ijc hf
        have e4 := hf
        refine W.eq (congrArg (fun z => F0 m 43 ls [.int z]) e0) ?_
        exact hret _ _ _ _ (by rw [← e1, ← e2, ← e3, ← e4]; exact hP) hS dX8_mark_43
    · replace hf := ip hc hf
      refine lv_bipush (v := (-2)) hx hb dX8_mark_29 (by decide) ?_
      obtain ⟨e0, hf⟩ := ij2 hf
      obtain ⟨e1, hf⟩ := ijc hf
      obtain ⟨e2, hf⟩ := ijc hf
      obtain ⟨e3, hf⟩ := ijc hf
      have e4 := hf
      refine W.eq (congrArg (fun z => F0 m 31 ls [.int z]) e0) ?_
      exact hret _ _ _ _ (by rw [← e1, ← e2, ← e3, ← e4]; exact hP) hS dX8_mark_31
abbrev rm_X8_snowed : Room := { frames := 0, cells := 0, slots := 0, locals := 0 }
set_option maxHeartbeats 4000000 in
set_option maxRecDepth 100000 in
theorem c_X8_snowed (l : Launch) (dC : Nat → ClassId) (dI : Nat → Nat → Nat) (cI cZ : ClassId) (q_t q_t_text q_t_beat q_t_kind q_t_readSnow q_t_readWalker q_t_page q_t_trial q_t_book q_t_kept q_t_isKept q_t_markStep q_t_markTread q_t_order q_t_gains q_t_value : Nat) (sz : Nat) (t_thrown : Int32) (t_textSize : Int32) (t_place : Int32) (t_depth : Int32) (t_noon : Int32) (t_later : Int32) (t_walkers : Int32) (t_readWalkers : Int32) (t_acts : Int32) (t_marks : Int32) (t_seed : Int64) (t_stumbled : Int32) (t_lineMany : Int32) (t_lineOrder : Int32) (t_whoseMany : Int32) (t_whoseFirst : Int32) (t_restMany : Int32) (t_restFirst : Int32) (r_ : Int32) (o_t_thrown : Int32) (o_t_marks : Int32) (hf : f_X8_snowed t_thrown t_marks = some (r_, o_t_thrown, o_t_marks)) : Met l yX8_snowed wsX8_snowed rm_X8_snowed (va_Pc [.ref q_t] (PU (dC, dI) cI cZ [(q_t, .inr (8, [.int t_thrown, .ref q_t_text, .int t_textSize, .int t_place, .int t_depth, .int t_noon, .int t_later, .int t_walkers, .ref q_t_beat, .ref q_t_kind, .ref q_t_readSnow, .int t_readWalkers, .ref q_t_readWalker, .ref q_t_page, .ref q_t_trial, .ref q_t_book, .int t_acts, .ref q_t_kept, .ref q_t_isKept, .int t_marks, .ref q_t_markStep, .ref q_t_markTread, .long t_seed, .int t_stumbled, .ref q_t_order, .int t_lineMany, .int t_lineOrder, .int t_whoseMany, .int t_whoseFirst, .int t_restMany, .int t_restFirst, .ref q_t_gains, .ref q_t_value]))] sz)) (va_Qi (fun (r : Int32) (_ : Unit) => r = r_) (fun _ t => va_P (dC, dI) vwCl [(q_t, .inr (8, [.int o_t_thrown, .ref q_t_text, .int t_textSize, .int t_place, .int t_depth, .int t_noon, .int t_later, .int t_walkers, .ref q_t_beat, .ref q_t_kind, .ref q_t_readSnow, .int t_readWalkers, .ref q_t_readWalker, .ref q_t_page, .ref q_t_trial, .ref q_t_book, .int t_acts, .ref q_t_kept, .ref q_t_isKept, .int o_t_marks, .ref q_t_markStep, .ref q_t_markTread, .long t_seed, .int t_stumbled, .ref q_t_order, .int t_lineMany, .int t_lineOrder, .int t_whoseMany, .int t_whoseFirst, .int t_restMany, .int t_restFirst, .ref q_t_gains, .ref q_t_value]))] t.heap) (va_A [(q_t, .inr (8, [.int t_thrown, .ref q_t_text, .int t_textSize, .int t_place, .int t_depth, .int t_noon, .int t_later, .int t_walkers, .ref q_t_beat, .ref q_t_kind, .ref q_t_readSnow, .int t_readWalkers, .ref q_t_readWalker, .ref q_t_page, .ref q_t_trial, .ref q_t_book, .int t_acts, .ref q_t_kept, .ref q_t_isKept, .int t_marks, .ref q_t_markStep, .ref q_t_markTread, .long t_seed, .int t_stumbled, .ref q_t_order, .int t_lineMany, .int t_lineOrder, .int t_whoseMany, .int t_whoseFirst, .int t_restMany, .int t_restFirst, .ref q_t_gains, .ref q_t_value]))] sz)) 0 0 (va_A [(q_t, .inr (8, [.int t_thrown, .ref q_t_text, .int t_textSize, .int t_place, .int t_depth, .int t_noon, .int t_later, .int t_walkers, .ref q_t_beat, .ref q_t_kind, .ref q_t_readSnow, .int t_readWalkers, .ref q_t_readWalker, .ref q_t_page, .ref q_t_trial, .ref q_t_book, .int t_acts, .ref q_t_kept, .ref q_t_isKept, .int t_marks, .ref q_t_markStep, .ref q_t_markTread, .long t_seed, .int t_stumbled, .ref q_t_order, .int t_lineMany, .int t_lineOrder, .int t_whoseMany, .int t_whoseFirst, .int t_restMany, .int t_restFirst, .ref q_t_gains, .ref q_t_value]))] sz) := by
  refine MetI (cc := cX8_snowed) (maxL := 2) (by decide) rfl (Nat.le_of_ble_eq_true rfl) (fun _ h => h) ?_
  intro p e s m args below meth c A Q ls hx CF hK hA hD hP hS hl hB hAe hsz hret
  have hb := CF.2.1
  have hml := CF.2.2.1
  have hown := CF.2.2.2.1
  have hts := CF.2.2.2.2
  have hD0 := hD
  replace hl : lv_has ls 2 [(0, .ref q_t)] := hl
  have hinX8 : ∀ w ∈ wsX80, w ∈ wsX8_snowed := fun _ h => List.mem_cons_of_mem _ (List.mem_append_right _ h)
  have w_0 := hts (.fieldLink RX8 63 "PassInStepModel" "thrown" "I") (by decide +kernel)
  have w_1 := hts (.fieldLink RX8 131 "PassInStepModel" "marks" "I") (by decide +kernel)
  rw [f_X8_snowed] at hf
  refine lv_aload_n hx hb dX8_snowed_0 rfl (lv_at hl 0 rfl) ?_
  refine lv_iconst (v := 0) hx hb dX8_snowed_1 (by decide) ?_
  refine va_put (D := (dC, dI)) (ci := 8) (v := .int 0) (ty := .int) (C := RX8) (T := TX8) (N := 33) hx hb hts hinX8 tyX8 tyX8_ok nmX8 hown hK.1 hP hD hS 0 rfl rfl 0 (by decide) w_0 (fun _ h9 => h9) rfl (by decide +kernel) rfl rfl (Nat.le_of_ble_eq_true rfl) dX8_snowed_2 (fun H locs hP hD hS => ?_)
  replace hP : va_P (dC, dI) vwCl [(q_t, .inr (8, [.int 0, .ref q_t_text, .int t_textSize, .int t_place, .int t_depth, .int t_noon, .int t_later, .int t_walkers, .ref q_t_beat, .ref q_t_kind, .ref q_t_readSnow, .int t_readWalkers, .ref q_t_readWalker, .ref q_t_page, .ref q_t_trial, .ref q_t_book, .int t_acts, .ref q_t_kept, .ref q_t_isKept, .int t_marks, .ref q_t_markStep, .ref q_t_markTread, .long t_seed, .int t_stumbled, .ref q_t_order, .int t_lineMany, .int t_lineOrder, .int t_whoseMany, .int t_whoseFirst, .int t_restMany, .int t_restFirst, .ref q_t_gains, .ref q_t_value]))] H := hP
  replace hD : va_D A [(q_t, .inr (8, [.int 0, .ref q_t_text, .int t_textSize, .int t_place, .int t_depth, .int t_noon, .int t_later, .int t_walkers, .ref q_t_beat, .ref q_t_kind, .ref q_t_readSnow, .int t_readWalkers, .ref q_t_readWalker, .ref q_t_page, .ref q_t_trial, .ref q_t_book, .int t_acts, .ref q_t_kept, .ref q_t_isKept, .int t_marks, .ref q_t_markStep, .ref q_t_markTread, .long t_seed, .int t_stumbled, .ref q_t_order, .int t_lineMany, .int t_lineOrder, .int t_whoseMany, .int t_whoseFirst, .int t_restMany, .int t_restFirst, .ref q_t_gains, .ref q_t_value]))] := hD
  refine lv_aload_n hx hb dX8_snowed_5 rfl (lv_at hl 0 rfl) ?_
  refine va_get (D := (dC, dI)) (ci := 8) (v := .int t_marks) (C := RX8) (T := TX8) (N := 33) hx hb hts hinX8 hown hK.1 hP 0 rfl rfl 19 (by decide) w_1 (fun _ h9 => h9) rfl dX8_snowed_6 ?_
  refine lv_istore_n (lv' := [(1, .int t_marks), (0, .ref q_t)]) hx hb dX8_snowed_9 rfl hl (by decide) rfl (fun ls hl => ?_)
  refine lv_aload_n hx hb dX8_snowed_10 rfl (lv_at hl 1 rfl) ?_
  refine lv_iconst (v := 0) hx hb dX8_snowed_11 (by decide) ?_
  refine va_put (D := (dC, dI)) (ci := 8) (v := .int 0) (ty := .int) (C := RX8) (T := TX8) (N := 33) hx hb hts hinX8 tyX8 tyX8_ok nmX8 hown hK.1 hP hD hS 0 rfl rfl 19 (by decide) w_1 (fun _ h9 => h9) rfl (by decide +kernel) rfl rfl (Nat.le_of_ble_eq_true rfl) dX8_snowed_12 (fun H locs hP hD hS => ?_)
  replace hP : va_P (dC, dI) vwCl [(q_t, .inr (8, [.int 0, .ref q_t_text, .int t_textSize, .int t_place, .int t_depth, .int t_noon, .int t_later, .int t_walkers, .ref q_t_beat, .ref q_t_kind, .ref q_t_readSnow, .int t_readWalkers, .ref q_t_readWalker, .ref q_t_page, .ref q_t_trial, .ref q_t_book, .int t_acts, .ref q_t_kept, .ref q_t_isKept, .int 0, .ref q_t_markStep, .ref q_t_markTread, .long t_seed, .int t_stumbled, .ref q_t_order, .int t_lineMany, .int t_lineOrder, .int t_whoseMany, .int t_whoseFirst, .int t_restMany, .int t_restFirst, .ref q_t_gains, .ref q_t_value]))] H := hP
  replace hD : va_D A [(q_t, .inr (8, [.int 0, .ref q_t_text, .int t_textSize, .int t_place, .int t_depth, .int t_noon, .int t_later, .int t_walkers, .ref q_t_beat, .ref q_t_kind, .ref q_t_readSnow, .int t_readWalkers, .ref q_t_readWalker, .ref q_t_page, .ref q_t_trial, .ref q_t_book, .int t_acts, .ref q_t_kept, .ref q_t_isKept, .int 0, .ref q_t_markStep, .ref q_t_markTread, .long t_seed, .int t_stumbled, .ref q_t_order, .int t_lineMany, .int t_lineOrder, .int t_whoseMany, .int t_whoseFirst, .int t_restMany, .int t_restFirst, .ref q_t_gains, .ref q_t_value]))] := hD
  refine lv_iload_n hx hb dX8_snowed_15 rfl (lv_at hl 0 rfl) ?_
  obtain ⟨e0, hf⟩ := ij2 hf
  obtain ⟨e1, hf⟩ := ijc hf
  have e2 := hf
  refine W.eq (congrArg (fun z => F0 m 16 ls [.int z]) e0) ?_
  exact hret _ _ _ _ (by rw [← e1, ← e2]; exact hP) hS dX8_snowed_16
abbrev rm_X8_findWhose : Room := { frames := 1, cells := 0, slots := 0, locals := 23 }
set_option maxHeartbeats 4000000 in
set_option maxRecDepth 100000 in
theorem c_X8_findWhose (l : Launch) (dC : Nat → ClassId) (dI : Nat → Nat → Nat) (cI cZ : ClassId) (q_t q_t_text q_t_beat q_t_kind q_t_readSnow q_t_readWalker q_t_page q_t_trial q_t_book q_t_kept q_t_isKept q_t_markStep q_t_markTread q_t_order q_t_gains q_t_value : Nat) (sz : Nat) (t_thrown : Int32) (t_textSize : Int32) (t_place : Int32) (t_depth : Int32) (t_noon : Int32) (t_later : Int32) (t_walkers : Int32) (t_readWalkers : Int32) (t_acts : Int32) (t_marks : Int32) (t_seed : Int64) (t_stumbled : Int32) (t_lineMany : Int32) (t_lineOrder : Int32) (t_whoseMany : Int32) (t_whoseFirst : Int32) (t_restMany : Int32) (t_restFirst : Int32) (t_markStep : Nat → Int32) (t_markTread : Nat → Int32) (o_t_whoseMany : Int32) (o_t_whoseFirst : Int32) (hf : f_X8_findWhose t_marks t_whoseMany t_whoseFirst t_markStep t_markTread = some (o_t_whoseMany, o_t_whoseFirst)) : Met l yX8_findWhose wsX8_findWhose rm_X8_findWhose (va_Pc [.ref q_t] (PU (dC, dI) cI cZ [(q_t, .inr (8, [.int t_thrown, .ref q_t_text, .int t_textSize, .int t_place, .int t_depth, .int t_noon, .int t_later, .int t_walkers, .ref q_t_beat, .ref q_t_kind, .ref q_t_readSnow, .int t_readWalkers, .ref q_t_readWalker, .ref q_t_page, .ref q_t_trial, .ref q_t_book, .int t_acts, .ref q_t_kept, .ref q_t_isKept, .int t_marks, .ref q_t_markStep, .ref q_t_markTread, .long t_seed, .int t_stumbled, .ref q_t_order, .int t_lineMany, .int t_lineOrder, .int t_whoseMany, .int t_whoseFirst, .int t_restMany, .int t_restFirst, .ref q_t_gains, .ref q_t_value])), (q_t_markStep, .inl (cI, 6, .inl t_markStep)), (q_t_markTread, .inl (cI, 6, .inl t_markTread))] sz)) (va_Qv (fun (_ : Unit) => True) (fun _ t => va_P (dC, dI) vwCl [(q_t, .inr (8, [.int t_thrown, .ref q_t_text, .int t_textSize, .int t_place, .int t_depth, .int t_noon, .int t_later, .int t_walkers, .ref q_t_beat, .ref q_t_kind, .ref q_t_readSnow, .int t_readWalkers, .ref q_t_readWalker, .ref q_t_page, .ref q_t_trial, .ref q_t_book, .int t_acts, .ref q_t_kept, .ref q_t_isKept, .int t_marks, .ref q_t_markStep, .ref q_t_markTread, .long t_seed, .int t_stumbled, .ref q_t_order, .int t_lineMany, .int t_lineOrder, .int o_t_whoseMany, .int o_t_whoseFirst, .int t_restMany, .int t_restFirst, .ref q_t_gains, .ref q_t_value])), (q_t_markStep, .inl (cI, 6, .inl t_markStep)), (q_t_markTread, .inl (cI, 6, .inl t_markTread))] t.heap) (va_A [(q_t, .inr (8, [.int t_thrown, .ref q_t_text, .int t_textSize, .int t_place, .int t_depth, .int t_noon, .int t_later, .int t_walkers, .ref q_t_beat, .ref q_t_kind, .ref q_t_readSnow, .int t_readWalkers, .ref q_t_readWalker, .ref q_t_page, .ref q_t_trial, .ref q_t_book, .int t_acts, .ref q_t_kept, .ref q_t_isKept, .int t_marks, .ref q_t_markStep, .ref q_t_markTread, .long t_seed, .int t_stumbled, .ref q_t_order, .int t_lineMany, .int t_lineOrder, .int t_whoseMany, .int t_whoseFirst, .int t_restMany, .int t_restFirst, .ref q_t_gains, .ref q_t_value])), (q_t_markStep, .inl (cI, 6, .inl t_markStep)), (q_t_markTread, .inl (cI, 6, .inl t_markTread))] sz)) 0 0 (va_A [(q_t, .inr (8, [.int t_thrown, .ref q_t_text, .int t_textSize, .int t_place, .int t_depth, .int t_noon, .int t_later, .int t_walkers, .ref q_t_beat, .ref q_t_kind, .ref q_t_readSnow, .int t_readWalkers, .ref q_t_readWalker, .ref q_t_page, .ref q_t_trial, .ref q_t_book, .int t_acts, .ref q_t_kept, .ref q_t_isKept, .int t_marks, .ref q_t_markStep, .ref q_t_markTread, .long t_seed, .int t_stumbled, .ref q_t_order, .int t_lineMany, .int t_lineOrder, .int t_whoseMany, .int t_whoseFirst, .int t_restMany, .int t_restFirst, .ref q_t_gains, .ref q_t_value])), (q_t_markStep, .inl (cI, 6, .inl t_markStep)), (q_t_markTread, .inl (cI, 6, .inl t_markTread))] sz) := by
  refine MetV (cc := cX8_findWhose) (maxL := 6) (by decide) rfl (Nat.le_of_ble_eq_true rfl) (fun _ h => h) ?_
  intro p e s m args below meth c A Q ls hx CF hK hA hD hP hS hl hB hAe hsz hret
  have hb := CF.2.1
  have hml := CF.2.2.1
  have hown := CF.2.2.2.1
  have hts := CF.2.2.2.2
  have hD0 := hD
  replace hl : lv_has ls 6 [(0, .ref q_t)] := hl
  have hinX8 : ∀ w ∈ wsX80, w ∈ wsX8_findWhose := fun _ h => List.mem_cons_of_mem _ (List.mem_append_right _ h)
  have w_0 := hts (.fieldLink RX8 221 "PassInStepModel" "whoseMany" "I") (by decide +kernel)
  have w_1 := hts (.fieldLink RX8 224 "PassInStepModel" "whoseFirst" "I") (by decide +kernel)
  have w_2 := hts (.fieldLink RX8 131 "PassInStepModel" "marks" "I") (by decide +kernel)
  have w_3 := hts (.fieldLink RX8 48 "PassInStepModel" "markStep" "[I") (by decide +kernel)
  have w_4 := hts (.fieldLink RX8 51 "PassInStepModel" "markTread" "[I") (by decide +kernel)
  have h_13 : ∀ (fu13 : Nat) (x1 : Int32) (t_whoseMany : Int32) (t_whoseFirst : Int32) (H : Heap) (locs : List Loc) (ls : Array Slot), va_P (dC, dI) vwCl [(q_t, .inr (8, [.int t_thrown, .ref q_t_text, .int t_textSize, .int t_place, .int t_depth, .int t_noon, .int t_later, .int t_walkers, .ref q_t_beat, .ref q_t_kind, .ref q_t_readSnow, .int t_readWalkers, .ref q_t_readWalker, .ref q_t_page, .ref q_t_trial, .ref q_t_book, .int t_acts, .ref q_t_kept, .ref q_t_isKept, .int t_marks, .ref q_t_markStep, .ref q_t_markTread, .long t_seed, .int t_stumbled, .ref q_t_order, .int t_lineMany, .int t_lineOrder, .int t_whoseMany, .int t_whoseFirst, .int t_restMany, .int t_restFirst, .ref q_t_gains, .ref q_t_value])), (q_t_markStep, .inl (cI, 6, .inl t_markStep)), (q_t_markTread, .inl (cI, 6, .inl t_markTread))] H → va_S A s.heap H locs → lv_has ls 6 [(0, .ref q_t), (1, .int x1)] → L_X8_findWhose_13 t_marks t_markStep t_markTread fu13 x1 t_whoseMany t_whoseFirst = some (o_t_whoseMany, o_t_whoseFirst) → W p l e rm_X8_findWhose s m args below meth c H locs 0 0 Q (F0 m 13 ls []) := by
    intro fu13
    induction fu13 with
    | zero =>
      intro x1 t_whoseMany t_whoseFirst H locs ls hP hS hl hf
      rw [L_X8_findWhose_13] at hf
      cases hf
    | succ fu13 ih13 =>
      have h_159 : ∀ (x1 : Int32) (t_whoseMany : Int32) (t_whoseFirst : Int32) (H : Heap) (locs : List Loc) (ls : Array Slot), va_P (dC, dI) vwCl [(q_t, .inr (8, [.int t_thrown, .ref q_t_text, .int t_textSize, .int t_place, .int t_depth, .int t_noon, .int t_later, .int t_walkers, .ref q_t_beat, .ref q_t_kind, .ref q_t_readSnow, .int t_readWalkers, .ref q_t_readWalker, .ref q_t_page, .ref q_t_trial, .ref q_t_book, .int t_acts, .ref q_t_kept, .ref q_t_isKept, .int t_marks, .ref q_t_markStep, .ref q_t_markTread, .long t_seed, .int t_stumbled, .ref q_t_order, .int t_lineMany, .int t_lineOrder, .int t_whoseMany, .int t_whoseFirst, .int t_restMany, .int t_restFirst, .ref q_t_gains, .ref q_t_value])), (q_t_markStep, .inl (cI, 6, .inl t_markStep)), (q_t_markTread, .inl (cI, 6, .inl t_markTread))] H → va_S A s.heap H locs → lv_has ls 6 [(0, .ref q_t), (1, .int x1)] → J_X8_findWhose_159 (L_X8_findWhose_13 t_marks t_markStep t_markTread fu13) x1 t_whoseMany t_whoseFirst = some (o_t_whoseMany, o_t_whoseFirst) → W p l e rm_X8_findWhose s m args below meth c H locs 0 0 Q (F0 m 159 ls []) := by
        intro x1 t_whoseMany t_whoseFirst H locs ls hP hS hl hf
        have hD : va_D A [(q_t, .inr (8, [.int t_thrown, .ref q_t_text, .int t_textSize, .int t_place, .int t_depth, .int t_noon, .int t_later, .int t_walkers, .ref q_t_beat, .ref q_t_kind, .ref q_t_readSnow, .int t_readWalkers, .ref q_t_readWalker, .ref q_t_page, .ref q_t_trial, .ref q_t_book, .int t_acts, .ref q_t_kept, .ref q_t_isKept, .int t_marks, .ref q_t_markStep, .ref q_t_markTread, .long t_seed, .int t_stumbled, .ref q_t_order, .int t_lineMany, .int t_lineOrder, .int t_whoseMany, .int t_whoseFirst, .int t_restMany, .int t_restFirst, .ref q_t_gains, .ref q_t_value])), (q_t_markStep, .inl (cI, 6, .inl t_markStep)), (q_t_markTread, .inl (cI, 6, .inl t_markTread))] := wd hD0 rfl
        rw [J_X8_findWhose_159] at hf
        refine lv_iinc (v := (x1 + 1)) (lv' := [(1, .int (x1 + 1)), (0, .ref q_t)]) hx hb dX8_findWhose_159 hl (k := 1) rfl rfl (by decide) rfl (fun ls hl => ?_)
        refine lv_goto (tgt := 13) hx hb dX8_findWhose_162 (by decide) ?_
        exact ih13 (x1 + 1) t_whoseMany t_whoseFirst _ _ _ hP hS (lv_sub hl [1, 0] rfl) hf
      have h_20 : ∀ (x1 : Int32) (fu20 : Nat) (x2 : Int32) (t_whoseMany : Int32) (t_whoseFirst : Int32) (H : Heap) (locs : List Loc) (ls : Array Slot), va_P (dC, dI) vwCl [(q_t, .inr (8, [.int t_thrown, .ref q_t_text, .int t_textSize, .int t_place, .int t_depth, .int t_noon, .int t_later, .int t_walkers, .ref q_t_beat, .ref q_t_kind, .ref q_t_readSnow, .int t_readWalkers, .ref q_t_readWalker, .ref q_t_page, .ref q_t_trial, .ref q_t_book, .int t_acts, .ref q_t_kept, .ref q_t_isKept, .int t_marks, .ref q_t_markStep, .ref q_t_markTread, .long t_seed, .int t_stumbled, .ref q_t_order, .int t_lineMany, .int t_lineOrder, .int t_whoseMany, .int t_whoseFirst, .int t_restMany, .int t_restFirst, .ref q_t_gains, .ref q_t_value])), (q_t_markStep, .inl (cI, 6, .inl t_markStep)), (q_t_markTread, .inl (cI, 6, .inl t_markTread))] H → va_S A s.heap H locs → lv_has ls 6 [(0, .ref q_t), (1, .int x1), (2, .int x2)] → L_X8_findWhose_20 (L_X8_findWhose_13 t_marks t_markStep t_markTread fu13) x1 t_marks t_markStep t_markTread fu20 x2 t_whoseMany t_whoseFirst = some (o_t_whoseMany, o_t_whoseFirst) → W p l e rm_X8_findWhose s m args below meth c H locs 0 0 Q (F0 m 20 ls []) := by
        intro x1 fu20
        induction fu20 with
        | zero =>
          intro x2 t_whoseMany t_whoseFirst H locs ls hP hS hl hf
          rw [L_X8_findWhose_20] at hf
          cases hf
        | succ fu20 ih20 =>
          have h_33 : ∀ (x2 : Int32) (fu33 : Nat) (x3 : Int32) (t_whoseMany : Int32) (t_whoseFirst : Int32) (H : Heap) (locs : List Loc) (ls : Array Slot), va_P (dC, dI) vwCl [(q_t, .inr (8, [.int t_thrown, .ref q_t_text, .int t_textSize, .int t_place, .int t_depth, .int t_noon, .int t_later, .int t_walkers, .ref q_t_beat, .ref q_t_kind, .ref q_t_readSnow, .int t_readWalkers, .ref q_t_readWalker, .ref q_t_page, .ref q_t_trial, .ref q_t_book, .int t_acts, .ref q_t_kept, .ref q_t_isKept, .int t_marks, .ref q_t_markStep, .ref q_t_markTread, .long t_seed, .int t_stumbled, .ref q_t_order, .int t_lineMany, .int t_lineOrder, .int t_whoseMany, .int t_whoseFirst, .int t_restMany, .int t_restFirst, .ref q_t_gains, .ref q_t_value])), (q_t_markStep, .inl (cI, 6, .inl t_markStep)), (q_t_markTread, .inl (cI, 6, .inl t_markTread))] H → va_S A s.heap H locs → lv_has ls 6 [(0, .ref q_t), (1, .int x1), (2, .int x2), (3, .int x3)] → L_X8_findWhose_33 (L_X8_findWhose_13 t_marks t_markStep t_markTread fu13) (L_X8_findWhose_20 (L_X8_findWhose_13 t_marks t_markStep t_markTread fu13) x1 t_marks t_markStep t_markTread fu20) x1 x2 t_marks t_markStep t_markTread fu33 x3 t_whoseMany t_whoseFirst = some (o_t_whoseMany, o_t_whoseFirst) → W p l e rm_X8_findWhose s m args below meth c H locs 0 0 Q (F0 m 33 ls []) := by
            intro x2 fu33
            induction fu33 with
            | zero =>
              intro x3 t_whoseMany t_whoseFirst H locs ls hP hS hl hf
              rw [L_X8_findWhose_33] at hf
              cases hf
            | succ fu33 ih33 =>
              have h_143 : ∀ (x3 : Int32) (s0 : Int32) (s1 : Int32) (t_whoseMany : Int32) (t_whoseFirst : Int32) (H : Heap) (locs : List Loc) (ls : Array Slot), va_P (dC, dI) vwCl [(q_t, .inr (8, [.int t_thrown, .ref q_t_text, .int t_textSize, .int t_place, .int t_depth, .int t_noon, .int t_later, .int t_walkers, .ref q_t_beat, .ref q_t_kind, .ref q_t_readSnow, .int t_readWalkers, .ref q_t_readWalker, .ref q_t_page, .ref q_t_trial, .ref q_t_book, .int t_acts, .ref q_t_kept, .ref q_t_isKept, .int t_marks, .ref q_t_markStep, .ref q_t_markTread, .long t_seed, .int t_stumbled, .ref q_t_order, .int t_lineMany, .int t_lineOrder, .int t_whoseMany, .int t_whoseFirst, .int t_restMany, .int t_restFirst, .ref q_t_gains, .ref q_t_value])), (q_t_markStep, .inl (cI, 6, .inl t_markStep)), (q_t_markTread, .inl (cI, 6, .inl t_markTread))] H → va_S A s.heap H locs → lv_has ls 6 [(0, .ref q_t), (1, .int x1), (2, .int x2), (3, .int x3)] → J_X8_findWhose_143 (L_X8_findWhose_13 t_marks t_markStep t_markTread fu13) (L_X8_findWhose_20 (L_X8_findWhose_13 t_marks t_markStep t_markTread fu13) x1 t_marks t_markStep t_markTread fu20) (L_X8_findWhose_33 (L_X8_findWhose_13 t_marks t_markStep t_markTread fu13) (L_X8_findWhose_20 (L_X8_findWhose_13 t_marks t_markStep t_markTread fu13) x1 t_marks t_markStep t_markTread fu20) x1 x2 t_marks t_markStep t_markTread fu33) x3 s0 s1 t_whoseFirst = some (o_t_whoseMany, o_t_whoseFirst) → W p l e rm_X8_findWhose s m args below meth c H locs 0 0 Q (F0 m 143 ls [.int s0, .int s1, .ref q_t]) := by
                intro x3 s0 s1 t_whoseMany t_whoseFirst H locs ls hP hS hl hf
                have hD : va_D A [(q_t, .inr (8, [.int t_thrown, .ref q_t_text, .int t_textSize, .int t_place, .int t_depth, .int t_noon, .int t_later, .int t_walkers, .ref q_t_beat, .ref q_t_kind, .ref q_t_readSnow, .int t_readWalkers, .ref q_t_readWalker, .ref q_t_page, .ref q_t_trial, .ref q_t_book, .int t_acts, .ref q_t_kept, .ref q_t_isKept, .int t_marks, .ref q_t_markStep, .ref q_t_markTread, .long t_seed, .int t_stumbled, .ref q_t_order, .int t_lineMany, .int t_lineOrder, .int t_whoseMany, .int t_whoseFirst, .int t_restMany, .int t_restFirst, .ref q_t_gains, .ref q_t_value])), (q_t_markStep, .inl (cI, 6, .inl t_markStep)), (q_t_markTread, .inl (cI, 6, .inl t_markTread))] := wd hD0 rfl
                rw [J_X8_findWhose_143] at hf
                refine lv_iadd hx hb dX8_findWhose_143 ?_
                refine va_put (D := (dC, dI)) (ci := 8) (v := .int (s1 + s0)) (ty := .int) (C := RX8) (T := TX8) (N := 33) hx hb hts hinX8 tyX8 tyX8_ok nmX8 hown hK.1 hP hD hS 0 rfl rfl 27 (by decide) w_0 (fun _ h9 => h9) rfl (by decide +kernel) rfl rfl (Nat.le_of_ble_eq_true rfl) dX8_findWhose_144 (fun H locs hP hD hS => ?_)
                replace hP : va_P (dC, dI) vwCl [(q_t, .inr (8, [.int t_thrown, .ref q_t_text, .int t_textSize, .int t_place, .int t_depth, .int t_noon, .int t_later, .int t_walkers, .ref q_t_beat, .ref q_t_kind, .ref q_t_readSnow, .int t_readWalkers, .ref q_t_readWalker, .ref q_t_page, .ref q_t_trial, .ref q_t_book, .int t_acts, .ref q_t_kept, .ref q_t_isKept, .int t_marks, .ref q_t_markStep, .ref q_t_markTread, .long t_seed, .int t_stumbled, .ref q_t_order, .int t_lineMany, .int t_lineOrder, .int (s1 + s0), .int t_whoseFirst, .int t_restMany, .int t_restFirst, .ref q_t_gains, .ref q_t_value])), (q_t_markStep, .inl (cI, 6, .inl t_markStep)), (q_t_markTread, .inl (cI, 6, .inl t_markTread))] H := hP
                replace hD : va_D A [(q_t, .inr (8, [.int t_thrown, .ref q_t_text, .int t_textSize, .int t_place, .int t_depth, .int t_noon, .int t_later, .int t_walkers, .ref q_t_beat, .ref q_t_kind, .ref q_t_readSnow, .int t_readWalkers, .ref q_t_readWalker, .ref q_t_page, .ref q_t_trial, .ref q_t_book, .int t_acts, .ref q_t_kept, .ref q_t_isKept, .int t_marks, .ref q_t_markStep, .ref q_t_markTread, .long t_seed, .int t_stumbled, .ref q_t_order, .int t_lineMany, .int t_lineOrder, .int (s1 + s0), .int t_whoseFirst, .int t_restMany, .int t_restFirst, .ref q_t_gains, .ref q_t_value])), (q_t_markStep, .inl (cI, 6, .inl t_markStep)), (q_t_markTread, .inl (cI, 6, .inl t_markTread))] := hD
                refine lv_iinc (v := (x3 + 1)) (lv' := [(3, .int (x3 + 1)), (0, .ref q_t), (1, .int x1), (2, .int x2)]) hx hb dX8_findWhose_147 hl (k := 3) rfl rfl (by decide) rfl (fun ls hl => ?_)
                refine lv_goto (tgt := 33) hx hb dX8_findWhose_150 (by decide) ?_
                exact ih33 (x3 + 1) (s1 + s0) t_whoseFirst _ _ _ hP hS (lv_sub hl [1, 2, 3, 0] rfl) hf
              have h_125 : ∀ (x3 : Int32) (x4 : Int32) (s0 : Int32) (t_whoseMany : Int32) (t_whoseFirst : Int32) (H : Heap) (locs : List Loc) (ls : Array Slot), va_P (dC, dI) vwCl [(q_t, .inr (8, [.int t_thrown, .ref q_t_text, .int t_textSize, .int t_place, .int t_depth, .int t_noon, .int t_later, .int t_walkers, .ref q_t_beat, .ref q_t_kind, .ref q_t_readSnow, .int t_readWalkers, .ref q_t_readWalker, .ref q_t_page, .ref q_t_trial, .ref q_t_book, .int t_acts, .ref q_t_kept, .ref q_t_isKept, .int t_marks, .ref q_t_markStep, .ref q_t_markTread, .long t_seed, .int t_stumbled, .ref q_t_order, .int t_lineMany, .int t_lineOrder, .int t_whoseMany, .int t_whoseFirst, .int t_restMany, .int t_restFirst, .ref q_t_gains, .ref q_t_value])), (q_t_markStep, .inl (cI, 6, .inl t_markStep)), (q_t_markTread, .inl (cI, 6, .inl t_markTread))] H → va_S A s.heap H locs → lv_has ls 6 [(0, .ref q_t), (1, .int x1), (2, .int x2), (3, .int x3), (4, .int x4)] → J_X8_findWhose_125 (L_X8_findWhose_13 t_marks t_markStep t_markTread fu13) (L_X8_findWhose_20 (L_X8_findWhose_13 t_marks t_markStep t_markTread fu13) x1 t_marks t_markStep t_markTread fu20) (L_X8_findWhose_33 (L_X8_findWhose_13 t_marks t_markStep t_markTread fu13) (L_X8_findWhose_20 (L_X8_findWhose_13 t_marks t_markStep t_markTread fu13) x1 t_marks t_markStep t_markTread fu20) x1 x2 t_marks t_markStep t_markTread fu33) x3 x4 s0 t_whoseMany = some (o_t_whoseMany, o_t_whoseFirst) → W p l e rm_X8_findWhose s m args below meth c H locs 0 0 Q (F0 m 125 ls [.int s0, .ref q_t]) := by
                intro x3 x4 s0 t_whoseMany t_whoseFirst H locs ls hP hS hl hf
                have hD : va_D A [(q_t, .inr (8, [.int t_thrown, .ref q_t_text, .int t_textSize, .int t_place, .int t_depth, .int t_noon, .int t_later, .int t_walkers, .ref q_t_beat, .ref q_t_kind, .ref q_t_readSnow, .int t_readWalkers, .ref q_t_readWalker, .ref q_t_page, .ref q_t_trial, .ref q_t_book, .int t_acts, .ref q_t_kept, .ref q_t_isKept, .int t_marks, .ref q_t_markStep, .ref q_t_markTread, .long t_seed, .int t_stumbled, .ref q_t_order, .int t_lineMany, .int t_lineOrder, .int t_whoseMany, .int t_whoseFirst, .int t_restMany, .int t_restFirst, .ref q_t_gains, .ref q_t_value])), (q_t_markStep, .inl (cI, 6, .inl t_markStep)), (q_t_markTread, .inl (cI, 6, .inl t_markTread))] := wd hD0 rfl
                rw [J_X8_findWhose_125] at hf
                refine va_put (D := (dC, dI)) (ci := 8) (v := .int s0) (ty := .int) (C := RX8) (T := TX8) (N := 33) hx hb hts hinX8 tyX8 tyX8_ok nmX8 hown hK.1 hP hD hS 0 rfl rfl 28 (by decide) w_1 (fun _ h9 => h9) rfl (by decide +kernel) rfl rfl (Nat.le_of_ble_eq_true rfl) dX8_findWhose_125 (fun H locs hP hD hS => ?_)
                replace hP : va_P (dC, dI) vwCl [(q_t, .inr (8, [.int t_thrown, .ref q_t_text, .int t_textSize, .int t_place, .int t_depth, .int t_noon, .int t_later, .int t_walkers, .ref q_t_beat, .ref q_t_kind, .ref q_t_readSnow, .int t_readWalkers, .ref q_t_readWalker, .ref q_t_page, .ref q_t_trial, .ref q_t_book, .int t_acts, .ref q_t_kept, .ref q_t_isKept, .int t_marks, .ref q_t_markStep, .ref q_t_markTread, .long t_seed, .int t_stumbled, .ref q_t_order, .int t_lineMany, .int t_lineOrder, .int t_whoseMany, .int s0, .int t_restMany, .int t_restFirst, .ref q_t_gains, .ref q_t_value])), (q_t_markStep, .inl (cI, 6, .inl t_markStep)), (q_t_markTread, .inl (cI, 6, .inl t_markTread))] H := hP
                replace hD : va_D A [(q_t, .inr (8, [.int t_thrown, .ref q_t_text, .int t_textSize, .int t_place, .int t_depth, .int t_noon, .int t_later, .int t_walkers, .ref q_t_beat, .ref q_t_kind, .ref q_t_readSnow, .int t_readWalkers, .ref q_t_readWalker, .ref q_t_page, .ref q_t_trial, .ref q_t_book, .int t_acts, .ref q_t_kept, .ref q_t_isKept, .int t_marks, .ref q_t_markStep, .ref q_t_markTread, .long t_seed, .int t_stumbled, .ref q_t_order, .int t_lineMany, .int t_lineOrder, .int t_whoseMany, .int s0, .int t_restMany, .int t_restFirst, .ref q_t_gains, .ref q_t_value])), (q_t_markStep, .inl (cI, 6, .inl t_markStep)), (q_t_markTread, .inl (cI, 6, .inl t_markTread))] := hD
                refine lv_aload_n hx hb dX8_findWhose_128 rfl (lv_at hl 0 rfl) ?_
                refine lv_dup hx hb dX8_findWhose_129 rfl ?_
                refine va_get (D := (dC, dI)) (ci := 8) (v := .int t_whoseMany) (C := RX8) (T := TX8) (N := 33) hx hb hts hinX8 hown hK.1 hP 0 rfl rfl 27 (by decide) w_0 (fun _ h9 => h9) rfl dX8_findWhose_130 ?_
                refine lv_iload hx hb dX8_findWhose_133 (lv_at hl 4 rfl) ?_
                refine lv_if_eq (tgt := 142) hx hb dX8_findWhose_135 (by decide) (fun hc => ?_) (fun hc => ?_)
                · replace hf := ip hc hf
                  refine lv_iconst (v := 0) hx hb dX8_findWhose_142 (by decide) ?_
                  exact h_143 x3 0 t_whoseMany t_whoseMany s0 _ _ _ hP hS (lv_sub hl [0, 1, 2, 3] rfl) hf
                · replace hf := iq hc hf
                  refine lv_iconst (v := 1) hx hb dX8_findWhose_138 (by decide) ?_
                  refine lv_goto (tgt := 143) hx hb dX8_findWhose_139 (by decide) ?_
                  exact h_143 x3 1 t_whoseMany t_whoseMany s0 _ _ _ hP hS (lv_sub hl [0, 1, 2, 3] rfl) hf
              have h_121 : ∀ (x3 : Int32) (x4 : Int32) (t_whoseMany : Int32) (t_whoseFirst : Int32) (H : Heap) (locs : List Loc) (ls : Array Slot), va_P (dC, dI) vwCl [(q_t, .inr (8, [.int t_thrown, .ref q_t_text, .int t_textSize, .int t_place, .int t_depth, .int t_noon, .int t_later, .int t_walkers, .ref q_t_beat, .ref q_t_kind, .ref q_t_readSnow, .int t_readWalkers, .ref q_t_readWalker, .ref q_t_page, .ref q_t_trial, .ref q_t_book, .int t_acts, .ref q_t_kept, .ref q_t_isKept, .int t_marks, .ref q_t_markStep, .ref q_t_markTread, .long t_seed, .int t_stumbled, .ref q_t_order, .int t_lineMany, .int t_lineOrder, .int t_whoseMany, .int t_whoseFirst, .int t_restMany, .int t_restFirst, .ref q_t_gains, .ref q_t_value])), (q_t_markStep, .inl (cI, 6, .inl t_markStep)), (q_t_markTread, .inl (cI, 6, .inl t_markTread))] H → va_S A s.heap H locs → lv_has ls 6 [(0, .ref q_t), (1, .int x1), (2, .int x2), (3, .int x3), (4, .int x4)] → J_X8_findWhose_121 (L_X8_findWhose_13 t_marks t_markStep t_markTread fu13) (L_X8_findWhose_20 (L_X8_findWhose_13 t_marks t_markStep t_markTread fu13) x1 t_marks t_markStep t_markTread fu20) (L_X8_findWhose_33 (L_X8_findWhose_13 t_marks t_markStep t_markTread fu13) (L_X8_findWhose_20 (L_X8_findWhose_13 t_marks t_markStep t_markTread fu13) x1 t_marks t_markStep t_markTread fu20) x1 x2 t_marks t_markStep t_markTread fu33) x3 x4 t_whoseMany t_whoseFirst = some (o_t_whoseMany, o_t_whoseFirst) → W p l e rm_X8_findWhose s m args below meth c H locs 0 0 Q (F0 m 121 ls [.ref q_t]) := by
                intro x3 x4 t_whoseMany t_whoseFirst H locs ls hP hS hl hf
                have hD : va_D A [(q_t, .inr (8, [.int t_thrown, .ref q_t_text, .int t_textSize, .int t_place, .int t_depth, .int t_noon, .int t_later, .int t_walkers, .ref q_t_beat, .ref q_t_kind, .ref q_t_readSnow, .int t_readWalkers, .ref q_t_readWalker, .ref q_t_page, .ref q_t_trial, .ref q_t_book, .int t_acts, .ref q_t_kept, .ref q_t_isKept, .int t_marks, .ref q_t_markStep, .ref q_t_markTread, .long t_seed, .int t_stumbled, .ref q_t_order, .int t_lineMany, .int t_lineOrder, .int t_whoseMany, .int t_whoseFirst, .int t_restMany, .int t_restFirst, .ref q_t_gains, .ref q_t_value])), (q_t_markStep, .inl (cI, 6, .inl t_markStep)), (q_t_markTread, .inl (cI, 6, .inl t_markTread))] := wd hD0 rfl
                rw [J_X8_findWhose_121] at hf
                refine lv_aload_n hx hb dX8_findWhose_121 rfl (lv_at hl 0 rfl) ?_
                refine va_get (D := (dC, dI)) (ci := 8) (v := .int t_whoseFirst) (C := RX8) (T := TX8) (N := 33) hx hb hts hinX8 hown hK.1 hP 0 rfl rfl 28 (by decide) w_1 (fun _ h9 => h9) rfl dX8_findWhose_122 ?_
                exact h_125 x3 x4 t_whoseFirst t_whoseMany t_whoseFirst _ _ _ hP hS (lv_sub hl [0, 1, 2, 3, 4] rfl) hf
              have h_44 : ∀ (x3 : Int32) (t_whoseMany : Int32) (t_whoseFirst : Int32) (fu44 : Nat) (x4 : Int32) (x5 : Int32) (H : Heap) (locs : List Loc) (ls : Array Slot), va_P (dC, dI) vwCl [(q_t, .inr (8, [.int t_thrown, .ref q_t_text, .int t_textSize, .int t_place, .int t_depth, .int t_noon, .int t_later, .int t_walkers, .ref q_t_beat, .ref q_t_kind, .ref q_t_readSnow, .int t_readWalkers, .ref q_t_readWalker, .ref q_t_page, .ref q_t_trial, .ref q_t_book, .int t_acts, .ref q_t_kept, .ref q_t_isKept, .int t_marks, .ref q_t_markStep, .ref q_t_markTread, .long t_seed, .int t_stumbled, .ref q_t_order, .int t_lineMany, .int t_lineOrder, .int t_whoseMany, .int t_whoseFirst, .int t_restMany, .int t_restFirst, .ref q_t_gains, .ref q_t_value])), (q_t_markStep, .inl (cI, 6, .inl t_markStep)), (q_t_markTread, .inl (cI, 6, .inl t_markTread))] H → va_S A s.heap H locs → lv_has ls 6 [(0, .ref q_t), (1, .int x1), (2, .int x2), (3, .int x3), (4, .int x4), (5, .int x5)] → L_X8_findWhose_44 (L_X8_findWhose_13 t_marks t_markStep t_markTread fu13) (L_X8_findWhose_20 (L_X8_findWhose_13 t_marks t_markStep t_markTread fu13) x1 t_marks t_markStep t_markTread fu20) (L_X8_findWhose_33 (L_X8_findWhose_13 t_marks t_markStep t_markTread fu13) (L_X8_findWhose_20 (L_X8_findWhose_13 t_marks t_markStep t_markTread fu13) x1 t_marks t_markStep t_markTread fu20) x1 x2 t_marks t_markStep t_markTread fu33) x1 x2 x3 t_marks t_whoseMany t_whoseFirst t_markStep t_markTread fu44 x4 x5 = some (o_t_whoseMany, o_t_whoseFirst) → W p l e rm_X8_findWhose s m args below meth c H locs 0 0 Q (F0 m 44 ls []) := by
                intro x3 t_whoseMany t_whoseFirst fu44
                induction fu44 with
                | zero =>
                  intro x4 x5 H locs ls hP hS hl hf
                  rw [L_X8_findWhose_44] at hf
                  cases hf
                | succ fu44 ih44 =>
                  have h_86 : ∀ (x5 : Int32) (s0 : Int32) (H : Heap) (locs : List Loc) (ls : Array Slot), va_P (dC, dI) vwCl [(q_t, .inr (8, [.int t_thrown, .ref q_t_text, .int t_textSize, .int t_place, .int t_depth, .int t_noon, .int t_later, .int t_walkers, .ref q_t_beat, .ref q_t_kind, .ref q_t_readSnow, .int t_readWalkers, .ref q_t_readWalker, .ref q_t_page, .ref q_t_trial, .ref q_t_book, .int t_acts, .ref q_t_kept, .ref q_t_isKept, .int t_marks, .ref q_t_markStep, .ref q_t_markTread, .long t_seed, .int t_stumbled, .ref q_t_order, .int t_lineMany, .int t_lineOrder, .int t_whoseMany, .int t_whoseFirst, .int t_restMany, .int t_restFirst, .ref q_t_gains, .ref q_t_value])), (q_t_markStep, .inl (cI, 6, .inl t_markStep)), (q_t_markTread, .inl (cI, 6, .inl t_markTread))] H → va_S A s.heap H locs → lv_has ls 6 [(0, .ref q_t), (1, .int x1), (2, .int x2), (3, .int x3), (5, .int x5)] → J_X8_findWhose_86 (L_X8_findWhose_13 t_marks t_markStep t_markTread fu13) (L_X8_findWhose_20 (L_X8_findWhose_13 t_marks t_markStep t_markTread fu13) x1 t_marks t_markStep t_markTread fu20) (L_X8_findWhose_33 (L_X8_findWhose_13 t_marks t_markStep t_markTread fu13) (L_X8_findWhose_20 (L_X8_findWhose_13 t_marks t_markStep t_markTread fu13) x1 t_marks t_markStep t_markTread fu20) x1 x2 t_marks t_markStep t_markTread fu33) (L_X8_findWhose_44 (L_X8_findWhose_13 t_marks t_markStep t_markTread fu13) (L_X8_findWhose_20 (L_X8_findWhose_13 t_marks t_markStep t_markTread fu13) x1 t_marks t_markStep t_markTread fu20) (L_X8_findWhose_33 (L_X8_findWhose_13 t_marks t_markStep t_markTread fu13) (L_X8_findWhose_20 (L_X8_findWhose_13 t_marks t_markStep t_markTread fu13) x1 t_marks t_markStep t_markTread fu20) x1 x2 t_marks t_markStep t_markTread fu33) x1 x2 x3 t_marks t_whoseMany t_whoseFirst t_markStep t_markTread fu44) x5 s0 = some (o_t_whoseMany, o_t_whoseFirst) → W p l e rm_X8_findWhose s m args below meth c H locs 0 0 Q (F0 m 86 ls [.int s0]) := by
                    intro x5 s0 H locs ls hP hS hl hf
                    have hD : va_D A [(q_t, .inr (8, [.int t_thrown, .ref q_t_text, .int t_textSize, .int t_place, .int t_depth, .int t_noon, .int t_later, .int t_walkers, .ref q_t_beat, .ref q_t_kind, .ref q_t_readSnow, .int t_readWalkers, .ref q_t_readWalker, .ref q_t_page, .ref q_t_trial, .ref q_t_book, .int t_acts, .ref q_t_kept, .ref q_t_isKept, .int t_marks, .ref q_t_markStep, .ref q_t_markTread, .long t_seed, .int t_stumbled, .ref q_t_order, .int t_lineMany, .int t_lineOrder, .int t_whoseMany, .int t_whoseFirst, .int t_restMany, .int t_restFirst, .ref q_t_gains, .ref q_t_value])), (q_t_markStep, .inl (cI, 6, .inl t_markStep)), (q_t_markTread, .inl (cI, 6, .inl t_markTread))] := wd hD0 rfl
                    rw [J_X8_findWhose_86] at hf
                    refine lv_istore (lv' := [(4, .int s0), (0, .ref q_t), (1, .int x1), (2, .int x2), (3, .int x3), (5, .int x5)]) hx hb dX8_findWhose_86 hl (by decide) rfl (fun ls hl => ?_)
                    refine lv_iinc (v := (x5 + 1)) (lv' := [(5, .int (x5 + 1)), (4, .int s0), (0, .ref q_t), (1, .int x1), (2, .int x2), (3, .int x3)]) hx hb dX8_findWhose_88 hl (k := 5) rfl rfl (by decide) rfl (fun ls hl => ?_)
                    refine lv_goto (tgt := 44) hx hb dX8_findWhose_91 (by decide) ?_
                    exact ih44 s0 (x5 + 1) _ _ _ hP hS (lv_sub hl [2, 3, 4, 5, 1, 0] rfl) hf
                  have h_85 : ∀ (x5 : Int32) (H : Heap) (locs : List Loc) (ls : Array Slot), va_P (dC, dI) vwCl [(q_t, .inr (8, [.int t_thrown, .ref q_t_text, .int t_textSize, .int t_place, .int t_depth, .int t_noon, .int t_later, .int t_walkers, .ref q_t_beat, .ref q_t_kind, .ref q_t_readSnow, .int t_readWalkers, .ref q_t_readWalker, .ref q_t_page, .ref q_t_trial, .ref q_t_book, .int t_acts, .ref q_t_kept, .ref q_t_isKept, .int t_marks, .ref q_t_markStep, .ref q_t_markTread, .long t_seed, .int t_stumbled, .ref q_t_order, .int t_lineMany, .int t_lineOrder, .int t_whoseMany, .int t_whoseFirst, .int t_restMany, .int t_restFirst, .ref q_t_gains, .ref q_t_value])), (q_t_markStep, .inl (cI, 6, .inl t_markStep)), (q_t_markTread, .inl (cI, 6, .inl t_markTread))] H → va_S A s.heap H locs → lv_has ls 6 [(0, .ref q_t), (1, .int x1), (2, .int x2), (3, .int x3), (5, .int x5)] → J_X8_findWhose_85 (L_X8_findWhose_13 t_marks t_markStep t_markTread fu13) (L_X8_findWhose_20 (L_X8_findWhose_13 t_marks t_markStep t_markTread fu13) x1 t_marks t_markStep t_markTread fu20) (L_X8_findWhose_33 (L_X8_findWhose_13 t_marks t_markStep t_markTread fu13) (L_X8_findWhose_20 (L_X8_findWhose_13 t_marks t_markStep t_markTread fu13) x1 t_marks t_markStep t_markTread fu20) x1 x2 t_marks t_markStep t_markTread fu33) (L_X8_findWhose_44 (L_X8_findWhose_13 t_marks t_markStep t_markTread fu13) (L_X8_findWhose_20 (L_X8_findWhose_13 t_marks t_markStep t_markTread fu13) x1 t_marks t_markStep t_markTread fu20) (L_X8_findWhose_33 (L_X8_findWhose_13 t_marks t_markStep t_markTread fu13) (L_X8_findWhose_20 (L_X8_findWhose_13 t_marks t_markStep t_markTread fu13) x1 t_marks t_markStep t_markTread fu20) x1 x2 t_marks t_markStep t_markTread fu33) x1 x2 x3 t_marks t_whoseMany t_whoseFirst t_markStep t_markTread fu44) x5 = some (o_t_whoseMany, o_t_whoseFirst) → W p l e rm_X8_findWhose s m args below meth c H locs 0 0 Q (F0 m 85 ls []) := by
                    intro x5 H locs ls hP hS hl hf
                    have hD : va_D A [(q_t, .inr (8, [.int t_thrown, .ref q_t_text, .int t_textSize, .int t_place, .int t_depth, .int t_noon, .int t_later, .int t_walkers, .ref q_t_beat, .ref q_t_kind, .ref q_t_readSnow, .int t_readWalkers, .ref q_t_readWalker, .ref q_t_page, .ref q_t_trial, .ref q_t_book, .int t_acts, .ref q_t_kept, .ref q_t_isKept, .int t_marks, .ref q_t_markStep, .ref q_t_markTread, .long t_seed, .int t_stumbled, .ref q_t_order, .int t_lineMany, .int t_lineOrder, .int t_whoseMany, .int t_whoseFirst, .int t_restMany, .int t_restFirst, .ref q_t_gains, .ref q_t_value])), (q_t_markStep, .inl (cI, 6, .inl t_markStep)), (q_t_markTread, .inl (cI, 6, .inl t_markTread))] := wd hD0 rfl
                    rw [J_X8_findWhose_85] at hf
                    refine lv_iconst (v := 0) hx hb dX8_findWhose_85 (by decide) ?_
                    exact h_86 x5 0 _ _ _ hP hS (lv_sub hl [0, 1, 2, 3, 4] rfl) hf
                  intro x4 x5 H locs ls hP hS hl hf
                  have hD : va_D A [(q_t, .inr (8, [.int t_thrown, .ref q_t_text, .int t_textSize, .int t_place, .int t_depth, .int t_noon, .int t_later, .int t_walkers, .ref q_t_beat, .ref q_t_kind, .ref q_t_readSnow, .int t_readWalkers, .ref q_t_readWalker, .ref q_t_page, .ref q_t_trial, .ref q_t_book, .int t_acts, .ref q_t_kept, .ref q_t_isKept, .int t_marks, .ref q_t_markStep, .ref q_t_markTread, .long t_seed, .int t_stumbled, .ref q_t_order, .int t_lineMany, .int t_lineOrder, .int t_whoseMany, .int t_whoseFirst, .int t_restMany, .int t_restFirst, .ref q_t_gains, .ref q_t_value])), (q_t_markStep, .inl (cI, 6, .inl t_markStep)), (q_t_markTread, .inl (cI, 6, .inl t_markTread))] := wd hD0 rfl
                  rw [L_X8_findWhose_44] at hf
                  refine lv_iload hx hb dX8_findWhose_44 (lv_at hl 5 rfl) ?_
                  refine lv_aload_n hx hb dX8_findWhose_46 rfl (lv_at hl 0 rfl) ?_
                  refine va_get (D := (dC, dI)) (ci := 8) (v := .int t_marks) (C := RX8) (T := TX8) (N := 33) hx hb hts hinX8 hown hK.1 hP 0 rfl rfl 19 (by decide) w_2 (fun _ h9 => h9) rfl dX8_findWhose_47 ?_
                  refine lv_icmp_ge (tgt := 94) hx hb dX8_findWhose_50 (by decide) (fun hc => ?_) (fun hc => ?_)
                  · replace hf := ip hc hf
                    refine lv_aload_n hx hb dX8_findWhose_94 rfl (lv_at hl 0 rfl) ?_
                    refine lv_iload hx hb dX8_findWhose_95 (lv_at hl 4 rfl) ?_
                    refine lv_if_eq (tgt := 121) hx hb dX8_findWhose_97 (by decide) (fun hc => ?_) (fun hc => ?_)
                    · replace hf := ip hc hf
                      exact h_121 x3 x4 t_whoseMany t_whoseFirst _ _ _ hP hS (lv_sub hl [0, 1, 2, 3, 4] rfl) hf
                    · replace hf := iq hc hf
                      refine lv_aload_n hx hb dX8_findWhose_100 rfl (lv_at hl 0 rfl) ?_
                      refine va_get (D := (dC, dI)) (ci := 8) (v := .int t_whoseMany) (C := RX8) (T := TX8) (N := 33) hx hb hts hinX8 hown hK.1 hP 0 rfl rfl 27 (by decide) w_0 (fun _ h9 => h9) rfl dX8_findWhose_101 ?_
                      refine lv_if_ne (tgt := 121) hx hb dX8_findWhose_104 (by decide) (fun hc => ?_) (fun hc => ?_)
                      · replace hf := iq hc hf
                        exact h_121 x3 x4 t_whoseMany t_whoseFirst _ _ _ hP hS (lv_sub hl [0, 1, 2, 3, 4] rfl) hf
                      · replace hf := ip hc hf
                        refine lv_bipush (v := 100) hx hb dX8_findWhose_107 (by decide) ?_
                        refine lv_iload_n hx hb dX8_findWhose_109 rfl (lv_at hl 1 rfl) ?_
                        refine lv_imul hx hb dX8_findWhose_110 ?_
                        refine lv_bipush (v := 10) hx hb dX8_findWhose_111 (by decide) ?_
                        refine lv_iload_n hx hb dX8_findWhose_113 rfl (lv_at hl 2 rfl) ?_
                        refine lv_imul hx hb dX8_findWhose_114 ?_
                        refine lv_iadd hx hb dX8_findWhose_115 ?_
                        refine lv_iload_n hx hb dX8_findWhose_116 rfl (lv_at hl 3 rfl) ?_
                        refine lv_iadd hx hb dX8_findWhose_117 ?_
                        refine lv_goto (tgt := 125) hx hb dX8_findWhose_118 (by decide) ?_
                        exact h_125 x3 x4 (((100 * x1) + (10 * x2)) + x3) t_whoseMany t_whoseFirst _ _ _ hP hS (lv_sub hl [0, 1, 2, 3, 4] rfl) hf
                  · replace hf := iq hc hf
                    refine lv_iload hx hb dX8_findWhose_53 (lv_at hl 4 rfl) ?_
                    refine lv_if_eq (tgt := 85) hx hb dX8_findWhose_55 (by decide) (fun hc => ?_) (fun hc => ?_)
                    · replace hf := ip hc hf
                      exact h_85 x5 _ _ _ hP hS (lv_sub hl [0, 1, 2, 3, 5] rfl) hf
                    · replace hf := iq hc hf
                      refine lv_iload_n hx hb dX8_findWhose_58 rfl (lv_at hl 1 rfl) ?_
                      refine lv_iload_n hx hb dX8_findWhose_59 rfl (lv_at hl 2 rfl) ?_
                      refine lv_iload_n hx hb dX8_findWhose_60 rfl (lv_at hl 3 rfl) ?_
                      refine lv_aload_n hx hb dX8_findWhose_61 rfl (lv_at hl 0 rfl) ?_
                      refine va_get (D := (dC, dI)) (ci := 8) (v := .ref q_t_markStep) (C := RX8) (T := TX8) (N := 33) hx hb hts hinX8 hown hK.1 hP 0 rfl rfl 20 (by decide) w_3 (fun _ h9 => h9) rfl dX8_findWhose_62 ?_
                      refine lv_iload hx hb dX8_findWhose_65 (lv_at hl 5 rfl) ?_
                      refine kald hx hb hK.1 hP 1 0 rfl rfl dX8_findWhose_67 hf (fun v1 hf => ?_)
                      obtain ⟨r2, e4, hf⟩ := bd_ok hf
                      refine kSi (As := [.int x1, .int x2, .int x3, .int v1]) CF (va_cwS 4 hts gX8_findWhose_X8_treadBy rfl rfl rfl (by decide +kernel) ⟨Nat.le_of_ble_eq_true rfl, Nat.le_of_ble_eq_true rfl⟩) PU_blind hP hD hS hA [] (fun h1 h2 h3 => PU_pre hK h1 A h2 h3) (c_X8_treadBy l dC dI cI cZ _ x1 x2 x3 v1 r2 e4) rfl rfl rfl rfl hl.1 rfl (Nat.le_of_ble_eq_true rfl) dX8_findWhose_68 ⟨Nat.zero_le _, Nat.zero_le _⟩ (fun H locs hP hS => ?_)
                      replace hP : va_P (dC, dI) vwCl [(q_t, .inr (8, [.int t_thrown, .ref q_t_text, .int t_textSize, .int t_place, .int t_depth, .int t_noon, .int t_later, .int t_walkers, .ref q_t_beat, .ref q_t_kind, .ref q_t_readSnow, .int t_readWalkers, .ref q_t_readWalker, .ref q_t_page, .ref q_t_trial, .ref q_t_book, .int t_acts, .ref q_t_kept, .ref q_t_isKept, .int t_marks, .ref q_t_markStep, .ref q_t_markTread, .long t_seed, .int t_stumbled, .ref q_t_order, .int t_lineMany, .int t_lineOrder, .int t_whoseMany, .int t_whoseFirst, .int t_restMany, .int t_restFirst, .ref q_t_gains, .ref q_t_value])), (q_t_markStep, .inl (cI, 6, .inl t_markStep)), (q_t_markTread, .inl (cI, 6, .inl t_markTread))] H := hP
                      refine lv_aload_n hx hb dX8_findWhose_71 rfl (lv_at hl 0 rfl) ?_
                      refine va_get (D := (dC, dI)) (ci := 8) (v := .ref q_t_markTread) (C := RX8) (T := TX8) (N := 33) hx hb hts hinX8 hown hK.1 hP 0 rfl rfl 21 (by decide) w_4 (fun _ h9 => h9) rfl dX8_findWhose_72 ?_
                      refine lv_iload hx hb dX8_findWhose_75 (lv_at hl 5 rfl) ?_
                      refine kald hx hb hK.1 hP 2 0 rfl rfl dX8_findWhose_77 hf (fun v5 hf => ?_)
                      refine lv_icmp_ne (tgt := 85) hx hb dX8_findWhose_78 (by decide) (fun hc => ?_) (fun hc => ?_)
                      · replace hf := iq hc hf
                        exact h_85 x5 _ _ _ hP hS (lv_sub hl [0, 1, 2, 3, 5] rfl) hf
                      · replace hf := ip hc hf
                        refine lv_iconst (v := 1) hx hb dX8_findWhose_81 (by decide) ?_
                        refine lv_goto (tgt := 86) hx hb dX8_findWhose_82 (by decide) ?_
                        exact h_86 x5 1 _ _ _ hP hS (lv_sub hl [0, 1, 2, 3, 5] rfl) hf
              intro x3 t_whoseMany t_whoseFirst H locs ls hP hS hl hf
              have hD : va_D A [(q_t, .inr (8, [.int t_thrown, .ref q_t_text, .int t_textSize, .int t_place, .int t_depth, .int t_noon, .int t_later, .int t_walkers, .ref q_t_beat, .ref q_t_kind, .ref q_t_readSnow, .int t_readWalkers, .ref q_t_readWalker, .ref q_t_page, .ref q_t_trial, .ref q_t_book, .int t_acts, .ref q_t_kept, .ref q_t_isKept, .int t_marks, .ref q_t_markStep, .ref q_t_markTread, .long t_seed, .int t_stumbled, .ref q_t_order, .int t_lineMany, .int t_lineOrder, .int t_whoseMany, .int t_whoseFirst, .int t_restMany, .int t_restFirst, .ref q_t_gains, .ref q_t_value])), (q_t_markStep, .inl (cI, 6, .inl t_markStep)), (q_t_markTread, .inl (cI, 6, .inl t_markTread))] := wd hD0 rfl
              rw [L_X8_findWhose_33] at hf
              refine lv_iload_n hx hb dX8_findWhose_33 rfl (lv_at hl 3 rfl) ?_
              refine lv_iconst (v := 4) hx hb dX8_findWhose_34 (by decide) ?_
              refine lv_icmp_gt (tgt := 153) hx hb dX8_findWhose_35 (by decide) (fun hc => ?_) (fun hc => ?_)
              · replace hf := ip hc hf
                refine lv_iinc (v := (x2 + 1)) (lv' := [(2, .int (x2 + 1)), (0, .ref q_t), (1, .int x1), (3, .int x3)]) hx hb dX8_findWhose_153 hl (k := 2) rfl rfl (by decide) rfl (fun ls hl => ?_)
                refine lv_goto (tgt := 20) hx hb dX8_findWhose_156 (by decide) ?_
                exact ih20 (x2 + 1) t_whoseMany t_whoseFirst _ _ _ hP hS (lv_sub hl [1, 2, 0] rfl) hf
              · replace hf := iq hc hf
                refine lv_iconst (v := 1) hx hb dX8_findWhose_38 (by decide) ?_
                refine lv_istore (lv' := [(4, .int 1), (0, .ref q_t), (1, .int x1), (2, .int x2), (3, .int x3)]) hx hb dX8_findWhose_39 hl (by decide) rfl (fun ls hl => ?_)
                refine lv_iconst (v := 0) hx hb dX8_findWhose_41 (by decide) ?_
                refine lv_istore (lv' := [(5, .int 0), (4, .int 1), (0, .ref q_t), (1, .int x1), (2, .int x2), (3, .int x3)]) hx hb dX8_findWhose_42 hl (by decide) rfl (fun ls hl => ?_)
                exact h_44 x3 t_whoseMany t_whoseFirst fuelC 1 0 _ _ _ hP hS (lv_sub hl [2, 3, 4, 5, 1, 0] rfl) hf
          intro x2 t_whoseMany t_whoseFirst H locs ls hP hS hl hf
          have hD : va_D A [(q_t, .inr (8, [.int t_thrown, .ref q_t_text, .int t_textSize, .int t_place, .int t_depth, .int t_noon, .int t_later, .int t_walkers, .ref q_t_beat, .ref q_t_kind, .ref q_t_readSnow, .int t_readWalkers, .ref q_t_readWalker, .ref q_t_page, .ref q_t_trial, .ref q_t_book, .int t_acts, .ref q_t_kept, .ref q_t_isKept, .int t_marks, .ref q_t_markStep, .ref q_t_markTread, .long t_seed, .int t_stumbled, .ref q_t_order, .int t_lineMany, .int t_lineOrder, .int t_whoseMany, .int t_whoseFirst, .int t_restMany, .int t_restFirst, .ref q_t_gains, .ref q_t_value])), (q_t_markStep, .inl (cI, 6, .inl t_markStep)), (q_t_markTread, .inl (cI, 6, .inl t_markTread))] := wd hD0 rfl
          rw [L_X8_findWhose_20] at hf
          refine lv_iload_n hx hb dX8_findWhose_20 rfl (lv_at hl 2 rfl) ?_
          refine lv_bipush (v := 9) hx hb dX8_findWhose_21 (by decide) ?_
          refine lv_icmp_gt (tgt := 159) hx hb dX8_findWhose_23 (by decide) (fun hc => ?_) (fun hc => ?_)
          · replace hf := ip hc hf
            exact h_159 x1 t_whoseMany t_whoseFirst _ _ _ hP hS (lv_sub hl [0, 1] rfl) hf
          · replace hf := iq hc hf
            refine lv_iload_n hx hb dX8_findWhose_26 rfl (lv_at hl 1 rfl) ?_
            refine lv_iconst (v := 2) hx hb dX8_findWhose_27 (by decide) ?_
            refine lv_icmp_eq (tgt := 159) hx hb dX8_findWhose_28 (by decide) (fun hc => ?_) (fun hc => ?_)
            · replace hf := ip hc hf
              exact h_159 x1 t_whoseMany t_whoseFirst _ _ _ hP hS (lv_sub hl [0, 1] rfl) hf
            · replace hf := iq hc hf
              refine lv_iconst (v := 1) hx hb dX8_findWhose_31 (by decide) ?_
              refine lv_istore_n (lv' := [(3, .int 1), (0, .ref q_t), (1, .int x1), (2, .int x2)]) hx hb dX8_findWhose_32 rfl hl (by decide) rfl (fun ls hl => ?_)
              exact h_33 x2 fuelC 1 t_whoseMany t_whoseFirst _ _ _ hP hS (lv_sub hl [1, 2, 3, 0] rfl) hf
      intro x1 t_whoseMany t_whoseFirst H locs ls hP hS hl hf
      have hD : va_D A [(q_t, .inr (8, [.int t_thrown, .ref q_t_text, .int t_textSize, .int t_place, .int t_depth, .int t_noon, .int t_later, .int t_walkers, .ref q_t_beat, .ref q_t_kind, .ref q_t_readSnow, .int t_readWalkers, .ref q_t_readWalker, .ref q_t_page, .ref q_t_trial, .ref q_t_book, .int t_acts, .ref q_t_kept, .ref q_t_isKept, .int t_marks, .ref q_t_markStep, .ref q_t_markTread, .long t_seed, .int t_stumbled, .ref q_t_order, .int t_lineMany, .int t_lineOrder, .int t_whoseMany, .int t_whoseFirst, .int t_restMany, .int t_restFirst, .ref q_t_gains, .ref q_t_value])), (q_t_markStep, .inl (cI, 6, .inl t_markStep)), (q_t_markTread, .inl (cI, 6, .inl t_markTread))] := wd hD0 rfl
      rw [L_X8_findWhose_13] at hf
      refine lv_iload_n hx hb dX8_findWhose_13 rfl (lv_at hl 1 rfl) ?_
      refine lv_iconst (v := 4) hx hb dX8_findWhose_14 (by decide) ?_
      refine lv_icmp_ge (tgt := 165) hx hb dX8_findWhose_15 (by decide) (fun hc => ?_) (fun hc => ?_)
      · replace hf := ip hc hf
        obtain ⟨e0, hf⟩ := ij2 hf
        have e1 := hf
        exact hret _ _ _ _ (by rw [← e0, ← e1]; exact hP) hS dX8_findWhose_165
      · replace hf := iq hc hf
        refine lv_iconst (v := 1) hx hb dX8_findWhose_18 (by decide) ?_
        refine lv_istore_n (lv' := [(2, .int 1), (0, .ref q_t), (1, .int x1)]) hx hb dX8_findWhose_19 rfl hl (by decide) rfl (fun ls hl => ?_)
        exact h_20 x1 fuelC 1 t_whoseMany t_whoseFirst _ _ _ hP hS (lv_sub hl [1, 2, 0] rfl) hf
  rw [f_X8_findWhose] at hf
  refine lv_aload_n hx hb dX8_findWhose_0 rfl (lv_at hl 0 rfl) ?_
  refine lv_iconst (v := 0) hx hb dX8_findWhose_1 (by decide) ?_
  refine va_put (D := (dC, dI)) (ci := 8) (v := .int 0) (ty := .int) (C := RX8) (T := TX8) (N := 33) hx hb hts hinX8 tyX8 tyX8_ok nmX8 hown hK.1 hP hD hS 0 rfl rfl 27 (by decide) w_0 (fun _ h9 => h9) rfl (by decide +kernel) rfl rfl (Nat.le_of_ble_eq_true rfl) dX8_findWhose_2 (fun H locs hP hD hS => ?_)
  replace hP : va_P (dC, dI) vwCl [(q_t, .inr (8, [.int t_thrown, .ref q_t_text, .int t_textSize, .int t_place, .int t_depth, .int t_noon, .int t_later, .int t_walkers, .ref q_t_beat, .ref q_t_kind, .ref q_t_readSnow, .int t_readWalkers, .ref q_t_readWalker, .ref q_t_page, .ref q_t_trial, .ref q_t_book, .int t_acts, .ref q_t_kept, .ref q_t_isKept, .int t_marks, .ref q_t_markStep, .ref q_t_markTread, .long t_seed, .int t_stumbled, .ref q_t_order, .int t_lineMany, .int t_lineOrder, .int 0, .int t_whoseFirst, .int t_restMany, .int t_restFirst, .ref q_t_gains, .ref q_t_value])), (q_t_markStep, .inl (cI, 6, .inl t_markStep)), (q_t_markTread, .inl (cI, 6, .inl t_markTread))] H := hP
  replace hD : va_D A [(q_t, .inr (8, [.int t_thrown, .ref q_t_text, .int t_textSize, .int t_place, .int t_depth, .int t_noon, .int t_later, .int t_walkers, .ref q_t_beat, .ref q_t_kind, .ref q_t_readSnow, .int t_readWalkers, .ref q_t_readWalker, .ref q_t_page, .ref q_t_trial, .ref q_t_book, .int t_acts, .ref q_t_kept, .ref q_t_isKept, .int t_marks, .ref q_t_markStep, .ref q_t_markTread, .long t_seed, .int t_stumbled, .ref q_t_order, .int t_lineMany, .int t_lineOrder, .int 0, .int t_whoseFirst, .int t_restMany, .int t_restFirst, .ref q_t_gains, .ref q_t_value])), (q_t_markStep, .inl (cI, 6, .inl t_markStep)), (q_t_markTread, .inl (cI, 6, .inl t_markTread))] := hD
  refine lv_aload_n hx hb dX8_findWhose_5 rfl (lv_at hl 0 rfl) ?_
  refine lv_bipush (v := (-9)) hx hb dX8_findWhose_6 (by decide) ?_
  refine va_put (D := (dC, dI)) (ci := 8) (v := .int (-9)) (ty := .int) (C := RX8) (T := TX8) (N := 33) hx hb hts hinX8 tyX8 tyX8_ok nmX8 hown hK.1 hP hD hS 0 rfl rfl 28 (by decide) w_1 (fun _ h9 => h9) rfl (by decide +kernel) rfl rfl (Nat.le_of_ble_eq_true rfl) dX8_findWhose_8 (fun H locs hP hD hS => ?_)
  replace hP : va_P (dC, dI) vwCl [(q_t, .inr (8, [.int t_thrown, .ref q_t_text, .int t_textSize, .int t_place, .int t_depth, .int t_noon, .int t_later, .int t_walkers, .ref q_t_beat, .ref q_t_kind, .ref q_t_readSnow, .int t_readWalkers, .ref q_t_readWalker, .ref q_t_page, .ref q_t_trial, .ref q_t_book, .int t_acts, .ref q_t_kept, .ref q_t_isKept, .int t_marks, .ref q_t_markStep, .ref q_t_markTread, .long t_seed, .int t_stumbled, .ref q_t_order, .int t_lineMany, .int t_lineOrder, .int 0, .int (-9), .int t_restMany, .int t_restFirst, .ref q_t_gains, .ref q_t_value])), (q_t_markStep, .inl (cI, 6, .inl t_markStep)), (q_t_markTread, .inl (cI, 6, .inl t_markTread))] H := hP
  replace hD : va_D A [(q_t, .inr (8, [.int t_thrown, .ref q_t_text, .int t_textSize, .int t_place, .int t_depth, .int t_noon, .int t_later, .int t_walkers, .ref q_t_beat, .ref q_t_kind, .ref q_t_readSnow, .int t_readWalkers, .ref q_t_readWalker, .ref q_t_page, .ref q_t_trial, .ref q_t_book, .int t_acts, .ref q_t_kept, .ref q_t_isKept, .int t_marks, .ref q_t_markStep, .ref q_t_markTread, .long t_seed, .int t_stumbled, .ref q_t_order, .int t_lineMany, .int t_lineOrder, .int 0, .int (-9), .int t_restMany, .int t_restFirst, .ref q_t_gains, .ref q_t_value])), (q_t_markStep, .inl (cI, 6, .inl t_markStep)), (q_t_markTread, .inl (cI, 6, .inl t_markTread))] := hD
  refine lv_iconst (v := 0) hx hb dX8_findWhose_11 (by decide) ?_
  refine lv_istore_n (lv' := [(1, .int 0), (0, .ref q_t)]) hx hb dX8_findWhose_12 rfl hl (by decide) rfl (fun ls hl => ?_)
  exact h_13 fuelC 0 0 (-9) _ _ _ hP hS (lv_sub hl [1, 0] rfl) hf
