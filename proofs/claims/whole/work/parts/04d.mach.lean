-- X6_lowestBut X6_setOrder X6_lineAsFigures X1_bestLine X6_firstStanding X1_canDrillBy X6_stepNumber X6_treadOfOne X1_snowHolds X1_apart X1_drillsToTreadAs
abbrev rm_X6_lowestBut : Room := { frames := 0, cells := 0, slots := 0, locals := 0 }
set_option maxHeartbeats 4000000 in
set_option maxRecDepth 100000 in
theorem c_X6_lowestBut (l : Launch) (dC : Nat → ClassId) (dI : Nat → Nat → Nat) (cI cZ : ClassId) (sz : Nat) (x0 : Int32) (x1 : Int32) (r_ : Int32) (hf : f_X6_lowestBut x0 x1 = some r_) : Met l yX6_lowestBut wsX6_lowestBut rm_X6_lowestBut (va_Pc [.int x0, .int x1] (PU (dC, dI) cI cZ [] sz)) (va_Qi (fun (r : Int32) (_ : Unit) => r = r_) (fun _ t => va_P (dC, dI) vwCl [] t.heap) (va_A [] sz)) 0 0 (va_A [] sz) := by
  refine MetI (cc := cX6_lowestBut) (maxL := 4) (by decide) rfl (Nat.le_of_ble_eq_true rfl) (fun _ h => h) ?_
  intro p e s m args below meth c A Q ls hx CF hK hA hD hP hS hl hB hAe hsz hret
  have hb := CF.2.1
  have hml := CF.2.2.1
  have hown := CF.2.2.2.1
  have hts := CF.2.2.2.2
  have hD0 := hD
  replace hl : lv_has ls 4 [(0, .int x0), (1, .int x1)] := hl
  have h_4 : ∀ (x0 : Int32) (fu4 : Nat) (x2 : Int32) (x3 : Int32) (H : Heap) (locs : List Loc) (ls : Array Slot), va_P (dC, dI) vwCl [] H → va_S A s.heap H locs → lv_has ls 4 [(0, .int x0), (2, .int x2), (3, .int x3)] → L_X6_lowestBut_4 x0 fu4 x2 x3 = some r_ → W p l e rm_X6_lowestBut s m args below meth c H locs 0 0 Q (F0 m 4 ls []) := by
    intro x0 fu4
    induction fu4 with
    | zero =>
      intro x2 x3 H locs ls hP hS hl hf
      rw [L_X6_lowestBut_4] at hf
      cases hf
    | succ fu4 ih4 =>
      have h_26 : ∀ (x2 : Int32) (x3 : Int32) (H : Heap) (locs : List Loc) (ls : Array Slot), va_P (dC, dI) vwCl [] H → va_S A s.heap H locs → lv_has ls 4 [(0, .int x0), (2, .int x2), (3, .int x3)] → J_X6_lowestBut_26 (L_X6_lowestBut_4 x0 fu4) x2 x3 = some r_ → W p l e rm_X6_lowestBut s m args below meth c H locs 0 0 Q (F0 m 26 ls []) := by
        intro x2 x3 H locs ls hP hS hl hf
        have hD : va_D A [] := wd hD0 rfl
        rw [J_X6_lowestBut_26] at hf
        refine lv_iinc (v := (x3 + 1)) (lv' := [(3, .int (x3 + 1)), (0, .int x0), (2, .int x2)]) hx hb dX6_lowestBut_26 hl (k := 2) rfl rfl (by decide) rfl (fun ls hl => ?_)
        refine lv_goto (tgt := 4) hx hb dX6_lowestBut_29 (by decide) ?_
        exact ih4 x2 (x3 + 1) _ _ _ hP hS (lv_sub hl [1, 2, 0] rfl) hf
      intro x2 x3 H locs ls hP hS hl hf
      have hD : va_D A [] := wd hD0 rfl
      rw [L_X6_lowestBut_4] at hf
      refine lv_iload_n hx hb dX6_lowestBut_4 rfl (lv_at hl 2 rfl) ?_
      refine lv_iconst (v := 5) hx hb dX6_lowestBut_5 (by decide) ?_
      refine lv_icmp_ge (tgt := 32) hx hb dX6_lowestBut_6 (by decide) (fun hc => ?_) (fun hc => ?_)
      · replace hf := ip hc hf
        refine lv_iconst (v := 0) hx hb dX6_lowestBut_32 (by decide) ?_
        have e0 := ij1 hf
        refine W.eq (congrArg (fun z => F0 m 33 ls [.int z]) e0) ?_
        exact hret _ _ _ _ hP hS dX6_lowestBut_33
      · replace hf := iq hc hf
        refine lv_iload_n hx hb dX6_lowestBut_9 rfl (lv_at hl 0 rfl) ?_
        refine lv_iload_n hx hb dX6_lowestBut_10 rfl (lv_at hl 2 rfl) ?_
        refine lv_ishr hx hb dX6_lowestBut_11 ?_
        refine lv_iconst (v := 1) hx hb dX6_lowestBut_12 (by decide) ?_
        refine lv_iand hx hb dX6_lowestBut_13 ?_
        refine lv_if_eq (tgt := 26) hx hb dX6_lowestBut_14 (by decide) (fun hc => ?_) (fun hc => ?_)
        · replace hf := ip hc hf
          exact h_26 x2 x3 _ _ _ hP hS (lv_sub hl [0, 1, 2] rfl) hf
        · replace hf := iq hc hf
          refine lv_iload_n hx hb dX6_lowestBut_17 rfl (lv_at hl 1 rfl) ?_
          refine lv_if_ne (tgt := 23) hx hb dX6_lowestBut_18 (by decide) (fun hc => ?_) (fun hc => ?_)
          · replace hf := iq hc hf
            refine lv_iinc (v := (x2 + (-1))) (lv' := [(2, .int (x2 + (-1))), (0, .int x0), (3, .int x3)]) hx hb dX6_lowestBut_23 hl (k := 1) rfl rfl (by decide) rfl (fun ls hl => ?_)
            exact h_26 (x2 + (-1)) x3 _ _ _ hP hS (lv_sub hl [1, 0, 2] rfl) hf
          · replace hf := ip hc hf
            refine lv_iload_n hx hb dX6_lowestBut_21 rfl (lv_at hl 2 rfl) ?_
            have e0 := ij1 hf
            refine W.eq (congrArg (fun z => F0 m 22 ls [.int z]) e0) ?_
            exact hret _ _ _ _ hP hS dX6_lowestBut_22
  rw [f_X6_lowestBut] at hf
  refine lv_iload_n hx hb dX6_lowestBut_0 rfl (lv_at hl 1 rfl) ?_
  refine lv_istore_n (lv' := [(2, .int x1), (0, .int x0), (1, .int x1)]) hx hb dX6_lowestBut_1 rfl hl (by decide) rfl (fun ls hl => ?_)
  refine lv_iconst (v := 0) hx hb dX6_lowestBut_2 (by decide) ?_
  refine lv_istore_n (lv' := [(3, .int 0), (2, .int x1), (0, .int x0), (1, .int x1)]) hx hb dX6_lowestBut_3 rfl hl (by decide) rfl (fun ls hl => ?_)
  exact h_4 x0 fuelC x1 0 _ _ _ hP hS (lv_sub hl [2, 1, 0] rfl) hf
abbrev rm_X6_setOrder : Room := { frames := 1, cells := 0, slots := 0, locals := 23 }
set_option maxHeartbeats 4000000 in
set_option maxRecDepth 100000 in
theorem c_X6_setOrder (l : Launch) (dC : Nat → ClassId) (dI : Nat → Nat → Nat) (cI cZ : ClassId) (tF : Nat) (q_t q_t_told q_t_line q_t_strides q_t_strains q_t_told_beats q_t_told_kinds : Nat) (sz : Nat) (t_down : Int32) (t_steps : Int32) (t_told_count : Int32) (t_told_depth : Int32) (t_told_noon : Int32) (t_told_depthBehind : Int32) (t_line : Nat → Int32) (x1 : Int32) (o_t_line : Nat → Int32) (hf : f_X6_setOrder x1 t_told_count t_line = some o_t_line) : Met l yX6_setOrder wsX6_setOrder rm_X6_setOrder (va_Pc [.ref q_t, .int x1] (PUS (dC, dI) cI cZ tF [(q_t, .inr (6, [.ref q_t_told, .ref q_t_line, .ref q_t_strides, .ref q_t_strains, .int t_down, .int t_steps])), (q_t_told, .inr (3, [.ref q_t_told_beats, .ref q_t_told_kinds, .int t_told_count, .int t_told_depth, .int t_told_noon, .int t_told_depthBehind])), (q_t_line, .inl (cI, 5, .inl t_line))] sz)) (va_Qv (fun (_ : Unit) => True) (fun _ t => va_P (dC, dI) vwCl [(q_t, .inr (6, [.ref q_t_told, .ref q_t_line, .ref q_t_strides, .ref q_t_strains, .int t_down, .int t_steps])), (q_t_told, .inr (3, [.ref q_t_told_beats, .ref q_t_told_kinds, .int t_told_count, .int t_told_depth, .int t_told_noon, .int t_told_depthBehind])), (q_t_line, .inl (cI, 5, .inl o_t_line))] t.heap) (va_A [(q_t, .inr (6, [.ref q_t_told, .ref q_t_line, .ref q_t_strides, .ref q_t_strains, .int t_down, .int t_steps])), (q_t_told, .inr (3, [.ref q_t_told_beats, .ref q_t_told_kinds, .int t_told_count, .int t_told_depth, .int t_told_noon, .int t_told_depthBehind])), (q_t_line, .inl (cI, 5, .inl t_line))] sz)) 0 0 (va_A [(q_t, .inr (6, [.ref q_t_told, .ref q_t_line, .ref q_t_strides, .ref q_t_strains, .int t_down, .int t_steps])), (q_t_told, .inr (3, [.ref q_t_told_beats, .ref q_t_told_kinds, .int t_told_count, .int t_told_depth, .int t_told_noon, .int t_told_depthBehind])), (q_t_line, .inl (cI, 5, .inl t_line))] sz) := by
  refine MetV (cc := cX6_setOrder) (maxL := 7) (by decide) rfl (Nat.le_of_ble_eq_true rfl) (fun _ h => h.1) ?_
  intro p e s m args below meth c A Q ls hx CF hK hA hD hP hS hl hB hAe hsz hret
  have hb := CF.2.1
  have hml := CF.2.2.1
  have hown := CF.2.2.2.1
  have hts := CF.2.2.2.2
  have hD0 := hD
  replace hl : lv_has ls 7 [(0, .ref q_t), (1, .int x1)] := hl
  have hFS : FS tF A s := by rw [hAe]; exact hB.2
  have hinX6 : ∀ w ∈ wsX60, w ∈ wsX6_setOrder := fun _ h => List.mem_cons_of_mem _ (List.mem_append_left _ (List.mem_append_right _ h))
  have hinX3 : ∀ w ∈ wsX30, w ∈ wsX6_setOrder := fun _ h => List.mem_cons_of_mem _ (List.mem_append_right _ h)
  have w_0 := hts (.fieldLink RX6 21 "PassInStep$Yard" "told" "LPassInStep$Party;") (by decide +kernel)
  have w_1 := hts (.initialized RX7) (by decide +kernel)
  have w_2 := hts (.static yX7_at) (by decide +kernel)
  have w_3 := hts (.methodLink RX6 117 Lib.Math.max.name) (by decide +kernel)
  have w_4 := hts (.static Lib.Math.max.name) (by decide +kernel)
  have w_5 := hts (.initialized "java/lang/Math") (by decide +kernel)
  have w_6 := hts (.code Lib.Math.max.name Lib.Math.max.code 2 (some .int)) (by decide +kernel)
  have w_7 := hts (.fieldLink RX6 9 "PassInStep$Yard" "line" "[I") (by decide +kernel)
  have w_8 := hts (.static yX7_put) (by decide +kernel)
  have h_17 : ∀ (fu17 : Nat) (x2 : Int32) (x3 : Int32) (x4 : Int32) (t_line : Nat → Int32) (H : Heap) (locs : List Loc) (ls : Array Slot), va_P (dC, dI) vwCl [(q_t, .inr (6, [.ref q_t_told, .ref q_t_line, .ref q_t_strides, .ref q_t_strains, .int t_down, .int t_steps])), (q_t_told, .inr (3, [.ref q_t_told_beats, .ref q_t_told_kinds, .int t_told_count, .int t_told_depth, .int t_told_noon, .int t_told_depthBehind])), (q_t_line, .inl (cI, 5, .inl t_line))] H → va_S A s.heap H locs → lv_has ls 7 [(0, .ref q_t), (2, .int x2), (3, .int x3), (4, .int x4)] → L_X6_setOrder_17 t_told_count fu17 x2 x3 x4 t_line = some o_t_line → W p l e rm_X6_setOrder s m args below meth c H locs 0 0 Q (F0 m 17 ls []) := by
    intro fu17
    induction fu17 with
    | zero =>
      intro x2 x3 x4 t_line H locs ls hP hS hl hf
      rw [L_X6_setOrder_17] at hf
      cases hf
    | succ fu17 ih17 =>
      intro x2 x3 x4 t_line H locs ls hP hS hl hf
      have hD : va_D A [(q_t, .inr (6, [.ref q_t_told, .ref q_t_line, .ref q_t_strides, .ref q_t_strains, .int t_down, .int t_steps])), (q_t_told, .inr (3, [.ref q_t_told_beats, .ref q_t_told_kinds, .int t_told_count, .int t_told_depth, .int t_told_noon, .int t_told_depthBehind])), (q_t_line, .inl (cI, 5, .inl t_line))] := wd hD0 rfl
      rw [L_X6_setOrder_17] at hf
      refine lv_iload hx hb dX6_setOrder_17 (lv_at hl 3 rfl) ?_
      refine lv_aload_n hx hb dX6_setOrder_19 rfl (lv_at hl 0 rfl) ?_
      refine va_get (D := (dC, dI)) (ci := 6) (v := .ref q_t_told) (C := RX6) (T := TX6) (N := 6) hx hb hts hinX6 hown hK.1 hP 0 rfl rfl 0 (by decide) w_0 (fun _ h9 => h9) rfl dX6_setOrder_20 ?_
      obtain ⟨r1, e3, hf⟩ := bd_ok hf
      refine kVi (As := []) CF (cwV 0 hts gX6_setOrder_X3_size rfl rfl rfl (by decide +kernel) ⟨Nat.le_of_ble_eq_true rfl, Nat.le_of_ble_eq_true rfl⟩) PU_blind hP hD hS hA (va_recv hK.1 hP (ci := 3) (q0 := 1) rfl rfl) [1] (fun h1 h2 h3 => PU_pre hK h1 A h2 h3) (c_X3_size l dC dI cI cZ q_t_told q_t_told_beats q_t_told_kinds _ t_told_count t_told_depth t_told_noon t_told_depthBehind r1 e3) rfl rfl rfl rfl hl.1 rfl (Nat.le_of_ble_eq_true rfl) dX6_setOrder_23 ⟨Nat.zero_le _, Nat.zero_le _⟩ (fun H locs hP hS => ?_)
      replace hP : va_P (dC, dI) vwCl [(q_t, .inr (6, [.ref q_t_told, .ref q_t_line, .ref q_t_strides, .ref q_t_strains, .int t_down, .int t_steps])), (q_t_told, .inr (3, [.ref q_t_told_beats, .ref q_t_told_kinds, .int t_told_count, .int t_told_depth, .int t_told_noon, .int t_told_depthBehind])), (q_t_line, .inl (cI, 5, .inl t_line))] H := hP
      refine lv_icmp_ge (tgt := 94) hx hb dX6_setOrder_26 (by decide) (fun hc => ?_) (fun hc => ?_)
      · replace hf := ip hc hf
        have e0 := ij1 hf
        exact hret _ _ _ _ (by rw [← e0]; exact hP) hS dX6_setOrder_94
      · replace hf := iq hc hf
        refine lv_iconst (v := 1) hx hb dX6_setOrder_29 (by decide) ?_
        refine va_getsN (v := .ref tF) (host := "PassInStep") hx hb hFS.1 hS hown (va_Nw.use rfl (nwG_X6_114 hK.2)) (fun _ h9 => h9) dX6_setOrder_30 ?_
        refine lv_aload_n hx hb dX6_setOrder_33 rfl (lv_at hl 0 rfl) ?_
        refine va_get (D := (dC, dI)) (ci := 6) (v := .ref q_t_told) (C := RX6) (T := TX6) (N := 6) hx hb hts hinX6 hown hK.1 hP 0 rfl rfl 0 (by decide) w_0 (fun _ h9 => h9) rfl dX6_setOrder_34 ?_
        obtain ⟨r4, e6, hf⟩ := bd_ok hf
        refine kVi (As := []) CF (cwV 0 hts gX6_setOrder_X3_size rfl rfl rfl (by decide +kernel) ⟨Nat.le_of_ble_eq_true rfl, Nat.le_of_ble_eq_true rfl⟩) PU_blind hP hD hS hA (va_recv hK.1 hP (ci := 3) (q0 := 1) rfl rfl) [1] (fun h1 h2 h3 => PU_pre hK h1 A h2 h3) (c_X3_size l dC dI cI cZ q_t_told q_t_told_beats q_t_told_kinds _ t_told_count t_told_depth t_told_noon t_told_depthBehind r4 e6) rfl rfl rfl rfl hl.1 rfl (Nat.le_of_ble_eq_true rfl) dX6_setOrder_37 ⟨Nat.zero_le _, Nat.zero_le _⟩ (fun H locs hP hS => ?_)
        replace hP : va_P (dC, dI) vwCl [(q_t, .inr (6, [.ref q_t_told, .ref q_t_line, .ref q_t_strides, .ref q_t_strains, .int t_down, .int t_steps])), (q_t_told, .inr (3, [.ref q_t_told_beats, .ref q_t_told_kinds, .int t_told_count, .int t_told_depth, .int t_told_noon, .int t_told_depthBehind])), (q_t_line, .inl (cI, 5, .inl t_line))] H := hP
        refine lv_iconst (v := 1) hx hb dX6_setOrder_40 (by decide) ?_
        refine lv_isub hx hb dX6_setOrder_41 ?_
        refine lv_iload hx hb dX6_setOrder_42 (lv_at hl 3 rfl) ?_
        refine lv_isub hx hb dX6_setOrder_44 ?_
        obtain ⟨r7, e9, hf⟩ := bd_ok hf
        refine kNi (As := [.ref tF, .int ((r4 - 1) - x4)]) CF ⟨va_cnB 2 hts gX6_setOrder_X7_at_n48 rfl rfl rfl (nw_X6_48 hK.2) w_1 (by decide +kernel) ⟨Nat.le_of_ble_eq_true rfl, Nat.le_of_ble_eq_true rfl⟩, w_2, trivial⟩ PUS_blind hP hD hS hA [] (fun h1 h2 h3 => PUS_pre hK hFS hS h1 h2 h3) (c_X7_at_st l dC dI cI cZ tF _ ((r4 - 1) - x4) r7 e9) rfl rfl rfl rfl hl.1 rfl (Nat.le_of_ble_eq_true rfl) dX6_setOrder_45 ⟨Nat.zero_le _, Nat.zero_le _⟩ (fun H locs hP hS => ?_)
        replace hP : va_P (dC, dI) vwCl [(q_t, .inr (6, [.ref q_t_told, .ref q_t_line, .ref q_t_strides, .ref q_t_strains, .int t_down, .int t_steps])), (q_t_told, .inr (3, [.ref q_t_told_beats, .ref q_t_told_kinds, .int t_told_count, .int t_told_depth, .int t_told_noon, .int t_told_depthBehind])), (q_t_line, .inl (cI, 5, .inl t_line))] H := hP
        refine va_mmax hx hb (hml.trans hl.1.symm) hown w_3 w_4 w_5 w_6 (Nat.le_of_ble_eq_true rfl) (Nat.le_of_ble_eq_true rfl) (Nat.zero_le _) (Nat.zero_le _) dX6_setOrder_48 ?_
        refine lv_istore (lv' := [(5, .int (if 1 < r7 then r7 else 1)), (0, .ref q_t), (2, .int x2), (3, .int x3), (4, .int x4)]) hx hb dX6_setOrder_51 hl (by decide) rfl (fun ls hl => ?_)
        refine lv_iload_n hx hb dX6_setOrder_53 rfl (lv_at hl 2 rfl) ?_
        refine lv_iload_n hx hb dX6_setOrder_54 rfl (lv_at hl 3 rfl) ?_
        refine lv_iload hx hb dX6_setOrder_55 (lv_at hl 0 rfl) ?_
        obtain ⟨hne, hf⟩ := dv_ok hf
        refine lv_idiv hx hb dX6_setOrder_57 hne ?_
        obtain ⟨r10, e12, hf⟩ := bd_ok hf
        refine kSi (As := [.int x2, .int (x3 / (if 1 < r7 then r7 else 1))]) CF (va_cwS 2 hts gX6_setOrder_X6_lowestBut rfl rfl rfl (by decide +kernel) ⟨Nat.le_of_ble_eq_true rfl, Nat.le_of_ble_eq_true rfl⟩) PU_blind hP hD hS hA [] (fun h1 h2 h3 => PU_pre hK h1 A h2 h3) (c_X6_lowestBut l dC dI cI cZ _ x2 (x3 / (if 1 < r7 then r7 else 1)) r10 e12) rfl rfl rfl rfl hl.1 rfl (Nat.le_of_ble_eq_true rfl) dX6_setOrder_58 ⟨Nat.zero_le _, Nat.zero_le _⟩ (fun H locs hP hS => ?_)
        replace hP : va_P (dC, dI) vwCl [(q_t, .inr (6, [.ref q_t_told, .ref q_t_line, .ref q_t_strides, .ref q_t_strains, .int t_down, .int t_steps])), (q_t_told, .inr (3, [.ref q_t_told_beats, .ref q_t_told_kinds, .int t_told_count, .int t_told_depth, .int t_told_noon, .int t_told_depthBehind])), (q_t_line, .inl (cI, 5, .inl t_line))] H := hP
        refine lv_istore (lv' := [(6, .int r10), (5, .int (if 1 < r7 then r7 else 1)), (0, .ref q_t), (2, .int x2), (3, .int x3), (4, .int x4)]) hx hb dX6_setOrder_61 hl (by decide) rfl (fun ls hl => ?_)
        refine lv_iload_n hx hb dX6_setOrder_63 rfl (lv_at hl 4 rfl) ?_
        refine lv_iload hx hb dX6_setOrder_64 (lv_at hl 1 rfl) ?_
        obtain ⟨hne, hf⟩ := dv_ok hf
        refine lv_irem hx hb dX6_setOrder_66 hne ?_
        refine lv_istore_n (lv' := [(3, .int (x3 - x3 / (if 1 < r7 then r7 else 1) * (if 1 < r7 then r7 else 1))), (6, .int r10), (5, .int (if 1 < r7 then r7 else 1)), (0, .ref q_t), (2, .int x2), (4, .int x4)]) hx hb dX6_setOrder_67 rfl hl (by decide) rfl (fun ls hl => ?_)
        refine lv_iload_n hx hb dX6_setOrder_68 rfl (lv_at hl 4 rfl) ?_
        refine lv_iconst (v := 1) hx hb dX6_setOrder_69 (by decide) ?_
        refine lv_iload hx hb dX6_setOrder_70 (lv_at hl 1 rfl) ?_
        refine lv_ishl hx hb dX6_setOrder_72 ?_
        refine lv_iconst (v := (-1)) hx hb dX6_setOrder_73 (by decide) ?_
        refine lv_ixor hx hb dX6_setOrder_74 ?_
        refine lv_iand hx hb dX6_setOrder_75 ?_
        refine lv_istore_n (lv' := [(2, .int (x2 &&& (((1 : Int32) <<< (r10 &&& 31)) ^^^ (-1)))), (3, .int (x3 - x3 / (if 1 < r7 then r7 else 1) * (if 1 < r7 then r7 else 1))), (6, .int r10), (5, .int (if 1 < r7 then r7 else 1)), (0, .ref q_t), (4, .int x4)]) hx hb dX6_setOrder_76 rfl hl (by decide) rfl (fun ls hl => ?_)
        refine lv_aload_n hx hb dX6_setOrder_77 rfl (lv_at hl 4 rfl) ?_
        refine va_get (D := (dC, dI)) (ci := 6) (v := .ref q_t_line) (C := RX6) (T := TX6) (N := 6) hx hb hts hinX6 hown hK.1 hP 0 rfl rfl 1 (by decide) w_7 (fun _ h9 => h9) rfl dX6_setOrder_78 ?_
        refine lv_iload hx hb dX6_setOrder_81 (lv_at hl 5 rfl) ?_
        refine lv_iload hx hb dX6_setOrder_83 (lv_at hl 2 rfl) ?_
        obtain ⟨o13, e15, hf⟩ := bd_ok hf
        refine kNv (As := [.ref q_t_line, .int x4, .int r10]) CF ⟨va_cnB 3 hts gX6_setOrder_X7_put_n25 rfl rfl rfl (nw_X6_25 hK.2) w_1 (by decide +kernel) ⟨Nat.le_of_ble_eq_true rfl, Nat.le_of_ble_eq_true rfl⟩, w_8, trivial⟩ PU_blind hP hD hS hA [2] (fun h1 h2 h3 => PU_pre hK h1 A h2 h3) (c_X7_put l dC dI cI cZ q_t_line _ t_line 5 x4 r10 o13 e15) rfl rfl rfl rfl hl.1 rfl (Nat.le_of_ble_eq_true rfl) dX6_setOrder_85 ⟨Nat.zero_le _, Nat.zero_le _⟩ (fun H locs hP hS => ?_)
        replace hP : va_P (dC, dI) vwCl [(q_t, .inr (6, [.ref q_t_told, .ref q_t_line, .ref q_t_strides, .ref q_t_strains, .int t_down, .int t_steps])), (q_t_told, .inr (3, [.ref q_t_told_beats, .ref q_t_told_kinds, .int t_told_count, .int t_told_depth, .int t_told_noon, .int t_told_depthBehind])), (q_t_line, .inl (cI, 5, .inl o13))] H := hP
        replace hD : va_D A [(q_t, .inr (6, [.ref q_t_told, .ref q_t_line, .ref q_t_strides, .ref q_t_strains, .int t_down, .int t_steps])), (q_t_told, .inr (3, [.ref q_t_told_beats, .ref q_t_told_kinds, .int t_told_count, .int t_told_depth, .int t_told_noon, .int t_told_depthBehind])), (q_t_line, .inl (cI, 5, .inl o13))] := wd hD rfl
        refine lv_iinc (v := (x4 + 1)) (lv' := [(4, .int (x4 + 1)), (2, .int (x2 &&& (((1 : Int32) <<< (r10 &&& 31)) ^^^ (-1)))), (3, .int (x3 - x3 / (if 1 < r7 then r7 else 1) * (if 1 < r7 then r7 else 1))), (6, .int r10), (5, .int (if 1 < r7 then r7 else 1)), (0, .ref q_t)]) hx hb dX6_setOrder_88 hl (k := 5) rfl rfl (by decide) rfl (fun ls hl => ?_)
        refine lv_goto (tgt := 17) hx hb dX6_setOrder_91 (by decide) ?_
        exact ih17 (x2 &&& (((1 : Int32) <<< (r10 &&& 31)) ^^^ (-1))) (x3 - x3 / (if 1 < r7 then r7 else 1) * (if 1 < r7 then r7 else 1)) (x4 + 1) o13 _ _ _ hP hS (lv_sub hl [5, 1, 2, 0] rfl) hf
  rw [f_X6_setOrder] at hf
  refine lv_iconst (v := 1) hx hb dX6_setOrder_0 (by decide) ?_
  refine lv_aload_n hx hb dX6_setOrder_1 rfl (lv_at hl 0 rfl) ?_
  refine va_get (D := (dC, dI)) (ci := 6) (v := .ref q_t_told) (C := RX6) (T := TX6) (N := 6) hx hb hts hinX6 hown hK.1 hP 0 rfl rfl 0 (by decide) w_0 (fun _ h9 => h9) rfl dX6_setOrder_2 ?_
  obtain ⟨r16, e18, hf⟩ := bd_ok hf
  refine kVi (As := []) CF (cwV 0 hts gX6_setOrder_X3_size rfl rfl rfl (by decide +kernel) ⟨Nat.le_of_ble_eq_true rfl, Nat.le_of_ble_eq_true rfl⟩) PU_blind hP hD hS hA (va_recv hK.1 hP (ci := 3) (q0 := 1) rfl rfl) [1] (fun h1 h2 h3 => PU_pre hK h1 A h2 h3) (c_X3_size l dC dI cI cZ q_t_told q_t_told_beats q_t_told_kinds _ t_told_count t_told_depth t_told_noon t_told_depthBehind r16 e18) rfl rfl rfl rfl hl.1 rfl (Nat.le_of_ble_eq_true rfl) dX6_setOrder_5 ⟨Nat.zero_le _, Nat.zero_le _⟩ (fun H locs hP hS => ?_)
  replace hP : va_P (dC, dI) vwCl [(q_t, .inr (6, [.ref q_t_told, .ref q_t_line, .ref q_t_strides, .ref q_t_strains, .int t_down, .int t_steps])), (q_t_told, .inr (3, [.ref q_t_told_beats, .ref q_t_told_kinds, .int t_told_count, .int t_told_depth, .int t_told_noon, .int t_told_depthBehind])), (q_t_line, .inl (cI, 5, .inl t_line))] H := hP
  refine lv_ishl hx hb dX6_setOrder_8 ?_
  refine lv_iconst (v := 1) hx hb dX6_setOrder_9 (by decide) ?_
  refine lv_isub hx hb dX6_setOrder_10 ?_
  refine lv_istore_n (lv' := [(2, .int (((1 : Int32) <<< (r16 &&& 31)) - 1)), (0, .ref q_t), (1, .int x1)]) hx hb dX6_setOrder_11 rfl hl (by decide) rfl (fun ls hl => ?_)
  refine lv_iload_n hx hb dX6_setOrder_12 rfl (lv_at hl 2 rfl) ?_
  refine lv_istore_n (lv' := [(3, .int x1), (2, .int (((1 : Int32) <<< (r16 &&& 31)) - 1)), (0, .ref q_t), (1, .int x1)]) hx hb dX6_setOrder_13 rfl hl (by decide) rfl (fun ls hl => ?_)
  refine lv_iconst (v := 0) hx hb dX6_setOrder_14 (by decide) ?_
  refine lv_istore (lv' := [(4, .int 0), (3, .int x1), (2, .int (((1 : Int32) <<< (r16 &&& 31)) - 1)), (0, .ref q_t), (1, .int x1)]) hx hb dX6_setOrder_15 hl (by decide) rfl (fun ls hl => ?_)
  exact h_17 fuelC (((1 : Int32) <<< (r16 &&& 31)) - 1) x1 0 t_line _ _ _ hP hS (lv_sub hl [3, 2, 1, 0] rfl) hf
abbrev rm_X6_lineAsFigures : Room := { frames := 2, cells := 0, slots := 0, locals := 42 }
set_option maxHeartbeats 4000000 in
set_option maxRecDepth 100000 in
theorem c_X6_lineAsFigures (l : Launch) (dC : Nat → ClassId) (dI : Nat → Nat → Nat) (cI cZ : ClassId) (q_t q_t_told q_t_line q_t_strides q_t_strains q_t_told_beats q_t_told_kinds : Nat) (sz : Nat) (t_down : Int32) (t_steps : Int32) (t_told_count : Int32) (t_told_depth : Int32) (t_told_noon : Int32) (t_told_depthBehind : Int32) (t_line : Nat → Int32) (r_ : Int32) (hf : f_X6_lineAsFigures t_told_count t_line = some r_) : Met l yX6_lineAsFigures wsX6_lineAsFigures rm_X6_lineAsFigures (va_Pc [.ref q_t] (PU (dC, dI) cI cZ [(q_t, .inr (6, [.ref q_t_told, .ref q_t_line, .ref q_t_strides, .ref q_t_strains, .int t_down, .int t_steps])), (q_t_told, .inr (3, [.ref q_t_told_beats, .ref q_t_told_kinds, .int t_told_count, .int t_told_depth, .int t_told_noon, .int t_told_depthBehind])), (q_t_line, .inl (cI, 5, .inl t_line))] sz)) (va_Qi (fun (r : Int32) (_ : Unit) => r = r_) (fun _ t => va_P (dC, dI) vwCl [(q_t, .inr (6, [.ref q_t_told, .ref q_t_line, .ref q_t_strides, .ref q_t_strains, .int t_down, .int t_steps])), (q_t_told, .inr (3, [.ref q_t_told_beats, .ref q_t_told_kinds, .int t_told_count, .int t_told_depth, .int t_told_noon, .int t_told_depthBehind])), (q_t_line, .inl (cI, 5, .inl t_line))] t.heap) (va_A [(q_t, .inr (6, [.ref q_t_told, .ref q_t_line, .ref q_t_strides, .ref q_t_strains, .int t_down, .int t_steps])), (q_t_told, .inr (3, [.ref q_t_told_beats, .ref q_t_told_kinds, .int t_told_count, .int t_told_depth, .int t_told_noon, .int t_told_depthBehind])), (q_t_line, .inl (cI, 5, .inl t_line))] sz)) 0 0 (va_A [(q_t, .inr (6, [.ref q_t_told, .ref q_t_line, .ref q_t_strides, .ref q_t_strains, .int t_down, .int t_steps])), (q_t_told, .inr (3, [.ref q_t_told_beats, .ref q_t_told_kinds, .int t_told_count, .int t_told_depth, .int t_told_noon, .int t_told_depthBehind])), (q_t_line, .inl (cI, 5, .inl t_line))] sz) := by
  refine MetI (cc := cX6_lineAsFigures) (maxL := 3) (by decide) rfl (Nat.le_of_ble_eq_true rfl) (fun _ h => h) ?_
  intro p e s m args below meth c A Q ls hx CF hK hA hD hP hS hl hB hAe hsz hret
  have hb := CF.2.1
  have hml := CF.2.2.1
  have hown := CF.2.2.2.1
  have hts := CF.2.2.2.2
  have hD0 := hD
  replace hl : lv_has ls 3 [(0, .ref q_t)] := hl
  have hinX6 : ∀ w ∈ wsX60, w ∈ wsX6_lineAsFigures := fun _ h => List.mem_cons_of_mem _ (List.mem_append_left _ (List.mem_append_right _ h))
  have hinX3 : ∀ w ∈ wsX30, w ∈ wsX6_lineAsFigures := fun _ h => List.mem_cons_of_mem _ (List.mem_append_right _ h)
  have w_0 := hts (.fieldLink RX6 21 "PassInStep$Yard" "told" "LPassInStep$Party;") (by decide +kernel)
  have h_4 : ∀ (fu4 : Nat) (x1 : Int32) (x2 : Int32) (H : Heap) (locs : List Loc) (ls : Array Slot), va_P (dC, dI) vwCl [(q_t, .inr (6, [.ref q_t_told, .ref q_t_line, .ref q_t_strides, .ref q_t_strains, .int t_down, .int t_steps])), (q_t_told, .inr (3, [.ref q_t_told_beats, .ref q_t_told_kinds, .int t_told_count, .int t_told_depth, .int t_told_noon, .int t_told_depthBehind])), (q_t_line, .inl (cI, 5, .inl t_line))] H → va_S A s.heap H locs → lv_has ls 3 [(0, .ref q_t), (1, .int x1), (2, .int x2)] → L_X6_lineAsFigures_4 t_told_count t_line fu4 x1 x2 = some r_ → W p l e rm_X6_lineAsFigures s m args below meth c H locs 0 0 Q (F0 m 4 ls []) := by
    intro fu4
    induction fu4 with
    | zero =>
      intro x1 x2 H locs ls hP hS hl hf
      rw [L_X6_lineAsFigures_4] at hf
      cases hf
    | succ fu4 ih4 =>
      intro x1 x2 H locs ls hP hS hl hf
      have hD : va_D A [(q_t, .inr (6, [.ref q_t_told, .ref q_t_line, .ref q_t_strides, .ref q_t_strains, .int t_down, .int t_steps])), (q_t_told, .inr (3, [.ref q_t_told_beats, .ref q_t_told_kinds, .int t_told_count, .int t_told_depth, .int t_told_noon, .int t_told_depthBehind])), (q_t_line, .inl (cI, 5, .inl t_line))] := wd hD0 rfl
      rw [L_X6_lineAsFigures_4] at hf
      refine lv_iload_n hx hb dX6_lineAsFigures_4 rfl (lv_at hl 2 rfl) ?_
      refine lv_aload_n hx hb dX6_lineAsFigures_5 rfl (lv_at hl 0 rfl) ?_
      refine va_get (D := (dC, dI)) (ci := 6) (v := .ref q_t_told) (C := RX6) (T := TX6) (N := 6) hx hb hts hinX6 hown hK.1 hP 0 rfl rfl 0 (by decide) w_0 (fun _ h9 => h9) rfl dX6_lineAsFigures_6 ?_
      obtain ⟨r1, e3, hf⟩ := bd_ok hf
      refine kVi (As := []) CF (cwV 0 hts gX6_lineAsFigures_X3_size rfl rfl rfl (by decide +kernel) ⟨Nat.le_of_ble_eq_true rfl, Nat.le_of_ble_eq_true rfl⟩) PU_blind hP hD hS hA (va_recv hK.1 hP (ci := 3) (q0 := 1) rfl rfl) [1] (fun h1 h2 h3 => PU_pre hK h1 A h2 h3) (c_X3_size l dC dI cI cZ q_t_told q_t_told_beats q_t_told_kinds _ t_told_count t_told_depth t_told_noon t_told_depthBehind r1 e3) rfl rfl rfl rfl hl.1 rfl (Nat.le_of_ble_eq_true rfl) dX6_lineAsFigures_9 ⟨Nat.zero_le _, Nat.zero_le _⟩ (fun H locs hP hS => ?_)
      replace hP : va_P (dC, dI) vwCl [(q_t, .inr (6, [.ref q_t_told, .ref q_t_line, .ref q_t_strides, .ref q_t_strains, .int t_down, .int t_steps])), (q_t_told, .inr (3, [.ref q_t_told_beats, .ref q_t_told_kinds, .int t_told_count, .int t_told_depth, .int t_told_noon, .int t_told_depthBehind])), (q_t_line, .inl (cI, 5, .inl t_line))] H := hP
      refine lv_icmp_ge (tgt := 34) hx hb dX6_lineAsFigures_12 (by decide) (fun hc => ?_) (fun hc => ?_)
      · replace hf := ip hc hf
        refine lv_iload_n hx hb dX6_lineAsFigures_34 rfl (lv_at hl 1 rfl) ?_
        have e0 := ij1 hf
        refine W.eq (congrArg (fun z => F0 m 35 ls [.int z]) e0) ?_
        exact hret _ _ _ _ hP hS dX6_lineAsFigures_35
      · replace hf := iq hc hf
        refine lv_iload_n hx hb dX6_lineAsFigures_15 rfl (lv_at hl 1 rfl) ?_
        refine lv_bipush (v := 10) hx hb dX6_lineAsFigures_16 (by decide) ?_
        refine lv_imul hx hb dX6_lineAsFigures_18 ?_
        refine lv_aload_n hx hb dX6_lineAsFigures_19 rfl (lv_at hl 0 rfl) ?_
        refine lv_iload_n hx hb dX6_lineAsFigures_20 rfl (lv_at hl 2 rfl) ?_
        obtain ⟨r4, e6, hf⟩ := bd_ok hf
        refine kVi (As := [.int x2]) CF (cwV 1 hts gX6_lineAsFigures_X6_walkerAt rfl rfl rfl (by decide +kernel) ⟨Nat.le_of_ble_eq_true rfl, Nat.le_of_ble_eq_true rfl⟩) PU_blind hP hD hS hA (va_recv hK.1 hP (ci := 6) (q0 := 0) rfl rfl) [0, 2] (fun h1 h2 h3 => PU_pre hK h1 A h2 h3) (c_X6_walkerAt l dC dI cI cZ q_t q_t_told q_t_line q_t_strides q_t_strains _ t_down t_steps t_line x2 r4 e6) rfl rfl rfl rfl hl.1 rfl (Nat.le_of_ble_eq_true rfl) dX6_lineAsFigures_21 ⟨Nat.zero_le _, Nat.zero_le _⟩ (fun H locs hP hS => ?_)
        replace hP : va_P (dC, dI) vwCl [(q_t, .inr (6, [.ref q_t_told, .ref q_t_line, .ref q_t_strides, .ref q_t_strains, .int t_down, .int t_steps])), (q_t_told, .inr (3, [.ref q_t_told_beats, .ref q_t_told_kinds, .int t_told_count, .int t_told_depth, .int t_told_noon, .int t_told_depthBehind])), (q_t_line, .inl (cI, 5, .inl t_line))] H := hP
        refine lv_iadd hx hb dX6_lineAsFigures_24 ?_
        refine lv_iconst (v := 1) hx hb dX6_lineAsFigures_25 (by decide) ?_
        refine lv_iadd hx hb dX6_lineAsFigures_26 ?_
        refine lv_istore_n (lv' := [(1, .int (((x1 * 10) + r4) + 1)), (0, .ref q_t), (2, .int x2)]) hx hb dX6_lineAsFigures_27 rfl hl (by decide) rfl (fun ls hl => ?_)
        refine lv_iinc (v := (x2 + 1)) (lv' := [(2, .int (x2 + 1)), (1, .int (((x1 * 10) + r4) + 1)), (0, .ref q_t)]) hx hb dX6_lineAsFigures_28 hl (k := 2) rfl rfl (by decide) rfl (fun ls hl => ?_)
        refine lv_goto (tgt := 4) hx hb dX6_lineAsFigures_31 (by decide) ?_
        exact ih4 (((x1 * 10) + r4) + 1) (x2 + 1) _ _ _ hP hS (lv_sub hl [2, 1, 0] rfl) hf
  rw [f_X6_lineAsFigures] at hf
  refine lv_iconst (v := 0) hx hb dX6_lineAsFigures_0 (by decide) ?_
  refine lv_istore_n (lv' := [(1, .int 0), (0, .ref q_t)]) hx hb dX6_lineAsFigures_1 rfl hl (by decide) rfl (fun ls hl => ?_)
  refine lv_iconst (v := 0) hx hb dX6_lineAsFigures_2 (by decide) ?_
  refine lv_istore_n (lv' := [(2, .int 0), (1, .int 0), (0, .ref q_t)]) hx hb dX6_lineAsFigures_3 rfl hl (by decide) rfl (fun ls hl => ?_)
  exact h_4 fuelC 0 0 _ _ _ hP hS (lv_sub hl [2, 1, 0] rfl) hf
abbrev rm_X1_bestLine : Room := { frames := 5, cells := 0, slots := 0, locals := 118 }
set_option maxHeartbeats 4000000 in
set_option maxRecDepth 100000 in
theorem c_X1_bestLine (l : Launch) (dC : Nat → ClassId) (dI : Nat → Nat → Nat) (cI cZ : ClassId) (tF : Nat) (q_t q_t_told q_t_now q_t_trial q_t_told_beats q_t_told_kinds q_t_trial_line q_t_trial_strides q_t_trial_strains q_t_now_line q_t_now_strides q_t_now_strains : Nat) (sz : Nat) (t_told_count : Int32) (t_told_depth : Int32) (t_told_noon : Int32) (t_told_depthBehind : Int32) (t_trial_down : Int32) (t_trial_steps : Int32) (t_now_down : Int32) (t_now_steps : Int32) (t_now_line : Nat → Int32) (t_trial_line : Nat → Int32) (t_now_strides : Nat → Int32) (t_trial_strides : Nat → Int32) (t_now_strains : Nat → Int32) (t_trial_strains : Nat → Int32) (t_told_kinds : Nat → Int32) (t_told_beats : Nat → Int32) (x1 : Int32) (r_ : Int32) (o_t_trial_down : Int32) (o_t_trial_steps : Int32) (o_t_trial_line : Nat → Int32) (o_t_trial_strides : Nat → Int32) (o_t_trial_strains : Nat → Int32) (hf : f_X1_bestLine x1 t_told_count t_told_depth t_told_noon t_told_depthBehind t_trial_down t_trial_steps t_now_down t_now_steps t_now_line t_trial_line t_now_strides t_trial_strides t_now_strains t_trial_strains t_told_kinds t_told_beats = some (r_, o_t_trial_down, o_t_trial_steps, o_t_trial_line, o_t_trial_strides, o_t_trial_strains)) : Met l yX1_bestLine wsX1_bestLine rm_X1_bestLine (va_Pc [.ref q_t, .int x1] (PUS (dC, dI) cI cZ tF [(q_t, .inr (1, [.ref q_t_told, .ref q_t_now, .ref q_t_trial])), (q_t_told, .inr (3, [.ref q_t_told_beats, .ref q_t_told_kinds, .int t_told_count, .int t_told_depth, .int t_told_noon, .int t_told_depthBehind])), (q_t_trial, .inr (6, [.ref q_t_told, .ref q_t_trial_line, .ref q_t_trial_strides, .ref q_t_trial_strains, .int t_trial_down, .int t_trial_steps])), (q_t_now, .inr (6, [.ref q_t_told, .ref q_t_now_line, .ref q_t_now_strides, .ref q_t_now_strains, .int t_now_down, .int t_now_steps])), (q_t_now_line, .inl (cI, 5, .inl t_now_line)), (q_t_trial_line, .inl (cI, 5, .inl t_trial_line)), (q_t_now_strides, .inl (cI, 5, .inl t_now_strides)), (q_t_trial_strides, .inl (cI, 5, .inl t_trial_strides)), (q_t_now_strains, .inl (cI, 5, .inl t_now_strains)), (q_t_trial_strains, .inl (cI, 5, .inl t_trial_strains)), (q_t_told_kinds, .inl (cI, 5, .inl t_told_kinds)), (q_t_told_beats, .inl (cI, 5, .inl t_told_beats))] sz)) (va_Qi (fun (r : Int32) (_ : Unit) => r = r_) (fun _ t => va_P (dC, dI) vwCl [(q_t, .inr (1, [.ref q_t_told, .ref q_t_now, .ref q_t_trial])), (q_t_told, .inr (3, [.ref q_t_told_beats, .ref q_t_told_kinds, .int t_told_count, .int t_told_depth, .int t_told_noon, .int t_told_depthBehind])), (q_t_trial, .inr (6, [.ref q_t_told, .ref q_t_trial_line, .ref q_t_trial_strides, .ref q_t_trial_strains, .int o_t_trial_down, .int o_t_trial_steps])), (q_t_now, .inr (6, [.ref q_t_told, .ref q_t_now_line, .ref q_t_now_strides, .ref q_t_now_strains, .int t_now_down, .int t_now_steps])), (q_t_now_line, .inl (cI, 5, .inl t_now_line)), (q_t_trial_line, .inl (cI, 5, .inl o_t_trial_line)), (q_t_now_strides, .inl (cI, 5, .inl t_now_strides)), (q_t_trial_strides, .inl (cI, 5, .inl o_t_trial_strides)), (q_t_now_strains, .inl (cI, 5, .inl t_now_strains)), (q_t_trial_strains, .inl (cI, 5, .inl o_t_trial_strains)), (q_t_told_kinds, .inl (cI, 5, .inl t_told_kinds)), (q_t_told_beats, .inl (cI, 5, .inl t_told_beats))] t.heap) (va_A [(q_t, .inr (1, [.ref q_t_told, .ref q_t_now, .ref q_t_trial])), (q_t_told, .inr (3, [.ref q_t_told_beats, .ref q_t_told_kinds, .int t_told_count, .int t_told_depth, .int t_told_noon, .int t_told_depthBehind])), (q_t_trial, .inr (6, [.ref q_t_told, .ref q_t_trial_line, .ref q_t_trial_strides, .ref q_t_trial_strains, .int t_trial_down, .int t_trial_steps])), (q_t_now, .inr (6, [.ref q_t_told, .ref q_t_now_line, .ref q_t_now_strides, .ref q_t_now_strains, .int t_now_down, .int t_now_steps])), (q_t_now_line, .inl (cI, 5, .inl t_now_line)), (q_t_trial_line, .inl (cI, 5, .inl t_trial_line)), (q_t_now_strides, .inl (cI, 5, .inl t_now_strides)), (q_t_trial_strides, .inl (cI, 5, .inl t_trial_strides)), (q_t_now_strains, .inl (cI, 5, .inl t_now_strains)), (q_t_trial_strains, .inl (cI, 5, .inl t_trial_strains)), (q_t_told_kinds, .inl (cI, 5, .inl t_told_kinds)), (q_t_told_beats, .inl (cI, 5, .inl t_told_beats))] sz)) 0 0 (va_A [(q_t, .inr (1, [.ref q_t_told, .ref q_t_now, .ref q_t_trial])), (q_t_told, .inr (3, [.ref q_t_told_beats, .ref q_t_told_kinds, .int t_told_count, .int t_told_depth, .int t_told_noon, .int t_told_depthBehind])), (q_t_trial, .inr (6, [.ref q_t_told, .ref q_t_trial_line, .ref q_t_trial_strides, .ref q_t_trial_strains, .int t_trial_down, .int t_trial_steps])), (q_t_now, .inr (6, [.ref q_t_told, .ref q_t_now_line, .ref q_t_now_strides, .ref q_t_now_strains, .int t_now_down, .int t_now_steps])), (q_t_now_line, .inl (cI, 5, .inl t_now_line)), (q_t_trial_line, .inl (cI, 5, .inl t_trial_line)), (q_t_now_strides, .inl (cI, 5, .inl t_now_strides)), (q_t_trial_strides, .inl (cI, 5, .inl t_trial_strides)), (q_t_now_strains, .inl (cI, 5, .inl t_now_strains)), (q_t_trial_strains, .inl (cI, 5, .inl t_trial_strains)), (q_t_told_kinds, .inl (cI, 5, .inl t_told_kinds)), (q_t_told_beats, .inl (cI, 5, .inl t_told_beats))] sz) := by
  refine MetI (cc := cX1_bestLine) (maxL := 5) (by decide) rfl (Nat.le_of_ble_eq_true rfl) (fun _ h => h.1) ?_
  intro p e s m args below meth c A Q ls hx CF hK hA hD hP hS hl hB hAe hsz hret
  have hb := CF.2.1
  have hml := CF.2.2.1
  have hown := CF.2.2.2.1
  have hts := CF.2.2.2.2
  have hD0 := hD
  replace hl : lv_has ls 5 [(0, .ref q_t), (1, .int x1)] := hl
  have hFS : FS tF A s := by rw [hAe]; exact hB.2
  have hinX1 : ∀ w ∈ wsX10, w ∈ wsX1_bestLine := fun _ h => List.mem_cons_of_mem _ (List.mem_append_left _ (List.mem_append_left _ (List.mem_append_right _ h)))
  have hinX3 : ∀ w ∈ wsX30, w ∈ wsX1_bestLine := fun _ h => List.mem_cons_of_mem _ (List.mem_append_left _ (List.mem_append_right _ h))
  have hinX6 : ∀ w ∈ wsX60, w ∈ wsX1_bestLine := fun _ h => List.mem_cons_of_mem _ (List.mem_append_right _ h)
  have w_0 := hts (.fieldLink RX1 9 "PassInStep$Foresight" "told" "LPassInStep$Party;") (by decide +kernel)
  have w_1 := hts (.initialized RX7) (by decide +kernel)
  have w_2 := hts (.static yX7_at) (by decide +kernel)
  have w_3 := hts (.fieldLink RX1 19 "PassInStep$Foresight" "trial" "LPassInStep$Yard;") (by decide +kernel)
  have w_4 := hts (.fieldLink RX1 15 "PassInStep$Foresight" "now" "LPassInStep$Yard;") (by decide +kernel)
  have h_7 : ∀ (x1 : Int32) (fu7 : Nat) (x2 : Int32) (x3 : Int32) (x4 : Int32) (t_trial_down : Int32) (t_trial_steps : Int32) (t_trial_line : Nat → Int32) (t_trial_strides : Nat → Int32) (t_trial_strains : Nat → Int32) (H : Heap) (locs : List Loc) (ls : Array Slot), va_P (dC, dI) vwCl [(q_t, .inr (1, [.ref q_t_told, .ref q_t_now, .ref q_t_trial])), (q_t_told, .inr (3, [.ref q_t_told_beats, .ref q_t_told_kinds, .int t_told_count, .int t_told_depth, .int t_told_noon, .int t_told_depthBehind])), (q_t_trial, .inr (6, [.ref q_t_told, .ref q_t_trial_line, .ref q_t_trial_strides, .ref q_t_trial_strains, .int t_trial_down, .int t_trial_steps])), (q_t_now, .inr (6, [.ref q_t_told, .ref q_t_now_line, .ref q_t_now_strides, .ref q_t_now_strains, .int t_now_down, .int t_now_steps])), (q_t_now_line, .inl (cI, 5, .inl t_now_line)), (q_t_trial_line, .inl (cI, 5, .inl t_trial_line)), (q_t_now_strides, .inl (cI, 5, .inl t_now_strides)), (q_t_trial_strides, .inl (cI, 5, .inl t_trial_strides)), (q_t_now_strains, .inl (cI, 5, .inl t_now_strains)), (q_t_trial_strains, .inl (cI, 5, .inl t_trial_strains)), (q_t_told_kinds, .inl (cI, 5, .inl t_told_kinds)), (q_t_told_beats, .inl (cI, 5, .inl t_told_beats))] H → va_S A s.heap H locs → lv_has ls 5 [(0, .ref q_t), (1, .int x1), (2, .int x2), (3, .int x3), (4, .int x4)] → L_X1_bestLine_7 x1 t_told_count t_told_depth t_told_noon t_told_depthBehind t_now_down t_now_steps t_now_line t_now_strides t_now_strains t_told_kinds t_told_beats fu7 x2 x3 x4 t_trial_down t_trial_steps t_trial_line t_trial_strides t_trial_strains = some (r_, o_t_trial_down, o_t_trial_steps, o_t_trial_line, o_t_trial_strides, o_t_trial_strains) → W p l e rm_X1_bestLine s m args below meth c H locs 0 0 Q (F0 m 7 ls []) := by
    intro x1 fu7
    induction fu7 with
    | zero =>
      intro x2 x3 x4 t_trial_down t_trial_steps t_trial_line t_trial_strides t_trial_strains H locs ls hP hS hl hf
      rw [L_X1_bestLine_7] at hf
      cases hf
    | succ fu7 ih7 =>
      have h_78 : ∀ (x2 : Int32) (x3 : Int32) (x4 : Int32) (t_trial_down : Int32) (t_trial_steps : Int32) (t_trial_line : Nat → Int32) (t_trial_strides : Nat → Int32) (t_trial_strains : Nat → Int32) (H : Heap) (locs : List Loc) (ls : Array Slot), va_P (dC, dI) vwCl [(q_t, .inr (1, [.ref q_t_told, .ref q_t_now, .ref q_t_trial])), (q_t_told, .inr (3, [.ref q_t_told_beats, .ref q_t_told_kinds, .int t_told_count, .int t_told_depth, .int t_told_noon, .int t_told_depthBehind])), (q_t_trial, .inr (6, [.ref q_t_told, .ref q_t_trial_line, .ref q_t_trial_strides, .ref q_t_trial_strains, .int t_trial_down, .int t_trial_steps])), (q_t_now, .inr (6, [.ref q_t_told, .ref q_t_now_line, .ref q_t_now_strides, .ref q_t_now_strains, .int t_now_down, .int t_now_steps])), (q_t_now_line, .inl (cI, 5, .inl t_now_line)), (q_t_trial_line, .inl (cI, 5, .inl t_trial_line)), (q_t_now_strides, .inl (cI, 5, .inl t_now_strides)), (q_t_trial_strides, .inl (cI, 5, .inl t_trial_strides)), (q_t_now_strains, .inl (cI, 5, .inl t_now_strains)), (q_t_trial_strains, .inl (cI, 5, .inl t_trial_strains)), (q_t_told_kinds, .inl (cI, 5, .inl t_told_kinds)), (q_t_told_beats, .inl (cI, 5, .inl t_told_beats))] H → va_S A s.heap H locs → lv_has ls 5 [(0, .ref q_t), (1, .int x1), (2, .int x2), (3, .int x3), (4, .int x4)] → J_X1_bestLine_78 (L_X1_bestLine_7 x1 t_told_count t_told_depth t_told_noon t_told_depthBehind t_now_down t_now_steps t_now_line t_now_strides t_now_strains t_told_kinds t_told_beats fu7) x2 x3 x4 t_trial_down t_trial_steps t_trial_line t_trial_strides t_trial_strains = some (r_, o_t_trial_down, o_t_trial_steps, o_t_trial_line, o_t_trial_strides, o_t_trial_strains) → W p l e rm_X1_bestLine s m args below meth c H locs 0 0 Q (F0 m 78 ls []) := by
        intro x2 x3 x4 t_trial_down t_trial_steps t_trial_line t_trial_strides t_trial_strains H locs ls hP hS hl hf
        have hD : va_D A [(q_t, .inr (1, [.ref q_t_told, .ref q_t_now, .ref q_t_trial])), (q_t_told, .inr (3, [.ref q_t_told_beats, .ref q_t_told_kinds, .int t_told_count, .int t_told_depth, .int t_told_noon, .int t_told_depthBehind])), (q_t_trial, .inr (6, [.ref q_t_told, .ref q_t_trial_line, .ref q_t_trial_strides, .ref q_t_trial_strains, .int t_trial_down, .int t_trial_steps])), (q_t_now, .inr (6, [.ref q_t_told, .ref q_t_now_line, .ref q_t_now_strides, .ref q_t_now_strains, .int t_now_down, .int t_now_steps])), (q_t_now_line, .inl (cI, 5, .inl t_now_line)), (q_t_trial_line, .inl (cI, 5, .inl t_trial_line)), (q_t_now_strides, .inl (cI, 5, .inl t_now_strides)), (q_t_trial_strides, .inl (cI, 5, .inl t_trial_strides)), (q_t_now_strains, .inl (cI, 5, .inl t_now_strains)), (q_t_trial_strains, .inl (cI, 5, .inl t_trial_strains)), (q_t_told_kinds, .inl (cI, 5, .inl t_told_kinds)), (q_t_told_beats, .inl (cI, 5, .inl t_told_beats))] := wd hD0 rfl
        rw [J_X1_bestLine_78] at hf
        refine lv_iinc (v := (x4 + 1)) (lv' := [(4, .int (x4 + 1)), (0, .ref q_t), (1, .int x1), (2, .int x2), (3, .int x3)]) hx hb dX1_bestLine_78 hl (k := 4) rfl rfl (by decide) rfl (fun ls hl => ?_)
        refine lv_goto (tgt := 7) hx hb dX1_bestLine_81 (by decide) ?_
        exact ih7 x2 x3 (x4 + 1) t_trial_down t_trial_steps t_trial_line t_trial_strides t_trial_strains _ _ _ hP hS (lv_sub hl [1, 2, 3, 4, 0] rfl) hf
      intro x2 x3 x4 t_trial_down t_trial_steps t_trial_line t_trial_strides t_trial_strains H locs ls hP hS hl hf
      have hD : va_D A [(q_t, .inr (1, [.ref q_t_told, .ref q_t_now, .ref q_t_trial])), (q_t_told, .inr (3, [.ref q_t_told_beats, .ref q_t_told_kinds, .int t_told_count, .int t_told_depth, .int t_told_noon, .int t_told_depthBehind])), (q_t_trial, .inr (6, [.ref q_t_told, .ref q_t_trial_line, .ref q_t_trial_strides, .ref q_t_trial_strains, .int t_trial_down, .int t_trial_steps])), (q_t_now, .inr (6, [.ref q_t_told, .ref q_t_now_line, .ref q_t_now_strides, .ref q_t_now_strains, .int t_now_down, .int t_now_steps])), (q_t_now_line, .inl (cI, 5, .inl t_now_line)), (q_t_trial_line, .inl (cI, 5, .inl t_trial_line)), (q_t_now_strides, .inl (cI, 5, .inl t_now_strides)), (q_t_trial_strides, .inl (cI, 5, .inl t_trial_strides)), (q_t_now_strains, .inl (cI, 5, .inl t_now_strains)), (q_t_trial_strains, .inl (cI, 5, .inl t_trial_strains)), (q_t_told_kinds, .inl (cI, 5, .inl t_told_kinds)), (q_t_told_beats, .inl (cI, 5, .inl t_told_beats))] := wd hD0 rfl
      rw [L_X1_bestLine_7] at hf
      refine lv_iload hx hb dX1_bestLine_7 (lv_at hl 4 rfl) ?_
      refine va_getsN (v := .ref tF) (host := "PassInStep") hx hb hFS.1 hS hown (va_Nw.use rfl (nwG_X1_44 hK.2)) (fun _ h9 => h9) dX1_bestLine_9 ?_
      refine lv_aload_n hx hb dX1_bestLine_12 rfl (lv_at hl 0 rfl) ?_
      refine va_get (D := (dC, dI)) (ci := 1) (v := .ref q_t_told) (C := RX1) (T := TX1) (N := 3) hx hb hts hinX1 hown hK.1 hP 0 rfl rfl 0 (by decide) w_0 (fun _ h9 => h9) rfl dX1_bestLine_13 ?_
      obtain ⟨r1, e3, hf⟩ := bd_ok hf
      refine kVi (As := []) CF (cwV 0 hts gX1_bestLine_X3_size rfl rfl rfl (by decide +kernel) ⟨Nat.le_of_ble_eq_true rfl, Nat.le_of_ble_eq_true rfl⟩) PU_blind hP hD hS hA (va_recv hK.1 hP (ci := 3) (q0 := 1) rfl rfl) [1] (fun h1 h2 h3 => PU_pre hK h1 A h2 h3) (c_X3_size l dC dI cI cZ q_t_told q_t_told_beats q_t_told_kinds _ t_told_count t_told_depth t_told_noon t_told_depthBehind r1 e3) rfl rfl rfl rfl hl.1 rfl (Nat.le_of_ble_eq_true rfl) dX1_bestLine_16 ⟨Nat.zero_le _, Nat.zero_le _⟩ (fun H locs hP hS => ?_)
      replace hP : va_P (dC, dI) vwCl [(q_t, .inr (1, [.ref q_t_told, .ref q_t_now, .ref q_t_trial])), (q_t_told, .inr (3, [.ref q_t_told_beats, .ref q_t_told_kinds, .int t_told_count, .int t_told_depth, .int t_told_noon, .int t_told_depthBehind])), (q_t_trial, .inr (6, [.ref q_t_told, .ref q_t_trial_line, .ref q_t_trial_strides, .ref q_t_trial_strains, .int t_trial_down, .int t_trial_steps])), (q_t_now, .inr (6, [.ref q_t_told, .ref q_t_now_line, .ref q_t_now_strides, .ref q_t_now_strains, .int t_now_down, .int t_now_steps])), (q_t_now_line, .inl (cI, 5, .inl t_now_line)), (q_t_trial_line, .inl (cI, 5, .inl t_trial_line)), (q_t_now_strides, .inl (cI, 5, .inl t_now_strides)), (q_t_trial_strides, .inl (cI, 5, .inl t_trial_strides)), (q_t_now_strains, .inl (cI, 5, .inl t_now_strains)), (q_t_trial_strains, .inl (cI, 5, .inl t_trial_strains)), (q_t_told_kinds, .inl (cI, 5, .inl t_told_kinds)), (q_t_told_beats, .inl (cI, 5, .inl t_told_beats))] H := hP
      obtain ⟨r4, e6, hf⟩ := bd_ok hf
      refine kNi (As := [.ref tF, .int r1]) CF ⟨va_cnB 2 hts gX1_bestLine_X7_at_n53 rfl rfl rfl (nw_X1_53 hK.2) w_1 (by decide +kernel) ⟨Nat.le_of_ble_eq_true rfl, Nat.le_of_ble_eq_true rfl⟩, w_2, trivial⟩ PUS_blind hP hD hS hA [] (fun h1 h2 h3 => PUS_pre hK hFS hS h1 h2 h3) (c_X7_at_st l dC dI cI cZ tF _ r1 r4 e6) rfl rfl rfl rfl hl.1 rfl (Nat.le_of_ble_eq_true rfl) dX1_bestLine_19 ⟨Nat.zero_le _, Nat.zero_le _⟩ (fun H locs hP hS => ?_)
      replace hP : va_P (dC, dI) vwCl [(q_t, .inr (1, [.ref q_t_told, .ref q_t_now, .ref q_t_trial])), (q_t_told, .inr (3, [.ref q_t_told_beats, .ref q_t_told_kinds, .int t_told_count, .int t_told_depth, .int t_told_noon, .int t_told_depthBehind])), (q_t_trial, .inr (6, [.ref q_t_told, .ref q_t_trial_line, .ref q_t_trial_strides, .ref q_t_trial_strains, .int t_trial_down, .int t_trial_steps])), (q_t_now, .inr (6, [.ref q_t_told, .ref q_t_now_line, .ref q_t_now_strides, .ref q_t_now_strains, .int t_now_down, .int t_now_steps])), (q_t_now_line, .inl (cI, 5, .inl t_now_line)), (q_t_trial_line, .inl (cI, 5, .inl t_trial_line)), (q_t_now_strides, .inl (cI, 5, .inl t_now_strides)), (q_t_trial_strides, .inl (cI, 5, .inl t_trial_strides)), (q_t_now_strains, .inl (cI, 5, .inl t_now_strains)), (q_t_trial_strains, .inl (cI, 5, .inl t_trial_strains)), (q_t_told_kinds, .inl (cI, 5, .inl t_told_kinds)), (q_t_told_beats, .inl (cI, 5, .inl t_told_beats))] H := hP
      refine lv_icmp_ge (tgt := 84) hx hb dX1_bestLine_22 (by decide) (fun hc => ?_) (fun hc => ?_)
      · replace hf := ip hc hf
        refine lv_iload_n hx hb dX1_bestLine_84 rfl (lv_at hl 1 rfl) ?_
        refine lv_if_eq (tgt := 92) hx hb dX1_bestLine_85 (by decide) (fun hc => ?_) (fun hc => ?_)
        · replace hf := ip hc hf
          refine lv_iload_n hx hb dX1_bestLine_92 rfl (lv_at hl 2 rfl) ?_
          obtain ⟨e0, hf⟩ := ij2 hf
          obtain ⟨e1, hf⟩ := ijc hf
          obtain ⟨e2, hf⟩ := ijc hf
          obtain ⟨e3, hf⟩ := ijc hf
          obtain ⟨e4, hf⟩ := ijc hf
          have e5 := hf
          refine W.eq (congrArg (fun z => F0 m 93 ls [.int z]) e0) ?_
          exact hret _ _ _ _ (by rw [← e1, ← e2, ← e3, ← e4, ← e5]; exact hP) hS dX1_bestLine_93
        · replace hf := iq hc hf
          refine lv_iload_n hx hb dX1_bestLine_88 rfl (lv_at hl 3 rfl) ?_
          refine lv_goto (tgt := 93) hx hb dX1_bestLine_89 (by decide) ?_
          obtain ⟨e0, hf⟩ := ij2 hf
          obtain ⟨e1, hf⟩ := ijc hf
          obtain ⟨e2, hf⟩ := ijc hf
          obtain ⟨e3, hf⟩ := ijc hf
          obtain ⟨e4, hf⟩ := ijc hf
          have e5 := hf
          refine W.eq (congrArg (fun z => F0 m 93 ls [.int z]) e0) ?_
          exact hret _ _ _ _ (by rw [← e1, ← e2, ← e3, ← e4, ← e5]; exact hP) hS dX1_bestLine_93
      · replace hf := iq hc hf
        refine lv_aload_n hx hb dX1_bestLine_25 rfl (lv_at hl 0 rfl) ?_
        refine va_get (D := (dC, dI)) (ci := 1) (v := .ref q_t_trial) (C := RX1) (T := TX1) (N := 3) hx hb hts hinX1 hown hK.1 hP 0 rfl rfl 2 (by decide) w_3 (fun _ h9 => h9) rfl dX1_bestLine_26 ?_
        refine lv_aload_n hx hb dX1_bestLine_29 rfl (lv_at hl 0 rfl) ?_
        refine va_get (D := (dC, dI)) (ci := 1) (v := .ref q_t_now) (C := RX1) (T := TX1) (N := 3) hx hb hts hinX1 hown hK.1 hP 0 rfl rfl 1 (by decide) w_4 (fun _ h9 => h9) rfl dX1_bestLine_30 ?_
        obtain ⟨⟨o7, o8, o9, o10, o11⟩, e13, hf⟩ := bd_ok hf
        refine kVv (As := [.ref q_t_now]) CF (cwV 1 hts gX1_bestLine_X6_copyFrom rfl rfl rfl (by decide +kernel) ⟨Nat.le_of_ble_eq_true rfl, Nat.le_of_ble_eq_true rfl⟩) PU_blind hP hD hS hA (va_recv hK.1 hP (ci := 6) (q0 := 2) rfl rfl) [2, 3, 4, 5, 6, 7, 8, 9] (fun h1 h2 h3 => PU_pre hK h1 A h2 h3) (c_X6_copyFrom l dC dI cI cZ q_t_trial q_t_told q_t_trial_line q_t_trial_strides q_t_trial_strains q_t_now q_t_told q_t_now_line q_t_now_strides q_t_now_strains _ t_trial_down t_trial_steps t_now_down t_now_steps t_now_line t_trial_line t_now_strides t_trial_strides t_now_strains t_trial_strains o7 o8 o9 o10 o11 e13) rfl rfl rfl rfl hl.1 rfl (Nat.le_of_ble_eq_true rfl) dX1_bestLine_33 ⟨Nat.zero_le _, Nat.zero_le _⟩ (fun H locs hP hS => ?_)
        replace hP : va_P (dC, dI) vwCl [(q_t, .inr (1, [.ref q_t_told, .ref q_t_now, .ref q_t_trial])), (q_t_told, .inr (3, [.ref q_t_told_beats, .ref q_t_told_kinds, .int t_told_count, .int t_told_depth, .int t_told_noon, .int t_told_depthBehind])), (q_t_trial, .inr (6, [.ref q_t_told, .ref q_t_trial_line, .ref q_t_trial_strides, .ref q_t_trial_strains, .int o7, .int o8])), (q_t_now, .inr (6, [.ref q_t_told, .ref q_t_now_line, .ref q_t_now_strides, .ref q_t_now_strains, .int t_now_down, .int t_now_steps])), (q_t_now_line, .inl (cI, 5, .inl t_now_line)), (q_t_trial_line, .inl (cI, 5, .inl o9)), (q_t_now_strides, .inl (cI, 5, .inl t_now_strides)), (q_t_trial_strides, .inl (cI, 5, .inl o10)), (q_t_now_strains, .inl (cI, 5, .inl t_now_strains)), (q_t_trial_strains, .inl (cI, 5, .inl o11)), (q_t_told_kinds, .inl (cI, 5, .inl t_told_kinds)), (q_t_told_beats, .inl (cI, 5, .inl t_told_beats))] H := hP
        replace hD : va_D A [(q_t, .inr (1, [.ref q_t_told, .ref q_t_now, .ref q_t_trial])), (q_t_told, .inr (3, [.ref q_t_told_beats, .ref q_t_told_kinds, .int t_told_count, .int t_told_depth, .int t_told_noon, .int t_told_depthBehind])), (q_t_trial, .inr (6, [.ref q_t_told, .ref q_t_trial_line, .ref q_t_trial_strides, .ref q_t_trial_strains, .int o7, .int o8])), (q_t_now, .inr (6, [.ref q_t_told, .ref q_t_now_line, .ref q_t_now_strides, .ref q_t_now_strains, .int t_now_down, .int t_now_steps])), (q_t_now_line, .inl (cI, 5, .inl t_now_line)), (q_t_trial_line, .inl (cI, 5, .inl o9)), (q_t_now_strides, .inl (cI, 5, .inl t_now_strides)), (q_t_trial_strides, .inl (cI, 5, .inl o10)), (q_t_now_strains, .inl (cI, 5, .inl t_now_strains)), (q_t_trial_strains, .inl (cI, 5, .inl o11)), (q_t_told_kinds, .inl (cI, 5, .inl t_told_kinds)), (q_t_told_beats, .inl (cI, 5, .inl t_told_beats))] := wd hD rfl
        refine lv_aload_n hx hb dX1_bestLine_36 rfl (lv_at hl 0 rfl) ?_
        refine va_get (D := (dC, dI)) (ci := 1) (v := .ref q_t_trial) (C := RX1) (T := TX1) (N := 3) hx hb hts hinX1 hown hK.1 hP 0 rfl rfl 2 (by decide) w_3 (fun _ h9 => h9) rfl dX1_bestLine_37 ?_
        refine lv_iload hx hb dX1_bestLine_40 (lv_at hl 4 rfl) ?_
        obtain ⟨o14, e16, hf⟩ := bd_ok hf
        refine kVv (As := [.int x4]) CF (cwV 1 hts gX1_bestLine_X6_setOrder rfl rfl rfl (by decide +kernel) ⟨Nat.le_of_ble_eq_true rfl, Nat.le_of_ble_eq_true rfl⟩) PUS_blind hP hD hS hA (va_recv hK.1 hP (ci := 6) (q0 := 2) rfl rfl) [2, 1, 5] (fun h1 h2 h3 => PUS_pre hK hFS hS h1 h2 h3) (c_X6_setOrder l dC dI cI cZ tF q_t_trial q_t_told q_t_trial_line q_t_trial_strides q_t_trial_strains q_t_told_beats q_t_told_kinds _ o7 o8 t_told_count t_told_depth t_told_noon t_told_depthBehind o9 x4 o14 e16) rfl rfl rfl rfl hl.1 rfl (Nat.le_of_ble_eq_true rfl) dX1_bestLine_42 ⟨Nat.zero_le _, Nat.zero_le _⟩ (fun H locs hP hS => ?_)
        replace hP : va_P (dC, dI) vwCl [(q_t, .inr (1, [.ref q_t_told, .ref q_t_now, .ref q_t_trial])), (q_t_told, .inr (3, [.ref q_t_told_beats, .ref q_t_told_kinds, .int t_told_count, .int t_told_depth, .int t_told_noon, .int t_told_depthBehind])), (q_t_trial, .inr (6, [.ref q_t_told, .ref q_t_trial_line, .ref q_t_trial_strides, .ref q_t_trial_strains, .int o7, .int o8])), (q_t_now, .inr (6, [.ref q_t_told, .ref q_t_now_line, .ref q_t_now_strides, .ref q_t_now_strains, .int t_now_down, .int t_now_steps])), (q_t_now_line, .inl (cI, 5, .inl t_now_line)), (q_t_trial_line, .inl (cI, 5, .inl o14)), (q_t_now_strides, .inl (cI, 5, .inl t_now_strides)), (q_t_trial_strides, .inl (cI, 5, .inl o10)), (q_t_now_strains, .inl (cI, 5, .inl t_now_strains)), (q_t_trial_strains, .inl (cI, 5, .inl o11)), (q_t_told_kinds, .inl (cI, 5, .inl t_told_kinds)), (q_t_told_beats, .inl (cI, 5, .inl t_told_beats))] H := hP
        replace hD : va_D A [(q_t, .inr (1, [.ref q_t_told, .ref q_t_now, .ref q_t_trial])), (q_t_told, .inr (3, [.ref q_t_told_beats, .ref q_t_told_kinds, .int t_told_count, .int t_told_depth, .int t_told_noon, .int t_told_depthBehind])), (q_t_trial, .inr (6, [.ref q_t_told, .ref q_t_trial_line, .ref q_t_trial_strides, .ref q_t_trial_strains, .int o7, .int o8])), (q_t_now, .inr (6, [.ref q_t_told, .ref q_t_now_line, .ref q_t_now_strides, .ref q_t_now_strains, .int t_now_down, .int t_now_steps])), (q_t_now_line, .inl (cI, 5, .inl t_now_line)), (q_t_trial_line, .inl (cI, 5, .inl o14)), (q_t_now_strides, .inl (cI, 5, .inl t_now_strides)), (q_t_trial_strides, .inl (cI, 5, .inl o10)), (q_t_now_strains, .inl (cI, 5, .inl t_now_strains)), (q_t_trial_strains, .inl (cI, 5, .inl o11)), (q_t_told_kinds, .inl (cI, 5, .inl t_told_kinds)), (q_t_told_beats, .inl (cI, 5, .inl t_told_beats))] := wd hD rfl
        refine lv_aload_n hx hb dX1_bestLine_45 rfl (lv_at hl 0 rfl) ?_
        refine lv_bipush (v := 6) hx hb dX1_bestLine_46 (by decide) ?_
        obtain ⟨⟨o17, o18⟩, e20, hf⟩ := bd_ok hf
        refine kVv (As := [.int 6]) CF (cwV 1 hts gX1_bestLine_X1_goOn rfl rfl rfl (by decide +kernel) ⟨Nat.le_of_ble_eq_true rfl, Nat.le_of_ble_eq_true rfl⟩) PU_blind hP hD hS hA (va_recv hK.1 hP (ci := 1) (q0 := 0) rfl rfl) [0, 2, 1, 5, 10, 7, 11] (fun h1 h2 h3 => PU_pre hK h1 A h2 h3) (c_X1_goOn l dC dI cI cZ q_t q_t_told q_t_now q_t_trial q_t_trial_line q_t_trial_strides q_t_trial_strains q_t_told_beats q_t_told_kinds _ o7 o8 t_told_count t_told_depth t_told_noon t_told_depthBehind o14 t_told_kinds o10 t_told_beats 6 o17 o18 e20) rfl rfl rfl rfl hl.1 rfl (Nat.le_of_ble_eq_true rfl) dX1_bestLine_48 ⟨Nat.zero_le _, Nat.zero_le _⟩ (fun H locs hP hS => ?_)
        replace hP : va_P (dC, dI) vwCl [(q_t, .inr (1, [.ref q_t_told, .ref q_t_now, .ref q_t_trial])), (q_t_told, .inr (3, [.ref q_t_told_beats, .ref q_t_told_kinds, .int t_told_count, .int t_told_depth, .int t_told_noon, .int t_told_depthBehind])), (q_t_trial, .inr (6, [.ref q_t_told, .ref q_t_trial_line, .ref q_t_trial_strides, .ref q_t_trial_strains, .int o17, .int o18])), (q_t_now, .inr (6, [.ref q_t_told, .ref q_t_now_line, .ref q_t_now_strides, .ref q_t_now_strains, .int t_now_down, .int t_now_steps])), (q_t_now_line, .inl (cI, 5, .inl t_now_line)), (q_t_trial_line, .inl (cI, 5, .inl o14)), (q_t_now_strides, .inl (cI, 5, .inl t_now_strides)), (q_t_trial_strides, .inl (cI, 5, .inl o10)), (q_t_now_strains, .inl (cI, 5, .inl t_now_strains)), (q_t_trial_strains, .inl (cI, 5, .inl o11)), (q_t_told_kinds, .inl (cI, 5, .inl t_told_kinds)), (q_t_told_beats, .inl (cI, 5, .inl t_told_beats))] H := hP
        replace hD : va_D A [(q_t, .inr (1, [.ref q_t_told, .ref q_t_now, .ref q_t_trial])), (q_t_told, .inr (3, [.ref q_t_told_beats, .ref q_t_told_kinds, .int t_told_count, .int t_told_depth, .int t_told_noon, .int t_told_depthBehind])), (q_t_trial, .inr (6, [.ref q_t_told, .ref q_t_trial_line, .ref q_t_trial_strides, .ref q_t_trial_strains, .int o17, .int o18])), (q_t_now, .inr (6, [.ref q_t_told, .ref q_t_now_line, .ref q_t_now_strides, .ref q_t_now_strains, .int t_now_down, .int t_now_steps])), (q_t_now_line, .inl (cI, 5, .inl t_now_line)), (q_t_trial_line, .inl (cI, 5, .inl o14)), (q_t_now_strides, .inl (cI, 5, .inl t_now_strides)), (q_t_trial_strides, .inl (cI, 5, .inl o10)), (q_t_now_strains, .inl (cI, 5, .inl t_now_strains)), (q_t_trial_strains, .inl (cI, 5, .inl o11)), (q_t_told_kinds, .inl (cI, 5, .inl t_told_kinds)), (q_t_told_beats, .inl (cI, 5, .inl t_told_beats))] := wd hD rfl
        refine lv_aload_n hx hb dX1_bestLine_51 rfl (lv_at hl 0 rfl) ?_
        refine va_get (D := (dC, dI)) (ci := 1) (v := .ref q_t_trial) (C := RX1) (T := TX1) (N := 3) hx hb hts hinX1 hown hK.1 hP 0 rfl rfl 2 (by decide) w_3 (fun _ h9 => h9) rfl dX1_bestLine_52 ?_
        obtain ⟨r21, e23, hf⟩ := bd_ok hf
        refine kVi (As := []) CF (cwV 0 hts gX1_bestLine_X6_standing rfl rfl rfl (by decide +kernel) ⟨Nat.le_of_ble_eq_true rfl, Nat.le_of_ble_eq_true rfl⟩) PU_blind hP hD hS hA (va_recv hK.1 hP (ci := 6) (q0 := 2) rfl rfl) [2, 1] (fun h1 h2 h3 => PU_pre hK h1 A h2 h3) (c_X6_standing l dC dI cI cZ q_t_trial q_t_told q_t_trial_line q_t_trial_strides q_t_trial_strains q_t_told_beats q_t_told_kinds _ o17 o18 t_told_count t_told_depth t_told_noon t_told_depthBehind r21 e23) rfl rfl rfl rfl hl.1 rfl (Nat.le_of_ble_eq_true rfl) dX1_bestLine_55 ⟨Nat.zero_le _, Nat.zero_le _⟩ (fun H locs hP hS => ?_)
        replace hP : va_P (dC, dI) vwCl [(q_t, .inr (1, [.ref q_t_told, .ref q_t_now, .ref q_t_trial])), (q_t_told, .inr (3, [.ref q_t_told_beats, .ref q_t_told_kinds, .int t_told_count, .int t_told_depth, .int t_told_noon, .int t_told_depthBehind])), (q_t_trial, .inr (6, [.ref q_t_told, .ref q_t_trial_line, .ref q_t_trial_strides, .ref q_t_trial_strains, .int o17, .int o18])), (q_t_now, .inr (6, [.ref q_t_told, .ref q_t_now_line, .ref q_t_now_strides, .ref q_t_now_strains, .int t_now_down, .int t_now_steps])), (q_t_now_line, .inl (cI, 5, .inl t_now_line)), (q_t_trial_line, .inl (cI, 5, .inl o14)), (q_t_now_strides, .inl (cI, 5, .inl t_now_strides)), (q_t_trial_strides, .inl (cI, 5, .inl o10)), (q_t_now_strains, .inl (cI, 5, .inl t_now_strains)), (q_t_trial_strains, .inl (cI, 5, .inl o11)), (q_t_told_kinds, .inl (cI, 5, .inl t_told_kinds)), (q_t_told_beats, .inl (cI, 5, .inl t_told_beats))] H := hP
        refine lv_iload_n hx hb dX1_bestLine_58 rfl (lv_at hl 2 rfl) ?_
        refine lv_icmp_le (tgt := 78) hx hb dX1_bestLine_59 (by decide) (fun hc => ?_) (fun hc => ?_)
        · replace hf := ip hc hf
          exact h_78 x2 x3 x4 o17 o18 o14 o10 o11 _ _ _ hP hS (lv_sub hl [0, 1, 2, 3, 4] rfl) hf
        · replace hf := iq hc hf
          refine lv_aload_n hx hb dX1_bestLine_62 rfl (lv_at hl 0 rfl) ?_
          refine va_get (D := (dC, dI)) (ci := 1) (v := .ref q_t_trial) (C := RX1) (T := TX1) (N := 3) hx hb hts hinX1 hown hK.1 hP 0 rfl rfl 2 (by decide) w_3 (fun _ h9 => h9) rfl dX1_bestLine_63 ?_
          obtain ⟨r24, e26, hf⟩ := bd_ok hf
          refine kVi (As := []) CF (cwV 0 hts gX1_bestLine_X6_standing rfl rfl rfl (by decide +kernel) ⟨Nat.le_of_ble_eq_true rfl, Nat.le_of_ble_eq_true rfl⟩) PU_blind hP hD hS hA (va_recv hK.1 hP (ci := 6) (q0 := 2) rfl rfl) [2, 1] (fun h1 h2 h3 => PU_pre hK h1 A h2 h3) (c_X6_standing l dC dI cI cZ q_t_trial q_t_told q_t_trial_line q_t_trial_strides q_t_trial_strains q_t_told_beats q_t_told_kinds _ o17 o18 t_told_count t_told_depth t_told_noon t_told_depthBehind r24 e26) rfl rfl rfl rfl hl.1 rfl (Nat.le_of_ble_eq_true rfl) dX1_bestLine_66 ⟨Nat.zero_le _, Nat.zero_le _⟩ (fun H locs hP hS => ?_)
          replace hP : va_P (dC, dI) vwCl [(q_t, .inr (1, [.ref q_t_told, .ref q_t_now, .ref q_t_trial])), (q_t_told, .inr (3, [.ref q_t_told_beats, .ref q_t_told_kinds, .int t_told_count, .int t_told_depth, .int t_told_noon, .int t_told_depthBehind])), (q_t_trial, .inr (6, [.ref q_t_told, .ref q_t_trial_line, .ref q_t_trial_strides, .ref q_t_trial_strains, .int o17, .int o18])), (q_t_now, .inr (6, [.ref q_t_told, .ref q_t_now_line, .ref q_t_now_strides, .ref q_t_now_strains, .int t_now_down, .int t_now_steps])), (q_t_now_line, .inl (cI, 5, .inl t_now_line)), (q_t_trial_line, .inl (cI, 5, .inl o14)), (q_t_now_strides, .inl (cI, 5, .inl t_now_strides)), (q_t_trial_strides, .inl (cI, 5, .inl o10)), (q_t_now_strains, .inl (cI, 5, .inl t_now_strains)), (q_t_trial_strains, .inl (cI, 5, .inl o11)), (q_t_told_kinds, .inl (cI, 5, .inl t_told_kinds)), (q_t_told_beats, .inl (cI, 5, .inl t_told_beats))] H := hP
          refine lv_istore_n (lv' := [(2, .int r24), (0, .ref q_t), (1, .int x1), (3, .int x3), (4, .int x4)]) hx hb dX1_bestLine_69 rfl hl (by decide) rfl (fun ls hl => ?_)
          refine lv_aload_n hx hb dX1_bestLine_70 rfl (lv_at hl 1 rfl) ?_
          refine va_get (D := (dC, dI)) (ci := 1) (v := .ref q_t_trial) (C := RX1) (T := TX1) (N := 3) hx hb hts hinX1 hown hK.1 hP 0 rfl rfl 2 (by decide) w_3 (fun _ h9 => h9) rfl dX1_bestLine_71 ?_
          obtain ⟨r27, e29, hf⟩ := bd_ok hf
          refine kVi (As := []) CF (cwV 0 hts gX1_bestLine_X6_lineAsFigures rfl rfl rfl (by decide +kernel) ⟨Nat.le_of_ble_eq_true rfl, Nat.le_of_ble_eq_true rfl⟩) PU_blind hP hD hS hA (va_recv hK.1 hP (ci := 6) (q0 := 2) rfl rfl) [2, 1, 5] (fun h1 h2 h3 => PU_pre hK h1 A h2 h3) (c_X6_lineAsFigures l dC dI cI cZ q_t_trial q_t_told q_t_trial_line q_t_trial_strides q_t_trial_strains q_t_told_beats q_t_told_kinds _ o17 o18 t_told_count t_told_depth t_told_noon t_told_depthBehind o14 r27 e29) rfl rfl rfl rfl hl.1 rfl (Nat.le_of_ble_eq_true rfl) dX1_bestLine_74 ⟨Nat.zero_le _, Nat.zero_le _⟩ (fun H locs hP hS => ?_)
          replace hP : va_P (dC, dI) vwCl [(q_t, .inr (1, [.ref q_t_told, .ref q_t_now, .ref q_t_trial])), (q_t_told, .inr (3, [.ref q_t_told_beats, .ref q_t_told_kinds, .int t_told_count, .int t_told_depth, .int t_told_noon, .int t_told_depthBehind])), (q_t_trial, .inr (6, [.ref q_t_told, .ref q_t_trial_line, .ref q_t_trial_strides, .ref q_t_trial_strains, .int o17, .int o18])), (q_t_now, .inr (6, [.ref q_t_told, .ref q_t_now_line, .ref q_t_now_strides, .ref q_t_now_strains, .int t_now_down, .int t_now_steps])), (q_t_now_line, .inl (cI, 5, .inl t_now_line)), (q_t_trial_line, .inl (cI, 5, .inl o14)), (q_t_now_strides, .inl (cI, 5, .inl t_now_strides)), (q_t_trial_strides, .inl (cI, 5, .inl o10)), (q_t_now_strains, .inl (cI, 5, .inl t_now_strains)), (q_t_trial_strains, .inl (cI, 5, .inl o11)), (q_t_told_kinds, .inl (cI, 5, .inl t_told_kinds)), (q_t_told_beats, .inl (cI, 5, .inl t_told_beats))] H := hP
          refine lv_istore_n (lv' := [(3, .int r27), (2, .int r24), (0, .ref q_t), (1, .int x1), (4, .int x4)]) hx hb dX1_bestLine_77 rfl hl (by decide) rfl (fun ls hl => ?_)
          exact h_78 r24 r27 x4 o17 o18 o14 o10 o11 _ _ _ hP hS (lv_sub hl [2, 3, 1, 0, 4] rfl) hf
  rw [f_X1_bestLine] at hf
  refine lv_iconst (v := (-1)) hx hb dX1_bestLine_0 (by decide) ?_
  refine lv_istore_n (lv' := [(2, .int (-1)), (0, .ref q_t), (1, .int x1)]) hx hb dX1_bestLine_1 rfl hl (by decide) rfl (fun ls hl => ?_)
  refine lv_iconst (v := 0) hx hb dX1_bestLine_2 (by decide) ?_
  refine lv_istore_n (lv' := [(3, .int 0), (2, .int (-1)), (0, .ref q_t), (1, .int x1)]) hx hb dX1_bestLine_3 rfl hl (by decide) rfl (fun ls hl => ?_)
  refine lv_iconst (v := 0) hx hb dX1_bestLine_4 (by decide) ?_
  refine lv_istore (lv' := [(4, .int 0), (3, .int 0), (2, .int (-1)), (0, .ref q_t), (1, .int x1)]) hx hb dX1_bestLine_5 hl (by decide) rfl (fun ls hl => ?_)
  exact h_7 x1 fuelC (-1) 0 0 t_trial_down t_trial_steps t_trial_line t_trial_strides t_trial_strains _ _ _ hP hS (lv_sub hl [3, 4, 2, 1, 0] rfl) hf
abbrev rm_X6_firstStanding : Room := { frames := 2, cells := 0, slots := 0, locals := 42 }
set_option maxHeartbeats 4000000 in
set_option maxRecDepth 100000 in
theorem c_X6_firstStanding (l : Launch) (dC : Nat → ClassId) (dI : Nat → Nat → Nat) (cI cZ : ClassId) (q_t q_t_told q_t_line q_t_strides q_t_strains q_t_told_beats q_t_told_kinds : Nat) (sz : Nat) (t_down : Int32) (t_steps : Int32) (t_told_count : Int32) (t_told_depth : Int32) (t_told_noon : Int32) (t_told_depthBehind : Int32) (t_line : Nat → Int32) (r_ : Int32) (hf : f_X6_firstStanding t_down t_told_count t_line = some r_) : Met l yX6_firstStanding wsX6_firstStanding rm_X6_firstStanding (va_Pc [.ref q_t] (PU (dC, dI) cI cZ [(q_t, .inr (6, [.ref q_t_told, .ref q_t_line, .ref q_t_strides, .ref q_t_strains, .int t_down, .int t_steps])), (q_t_told, .inr (3, [.ref q_t_told_beats, .ref q_t_told_kinds, .int t_told_count, .int t_told_depth, .int t_told_noon, .int t_told_depthBehind])), (q_t_line, .inl (cI, 5, .inl t_line))] sz)) (va_Qi (fun (r : Int32) (_ : Unit) => r = r_) (fun _ t => va_P (dC, dI) vwCl [(q_t, .inr (6, [.ref q_t_told, .ref q_t_line, .ref q_t_strides, .ref q_t_strains, .int t_down, .int t_steps])), (q_t_told, .inr (3, [.ref q_t_told_beats, .ref q_t_told_kinds, .int t_told_count, .int t_told_depth, .int t_told_noon, .int t_told_depthBehind])), (q_t_line, .inl (cI, 5, .inl t_line))] t.heap) (va_A [(q_t, .inr (6, [.ref q_t_told, .ref q_t_line, .ref q_t_strides, .ref q_t_strains, .int t_down, .int t_steps])), (q_t_told, .inr (3, [.ref q_t_told_beats, .ref q_t_told_kinds, .int t_told_count, .int t_told_depth, .int t_told_noon, .int t_told_depthBehind])), (q_t_line, .inl (cI, 5, .inl t_line))] sz)) 0 0 (va_A [(q_t, .inr (6, [.ref q_t_told, .ref q_t_line, .ref q_t_strides, .ref q_t_strains, .int t_down, .int t_steps])), (q_t_told, .inr (3, [.ref q_t_told_beats, .ref q_t_told_kinds, .int t_told_count, .int t_told_depth, .int t_told_noon, .int t_told_depthBehind])), (q_t_line, .inl (cI, 5, .inl t_line))] sz) := by
  refine MetI (cc := cX6_firstStanding) (maxL := 2) (by decide) rfl (Nat.le_of_ble_eq_true rfl) (fun _ h => h) ?_
  intro p e s m args below meth c A Q ls hx CF hK hA hD hP hS hl hB hAe hsz hret
  have hb := CF.2.1
  have hml := CF.2.2.1
  have hown := CF.2.2.2.1
  have hts := CF.2.2.2.2
  have hD0 := hD
  replace hl : lv_has ls 2 [(0, .ref q_t)] := hl
  have hinX6 : ∀ w ∈ wsX60, w ∈ wsX6_firstStanding := fun _ h => List.mem_cons_of_mem _ (List.mem_append_left _ (List.mem_append_right _ h))
  have hinX3 : ∀ w ∈ wsX30, w ∈ wsX6_firstStanding := fun _ h => List.mem_cons_of_mem _ (List.mem_append_right _ h)
  have w_0 := hts (.fieldLink RX6 21 "PassInStep$Yard" "told" "LPassInStep$Party;") (by decide +kernel)
  have h_2 : ∀ (fu2 : Nat) (x1 : Int32) (H : Heap) (locs : List Loc) (ls : Array Slot), va_P (dC, dI) vwCl [(q_t, .inr (6, [.ref q_t_told, .ref q_t_line, .ref q_t_strides, .ref q_t_strains, .int t_down, .int t_steps])), (q_t_told, .inr (3, [.ref q_t_told_beats, .ref q_t_told_kinds, .int t_told_count, .int t_told_depth, .int t_told_noon, .int t_told_depthBehind])), (q_t_line, .inl (cI, 5, .inl t_line))] H → va_S A s.heap H locs → lv_has ls 2 [(0, .ref q_t), (1, .int x1)] → L_X6_firstStanding_2 t_down t_told_count t_line fu2 x1 = some r_ → W p l e rm_X6_firstStanding s m args below meth c H locs 0 0 Q (F0 m 2 ls []) := by
    intro fu2
    induction fu2 with
    | zero =>
      intro x1 H locs ls hP hS hl hf
      rw [L_X6_firstStanding_2] at hf
      cases hf
    | succ fu2 ih2 =>
      intro x1 H locs ls hP hS hl hf
      have hD : va_D A [(q_t, .inr (6, [.ref q_t_told, .ref q_t_line, .ref q_t_strides, .ref q_t_strains, .int t_down, .int t_steps])), (q_t_told, .inr (3, [.ref q_t_told_beats, .ref q_t_told_kinds, .int t_told_count, .int t_told_depth, .int t_told_noon, .int t_told_depthBehind])), (q_t_line, .inl (cI, 5, .inl t_line))] := wd hD0 rfl
      rw [L_X6_firstStanding_2] at hf
      refine lv_iload_n hx hb dX6_firstStanding_2 rfl (lv_at hl 1 rfl) ?_
      refine lv_aload_n hx hb dX6_firstStanding_3 rfl (lv_at hl 0 rfl) ?_
      refine va_get (D := (dC, dI)) (ci := 6) (v := .ref q_t_told) (C := RX6) (T := TX6) (N := 6) hx hb hts hinX6 hown hK.1 hP 0 rfl rfl 0 (by decide) w_0 (fun _ h9 => h9) rfl dX6_firstStanding_4 ?_
      obtain ⟨r1, e3, hf⟩ := bd_ok hf
      refine kVi (As := []) CF (cwV 0 hts gX6_firstStanding_X3_size rfl rfl rfl (by decide +kernel) ⟨Nat.le_of_ble_eq_true rfl, Nat.le_of_ble_eq_true rfl⟩) PU_blind hP hD hS hA (va_recv hK.1 hP (ci := 3) (q0 := 1) rfl rfl) [1] (fun h1 h2 h3 => PU_pre hK h1 A h2 h3) (c_X3_size l dC dI cI cZ q_t_told q_t_told_beats q_t_told_kinds _ t_told_count t_told_depth t_told_noon t_told_depthBehind r1 e3) rfl rfl rfl rfl hl.1 rfl (Nat.le_of_ble_eq_true rfl) dX6_firstStanding_7 ⟨Nat.zero_le _, Nat.zero_le _⟩ (fun H locs hP hS => ?_)
      replace hP : va_P (dC, dI) vwCl [(q_t, .inr (6, [.ref q_t_told, .ref q_t_line, .ref q_t_strides, .ref q_t_strains, .int t_down, .int t_steps])), (q_t_told, .inr (3, [.ref q_t_told_beats, .ref q_t_told_kinds, .int t_told_count, .int t_told_depth, .int t_told_noon, .int t_told_depthBehind])), (q_t_line, .inl (cI, 5, .inl t_line))] H := hP
      refine lv_icmp_ge (tgt := 37) hx hb dX6_firstStanding_10 (by decide) (fun hc => ?_) (fun hc => ?_)
      · replace hf := ip hc hf
        refine lv_bipush (v := (-9)) hx hb dX6_firstStanding_37 (by decide) ?_
        have e0 := ij1 hf
        refine W.eq (congrArg (fun z => F0 m 39 ls [.int z]) e0) ?_
        exact hret _ _ _ _ hP hS dX6_firstStanding_39
      · replace hf := iq hc hf
        refine lv_aload_n hx hb dX6_firstStanding_13 rfl (lv_at hl 0 rfl) ?_
        refine lv_aload_n hx hb dX6_firstStanding_14 rfl (lv_at hl 0 rfl) ?_
        refine lv_iload_n hx hb dX6_firstStanding_15 rfl (lv_at hl 1 rfl) ?_
        obtain ⟨r4, e6, hf⟩ := bd_ok hf
        refine kVi (As := [.int x1]) CF (cwV 1 hts gX6_firstStanding_X6_walkerAt rfl rfl rfl (by decide +kernel) ⟨Nat.le_of_ble_eq_true rfl, Nat.le_of_ble_eq_true rfl⟩) PU_blind hP hD hS hA (va_recv hK.1 hP (ci := 6) (q0 := 0) rfl rfl) [0, 2] (fun h1 h2 h3 => PU_pre hK h1 A h2 h3) (c_X6_walkerAt l dC dI cI cZ q_t q_t_told q_t_line q_t_strides q_t_strains _ t_down t_steps t_line x1 r4 e6) rfl rfl rfl rfl hl.1 rfl (Nat.le_of_ble_eq_true rfl) dX6_firstStanding_16 ⟨Nat.zero_le _, Nat.zero_le _⟩ (fun H locs hP hS => ?_)
        replace hP : va_P (dC, dI) vwCl [(q_t, .inr (6, [.ref q_t_told, .ref q_t_line, .ref q_t_strides, .ref q_t_strains, .int t_down, .int t_steps])), (q_t_told, .inr (3, [.ref q_t_told_beats, .ref q_t_told_kinds, .int t_told_count, .int t_told_depth, .int t_told_noon, .int t_told_depthBehind])), (q_t_line, .inl (cI, 5, .inl t_line))] H := hP
        obtain ⟨r7, e9, hf⟩ := bd_ok hf
        refine kVi (As := [.int r4]) CF (cwV 1 hts gX6_firstStanding_X6_isDown rfl rfl rfl (by decide +kernel) ⟨Nat.le_of_ble_eq_true rfl, Nat.le_of_ble_eq_true rfl⟩) PU_blind hP hD hS hA (va_recv hK.1 hP (ci := 6) (q0 := 0) rfl rfl) [0] (fun h1 h2 h3 => PU_pre hK h1 A h2 h3) (c_X6_isDown l dC dI cI cZ q_t q_t_told q_t_line q_t_strides q_t_strains _ t_down t_steps r4 r7 e9) rfl rfl rfl rfl hl.1 rfl (Nat.le_of_ble_eq_true rfl) dX6_firstStanding_19 ⟨Nat.zero_le _, Nat.zero_le _⟩ (fun H locs hP hS => ?_)
        replace hP : va_P (dC, dI) vwCl [(q_t, .inr (6, [.ref q_t_told, .ref q_t_line, .ref q_t_strides, .ref q_t_strains, .int t_down, .int t_steps])), (q_t_told, .inr (3, [.ref q_t_told_beats, .ref q_t_told_kinds, .int t_told_count, .int t_told_depth, .int t_told_noon, .int t_told_depthBehind])), (q_t_line, .inl (cI, 5, .inl t_line))] H := hP
        refine lv_if_ne (tgt := 31) hx hb dX6_firstStanding_22 (by decide) (fun hc => ?_) (fun hc => ?_)
        · replace hf := iq hc hf
          refine lv_iinc (v := (x1 + 1)) (lv' := [(1, .int (x1 + 1)), (0, .ref q_t)]) hx hb dX6_firstStanding_31 hl (k := 1) rfl rfl (by decide) rfl (fun ls hl => ?_)
          refine lv_goto (tgt := 2) hx hb dX6_firstStanding_34 (by decide) ?_
          exact ih2 (x1 + 1) _ _ _ hP hS (lv_sub hl [1, 0] rfl) hf
        · replace hf := ip hc hf
          refine lv_aload_n hx hb dX6_firstStanding_25 rfl (lv_at hl 0 rfl) ?_
          refine lv_iload_n hx hb dX6_firstStanding_26 rfl (lv_at hl 1 rfl) ?_
          obtain ⟨r10, e12, hf⟩ := bd_ok hf
          refine kVi (As := [.int x1]) CF (cwV 1 hts gX6_firstStanding_X6_walkerAt rfl rfl rfl (by decide +kernel) ⟨Nat.le_of_ble_eq_true rfl, Nat.le_of_ble_eq_true rfl⟩) PU_blind hP hD hS hA (va_recv hK.1 hP (ci := 6) (q0 := 0) rfl rfl) [0, 2] (fun h1 h2 h3 => PU_pre hK h1 A h2 h3) (c_X6_walkerAt l dC dI cI cZ q_t q_t_told q_t_line q_t_strides q_t_strains _ t_down t_steps t_line x1 r10 e12) rfl rfl rfl rfl hl.1 rfl (Nat.le_of_ble_eq_true rfl) dX6_firstStanding_27 ⟨Nat.zero_le _, Nat.zero_le _⟩ (fun H locs hP hS => ?_)
          replace hP : va_P (dC, dI) vwCl [(q_t, .inr (6, [.ref q_t_told, .ref q_t_line, .ref q_t_strides, .ref q_t_strains, .int t_down, .int t_steps])), (q_t_told, .inr (3, [.ref q_t_told_beats, .ref q_t_told_kinds, .int t_told_count, .int t_told_depth, .int t_told_noon, .int t_told_depthBehind])), (q_t_line, .inl (cI, 5, .inl t_line))] H := hP
          have e0 := ij1 hf
          refine W.eq (congrArg (fun z => F0 m 30 ls [.int z]) e0) ?_
          exact hret _ _ _ _ hP hS dX6_firstStanding_30
  rw [f_X6_firstStanding] at hf
  refine lv_iconst (v := 0) hx hb dX6_firstStanding_0 (by decide) ?_
  refine lv_istore_n (lv' := [(1, .int 0), (0, .ref q_t)]) hx hb dX6_firstStanding_1 rfl hl (by decide) rfl (fun ls hl => ?_)
  exact h_2 fuelC 0 _ _ _ hP hS (lv_sub hl [1, 0] rfl) hf
abbrev rm_X1_canDrillBy : Room := { frames := 2, cells := 0, slots := 0, locals := 42 }
set_option maxHeartbeats 4000000 in
set_option maxRecDepth 100000 in
theorem c_X1_canDrillBy (l : Launch) (dC : Nat → ClassId) (dI : Nat → Nat → Nat) (cI cZ : ClassId) (q_t q_t_told q_t_now q_t_trial q_t_now_line q_t_now_strides q_t_now_strains : Nat) (sz : Nat) (t_now_down : Int32) (t_now_steps : Int32) (t_now_strides : Nat → Int32) (x1 : Int32) (x2 : Int32) (r_ : Int32) (hf : f_X1_canDrillBy x1 x2 t_now_strides = some r_) : Met l yX1_canDrillBy wsX1_canDrillBy rm_X1_canDrillBy (va_Pc [.ref q_t, .int x1, .int x2] (PU (dC, dI) cI cZ [(q_t, .inr (1, [.ref q_t_told, .ref q_t_now, .ref q_t_trial])), (q_t_now, .inr (6, [.ref q_t_told, .ref q_t_now_line, .ref q_t_now_strides, .ref q_t_now_strains, .int t_now_down, .int t_now_steps])), (q_t_now_strides, .inl (cI, 5, .inl t_now_strides))] sz)) (va_Qi (fun (r : Int32) (_ : Unit) => r = r_) (fun _ t => va_P (dC, dI) vwCl [(q_t, .inr (1, [.ref q_t_told, .ref q_t_now, .ref q_t_trial])), (q_t_now, .inr (6, [.ref q_t_told, .ref q_t_now_line, .ref q_t_now_strides, .ref q_t_now_strains, .int t_now_down, .int t_now_steps])), (q_t_now_strides, .inl (cI, 5, .inl t_now_strides))] t.heap) (va_A [(q_t, .inr (1, [.ref q_t_told, .ref q_t_now, .ref q_t_trial])), (q_t_now, .inr (6, [.ref q_t_told, .ref q_t_now_line, .ref q_t_now_strides, .ref q_t_now_strains, .int t_now_down, .int t_now_steps])), (q_t_now_strides, .inl (cI, 5, .inl t_now_strides))] sz)) 0 0 (va_A [(q_t, .inr (1, [.ref q_t_told, .ref q_t_now, .ref q_t_trial])), (q_t_now, .inr (6, [.ref q_t_told, .ref q_t_now_line, .ref q_t_now_strides, .ref q_t_now_strains, .int t_now_down, .int t_now_steps])), (q_t_now_strides, .inl (cI, 5, .inl t_now_strides))] sz) := by
  refine MetZ (cc := cX1_canDrillBy) (maxL := 3) (by decide) rfl (Nat.le_of_ble_eq_true rfl) (fun _ h => h) ?_
  intro p e s m args below meth c A Q ls hx CF hK hA hD hP hS hl hB hAe hsz hret
  have hb := CF.2.1
  have hml := CF.2.2.1
  have hown := CF.2.2.2.1
  have hts := CF.2.2.2.2
  have hD0 := hD
  replace hl : lv_has ls 3 [(0, .ref q_t), (1, .int x1), (2, .int x2)] := hl
  have hinX1 : ∀ w ∈ wsX10, w ∈ wsX1_canDrillBy := fun _ h => List.mem_cons_of_mem _ (List.mem_append_left _ (List.mem_append_right _ h))
  have hinX6 : ∀ w ∈ wsX60, w ∈ wsX1_canDrillBy := fun _ h => List.mem_cons_of_mem _ (List.mem_append_right _ h)
  have w_0 := hts (.initialized RX7) (by decide +kernel)
  have w_1 := hts (.static yX7_isBetween) (by decide +kernel)
  have w_2 := hts (.fieldLink RX1 15 "PassInStep$Foresight" "now" "LPassInStep$Yard;") (by decide +kernel)
  have h_33 : ∀ (H : Heap) (locs : List Loc) (ls : Array Slot), va_P (dC, dI) vwCl [(q_t, .inr (1, [.ref q_t_told, .ref q_t_now, .ref q_t_trial])), (q_t_now, .inr (6, [.ref q_t_told, .ref q_t_now_line, .ref q_t_now_strides, .ref q_t_now_strains, .int t_now_down, .int t_now_steps])), (q_t_now_strides, .inl (cI, 5, .inl t_now_strides))] H → va_S A s.heap H locs → lv_has ls 3 [] → J_X1_canDrillBy_33 = some r_ → W p l e rm_X1_canDrillBy s m args below meth c H locs 0 0 Q (F0 m 33 ls []) := by
    intro  H locs ls hP hS hl hf
    have hD : va_D A [(q_t, .inr (1, [.ref q_t_told, .ref q_t_now, .ref q_t_trial])), (q_t_now, .inr (6, [.ref q_t_told, .ref q_t_now_line, .ref q_t_now_strides, .ref q_t_now_strains, .int t_now_down, .int t_now_steps])), (q_t_now_strides, .inl (cI, 5, .inl t_now_strides))] := wd hD0 rfl
    rw [J_X1_canDrillBy_33] at hf
    refine lv_iconst (v := 0) hx hb dX1_canDrillBy_33 (by decide) ?_
    have e0 := ij1 hf
    refine W.eq (congrArg (fun z => F0 m 34 ls [.int z]) e0) ?_
    exact hret _ _ _ _ hP hS (by rw [← e0]; rfl) dX1_canDrillBy_34
  rw [f_X1_canDrillBy] at hf
  refine lv_iload_n hx hb dX1_canDrillBy_0 rfl (lv_at hl 2 rfl) ?_
  refine lv_bipush (v := (-2)) hx hb dX1_canDrillBy_1 (by decide) ?_
  refine lv_iconst (v := 2) hx hb dX1_canDrillBy_3 (by decide) ?_
  obtain ⟨r1, e3, hf⟩ := bd_ok hf
  refine kNi (As := [.int x2, .int (-2), .int 2]) CF ⟨va_cnB 3 hts gX1_canDrillBy_X7_isBetween_n88 rfl rfl rfl (nw_X1_88 hK.2) w_0 (by decide +kernel) ⟨Nat.le_of_ble_eq_true rfl, Nat.le_of_ble_eq_true rfl⟩, w_1, trivial⟩ PU_blind hP hD hS hA [] (fun h1 h2 h3 => PU_pre hK h1 A h2 h3) (c_X7_isBetween l dC dI cI cZ _ x2 (-2) 2 r1 e3) rfl rfl rfl rfl hl.1 rfl (Nat.le_of_ble_eq_true rfl) dX1_canDrillBy_4 ⟨Nat.zero_le _, Nat.zero_le _⟩ (fun H locs hP hS => ?_)
  replace hP : va_P (dC, dI) vwCl [(q_t, .inr (1, [.ref q_t_told, .ref q_t_now, .ref q_t_trial])), (q_t_now, .inr (6, [.ref q_t_told, .ref q_t_now_line, .ref q_t_now_strides, .ref q_t_now_strains, .int t_now_down, .int t_now_steps])), (q_t_now_strides, .inl (cI, 5, .inl t_now_strides))] H := hP
  refine lv_if_eq (tgt := 33) hx hb dX1_canDrillBy_7 (by decide) (fun hc => ?_) (fun hc => ?_)
  · replace hf := ip hc hf
    exact h_33 _ _ _ hP hS (lv_sub hl [] rfl) hf
  · replace hf := iq hc hf
    refine lv_aload_n hx hb dX1_canDrillBy_10 rfl (lv_at hl 0 rfl) ?_
    refine va_get (D := (dC, dI)) (ci := 1) (v := .ref q_t_now) (C := RX1) (T := TX1) (N := 3) hx hb hts hinX1 hown hK.1 hP 0 rfl rfl 1 (by decide) w_2 (fun _ h9 => h9) rfl dX1_canDrillBy_11 ?_
    refine lv_iload_n hx hb dX1_canDrillBy_14 rfl (lv_at hl 1 rfl) ?_
    obtain ⟨r4, e6, hf⟩ := bd_ok hf
    refine kVi (As := [.int x1]) CF (cwV 1 hts gX1_canDrillBy_X6_strideOf rfl rfl rfl (by decide +kernel) ⟨Nat.le_of_ble_eq_true rfl, Nat.le_of_ble_eq_true rfl⟩) PU_blind hP hD hS hA (va_recv hK.1 hP (ci := 6) (q0 := 1) rfl rfl) [1, 2] (fun h1 h2 h3 => PU_pre hK h1 A h2 h3) (c_X6_strideOf l dC dI cI cZ q_t_now q_t_told q_t_now_line q_t_now_strides q_t_now_strains _ t_now_down t_now_steps t_now_strides x1 r4 e6) rfl rfl rfl rfl hl.1 rfl (Nat.le_of_ble_eq_true rfl) dX1_canDrillBy_15 ⟨Nat.zero_le _, Nat.zero_le _⟩ (fun H locs hP hS => ?_)
    replace hP : va_P (dC, dI) vwCl [(q_t, .inr (1, [.ref q_t_told, .ref q_t_now, .ref q_t_trial])), (q_t_now, .inr (6, [.ref q_t_told, .ref q_t_now_line, .ref q_t_now_strides, .ref q_t_now_strains, .int t_now_down, .int t_now_steps])), (q_t_now_strides, .inl (cI, 5, .inl t_now_strides))] H := hP
    refine lv_iload_n hx hb dX1_canDrillBy_18 rfl (lv_at hl 2 rfl) ?_
    refine lv_iadd hx hb dX1_canDrillBy_19 ?_
    refine lv_iconst (v := 1) hx hb dX1_canDrillBy_20 (by decide) ?_
    refine lv_bipush (v := 9) hx hb dX1_canDrillBy_21 (by decide) ?_
    obtain ⟨r7, e9, hf⟩ := bd_ok hf
    refine kNi (As := [.int (r4 + x2), .int 1, .int 9]) CF ⟨va_cnB 3 hts gX1_canDrillBy_X7_isBetween_n88 rfl rfl rfl (nw_X1_88 hK.2) w_0 (by decide +kernel) ⟨Nat.le_of_ble_eq_true rfl, Nat.le_of_ble_eq_true rfl⟩, w_1, trivial⟩ PU_blind hP hD hS hA [] (fun h1 h2 h3 => PU_pre hK h1 A h2 h3) (c_X7_isBetween l dC dI cI cZ _ (r4 + x2) 1 9 r7 e9) rfl rfl rfl rfl hl.1 rfl (Nat.le_of_ble_eq_true rfl) dX1_canDrillBy_23 ⟨Nat.zero_le _, Nat.zero_le _⟩ (fun H locs hP hS => ?_)
    replace hP : va_P (dC, dI) vwCl [(q_t, .inr (1, [.ref q_t_told, .ref q_t_now, .ref q_t_trial])), (q_t_now, .inr (6, [.ref q_t_told, .ref q_t_now_line, .ref q_t_now_strides, .ref q_t_now_strains, .int t_now_down, .int t_now_steps])), (q_t_now_strides, .inl (cI, 5, .inl t_now_strides))] H := hP
    refine lv_if_eq (tgt := 33) hx hb dX1_canDrillBy_26 (by decide) (fun hc => ?_) (fun hc => ?_)
    · replace hf := ip hc hf
      exact h_33 _ _ _ hP hS (lv_sub hl [] rfl) hf
    · replace hf := iq hc hf
      refine lv_iconst (v := 1) hx hb dX1_canDrillBy_29 (by decide) ?_
      refine lv_goto (tgt := 34) hx hb dX1_canDrillBy_30 (by decide) ?_
      have e0 := ij1 hf
      refine W.eq (congrArg (fun z => F0 m 34 ls [.int z]) e0) ?_
      exact hret _ _ _ _ hP hS (by rw [← e0]; rfl) dX1_canDrillBy_34
abbrev rm_X6_stepNumber : Room := { frames := 0, cells := 0, slots := 0, locals := 0 }
set_option maxHeartbeats 4000000 in
set_option maxRecDepth 100000 in
theorem c_X6_stepNumber (l : Launch) (dC : Nat → ClassId) (dI : Nat → Nat → Nat) (cI cZ : ClassId) (q_t q_t_told q_t_line q_t_strides q_t_strains : Nat) (sz : Nat) (t_down : Int32) (t_steps : Int32) (r_ : Int32) (hf : f_X6_stepNumber t_steps = some r_) : Met l yX6_stepNumber wsX6_stepNumber rm_X6_stepNumber (va_Pc [.ref q_t] (PU (dC, dI) cI cZ [(q_t, .inr (6, [.ref q_t_told, .ref q_t_line, .ref q_t_strides, .ref q_t_strains, .int t_down, .int t_steps]))] sz)) (va_Qi (fun (r : Int32) (_ : Unit) => r = r_) (fun _ t => va_P (dC, dI) vwCl [(q_t, .inr (6, [.ref q_t_told, .ref q_t_line, .ref q_t_strides, .ref q_t_strains, .int t_down, .int t_steps]))] t.heap) (va_A [(q_t, .inr (6, [.ref q_t_told, .ref q_t_line, .ref q_t_strides, .ref q_t_strains, .int t_down, .int t_steps]))] sz)) 0 0 (va_A [(q_t, .inr (6, [.ref q_t_told, .ref q_t_line, .ref q_t_strides, .ref q_t_strains, .int t_down, .int t_steps]))] sz) := by
  refine MetI (cc := cX6_stepNumber) (maxL := 1) (by decide) rfl (Nat.le_of_ble_eq_true rfl) (fun _ h => h) ?_
  intro p e s m args below meth c A Q ls hx CF hK hA hD hP hS hl hB hAe hsz hret
  have hb := CF.2.1
  have hml := CF.2.2.1
  have hown := CF.2.2.2.1
  have hts := CF.2.2.2.2
  have hD0 := hD
  replace hl : lv_has ls 1 [(0, .ref q_t)] := hl
  have hinX6 : ∀ w ∈ wsX60, w ∈ wsX6_stepNumber := fun _ h => List.mem_cons_of_mem _ (List.mem_append_right _ h)
  have w_0 := hts (.fieldLink RX6 45 "PassInStep$Yard" "steps" "I") (by decide +kernel)
  rw [f_X6_stepNumber] at hf
  refine lv_aload_n hx hb dX6_stepNumber_0 rfl (lv_at hl 0 rfl) ?_
  refine va_get (D := (dC, dI)) (ci := 6) (v := .int t_steps) (C := RX6) (T := TX6) (N := 6) hx hb hts hinX6 hown hK.1 hP 0 rfl rfl 5 (by decide) w_0 (fun _ h9 => h9) rfl dX6_stepNumber_1 ?_
  have e0 := ij1 hf
  refine W.eq (congrArg (fun z => F0 m 4 ls [.int z]) e0) ?_
  exact hret _ _ _ _ hP hS dX6_stepNumber_4
abbrev rm_X6_treadOfOne : Room := { frames := 2, cells := 0, slots := 0, locals := 42 }
set_option maxHeartbeats 4000000 in
set_option maxRecDepth 100000 in
theorem c_X6_treadOfOne (l : Launch) (dC : Nat → ClassId) (dI : Nat → Nat → Nat) (cI cZ : ClassId) (q_t q_t_told q_t_line q_t_strides q_t_strains q_t_told_beats q_t_told_kinds : Nat) (sz : Nat) (t_down : Int32) (t_steps : Int32) (t_told_count : Int32) (t_told_depth : Int32) (t_told_noon : Int32) (t_told_depthBehind : Int32) (t_told_kinds : Nat → Int32) (t_strides : Nat → Int32) (t_told_beats : Nat → Int32) (x1 : Int32) (x2 : Int32) (r_ : Int32) (hf : f_X6_treadOfOne x1 x2 t_told_kinds t_strides t_told_beats = some r_) : Met l yX6_treadOfOne wsX6_treadOfOne rm_X6_treadOfOne (va_Pc [.ref q_t, .int x1, .int x2] (PU (dC, dI) cI cZ [(q_t, .inr (6, [.ref q_t_told, .ref q_t_line, .ref q_t_strides, .ref q_t_strains, .int t_down, .int t_steps])), (q_t_told, .inr (3, [.ref q_t_told_beats, .ref q_t_told_kinds, .int t_told_count, .int t_told_depth, .int t_told_noon, .int t_told_depthBehind])), (q_t_told_kinds, .inl (cI, 5, .inl t_told_kinds)), (q_t_strides, .inl (cI, 5, .inl t_strides)), (q_t_told_beats, .inl (cI, 5, .inl t_told_beats))] sz)) (va_Qi (fun (r : Int32) (_ : Unit) => r = r_) (fun _ t => va_P (dC, dI) vwCl [(q_t, .inr (6, [.ref q_t_told, .ref q_t_line, .ref q_t_strides, .ref q_t_strains, .int t_down, .int t_steps])), (q_t_told, .inr (3, [.ref q_t_told_beats, .ref q_t_told_kinds, .int t_told_count, .int t_told_depth, .int t_told_noon, .int t_told_depthBehind])), (q_t_told_kinds, .inl (cI, 5, .inl t_told_kinds)), (q_t_strides, .inl (cI, 5, .inl t_strides)), (q_t_told_beats, .inl (cI, 5, .inl t_told_beats))] t.heap) (va_A [(q_t, .inr (6, [.ref q_t_told, .ref q_t_line, .ref q_t_strides, .ref q_t_strains, .int t_down, .int t_steps])), (q_t_told, .inr (3, [.ref q_t_told_beats, .ref q_t_told_kinds, .int t_told_count, .int t_told_depth, .int t_told_noon, .int t_told_depthBehind])), (q_t_told_kinds, .inl (cI, 5, .inl t_told_kinds)), (q_t_strides, .inl (cI, 5, .inl t_strides)), (q_t_told_beats, .inl (cI, 5, .inl t_told_beats))] sz)) 0 0 (va_A [(q_t, .inr (6, [.ref q_t_told, .ref q_t_line, .ref q_t_strides, .ref q_t_strains, .int t_down, .int t_steps])), (q_t_told, .inr (3, [.ref q_t_told_beats, .ref q_t_told_kinds, .int t_told_count, .int t_told_depth, .int t_told_noon, .int t_told_depthBehind])), (q_t_told_kinds, .inl (cI, 5, .inl t_told_kinds)), (q_t_strides, .inl (cI, 5, .inl t_strides)), (q_t_told_beats, .inl (cI, 5, .inl t_told_beats))] sz) := by
  refine MetI (cc := cX6_treadOfOne) (maxL := 3) (by decide) rfl (Nat.le_of_ble_eq_true rfl) (fun _ h => h) ?_
  intro p e s m args below meth c A Q ls hx CF hK hA hD hP hS hl hB hAe hsz hret
  have hb := CF.2.1
  have hml := CF.2.2.1
  have hown := CF.2.2.2.1
  have hts := CF.2.2.2.2
  have hD0 := hD
  replace hl : lv_has ls 3 [(0, .ref q_t), (1, .int x1), (2, .int x2)] := hl
  have hinX6 : ∀ w ∈ wsX60, w ∈ wsX6_treadOfOne := fun _ h => List.mem_cons_of_mem _ (List.mem_append_left _ (List.mem_append_right _ h))
  have hinX3 : ∀ w ∈ wsX30, w ∈ wsX6_treadOfOne := fun _ h => List.mem_cons_of_mem _ (List.mem_append_right _ h)
  have w_0 := hts (.fieldLink RX6 21 "PassInStep$Yard" "told" "LPassInStep$Party;") (by decide +kernel)
  have w_1 := hts (.initialized RX7) (by decide +kernel)
  have w_2 := hts (.static yX7_treadAlone) (by decide +kernel)
  rw [f_X6_treadOfOne] at hf
  refine lv_aload_n hx hb dX6_treadOfOne_0 rfl (lv_at hl 0 rfl) ?_
  refine va_get (D := (dC, dI)) (ci := 6) (v := .ref q_t_told) (C := RX6) (T := TX6) (N := 6) hx hb hts hinX6 hown hK.1 hP 0 rfl rfl 0 (by decide) w_0 (fun _ h9 => h9) rfl dX6_treadOfOne_1 ?_
  refine lv_iload_n hx hb dX6_treadOfOne_4 rfl (lv_at hl 1 rfl) ?_
  obtain ⟨r1, e3, hf⟩ := bd_ok hf
  refine kVi (As := [.int x1]) CF (cwV 1 hts gX6_treadOfOne_X3_kindOf rfl rfl rfl (by decide +kernel) ⟨Nat.le_of_ble_eq_true rfl, Nat.le_of_ble_eq_true rfl⟩) PU_blind hP hD hS hA (va_recv hK.1 hP (ci := 3) (q0 := 1) rfl rfl) [1, 2] (fun h1 h2 h3 => PU_pre hK h1 A h2 h3) (c_X3_kindOf l dC dI cI cZ q_t_told q_t_told_beats q_t_told_kinds _ t_told_count t_told_depth t_told_noon t_told_depthBehind t_told_kinds x1 r1 e3) rfl rfl rfl rfl hl.1 rfl (Nat.le_of_ble_eq_true rfl) dX6_treadOfOne_5 ⟨Nat.zero_le _, Nat.zero_le _⟩ (fun H locs hP hS => ?_)
  replace hP : va_P (dC, dI) vwCl [(q_t, .inr (6, [.ref q_t_told, .ref q_t_line, .ref q_t_strides, .ref q_t_strains, .int t_down, .int t_steps])), (q_t_told, .inr (3, [.ref q_t_told_beats, .ref q_t_told_kinds, .int t_told_count, .int t_told_depth, .int t_told_noon, .int t_told_depthBehind])), (q_t_told_kinds, .inl (cI, 5, .inl t_told_kinds)), (q_t_strides, .inl (cI, 5, .inl t_strides)), (q_t_told_beats, .inl (cI, 5, .inl t_told_beats))] H := hP
  refine lv_aload_n hx hb dX6_treadOfOne_8 rfl (lv_at hl 0 rfl) ?_
  refine lv_iload_n hx hb dX6_treadOfOne_9 rfl (lv_at hl 1 rfl) ?_
  obtain ⟨r4, e6, hf⟩ := bd_ok hf
  refine kVi (As := [.int x1]) CF (cwV 1 hts gX6_treadOfOne_X6_strideOf rfl rfl rfl (by decide +kernel) ⟨Nat.le_of_ble_eq_true rfl, Nat.le_of_ble_eq_true rfl⟩) PU_blind hP hD hS hA (va_recv hK.1 hP (ci := 6) (q0 := 0) rfl rfl) [0, 3] (fun h1 h2 h3 => PU_pre hK h1 A h2 h3) (c_X6_strideOf l dC dI cI cZ q_t q_t_told q_t_line q_t_strides q_t_strains _ t_down t_steps t_strides x1 r4 e6) rfl rfl rfl rfl hl.1 rfl (Nat.le_of_ble_eq_true rfl) dX6_treadOfOne_10 ⟨Nat.zero_le _, Nat.zero_le _⟩ (fun H locs hP hS => ?_)
  replace hP : va_P (dC, dI) vwCl [(q_t, .inr (6, [.ref q_t_told, .ref q_t_line, .ref q_t_strides, .ref q_t_strains, .int t_down, .int t_steps])), (q_t_told, .inr (3, [.ref q_t_told_beats, .ref q_t_told_kinds, .int t_told_count, .int t_told_depth, .int t_told_noon, .int t_told_depthBehind])), (q_t_told_kinds, .inl (cI, 5, .inl t_told_kinds)), (q_t_strides, .inl (cI, 5, .inl t_strides)), (q_t_told_beats, .inl (cI, 5, .inl t_told_beats))] H := hP
  refine lv_aload_n hx hb dX6_treadOfOne_13 rfl (lv_at hl 0 rfl) ?_
  refine va_get (D := (dC, dI)) (ci := 6) (v := .ref q_t_told) (C := RX6) (T := TX6) (N := 6) hx hb hts hinX6 hown hK.1 hP 0 rfl rfl 0 (by decide) w_0 (fun _ h9 => h9) rfl dX6_treadOfOne_14 ?_
  refine lv_iload_n hx hb dX6_treadOfOne_17 rfl (lv_at hl 1 rfl) ?_
  obtain ⟨r7, e9, hf⟩ := bd_ok hf
  refine kVi (As := [.int x1]) CF (cwV 1 hts gX6_treadOfOne_X3_beatOf rfl rfl rfl (by decide +kernel) ⟨Nat.le_of_ble_eq_true rfl, Nat.le_of_ble_eq_true rfl⟩) PU_blind hP hD hS hA (va_recv hK.1 hP (ci := 3) (q0 := 1) rfl rfl) [1, 4] (fun h1 h2 h3 => PU_pre hK h1 A h2 h3) (c_X3_beatOf l dC dI cI cZ q_t_told q_t_told_beats q_t_told_kinds _ t_told_count t_told_depth t_told_noon t_told_depthBehind t_told_beats x1 r7 e9) rfl rfl rfl rfl hl.1 rfl (Nat.le_of_ble_eq_true rfl) dX6_treadOfOne_18 ⟨Nat.zero_le _, Nat.zero_le _⟩ (fun H locs hP hS => ?_)
  replace hP : va_P (dC, dI) vwCl [(q_t, .inr (6, [.ref q_t_told, .ref q_t_line, .ref q_t_strides, .ref q_t_strains, .int t_down, .int t_steps])), (q_t_told, .inr (3, [.ref q_t_told_beats, .ref q_t_told_kinds, .int t_told_count, .int t_told_depth, .int t_told_noon, .int t_told_depthBehind])), (q_t_told_kinds, .inl (cI, 5, .inl t_told_kinds)), (q_t_strides, .inl (cI, 5, .inl t_strides)), (q_t_told_beats, .inl (cI, 5, .inl t_told_beats))] H := hP
  refine lv_iload_n hx hb dX6_treadOfOne_21 rfl (lv_at hl 2 rfl) ?_
  obtain ⟨r10, e12, hf⟩ := bd_ok hf
  refine kNi (As := [.int r1, .int r4, .int r7, .int x2]) CF ⟨va_cnB 4 hts gX6_treadOfOne_X7_treadAlone_n83 rfl rfl rfl (nw_X6_83 hK.2) w_1 (by decide +kernel) ⟨Nat.le_of_ble_eq_true rfl, Nat.le_of_ble_eq_true rfl⟩, w_2, trivial⟩ PU_blind hP hD hS hA [] (fun h1 h2 h3 => PU_pre hK h1 A h2 h3) (c_X7_treadAlone l dC dI cI cZ _ r1 r4 r7 x2 r10 e12) rfl rfl rfl rfl hl.1 rfl (Nat.le_of_ble_eq_true rfl) dX6_treadOfOne_22 ⟨Nat.zero_le _, Nat.zero_le _⟩ (fun H locs hP hS => ?_)
  replace hP : va_P (dC, dI) vwCl [(q_t, .inr (6, [.ref q_t_told, .ref q_t_line, .ref q_t_strides, .ref q_t_strains, .int t_down, .int t_steps])), (q_t_told, .inr (3, [.ref q_t_told_beats, .ref q_t_told_kinds, .int t_told_count, .int t_told_depth, .int t_told_noon, .int t_told_depthBehind])), (q_t_told_kinds, .inl (cI, 5, .inl t_told_kinds)), (q_t_strides, .inl (cI, 5, .inl t_strides)), (q_t_told_beats, .inl (cI, 5, .inl t_told_beats))] H := hP
  have e0 := ij1 hf
  refine W.eq (congrArg (fun z => F0 m 25 ls [.int z]) e0) ?_
  exact hret _ _ _ _ hP hS dX6_treadOfOne_25
abbrev rm_X1_snowHolds : Room := { frames := 3, cells := 0, slots := 0, locals := 64 }
set_option maxHeartbeats 4000000 in
set_option maxRecDepth 100000 in
theorem c_X1_snowHolds (l : Launch) (dC : Nat → ClassId) (dI : Nat → Nat → Nat) (cI cZ : ClassId) (q_t q_t_told q_t_now q_t_trial q_t_now_line q_t_now_strides q_t_now_strains q_t_told_beats q_t_told_kinds : Nat) (sz : Nat) (t_now_down : Int32) (t_now_steps : Int32) (t_told_count : Int32) (t_told_depth : Int32) (t_told_noon : Int32) (t_told_depthBehind : Int32) (t_told_kinds : Nat → Int32) (t_now_strides : Nat → Int32) (t_told_beats : Nat → Int32) (x1 : Int32) (x2 : Int32) (r_ : Int32) (hf : f_X1_snowHolds x1 x2 t_now_steps t_told_depth t_told_noon t_told_depthBehind t_told_kinds t_now_strides t_told_beats = some r_) : Met l yX1_snowHolds wsX1_snowHolds rm_X1_snowHolds (va_Pc [.ref q_t, .int x1, .int x2] (PU (dC, dI) cI cZ [(q_t, .inr (1, [.ref q_t_told, .ref q_t_now, .ref q_t_trial])), (q_t_now, .inr (6, [.ref q_t_told, .ref q_t_now_line, .ref q_t_now_strides, .ref q_t_now_strains, .int t_now_down, .int t_now_steps])), (q_t_told, .inr (3, [.ref q_t_told_beats, .ref q_t_told_kinds, .int t_told_count, .int t_told_depth, .int t_told_noon, .int t_told_depthBehind])), (q_t_told_kinds, .inl (cI, 5, .inl t_told_kinds)), (q_t_now_strides, .inl (cI, 5, .inl t_now_strides)), (q_t_told_beats, .inl (cI, 5, .inl t_told_beats))] sz)) (va_Qi (fun (r : Int32) (_ : Unit) => r = r_) (fun _ t => va_P (dC, dI) vwCl [(q_t, .inr (1, [.ref q_t_told, .ref q_t_now, .ref q_t_trial])), (q_t_now, .inr (6, [.ref q_t_told, .ref q_t_now_line, .ref q_t_now_strides, .ref q_t_now_strains, .int t_now_down, .int t_now_steps])), (q_t_told, .inr (3, [.ref q_t_told_beats, .ref q_t_told_kinds, .int t_told_count, .int t_told_depth, .int t_told_noon, .int t_told_depthBehind])), (q_t_told_kinds, .inl (cI, 5, .inl t_told_kinds)), (q_t_now_strides, .inl (cI, 5, .inl t_now_strides)), (q_t_told_beats, .inl (cI, 5, .inl t_told_beats))] t.heap) (va_A [(q_t, .inr (1, [.ref q_t_told, .ref q_t_now, .ref q_t_trial])), (q_t_now, .inr (6, [.ref q_t_told, .ref q_t_now_line, .ref q_t_now_strides, .ref q_t_now_strains, .int t_now_down, .int t_now_steps])), (q_t_told, .inr (3, [.ref q_t_told_beats, .ref q_t_told_kinds, .int t_told_count, .int t_told_depth, .int t_told_noon, .int t_told_depthBehind])), (q_t_told_kinds, .inl (cI, 5, .inl t_told_kinds)), (q_t_now_strides, .inl (cI, 5, .inl t_now_strides)), (q_t_told_beats, .inl (cI, 5, .inl t_told_beats))] sz)) 0 0 (va_A [(q_t, .inr (1, [.ref q_t_told, .ref q_t_now, .ref q_t_trial])), (q_t_now, .inr (6, [.ref q_t_told, .ref q_t_now_line, .ref q_t_now_strides, .ref q_t_now_strains, .int t_now_down, .int t_now_steps])), (q_t_told, .inr (3, [.ref q_t_told_beats, .ref q_t_told_kinds, .int t_told_count, .int t_told_depth, .int t_told_noon, .int t_told_depthBehind])), (q_t_told_kinds, .inl (cI, 5, .inl t_told_kinds)), (q_t_now_strides, .inl (cI, 5, .inl t_now_strides)), (q_t_told_beats, .inl (cI, 5, .inl t_told_beats))] sz) := by
  refine MetZ (cc := cX1_snowHolds) (maxL := 5) (by decide) rfl (Nat.le_of_ble_eq_true rfl) (fun _ h => h) ?_
  intro p e s m args below meth c A Q ls hx CF hK hA hD hP hS hl hB hAe hsz hret
  have hb := CF.2.1
  have hml := CF.2.2.1
  have hown := CF.2.2.2.1
  have hts := CF.2.2.2.2
  have hD0 := hD
  replace hl : lv_has ls 5 [(0, .ref q_t), (1, .int x1), (2, .int x2)] := hl
  have hinX1 : ∀ w ∈ wsX10, w ∈ wsX1_snowHolds := fun _ h => List.mem_cons_of_mem _ (List.mem_append_left _ (List.mem_append_left _ (List.mem_append_right _ h)))
  have hinX6 : ∀ w ∈ wsX60, w ∈ wsX1_snowHolds := fun _ h => List.mem_cons_of_mem _ (List.mem_append_left _ (List.mem_append_right _ h))
  have hinX3 : ∀ w ∈ wsX30, w ∈ wsX1_snowHolds := fun _ h => List.mem_cons_of_mem _ (List.mem_append_right _ h)
  have w_0 := hts (.fieldLink RX1 15 "PassInStep$Foresight" "now" "LPassInStep$Yard;") (by decide +kernel)
  have w_1 := hts (.fieldLink RX1 9 "PassInStep$Foresight" "told" "LPassInStep$Party;") (by decide +kernel)
  have w_2 := hts (.initialized RX7) (by decide +kernel)
  have w_3 := hts (.static yX7_isBetween) (by decide +kernel)
  have h_2 : ∀ (x1 : Int32) (x2 : Int32) (fu2 : Nat) (x3 : Int32) (H : Heap) (locs : List Loc) (ls : Array Slot), va_P (dC, dI) vwCl [(q_t, .inr (1, [.ref q_t_told, .ref q_t_now, .ref q_t_trial])), (q_t_now, .inr (6, [.ref q_t_told, .ref q_t_now_line, .ref q_t_now_strides, .ref q_t_now_strains, .int t_now_down, .int t_now_steps])), (q_t_told, .inr (3, [.ref q_t_told_beats, .ref q_t_told_kinds, .int t_told_count, .int t_told_depth, .int t_told_noon, .int t_told_depthBehind])), (q_t_told_kinds, .inl (cI, 5, .inl t_told_kinds)), (q_t_now_strides, .inl (cI, 5, .inl t_now_strides)), (q_t_told_beats, .inl (cI, 5, .inl t_told_beats))] H → va_S A s.heap H locs → lv_has ls 5 [(0, .ref q_t), (1, .int x1), (2, .int x2), (3, .int x3)] → L_X1_snowHolds_2 x1 x2 t_now_steps t_told_depth t_told_noon t_told_depthBehind t_told_kinds t_now_strides t_told_beats fu2 x3 = some r_ → W p l e rm_X1_snowHolds s m args below meth c H locs 0 0 Q (F0 m 2 ls []) := by
    intro x1 x2 fu2
    induction fu2 with
    | zero =>
      intro x3 H locs ls hP hS hl hf
      rw [L_X1_snowHolds_2] at hf
      cases hf
    | succ fu2 ih2 =>
      intro x3 H locs ls hP hS hl hf
      have hD : va_D A [(q_t, .inr (1, [.ref q_t_told, .ref q_t_now, .ref q_t_trial])), (q_t_now, .inr (6, [.ref q_t_told, .ref q_t_now_line, .ref q_t_now_strides, .ref q_t_now_strains, .int t_now_down, .int t_now_steps])), (q_t_told, .inr (3, [.ref q_t_told_beats, .ref q_t_told_kinds, .int t_told_count, .int t_told_depth, .int t_told_noon, .int t_told_depthBehind])), (q_t_told_kinds, .inl (cI, 5, .inl t_told_kinds)), (q_t_now_strides, .inl (cI, 5, .inl t_now_strides)), (q_t_told_beats, .inl (cI, 5, .inl t_told_beats))] := wd hD0 rfl
      rw [L_X1_snowHolds_2] at hf
      refine lv_iload_n hx hb dX1_snowHolds_2 rfl (lv_at hl 3 rfl) ?_
      refine lv_bipush (v := 6) hx hb dX1_snowHolds_3 (by decide) ?_
      refine lv_icmp_ge (tgt := 55) hx hb dX1_snowHolds_5 (by decide) (fun hc => ?_) (fun hc => ?_)
      · replace hf := ip hc hf
        refine lv_iconst (v := 1) hx hb dX1_snowHolds_55 (by decide) ?_
        have e0 := ij1 hf
        refine W.eq (congrArg (fun z => F0 m 56 ls [.int z]) e0) ?_
        exact hret _ _ _ _ hP hS (by rw [← e0]; rfl) dX1_snowHolds_56
      · replace hf := iq hc hf
        refine lv_aload_n hx hb dX1_snowHolds_8 rfl (lv_at hl 0 rfl) ?_
        refine va_get (D := (dC, dI)) (ci := 1) (v := .ref q_t_now) (C := RX1) (T := TX1) (N := 3) hx hb hts hinX1 hown hK.1 hP 0 rfl rfl 1 (by decide) w_0 (fun _ h9 => h9) rfl dX1_snowHolds_9 ?_
        obtain ⟨r1, e3, hf⟩ := bd_ok hf
        refine kVi (As := []) CF (cwV 0 hts gX1_snowHolds_X6_stepNumber rfl rfl rfl (by decide +kernel) ⟨Nat.le_of_ble_eq_true rfl, Nat.le_of_ble_eq_true rfl⟩) PU_blind hP hD hS hA (va_recv hK.1 hP (ci := 6) (q0 := 1) rfl rfl) [1] (fun h1 h2 h3 => PU_pre hK h1 A h2 h3) (c_X6_stepNumber l dC dI cI cZ q_t_now q_t_told q_t_now_line q_t_now_strides q_t_now_strains _ t_now_down t_now_steps r1 e3) rfl rfl rfl rfl hl.1 rfl (Nat.le_of_ble_eq_true rfl) dX1_snowHolds_12 ⟨Nat.zero_le _, Nat.zero_le _⟩ (fun H locs hP hS => ?_)
        replace hP : va_P (dC, dI) vwCl [(q_t, .inr (1, [.ref q_t_told, .ref q_t_now, .ref q_t_trial])), (q_t_now, .inr (6, [.ref q_t_told, .ref q_t_now_line, .ref q_t_now_strides, .ref q_t_now_strains, .int t_now_down, .int t_now_steps])), (q_t_told, .inr (3, [.ref q_t_told_beats, .ref q_t_told_kinds, .int t_told_count, .int t_told_depth, .int t_told_noon, .int t_told_depthBehind])), (q_t_told_kinds, .inl (cI, 5, .inl t_told_kinds)), (q_t_now_strides, .inl (cI, 5, .inl t_now_strides)), (q_t_told_beats, .inl (cI, 5, .inl t_told_beats))] H := hP
        refine lv_iload_n hx hb dX1_snowHolds_15 rfl (lv_at hl 3 rfl) ?_
        refine lv_iadd hx hb dX1_snowHolds_16 ?_
        refine lv_istore (lv' := [(4, .int (r1 + x3)), (0, .ref q_t), (1, .int x1), (2, .int x2), (3, .int x3)]) hx hb dX1_snowHolds_17 hl (by decide) rfl (fun ls hl => ?_)
        refine lv_aload_n hx hb dX1_snowHolds_19 rfl (lv_at hl 1 rfl) ?_
        refine va_get (D := (dC, dI)) (ci := 1) (v := .ref q_t_now) (C := RX1) (T := TX1) (N := 3) hx hb hts hinX1 hown hK.1 hP 0 rfl rfl 1 (by decide) w_0 (fun _ h9 => h9) rfl dX1_snowHolds_20 ?_
        refine lv_iload_n hx hb dX1_snowHolds_23 rfl (lv_at hl 2 rfl) ?_
        refine lv_iload hx hb dX1_snowHolds_24 (lv_at hl 0 rfl) ?_
        obtain ⟨r4, e6, hf⟩ := bd_ok hf
        refine kVi (As := [.int x1, .int (r1 + x3)]) CF (cwV 2 hts gX1_snowHolds_X6_treadOfOne rfl rfl rfl (by decide +kernel) ⟨Nat.le_of_ble_eq_true rfl, Nat.le_of_ble_eq_true rfl⟩) PU_blind hP hD hS hA (va_recv hK.1 hP (ci := 6) (q0 := 1) rfl rfl) [1, 2, 3, 4, 5] (fun h1 h2 h3 => PU_pre hK h1 A h2 h3) (c_X6_treadOfOne l dC dI cI cZ q_t_now q_t_told q_t_now_line q_t_now_strides q_t_now_strains q_t_told_beats q_t_told_kinds _ t_now_down t_now_steps t_told_count t_told_depth t_told_noon t_told_depthBehind t_told_kinds t_now_strides t_told_beats x1 (r1 + x3) r4 e6) rfl rfl rfl rfl hl.1 rfl (Nat.le_of_ble_eq_true rfl) dX1_snowHolds_26 ⟨Nat.zero_le _, Nat.zero_le _⟩ (fun H locs hP hS => ?_)
        replace hP : va_P (dC, dI) vwCl [(q_t, .inr (1, [.ref q_t_told, .ref q_t_now, .ref q_t_trial])), (q_t_now, .inr (6, [.ref q_t_told, .ref q_t_now_line, .ref q_t_now_strides, .ref q_t_now_strains, .int t_now_down, .int t_now_steps])), (q_t_told, .inr (3, [.ref q_t_told_beats, .ref q_t_told_kinds, .int t_told_count, .int t_told_depth, .int t_told_noon, .int t_told_depthBehind])), (q_t_told_kinds, .inl (cI, 5, .inl t_told_kinds)), (q_t_now_strides, .inl (cI, 5, .inl t_now_strides)), (q_t_told_beats, .inl (cI, 5, .inl t_told_beats))] H := hP
        refine lv_iload_n hx hb dX1_snowHolds_29 rfl (lv_at hl 3 rfl) ?_
        refine lv_iadd hx hb dX1_snowHolds_30 ?_
        refine lv_iconst (v := 1) hx hb dX1_snowHolds_31 (by decide) ?_
        refine lv_aload_n hx hb dX1_snowHolds_32 rfl (lv_at hl 1 rfl) ?_
        refine va_get (D := (dC, dI)) (ci := 1) (v := .ref q_t_told) (C := RX1) (T := TX1) (N := 3) hx hb hts hinX1 hown hK.1 hP 0 rfl rfl 0 (by decide) w_1 (fun _ h9 => h9) rfl dX1_snowHolds_33 ?_
        refine lv_iload hx hb dX1_snowHolds_36 (lv_at hl 0 rfl) ?_
        obtain ⟨r7, e9, hf⟩ := bd_ok hf
        refine kVi (As := [.int (r1 + x3)]) CF (cwV 1 hts gX1_snowHolds_X3_snowAt rfl rfl rfl (by decide +kernel) ⟨Nat.le_of_ble_eq_true rfl, Nat.le_of_ble_eq_true rfl⟩) PU_blind hP hD hS hA (va_recv hK.1 hP (ci := 3) (q0 := 2) rfl rfl) [2] (fun h1 h2 h3 => PU_pre hK h1 A h2 h3) (c_X3_snowAt l dC dI cI cZ q_t_told q_t_told_beats q_t_told_kinds _ t_told_count t_told_depth t_told_noon t_told_depthBehind (r1 + x3) r7 e9) rfl rfl rfl rfl hl.1 rfl (Nat.le_of_ble_eq_true rfl) dX1_snowHolds_38 ⟨Nat.zero_le _, Nat.zero_le _⟩ (fun H locs hP hS => ?_)
        replace hP : va_P (dC, dI) vwCl [(q_t, .inr (1, [.ref q_t_told, .ref q_t_now, .ref q_t_trial])), (q_t_now, .inr (6, [.ref q_t_told, .ref q_t_now_line, .ref q_t_now_strides, .ref q_t_now_strains, .int t_now_down, .int t_now_steps])), (q_t_told, .inr (3, [.ref q_t_told_beats, .ref q_t_told_kinds, .int t_told_count, .int t_told_depth, .int t_told_noon, .int t_told_depthBehind])), (q_t_told_kinds, .inl (cI, 5, .inl t_told_kinds)), (q_t_now_strides, .inl (cI, 5, .inl t_now_strides)), (q_t_told_beats, .inl (cI, 5, .inl t_told_beats))] H := hP
        obtain ⟨r10, e12, hf⟩ := bd_ok hf
        refine kNi (As := [.int (r4 + x2), .int 1, .int r7]) CF ⟨va_cnB 3 hts gX1_snowHolds_X7_isBetween_n88 rfl rfl rfl (nw_X1_88 hK.2) w_2 (by decide +kernel) ⟨Nat.le_of_ble_eq_true rfl, Nat.le_of_ble_eq_true rfl⟩, w_3, trivial⟩ PU_blind hP hD hS hA [] (fun h1 h2 h3 => PU_pre hK h1 A h2 h3) (c_X7_isBetween l dC dI cI cZ _ (r4 + x2) 1 r7 r10 e12) rfl rfl rfl rfl hl.1 rfl (Nat.le_of_ble_eq_true rfl) dX1_snowHolds_41 ⟨Nat.zero_le _, Nat.zero_le _⟩ (fun H locs hP hS => ?_)
        replace hP : va_P (dC, dI) vwCl [(q_t, .inr (1, [.ref q_t_told, .ref q_t_now, .ref q_t_trial])), (q_t_now, .inr (6, [.ref q_t_told, .ref q_t_now_line, .ref q_t_now_strides, .ref q_t_now_strains, .int t_now_down, .int t_now_steps])), (q_t_told, .inr (3, [.ref q_t_told_beats, .ref q_t_told_kinds, .int t_told_count, .int t_told_depth, .int t_told_noon, .int t_told_depthBehind])), (q_t_told_kinds, .inl (cI, 5, .inl t_told_kinds)), (q_t_now_strides, .inl (cI, 5, .inl t_now_strides)), (q_t_told_beats, .inl (cI, 5, .inl t_told_beats))] H := hP
        refine lv_if_ne (tgt := 49) hx hb dX1_snowHolds_44 (by decide) (fun hc => ?_) (fun hc => ?_)
        · replace hf := iq hc hf
          refine lv_iinc (v := (x3 + 1)) (lv' := [(3, .int (x3 + 1)), (4, .int (r1 + x3)), (0, .ref q_t), (1, .int x1), (2, .int x2)]) hx hb dX1_snowHolds_49 hl (k := 4) rfl rfl (by decide) rfl (fun ls hl => ?_)
          refine lv_goto (tgt := 2) hx hb dX1_snowHolds_52 (by decide) ?_
          exact ih2 (x3 + 1) _ _ _ hP hS (lv_sub hl [2, 3, 4, 0] rfl) hf
        · replace hf := ip hc hf
          refine lv_iconst (v := 0) hx hb dX1_snowHolds_47 (by decide) ?_
          have e0 := ij1 hf
          refine W.eq (congrArg (fun z => F0 m 48 ls [.int z]) e0) ?_
          exact hret _ _ _ _ hP hS (by rw [← e0]; rfl) dX1_snowHolds_48
  rw [f_X1_snowHolds] at hf
  refine lv_iconst (v := 0) hx hb dX1_snowHolds_0 (by decide) ?_
  refine lv_istore_n (lv' := [(3, .int 0), (0, .ref q_t), (1, .int x1), (2, .int x2)]) hx hb dX1_snowHolds_1 rfl hl (by decide) rfl (fun ls hl => ?_)
  exact h_2 x1 x2 fuelC 0 _ _ _ hP hS (lv_sub hl [1, 2, 3, 0] rfl) hf
abbrev rm_X1_apart : Room := { frames := 3, cells := 0, slots := 0, locals := 64 }
set_option maxHeartbeats 4000000 in
set_option maxRecDepth 100000 in
theorem c_X1_apart (l : Launch) (dC : Nat → ClassId) (dI : Nat → Nat → Nat) (cI cZ : ClassId) (q_t q_t_told q_t_now q_t_trial q_t_now_line q_t_now_strides q_t_now_strains q_t_told_beats q_t_told_kinds : Nat) (sz : Nat) (t_now_down : Int32) (t_now_steps : Int32) (t_told_count : Int32) (t_told_depth : Int32) (t_told_noon : Int32) (t_told_depthBehind : Int32) (t_told_kinds : Nat → Int32) (t_now_strides : Nat → Int32) (t_told_beats : Nat → Int32) (x1 : Int32) (x2 : Int32) (x3 : Int32) (r_ : Int32) (hf : f_X1_apart x1 x2 x3 t_now_steps t_told_kinds t_now_strides t_told_beats = some r_) : Met l yX1_apart wsX1_apart rm_X1_apart (va_Pc [.ref q_t, .int x1, .int x2, .int x3] (PU (dC, dI) cI cZ [(q_t, .inr (1, [.ref q_t_told, .ref q_t_now, .ref q_t_trial])), (q_t_now, .inr (6, [.ref q_t_told, .ref q_t_now_line, .ref q_t_now_strides, .ref q_t_now_strains, .int t_now_down, .int t_now_steps])), (q_t_told, .inr (3, [.ref q_t_told_beats, .ref q_t_told_kinds, .int t_told_count, .int t_told_depth, .int t_told_noon, .int t_told_depthBehind])), (q_t_told_kinds, .inl (cI, 5, .inl t_told_kinds)), (q_t_now_strides, .inl (cI, 5, .inl t_now_strides)), (q_t_told_beats, .inl (cI, 5, .inl t_told_beats))] sz)) (va_Qi (fun (r : Int32) (_ : Unit) => r = r_) (fun _ t => va_P (dC, dI) vwCl [(q_t, .inr (1, [.ref q_t_told, .ref q_t_now, .ref q_t_trial])), (q_t_now, .inr (6, [.ref q_t_told, .ref q_t_now_line, .ref q_t_now_strides, .ref q_t_now_strains, .int t_now_down, .int t_now_steps])), (q_t_told, .inr (3, [.ref q_t_told_beats, .ref q_t_told_kinds, .int t_told_count, .int t_told_depth, .int t_told_noon, .int t_told_depthBehind])), (q_t_told_kinds, .inl (cI, 5, .inl t_told_kinds)), (q_t_now_strides, .inl (cI, 5, .inl t_now_strides)), (q_t_told_beats, .inl (cI, 5, .inl t_told_beats))] t.heap) (va_A [(q_t, .inr (1, [.ref q_t_told, .ref q_t_now, .ref q_t_trial])), (q_t_now, .inr (6, [.ref q_t_told, .ref q_t_now_line, .ref q_t_now_strides, .ref q_t_now_strains, .int t_now_down, .int t_now_steps])), (q_t_told, .inr (3, [.ref q_t_told_beats, .ref q_t_told_kinds, .int t_told_count, .int t_told_depth, .int t_told_noon, .int t_told_depthBehind])), (q_t_told_kinds, .inl (cI, 5, .inl t_told_kinds)), (q_t_now_strides, .inl (cI, 5, .inl t_now_strides)), (q_t_told_beats, .inl (cI, 5, .inl t_told_beats))] sz)) 0 0 (va_A [(q_t, .inr (1, [.ref q_t_told, .ref q_t_now, .ref q_t_trial])), (q_t_now, .inr (6, [.ref q_t_told, .ref q_t_now_line, .ref q_t_now_strides, .ref q_t_now_strains, .int t_now_down, .int t_now_steps])), (q_t_told, .inr (3, [.ref q_t_told_beats, .ref q_t_told_kinds, .int t_told_count, .int t_told_depth, .int t_told_noon, .int t_told_depthBehind])), (q_t_told_kinds, .inl (cI, 5, .inl t_told_kinds)), (q_t_now_strides, .inl (cI, 5, .inl t_now_strides)), (q_t_told_beats, .inl (cI, 5, .inl t_told_beats))] sz) := by
  refine MetI (cc := cX1_apart) (maxL := 5) (by decide) rfl (Nat.le_of_ble_eq_true rfl) (fun _ h => h) ?_
  intro p e s m args below meth c A Q ls hx CF hK hA hD hP hS hl hB hAe hsz hret
  have hb := CF.2.1
  have hml := CF.2.2.1
  have hown := CF.2.2.2.1
  have hts := CF.2.2.2.2
  have hD0 := hD
  replace hl : lv_has ls 5 [(0, .ref q_t), (1, .int x1), (2, .int x2), (3, .int x3)] := hl
  have hinX1 : ∀ w ∈ wsX10, w ∈ wsX1_apart := fun _ h => List.mem_cons_of_mem _ (List.mem_append_left _ (List.mem_append_left _ (List.mem_append_right _ h)))
  have hinX6 : ∀ w ∈ wsX60, w ∈ wsX1_apart := fun _ h => List.mem_cons_of_mem _ (List.mem_append_left _ (List.mem_append_right _ h))
  have hinX3 : ∀ w ∈ wsX30, w ∈ wsX1_apart := fun _ h => List.mem_cons_of_mem _ (List.mem_append_right _ h)
  have w_0 := hts (.fieldLink RX1 15 "PassInStep$Foresight" "now" "LPassInStep$Yard;") (by decide +kernel)
  rw [f_X1_apart] at hf
  refine lv_aload_n hx hb dX1_apart_0 rfl (lv_at hl 0 rfl) ?_
  refine va_get (D := (dC, dI)) (ci := 1) (v := .ref q_t_now) (C := RX1) (T := TX1) (N := 3) hx hb hts hinX1 hown hK.1 hP 0 rfl rfl 1 (by decide) w_0 (fun _ h9 => h9) rfl dX1_apart_1 ?_
  obtain ⟨r1, e3, hf⟩ := bd_ok hf
  refine kVi (As := []) CF (cwV 0 hts gX1_apart_X6_stepNumber rfl rfl rfl (by decide +kernel) ⟨Nat.le_of_ble_eq_true rfl, Nat.le_of_ble_eq_true rfl⟩) PU_blind hP hD hS hA (va_recv hK.1 hP (ci := 6) (q0 := 1) rfl rfl) [1] (fun h1 h2 h3 => PU_pre hK h1 A h2 h3) (c_X6_stepNumber l dC dI cI cZ q_t_now q_t_told q_t_now_line q_t_now_strides q_t_now_strains _ t_now_down t_now_steps r1 e3) rfl rfl rfl rfl hl.1 rfl (Nat.le_of_ble_eq_true rfl) dX1_apart_4 ⟨Nat.zero_le _, Nat.zero_le _⟩ (fun H locs hP hS => ?_)
  replace hP : va_P (dC, dI) vwCl [(q_t, .inr (1, [.ref q_t_told, .ref q_t_now, .ref q_t_trial])), (q_t_now, .inr (6, [.ref q_t_told, .ref q_t_now_line, .ref q_t_now_strides, .ref q_t_now_strains, .int t_now_down, .int t_now_steps])), (q_t_told, .inr (3, [.ref q_t_told_beats, .ref q_t_told_kinds, .int t_told_count, .int t_told_depth, .int t_told_noon, .int t_told_depthBehind])), (q_t_told_kinds, .inl (cI, 5, .inl t_told_kinds)), (q_t_now_strides, .inl (cI, 5, .inl t_now_strides)), (q_t_told_beats, .inl (cI, 5, .inl t_told_beats))] H := hP
  refine lv_iload_n hx hb dX1_apart_7 rfl (lv_at hl 3 rfl) ?_
  refine lv_iadd hx hb dX1_apart_8 ?_
  refine lv_istore (lv' := [(4, .int (r1 + x3)), (0, .ref q_t), (1, .int x1), (2, .int x2), (3, .int x3)]) hx hb dX1_apart_9 hl (by decide) rfl (fun ls hl => ?_)
  refine lv_aload_n hx hb dX1_apart_11 rfl (lv_at hl 1 rfl) ?_
  refine va_get (D := (dC, dI)) (ci := 1) (v := .ref q_t_now) (C := RX1) (T := TX1) (N := 3) hx hb hts hinX1 hown hK.1 hP 0 rfl rfl 1 (by decide) w_0 (fun _ h9 => h9) rfl dX1_apart_12 ?_
  refine lv_iload_n hx hb dX1_apart_15 rfl (lv_at hl 3 rfl) ?_
  refine lv_iload hx hb dX1_apart_16 (lv_at hl 0 rfl) ?_
  obtain ⟨r4, e6, hf⟩ := bd_ok hf
  refine kVi (As := [.int x2, .int (r1 + x3)]) CF (cwV 2 hts gX1_apart_X6_treadOfOne rfl rfl rfl (by decide +kernel) ⟨Nat.le_of_ble_eq_true rfl, Nat.le_of_ble_eq_true rfl⟩) PU_blind hP hD hS hA (va_recv hK.1 hP (ci := 6) (q0 := 1) rfl rfl) [1, 2, 3, 4, 5] (fun h1 h2 h3 => PU_pre hK h1 A h2 h3) (c_X6_treadOfOne l dC dI cI cZ q_t_now q_t_told q_t_now_line q_t_now_strides q_t_now_strains q_t_told_beats q_t_told_kinds _ t_now_down t_now_steps t_told_count t_told_depth t_told_noon t_told_depthBehind t_told_kinds t_now_strides t_told_beats x2 (r1 + x3) r4 e6) rfl rfl rfl rfl hl.1 rfl (Nat.le_of_ble_eq_true rfl) dX1_apart_18 ⟨Nat.zero_le _, Nat.zero_le _⟩ (fun H locs hP hS => ?_)
  replace hP : va_P (dC, dI) vwCl [(q_t, .inr (1, [.ref q_t_told, .ref q_t_now, .ref q_t_trial])), (q_t_now, .inr (6, [.ref q_t_told, .ref q_t_now_line, .ref q_t_now_strides, .ref q_t_now_strains, .int t_now_down, .int t_now_steps])), (q_t_told, .inr (3, [.ref q_t_told_beats, .ref q_t_told_kinds, .int t_told_count, .int t_told_depth, .int t_told_noon, .int t_told_depthBehind])), (q_t_told_kinds, .inl (cI, 5, .inl t_told_kinds)), (q_t_now_strides, .inl (cI, 5, .inl t_now_strides)), (q_t_told_beats, .inl (cI, 5, .inl t_told_beats))] H := hP
  refine lv_aload_n hx hb dX1_apart_21 rfl (lv_at hl 1 rfl) ?_
  refine va_get (D := (dC, dI)) (ci := 1) (v := .ref q_t_now) (C := RX1) (T := TX1) (N := 3) hx hb hts hinX1 hown hK.1 hP 0 rfl rfl 1 (by decide) w_0 (fun _ h9 => h9) rfl dX1_apart_22 ?_
  refine lv_iload_n hx hb dX1_apart_25 rfl (lv_at hl 2 rfl) ?_
  refine lv_iload hx hb dX1_apart_26 (lv_at hl 0 rfl) ?_
  obtain ⟨r7, e9, hf⟩ := bd_ok hf
  refine kVi (As := [.int x1, .int (r1 + x3)]) CF (cwV 2 hts gX1_apart_X6_treadOfOne rfl rfl rfl (by decide +kernel) ⟨Nat.le_of_ble_eq_true rfl, Nat.le_of_ble_eq_true rfl⟩) PU_blind hP hD hS hA (va_recv hK.1 hP (ci := 6) (q0 := 1) rfl rfl) [1, 2, 3, 4, 5] (fun h1 h2 h3 => PU_pre hK h1 A h2 h3) (c_X6_treadOfOne l dC dI cI cZ q_t_now q_t_told q_t_now_line q_t_now_strides q_t_now_strains q_t_told_beats q_t_told_kinds _ t_now_down t_now_steps t_told_count t_told_depth t_told_noon t_told_depthBehind t_told_kinds t_now_strides t_told_beats x1 (r1 + x3) r7 e9) rfl rfl rfl rfl hl.1 rfl (Nat.le_of_ble_eq_true rfl) dX1_apart_28 ⟨Nat.zero_le _, Nat.zero_le _⟩ (fun H locs hP hS => ?_)
  replace hP : va_P (dC, dI) vwCl [(q_t, .inr (1, [.ref q_t_told, .ref q_t_now, .ref q_t_trial])), (q_t_now, .inr (6, [.ref q_t_told, .ref q_t_now_line, .ref q_t_now_strides, .ref q_t_now_strains, .int t_now_down, .int t_now_steps])), (q_t_told, .inr (3, [.ref q_t_told_beats, .ref q_t_told_kinds, .int t_told_count, .int t_told_depth, .int t_told_noon, .int t_told_depthBehind])), (q_t_told_kinds, .inl (cI, 5, .inl t_told_kinds)), (q_t_now_strides, .inl (cI, 5, .inl t_now_strides)), (q_t_told_beats, .inl (cI, 5, .inl t_told_beats))] H := hP
  refine lv_isub hx hb dX1_apart_31 ?_
  have e0 := ij1 hf
  refine W.eq (congrArg (fun z => F0 m 32 ls [.int z]) e0) ?_
  exact hret _ _ _ _ hP hS dX1_apart_32
abbrev rm_X1_drillsToTreadAs : Room := { frames := 4, cells := 0, slots := 0, locals := 88 }
set_option maxHeartbeats 4000000 in
set_option maxRecDepth 100000 in
theorem c_X1_drillsToTreadAs (l : Launch) (dC : Nat → ClassId) (dI : Nat → Nat → Nat) (cI cZ : ClassId) (q_t q_t_told q_t_now q_t_trial q_t_now_line q_t_now_strides q_t_now_strains q_t_told_beats q_t_told_kinds : Nat) (sz : Nat) (t_now_down : Int32) (t_now_steps : Int32) (t_told_count : Int32) (t_told_depth : Int32) (t_told_noon : Int32) (t_told_depthBehind : Int32) (t_told_kinds : Nat → Int32) (t_now_strides : Nat → Int32) (t_told_beats : Nat → Int32) (x1 : Int32) (x2 : Int32) (x3 : Int32) (r_ : Int32) (hf : f_X1_drillsToTreadAs x1 x2 x3 t_now_steps t_told_kinds t_now_strides t_told_beats = some r_) : Met l yX1_drillsToTreadAs wsX1_drillsToTreadAs rm_X1_drillsToTreadAs (va_Pc [.ref q_t, .int x1, .int x2, .int x3] (PU (dC, dI) cI cZ [(q_t, .inr (1, [.ref q_t_told, .ref q_t_now, .ref q_t_trial])), (q_t_now, .inr (6, [.ref q_t_told, .ref q_t_now_line, .ref q_t_now_strides, .ref q_t_now_strains, .int t_now_down, .int t_now_steps])), (q_t_told, .inr (3, [.ref q_t_told_beats, .ref q_t_told_kinds, .int t_told_count, .int t_told_depth, .int t_told_noon, .int t_told_depthBehind])), (q_t_told_kinds, .inl (cI, 5, .inl t_told_kinds)), (q_t_now_strides, .inl (cI, 5, .inl t_now_strides)), (q_t_told_beats, .inl (cI, 5, .inl t_told_beats))] sz)) (va_Qi (fun (r : Int32) (_ : Unit) => r = r_) (fun _ t => va_P (dC, dI) vwCl [(q_t, .inr (1, [.ref q_t_told, .ref q_t_now, .ref q_t_trial])), (q_t_now, .inr (6, [.ref q_t_told, .ref q_t_now_line, .ref q_t_now_strides, .ref q_t_now_strains, .int t_now_down, .int t_now_steps])), (q_t_told, .inr (3, [.ref q_t_told_beats, .ref q_t_told_kinds, .int t_told_count, .int t_told_depth, .int t_told_noon, .int t_told_depthBehind])), (q_t_told_kinds, .inl (cI, 5, .inl t_told_kinds)), (q_t_now_strides, .inl (cI, 5, .inl t_now_strides)), (q_t_told_beats, .inl (cI, 5, .inl t_told_beats))] t.heap) (va_A [(q_t, .inr (1, [.ref q_t_told, .ref q_t_now, .ref q_t_trial])), (q_t_now, .inr (6, [.ref q_t_told, .ref q_t_now_line, .ref q_t_now_strides, .ref q_t_now_strains, .int t_now_down, .int t_now_steps])), (q_t_told, .inr (3, [.ref q_t_told_beats, .ref q_t_told_kinds, .int t_told_count, .int t_told_depth, .int t_told_noon, .int t_told_depthBehind])), (q_t_told_kinds, .inl (cI, 5, .inl t_told_kinds)), (q_t_now_strides, .inl (cI, 5, .inl t_now_strides)), (q_t_told_beats, .inl (cI, 5, .inl t_told_beats))] sz)) 0 0 (va_A [(q_t, .inr (1, [.ref q_t_told, .ref q_t_now, .ref q_t_trial])), (q_t_now, .inr (6, [.ref q_t_told, .ref q_t_now_line, .ref q_t_now_strides, .ref q_t_now_strains, .int t_now_down, .int t_now_steps])), (q_t_told, .inr (3, [.ref q_t_told_beats, .ref q_t_told_kinds, .int t_told_count, .int t_told_depth, .int t_told_noon, .int t_told_depthBehind])), (q_t_told_kinds, .inl (cI, 5, .inl t_told_kinds)), (q_t_now_strides, .inl (cI, 5, .inl t_now_strides)), (q_t_told_beats, .inl (cI, 5, .inl t_told_beats))] sz) := by
  refine MetI (cc := cX1_drillsToTreadAs) (maxL := 6) (by decide) rfl (Nat.le_of_ble_eq_true rfl) (fun _ h => h) ?_
  intro p e s m args below meth c A Q ls hx CF hK hA hD hP hS hl hB hAe hsz hret
  have hb := CF.2.1
  have hml := CF.2.2.1
  have hown := CF.2.2.2.1
  have hts := CF.2.2.2.2
  have hD0 := hD
  replace hl : lv_has ls 6 [(0, .ref q_t), (1, .int x1), (2, .int x2), (3, .int x3)] := hl
  have hinX1 : ∀ w ∈ wsX10, w ∈ wsX1_drillsToTreadAs := fun _ h => List.mem_cons_of_mem _ (List.mem_append_left _ (List.mem_append_left _ (List.mem_append_right _ h)))
  have hinX6 : ∀ w ∈ wsX60, w ∈ wsX1_drillsToTreadAs := fun _ h => List.mem_cons_of_mem _ (List.mem_append_left _ (List.mem_append_right _ h))
  have hinX3 : ∀ w ∈ wsX30, w ∈ wsX1_drillsToTreadAs := fun _ h => List.mem_cons_of_mem _ (List.mem_append_right _ h)
  have w_0 := hts (.methodLink RX1 76 Lib.Math.abs.name) (by decide +kernel)
  have w_1 := hts (.static Lib.Math.abs.name) (by decide +kernel)
  have w_2 := hts (.initialized "java/lang/Math") (by decide +kernel)
  have w_3 := hts (.code Lib.Math.abs.name Lib.Math.abs.code 1 (some .int)) (by decide +kernel)
  have h_14 : ∀ (x1 : Int32) (x2 : Int32) (x3 : Int32) (x4 : Int32) (fu14 : Nat) (x5 : Int32) (H : Heap) (locs : List Loc) (ls : Array Slot), va_P (dC, dI) vwCl [(q_t, .inr (1, [.ref q_t_told, .ref q_t_now, .ref q_t_trial])), (q_t_now, .inr (6, [.ref q_t_told, .ref q_t_now_line, .ref q_t_now_strides, .ref q_t_now_strains, .int t_now_down, .int t_now_steps])), (q_t_told, .inr (3, [.ref q_t_told_beats, .ref q_t_told_kinds, .int t_told_count, .int t_told_depth, .int t_told_noon, .int t_told_depthBehind])), (q_t_told_kinds, .inl (cI, 5, .inl t_told_kinds)), (q_t_now_strides, .inl (cI, 5, .inl t_now_strides)), (q_t_told_beats, .inl (cI, 5, .inl t_told_beats))] H → va_S A s.heap H locs → lv_has ls 6 [(0, .ref q_t), (1, .int x1), (2, .int x2), (3, .int x3), (4, .int x4), (5, .int x5)] → L_X1_drillsToTreadAs_14 x1 x2 x3 x4 t_now_steps t_told_kinds t_now_strides t_told_beats fu14 x5 = some r_ → W p l e rm_X1_drillsToTreadAs s m args below meth c H locs 0 0 Q (F0 m 14 ls []) := by
    intro x1 x2 x3 x4 fu14
    induction fu14 with
    | zero =>
      intro x5 H locs ls hP hS hl hf
      rw [L_X1_drillsToTreadAs_14] at hf
      cases hf
    | succ fu14 ih14 =>
      intro x5 H locs ls hP hS hl hf
      have hD : va_D A [(q_t, .inr (1, [.ref q_t_told, .ref q_t_now, .ref q_t_trial])), (q_t_now, .inr (6, [.ref q_t_told, .ref q_t_now_line, .ref q_t_now_strides, .ref q_t_now_strains, .int t_now_down, .int t_now_steps])), (q_t_told, .inr (3, [.ref q_t_told_beats, .ref q_t_told_kinds, .int t_told_count, .int t_told_depth, .int t_told_noon, .int t_told_depthBehind])), (q_t_told_kinds, .inl (cI, 5, .inl t_told_kinds)), (q_t_now_strides, .inl (cI, 5, .inl t_now_strides)), (q_t_told_beats, .inl (cI, 5, .inl t_told_beats))] := wd hD0 rfl
      rw [L_X1_drillsToTreadAs_14] at hf
      refine lv_iload hx hb dX1_drillsToTreadAs_14 (lv_at hl 5 rfl) ?_
      refine lv_bipush (v := 6) hx hb dX1_drillsToTreadAs_16 (by decide) ?_
      refine lv_icmp_ge (tgt := 45) hx hb dX1_drillsToTreadAs_18 (by decide) (fun hc => ?_) (fun hc => ?_)
      · replace hf := ip hc hf
        refine lv_aload_n hx hb dX1_drillsToTreadAs_45 rfl (lv_at hl 0 rfl) ?_
        refine lv_iload_n hx hb dX1_drillsToTreadAs_46 rfl (lv_at hl 1 rfl) ?_
        refine lv_iload hx hb dX1_drillsToTreadAs_47 (lv_at hl 4 rfl) ?_
        obtain ⟨r1, e3, hf⟩ := bd_ok hf
        refine kVi (As := [.int x1, .int x4]) CF (cwV 2 hts gX1_drillsToTreadAs_X1_canDrillBy rfl rfl rfl (by decide +kernel) ⟨Nat.le_of_ble_eq_true rfl, Nat.le_of_ble_eq_true rfl⟩) PU_blind hP hD hS hA (va_recv hK.1 hP (ci := 1) (q0 := 0) rfl rfl) [0, 1, 4] (fun h1 h2 h3 => PU_pre hK h1 A h2 h3) (c_X1_canDrillBy l dC dI cI cZ q_t q_t_told q_t_now q_t_trial q_t_now_line q_t_now_strides q_t_now_strains _ t_now_down t_now_steps t_now_strides x1 x4 r1 e3) rfl rfl rfl rfl hl.1 rfl (Nat.le_of_ble_eq_true rfl) dX1_drillsToTreadAs_49 ⟨Nat.zero_le _, Nat.zero_le _⟩ (fun H locs hP hS => ?_)
        replace hP : va_P (dC, dI) vwCl [(q_t, .inr (1, [.ref q_t_told, .ref q_t_now, .ref q_t_trial])), (q_t_now, .inr (6, [.ref q_t_told, .ref q_t_now_line, .ref q_t_now_strides, .ref q_t_now_strains, .int t_now_down, .int t_now_steps])), (q_t_told, .inr (3, [.ref q_t_told_beats, .ref q_t_told_kinds, .int t_told_count, .int t_told_depth, .int t_told_noon, .int t_told_depthBehind])), (q_t_told_kinds, .inl (cI, 5, .inl t_told_kinds)), (q_t_now_strides, .inl (cI, 5, .inl t_now_strides)), (q_t_told_beats, .inl (cI, 5, .inl t_told_beats))] H := hP
        refine lv_if_eq (tgt := 63) hx hb dX1_drillsToTreadAs_52 (by decide) (fun hc => ?_) (fun hc => ?_)
        · replace hf := ip hc hf
          refine lv_bipush (v := 11) hx hb dX1_drillsToTreadAs_63 (by decide) ?_
          have e0 := ij1 hf
          refine W.eq (congrArg (fun z => F0 m 65 ls [.int z]) e0) ?_
          exact hret _ _ _ _ hP hS dX1_drillsToTreadAs_65
        · replace hf := iq hc hf
          refine lv_iload hx hb dX1_drillsToTreadAs_55 (lv_at hl 4 rfl) ?_
          refine va_mabs hx hb (hml.trans hl.1.symm) hown w_0 w_1 w_2 w_3 (Nat.le_of_ble_eq_true rfl) (Nat.le_of_ble_eq_true rfl) (Nat.zero_le _) (Nat.zero_le _) dX1_drillsToTreadAs_57 ?_
          refine lv_goto (tgt := 65) hx hb dX1_drillsToTreadAs_60 (by decide) ?_
          have e0 := ij1 hf
          refine W.eq (congrArg (fun z => F0 m 65 ls [.int z]) e0) ?_
          exact hret _ _ _ _ hP hS dX1_drillsToTreadAs_65
      · replace hf := iq hc hf
        refine lv_aload_n hx hb dX1_drillsToTreadAs_21 rfl (lv_at hl 0 rfl) ?_
        refine lv_iload_n hx hb dX1_drillsToTreadAs_22 rfl (lv_at hl 1 rfl) ?_
        refine lv_iload_n hx hb dX1_drillsToTreadAs_23 rfl (lv_at hl 2 rfl) ?_
        refine lv_iload hx hb dX1_drillsToTreadAs_24 (lv_at hl 5 rfl) ?_
        obtain ⟨r4, e6, hf⟩ := bd_ok hf
        refine kVi (As := [.int x1, .int x2, .int x5]) CF (cwV 3 hts gX1_drillsToTreadAs_X1_apart rfl rfl rfl (by decide +kernel) ⟨Nat.le_of_ble_eq_true rfl, Nat.le_of_ble_eq_true rfl⟩) PU_blind hP hD hS hA (va_recv hK.1 hP (ci := 1) (q0 := 0) rfl rfl) [0, 1, 2, 3, 4, 5] (fun h1 h2 h3 => PU_pre hK h1 A h2 h3) (c_X1_apart l dC dI cI cZ q_t q_t_told q_t_now q_t_trial q_t_now_line q_t_now_strides q_t_now_strains q_t_told_beats q_t_told_kinds _ t_now_down t_now_steps t_told_count t_told_depth t_told_noon t_told_depthBehind t_told_kinds t_now_strides t_told_beats x1 x2 x5 r4 e6) rfl rfl rfl rfl hl.1 rfl (Nat.le_of_ble_eq_true rfl) dX1_drillsToTreadAs_26 ⟨Nat.zero_le _, Nat.zero_le _⟩ (fun H locs hP hS => ?_)
        replace hP : va_P (dC, dI) vwCl [(q_t, .inr (1, [.ref q_t_told, .ref q_t_now, .ref q_t_trial])), (q_t_now, .inr (6, [.ref q_t_told, .ref q_t_now_line, .ref q_t_now_strides, .ref q_t_now_strains, .int t_now_down, .int t_now_steps])), (q_t_told, .inr (3, [.ref q_t_told_beats, .ref q_t_told_kinds, .int t_told_count, .int t_told_depth, .int t_told_noon, .int t_told_depthBehind])), (q_t_told_kinds, .inl (cI, 5, .inl t_told_kinds)), (q_t_now_strides, .inl (cI, 5, .inl t_now_strides)), (q_t_told_beats, .inl (cI, 5, .inl t_told_beats))] H := hP
        refine lv_iload_n hx hb dX1_drillsToTreadAs_29 rfl (lv_at hl 3 rfl) ?_
        refine lv_iadd hx hb dX1_drillsToTreadAs_30 ?_
        refine lv_iload hx hb dX1_drillsToTreadAs_31 (lv_at hl 4 rfl) ?_
        refine lv_icmp_eq (tgt := 39) hx hb dX1_drillsToTreadAs_33 (by decide) (fun hc => ?_) (fun hc => ?_)
        · replace hf := ip hc hf
          refine lv_iinc (v := (x5 + 1)) (lv' := [(5, .int (x5 + 1)), (0, .ref q_t), (1, .int x1), (2, .int x2), (3, .int x3), (4, .int x4)]) hx hb dX1_drillsToTreadAs_39 hl (k := 5) rfl rfl (by decide) rfl (fun ls hl => ?_)
          refine lv_goto (tgt := 14) hx hb dX1_drillsToTreadAs_42 (by decide) ?_
          exact ih14 (x5 + 1) _ _ _ hP hS (lv_sub hl [1, 2, 3, 4, 5, 0] rfl) hf
        · replace hf := iq hc hf
          refine lv_bipush (v := 11) hx hb dX1_drillsToTreadAs_36 (by decide) ?_
          have e0 := ij1 hf
          refine W.eq (congrArg (fun z => F0 m 38 ls [.int z]) e0) ?_
          exact hret _ _ _ _ hP hS dX1_drillsToTreadAs_38
  rw [f_X1_drillsToTreadAs] at hf
  refine lv_aload_n hx hb dX1_drillsToTreadAs_0 rfl (lv_at hl 0 rfl) ?_
  refine lv_iload_n hx hb dX1_drillsToTreadAs_1 rfl (lv_at hl 1 rfl) ?_
  refine lv_iload_n hx hb dX1_drillsToTreadAs_2 rfl (lv_at hl 2 rfl) ?_
  refine lv_iconst (v := 0) hx hb dX1_drillsToTreadAs_3 (by decide) ?_
  obtain ⟨r7, e9, hf⟩ := bd_ok hf
  refine kVi (As := [.int x1, .int x2, .int 0]) CF (cwV 3 hts gX1_drillsToTreadAs_X1_apart rfl rfl rfl (by decide +kernel) ⟨Nat.le_of_ble_eq_true rfl, Nat.le_of_ble_eq_true rfl⟩) PU_blind hP hD hS hA (va_recv hK.1 hP (ci := 1) (q0 := 0) rfl rfl) [0, 1, 2, 3, 4, 5] (fun h1 h2 h3 => PU_pre hK h1 A h2 h3) (c_X1_apart l dC dI cI cZ q_t q_t_told q_t_now q_t_trial q_t_now_line q_t_now_strides q_t_now_strains q_t_told_beats q_t_told_kinds _ t_now_down t_now_steps t_told_count t_told_depth t_told_noon t_told_depthBehind t_told_kinds t_now_strides t_told_beats x1 x2 0 r7 e9) rfl rfl rfl rfl hl.1 rfl (Nat.le_of_ble_eq_true rfl) dX1_drillsToTreadAs_4 ⟨Nat.zero_le _, Nat.zero_le _⟩ (fun H locs hP hS => ?_)
  replace hP : va_P (dC, dI) vwCl [(q_t, .inr (1, [.ref q_t_told, .ref q_t_now, .ref q_t_trial])), (q_t_now, .inr (6, [.ref q_t_told, .ref q_t_now_line, .ref q_t_now_strides, .ref q_t_now_strains, .int t_now_down, .int t_now_steps])), (q_t_told, .inr (3, [.ref q_t_told_beats, .ref q_t_told_kinds, .int t_told_count, .int t_told_depth, .int t_told_noon, .int t_told_depthBehind])), (q_t_told_kinds, .inl (cI, 5, .inl t_told_kinds)), (q_t_now_strides, .inl (cI, 5, .inl t_now_strides)), (q_t_told_beats, .inl (cI, 5, .inl t_told_beats))] H := hP
  refine lv_iload_n hx hb dX1_drillsToTreadAs_7 rfl (lv_at hl 3 rfl) ?_
  refine lv_iadd hx hb dX1_drillsToTreadAs_8 ?_
  refine lv_istore (lv' := [(4, .int (r7 + x3)), (0, .ref q_t), (1, .int x1), (2, .int x2), (3, .int x3)]) hx hb dX1_drillsToTreadAs_9 hl (by decide) rfl (fun ls hl => ?_)
  refine lv_iconst (v := 1) hx hb dX1_drillsToTreadAs_11 (by decide) ?_
  refine lv_istore (lv' := [(5, .int 1), (4, .int (r7 + x3)), (0, .ref q_t), (1, .int x1), (2, .int x2), (3, .int x3)]) hx hb dX1_drillsToTreadAs_12 hl (by decide) rfl (fun ls hl => ?_)
  exact h_14 x1 x2 x3 (r7 + x3) fuelC 1 _ _ _ hP hS (lv_sub hl [2, 3, 4, 5, 1, 0] rfl) hf
