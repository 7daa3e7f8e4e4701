section LAW
variable {p : Program} {l : Launch} {e : Env} {s : State} {m : MethodId} {below : List Frame} {meth : Method} {c : Code} {Q : State → Prop} {dC : Nat → ClassId} {dI : Nat → Nat → Nat} {cI cZ : ClassId} {tF : Nat} {a : A7} {d : A8} {b L i T : Nat} {xs : Nat → Int32} {σ : S7} {τ : S8} {H : Heap} {locs : List Loc} {ls : Array Slot} {q7 q8 : Nat}
set_option maxHeartbeats 4000000 in
set_option maxRecDepth 100000 in
theorem lwc_write (X : LC p s m c b L xs dC dI cI cZ tF) (hP : va_P (dC, dI) vwCl (w7 cI a σ ++ w8 cI cZ d τ) H) (hD : va_D (fun q : Nat => s.heap.size ≤ q) (w7 cI a σ ++ w8 cI cZ d τ)) (hS : va_S (fun q : Nat => s.heap.size ≤ q) s.heap H locs) (hl : lv_has ls 4 [(0, .ref b), (1, .ref a.t), (2, .ref d.t), (3, .int (nI i))]) (hi : i + 4 ≤ L) (hI : INV T σ τ) (h18 : T < 2 ^ 17)
    (kk : ∀ (σ2 : S7) (τ2 : S8) (H2 : Heap) (locs2 : List Loc), va_P (dC, dI) vwCl (w7 cI a σ2 ++ w8 cI cZ d τ2) H2 → va_S (fun q : Nat => s.heap.size ≤ q) s.heap H2 locs2 → INV (T + 1) σ2 τ2 → W p l e room_1 s m #[Value.ref b] below meth c H2 locs2 41 899 Q (F0 m 976 ls [])) : W p l e room_1 s m #[Value.ref b] below meth c H locs 41 899 Q (F0 m 164 ls []) := by
  have hx := X.hx
  have CF := X.CF
  have hb := CF.2.1
  have hown := CF.2.2.2.1
  have hts := CF.2.2.2.2
  have hK := X.hK
  have hF := X.hF
  have hA : ∀ q : Nat, s.heap.size ≤ q → (fun q : Nat => s.heap.size ≤ q) q := fun _ h => h
  obtain ⟨r, u_text_length, u_text_letters, v_thrown, v_textSize, v_text, f7, f8, hI2⟩ := lwop_write hI h18 (xs (i + 1))
  refine lv_aload_n hx hb dL_law_164 rfl (lv_at hl 1 rfl) ?_
  refine kScr X hS hl (j := 1) (by omega) (by decide) dL_law_165 dL_law_166 dL_law_167 dL_law_168 dL_law_169 ?_
  refine kVi (As := [.int (xs (i + 1))]) CF (cwV 1 hts gL_law_X7_write rfl rfl rfl (by decide +kernel) ⟨Nat.le_of_ble_eq_true rfl, Nat.le_of_ble_eq_true rfl⟩) PU_blind hP hD hS hA (va_recv hK.1 hP (ci := 7) (q0 := 0) rfl rfl) [0, 1, 2] (fun h1 h2 h3 => PU_pre hK h1 _ h2 h3) (c_X7_write l dC dI cI cZ a.t a.text a.told a.now a.acts a.slots a.marks a.foresight a.chances a.text_letters _ σ.firstAct σ.actCount σ.slotsKept σ.weather σ.text_length σ.text_letters (xs (i + 1)) r u_text_length u_text_letters f7) rfl rfl rfl rfl hl.1 rfl (Nat.le_of_ble_eq_true rfl) dL_law_170 ⟨Nat.le_of_ble_eq_true rfl, Nat.le_of_ble_eq_true rfl⟩ (fun H locs hP hS => ?_)
  replace hP : va_P (dC, dI) vwCl (w7 cI a (S7.mk σ.firstAct σ.actCount σ.slotsKept σ.weather u_text_length u_text_letters σ.told_count σ.told_depth σ.told_noon σ.told_depthBehind σ.told_beats σ.told_kinds σ.now_down σ.now_steps σ.now_line σ.now_strides σ.now_strains σ.acts_cells σ.slots_cells σ.marks_count σ.marks_times σ.marks_treads σ.trial_down σ.trial_steps σ.trial_line σ.trial_strides σ.trial_strains σ.hasOne σ.hasOther) ++ w8 cI cZ d τ) H := hP
  replace hD : va_D (fun q : Nat => s.heap.size ≤ q) (w7 cI a (S7.mk σ.firstAct σ.actCount σ.slotsKept σ.weather u_text_length u_text_letters σ.told_count σ.told_depth σ.told_noon σ.told_depthBehind σ.told_beats σ.told_kinds σ.now_down σ.now_steps σ.now_line σ.now_strides σ.now_strains σ.acts_cells σ.slots_cells σ.marks_count σ.marks_times σ.marks_treads σ.trial_down σ.trial_steps σ.trial_line σ.trial_strides σ.trial_strains σ.hasOne σ.hasOther) ++ w8 cI cZ d τ) := wd hD rfl
  refine lv_aload_n hx hb dL_law_173 rfl (lv_at hl 2 rfl) ?_
  refine kScr X hS hl (j := 1) (by omega) (by decide) dL_law_174 dL_law_175 dL_law_176 dL_law_177 dL_law_178 ?_
  refine kVi (As := [.int (xs (i + 1))]) CF (cwV 1 hts gL_law_X8_write rfl rfl rfl (by decide +kernel) ⟨Nat.le_of_ble_eq_true rfl, Nat.le_of_ble_eq_true rfl⟩) PU_blind hP hD hS hA (va_recv hK.1 hP (ci := 8) (q0 := 25) rfl rfl) [25, 26] (fun h1 h2 h3 => PU_pre hK h1 _ h2 h3) (c_X8_write l dC dI cI cZ d.t d.text d.beat d.kind d.readSnow d.readWalker d.page d.trial d.book d.kept d.isKept d.markStep d.markTread d.order d.gains d.value _ τ.thrown τ.textSize τ.place τ.depth τ.noon τ.later τ.walkers τ.readWalkers τ.acts τ.marks τ.seed τ.stumbled τ.lineMany τ.lineOrder τ.whoseMany τ.whoseFirst τ.restMany τ.restFirst τ.text (xs (i + 1)) r v_thrown v_textSize v_text f8) rfl rfl rfl rfl hl.1 rfl (Nat.le_of_ble_eq_true rfl) dL_law_179 ⟨Nat.le_of_ble_eq_true rfl, Nat.le_of_ble_eq_true rfl⟩ (fun H locs hP hS => ?_)
  replace hP : va_P (dC, dI) vwCl (w7 cI a (S7.mk σ.firstAct σ.actCount σ.slotsKept σ.weather u_text_length u_text_letters σ.told_count σ.told_depth σ.told_noon σ.told_depthBehind σ.told_beats σ.told_kinds σ.now_down σ.now_steps σ.now_line σ.now_strides σ.now_strains σ.acts_cells σ.slots_cells σ.marks_count σ.marks_times σ.marks_treads σ.trial_down σ.trial_steps σ.trial_line σ.trial_strides σ.trial_strains σ.hasOne σ.hasOther) ++ w8 cI cZ d (S8.mk v_thrown v_textSize τ.place τ.depth τ.noon τ.later τ.walkers τ.readWalkers τ.acts τ.marks τ.seed τ.stumbled τ.lineMany τ.lineOrder τ.whoseMany τ.whoseFirst τ.restMany τ.restFirst v_text τ.beat τ.kind τ.readSnow τ.readWalker τ.page τ.trial τ.book τ.kept τ.isKept τ.markStep τ.markTread τ.order τ.gains τ.value)) H := hP
  exact lv_icmp_eq (tgt := 976) hx hb dL_law_182 (by decide) (fun _ => kk _ _ _ _ hP hS hI2) (fun h => absurd rfl h)
set_option maxHeartbeats 4000000 in
set_option maxRecDepth 100000 in
theorem lwc_wipe (X : LC p s m c b L xs dC dI cI cZ tF) (hP : va_P (dC, dI) vwCl (w7 cI a σ ++ w8 cI cZ d τ) H) (hD : va_D (fun q : Nat => s.heap.size ≤ q) (w7 cI a σ ++ w8 cI cZ d τ)) (hS : va_S (fun q : Nat => s.heap.size ≤ q) s.heap H locs) (hl : lv_has ls 4 [(0, .ref b), (1, .ref a.t), (2, .ref d.t), (3, .int (nI i))]) (hi : i + 4 ≤ L) (hI : INV T σ τ) (h18 : T < 2 ^ 17)
    (kk : ∀ (σ2 : S7) (τ2 : S8) (H2 : Heap) (locs2 : List Loc), va_P (dC, dI) vwCl (w7 cI a σ2 ++ w8 cI cZ d τ2) H2 → va_S (fun q : Nat => s.heap.size ≤ q) s.heap H2 locs2 → INV (T + 1) σ2 τ2 → W p l e room_1 s m #[Value.ref b] below meth c H2 locs2 41 899 Q (F0 m 976 ls [])) : W p l e room_1 s m #[Value.ref b] below meth c H locs 41 899 Q (F0 m 187 ls []) := by
  have hx := X.hx
  have CF := X.CF
  have hb := CF.2.1
  have hown := CF.2.2.2.1
  have hts := CF.2.2.2.2
  have hK := X.hK
  have hF := X.hF
  have hA : ∀ q : Nat, s.heap.size ≤ q → (fun q : Nat => s.heap.size ≤ q) q := fun _ h => h
  obtain ⟨r, u_text_length, v_thrown, v_textSize, f7, f8, hI2⟩ := lwop_wipe hI h18 
  refine lv_aload_n hx hb dL_law_187 rfl (lv_at hl 1 rfl) ?_
  refine kVi (As := []) CF (cwV 0 hts gL_law_X7_wipe rfl rfl rfl (by decide +kernel) ⟨Nat.le_of_ble_eq_true rfl, Nat.le_of_ble_eq_true rfl⟩) PU_blind hP hD hS hA (va_recv hK.1 hP (ci := 7) (q0 := 0) rfl rfl) [0, 1] (fun h1 h2 h3 => PU_pre hK h1 _ h2 h3) (c_X7_wipe l dC dI cI cZ a.t a.text a.told a.now a.acts a.slots a.marks a.foresight a.chances a.text_letters _ σ.firstAct σ.actCount σ.slotsKept σ.weather σ.text_length r u_text_length f7) rfl rfl rfl rfl hl.1 rfl (Nat.le_of_ble_eq_true rfl) dL_law_188 ⟨Nat.le_of_ble_eq_true rfl, Nat.le_of_ble_eq_true rfl⟩ (fun H locs hP hS => ?_)
  replace hP : va_P (dC, dI) vwCl (w7 cI a (S7.mk σ.firstAct σ.actCount σ.slotsKept σ.weather u_text_length σ.text_letters σ.told_count σ.told_depth σ.told_noon σ.told_depthBehind σ.told_beats σ.told_kinds σ.now_down σ.now_steps σ.now_line σ.now_strides σ.now_strains σ.acts_cells σ.slots_cells σ.marks_count σ.marks_times σ.marks_treads σ.trial_down σ.trial_steps σ.trial_line σ.trial_strides σ.trial_strains σ.hasOne σ.hasOther) ++ w8 cI cZ d τ) H := hP
  replace hD : va_D (fun q : Nat => s.heap.size ≤ q) (w7 cI a (S7.mk σ.firstAct σ.actCount σ.slotsKept σ.weather u_text_length σ.text_letters σ.told_count σ.told_depth σ.told_noon σ.told_depthBehind σ.told_beats σ.told_kinds σ.now_down σ.now_steps σ.now_line σ.now_strides σ.now_strains σ.acts_cells σ.slots_cells σ.marks_count σ.marks_times σ.marks_treads σ.trial_down σ.trial_steps σ.trial_line σ.trial_strides σ.trial_strains σ.hasOne σ.hasOther) ++ w8 cI cZ d τ) := wd hD rfl
  refine lv_aload_n hx hb dL_law_191 rfl (lv_at hl 2 rfl) ?_
  refine kVi (As := []) CF (cwV 0 hts gL_law_X8_wipe rfl rfl rfl (by decide +kernel) ⟨Nat.le_of_ble_eq_true rfl, Nat.le_of_ble_eq_true rfl⟩) PU_blind hP hD hS hA (va_recv hK.1 hP (ci := 8) (q0 := 25) rfl rfl) [25] (fun h1 h2 h3 => PU_pre hK h1 _ h2 h3) (c_X8_wipe l dC dI cI cZ d.t d.text d.beat d.kind d.readSnow d.readWalker d.page d.trial d.book d.kept d.isKept d.markStep d.markTread d.order d.gains d.value _ τ.thrown τ.textSize τ.place τ.depth τ.noon τ.later τ.walkers τ.readWalkers τ.acts τ.marks τ.seed τ.stumbled τ.lineMany τ.lineOrder τ.whoseMany τ.whoseFirst τ.restMany τ.restFirst r v_thrown v_textSize f8) rfl rfl rfl rfl hl.1 rfl (Nat.le_of_ble_eq_true rfl) dL_law_192 ⟨Nat.le_of_ble_eq_true rfl, Nat.le_of_ble_eq_true rfl⟩ (fun H locs hP hS => ?_)
  replace hP : va_P (dC, dI) vwCl (w7 cI a (S7.mk σ.firstAct σ.actCount σ.slotsKept σ.weather u_text_length σ.text_letters σ.told_count σ.told_depth σ.told_noon σ.told_depthBehind σ.told_beats σ.told_kinds σ.now_down σ.now_steps σ.now_line σ.now_strides σ.now_strains σ.acts_cells σ.slots_cells σ.marks_count σ.marks_times σ.marks_treads σ.trial_down σ.trial_steps σ.trial_line σ.trial_strides σ.trial_strains σ.hasOne σ.hasOther) ++ w8 cI cZ d (S8.mk v_thrown v_textSize τ.place τ.depth τ.noon τ.later τ.walkers τ.readWalkers τ.acts τ.marks τ.seed τ.stumbled τ.lineMany τ.lineOrder τ.whoseMany τ.whoseFirst τ.restMany τ.restFirst τ.text τ.beat τ.kind τ.readSnow τ.readWalker τ.page τ.trial τ.book τ.kept τ.isKept τ.markStep τ.markTread τ.order τ.gains τ.value)) H := hP
  exact lv_icmp_eq (tgt := 976) hx hb dL_law_195 (by decide) (fun _ => kk _ _ _ _ hP hS hI2) (fun h => absurd rfl h)
set_option maxHeartbeats 4000000 in
set_option maxRecDepth 100000 in
theorem lwc_fault (X : LC p s m c b L xs dC dI cI cZ tF) (hP : va_P (dC, dI) vwCl (w7 cI a σ ++ w8 cI cZ d τ) H) (hD : va_D (fun q : Nat => s.heap.size ≤ q) (w7 cI a σ ++ w8 cI cZ d τ)) (hS : va_S (fun q : Nat => s.heap.size ≤ q) s.heap H locs) (hl : lv_has ls 4 [(0, .ref b), (1, .ref a.t), (2, .ref d.t), (3, .int (nI i))]) (hi : i + 4 ≤ L) (hI : INV T σ τ) (h18 : T < 2 ^ 17)
    (kk : ∀ (σ2 : S7) (τ2 : S8) (H2 : Heap) (locs2 : List Loc), va_P (dC, dI) vwCl (w7 cI a σ2 ++ w8 cI cZ d τ2) H2 → va_S (fun q : Nat => s.heap.size ≤ q) s.heap H2 locs2 → INV (T + 1) σ2 τ2 → W p l e room_1 s m #[Value.ref b] below meth c H2 locs2 41 899 Q (F0 m 976 ls [])) : W p l e room_1 s m #[Value.ref b] below meth c H locs 41 899 Q (F0 m 200 ls []) := by
  have hx := X.hx
  have CF := X.CF
  have hb := CF.2.1
  have hown := CF.2.2.2.1
  have hts := CF.2.2.2.2
  have hK := X.hK
  have hF := X.hF
  have hA : ∀ q : Nat, s.heap.size ≤ q → (fun q : Nat => s.heap.size ≤ q) q := fun _ h => h
  obtain ⟨r, v_thrown, v_place, v_readWalkers, v_readSnow, v_readWalker, f7, f8, hI2⟩ := lwop_fault hI h18 
  refine lv_aload_n hx hb dL_law_200 rfl (lv_at hl 1 rfl) ?_
  refine kVi (As := []) CF (cwV 0 hts gL_law_X7_fault rfl rfl rfl (by decide +kernel) ⟨Nat.le_of_ble_eq_true rfl, Nat.le_of_ble_eq_true rfl⟩) PU_blind hP hD hS hA (va_recv hK.1 hP (ci := 7) (q0 := 0) rfl rfl) [0, 1, 2] (fun h1 h2 h3 => PU_pre hK h1 _ h2 h3) (c_X7_fault l dC dI cI cZ a.t a.text a.told a.now a.acts a.slots a.marks a.foresight a.chances a.text_letters _ σ.firstAct σ.actCount σ.slotsKept σ.weather σ.text_length σ.text_letters r f7) rfl rfl rfl rfl hl.1 rfl (Nat.le_of_ble_eq_true rfl) dL_law_201 ⟨Nat.le_of_ble_eq_true rfl, Nat.le_of_ble_eq_true rfl⟩ (fun H locs hP hS => ?_)
  replace hP : va_P (dC, dI) vwCl (w7 cI a σ ++ w8 cI cZ d τ) H := hP
  replace hD : va_D (fun q : Nat => s.heap.size ≤ q) (w7 cI a σ ++ w8 cI cZ d τ) := wd hD rfl
  refine lv_aload_n hx hb dL_law_204 rfl (lv_at hl 2 rfl) ?_
  refine kVi (As := []) CF (cwV 0 hts gL_law_X8_fault rfl rfl rfl (by decide +kernel) ⟨Nat.le_of_ble_eq_true rfl, Nat.le_of_ble_eq_true rfl⟩) PU_blind hP hD hS hA (va_recv hK.1 hP (ci := 8) (q0 := 25) rfl rfl) [25, 26, 29, 30] (fun h1 h2 h3 => PU_pre hK h1 _ h2 h3) (c_X8_fault l dC dI cI cZ d.t d.text d.beat d.kind d.readSnow d.readWalker d.page d.trial d.book d.kept d.isKept d.markStep d.markTread d.order d.gains d.value _ τ.thrown τ.textSize τ.place τ.depth τ.noon τ.later τ.walkers τ.readWalkers τ.acts τ.marks τ.seed τ.stumbled τ.lineMany τ.lineOrder τ.whoseMany τ.whoseFirst τ.restMany τ.restFirst τ.text τ.readSnow τ.readWalker r v_thrown v_place v_readWalkers v_readSnow v_readWalker f8) rfl rfl rfl rfl hl.1 rfl (Nat.le_of_ble_eq_true rfl) dL_law_205 ⟨Nat.le_of_ble_eq_true rfl, Nat.le_of_ble_eq_true rfl⟩ (fun H locs hP hS => ?_)
  replace hP : va_P (dC, dI) vwCl (w7 cI a σ ++ w8 cI cZ d (S8.mk v_thrown τ.textSize v_place τ.depth τ.noon τ.later τ.walkers v_readWalkers τ.acts τ.marks τ.seed τ.stumbled τ.lineMany τ.lineOrder τ.whoseMany τ.whoseFirst τ.restMany τ.restFirst τ.text τ.beat τ.kind v_readSnow v_readWalker τ.page τ.trial τ.book τ.kept τ.isKept τ.markStep τ.markTread τ.order τ.gains τ.value)) H := hP
  exact lv_icmp_eq (tgt := 976) hx hb dL_law_208 (by decide) (fun _ => kk _ _ _ _ hP hS hI2) (fun h => absurd rfl h)
set_option maxHeartbeats 4000000 in
set_option maxRecDepth 100000 in
theorem lwc_party (X : LC p s m c b L xs dC dI cI cZ tF) (hP : va_P (dC, dI) vwCl (w7 cI a σ ++ w8 cI cZ d τ) H) (hD : va_D (fun q : Nat => s.heap.size ≤ q) (w7 cI a σ ++ w8 cI cZ d τ)) (hS : va_S (fun q : Nat => s.heap.size ≤ q) s.heap H locs) (hl : lv_has ls 4 [(0, .ref b), (1, .ref a.t), (2, .ref d.t), (3, .int (nI i))]) (hi : i + 4 ≤ L) (hI : INV T σ τ) (h18 : T < 2 ^ 17)
    (kk : ∀ (σ2 : S7) (τ2 : S8) (H2 : Heap) (locs2 : List Loc), va_P (dC, dI) vwCl (w7 cI a σ2 ++ w8 cI cZ d τ2) H2 → va_S (fun q : Nat => s.heap.size ≤ q) s.heap H2 locs2 → INV (T + 1) σ2 τ2 → W p l e room_1 s m #[Value.ref b] below meth c H2 locs2 41 899 Q (F0 m 976 ls [])) : W p l e room_1 s m #[Value.ref b] below meth c H locs 41 899 Q (F0 m 213 ls []) := by
  have hx := X.hx
  have CF := X.CF
  have hb := CF.2.1
  have hown := CF.2.2.2.1
  have hts := CF.2.2.2.2
  have hK := X.hK
  have hF := X.hF
  have hA : ∀ q : Nat, s.heap.size ≤ q → (fun q : Nat => s.heap.size ≤ q) q := fun _ h => h
  obtain ⟨r, u_firstAct, u_actCount, u_slotsKept, u_told_count, u_told_depth, u_told_noon, u_told_depthBehind, u_told_beats, u_told_kinds, u_now_down, u_now_steps, u_now_line, u_now_strides, u_now_strains, v_thrown, v_place, v_depth, v_noon, v_later, v_walkers, v_readWalkers, v_acts, v_readSnow, v_readWalker, v_page, v_beat, v_kind, v_isKept, f7, f8, hI2⟩ := lwop_party hI h18 
  refine lv_aload_n hx hb dL_law_213 rfl (lv_at hl 1 rfl) ?_
  refine kVi (As := []) CF (cwV 0 hts gL_law_X7_party rfl rfl rfl (by decide +kernel) ⟨Nat.le_of_ble_eq_true rfl, Nat.le_of_ble_eq_true rfl⟩) PU_blind hP hD hS hA (va_recv hK.1 hP (ci := 7) (q0 := 0) rfl rfl) [0, 1, 2, 3, 4, 5, 6, 7, 8, 9] (fun h1 h2 h3 => PU_pre hK h1 _ h2 h3) (c_X7_party l dC dI cI cZ a.t a.text a.told a.now a.acts a.slots a.marks a.foresight a.chances a.text_letters a.told_beats a.told_kinds a.now_line a.now_strides a.now_strains _ σ.firstAct σ.actCount σ.slotsKept σ.weather σ.text_length σ.text_letters σ.told_count σ.told_depth σ.told_noon σ.told_depthBehind σ.told_beats σ.told_kinds σ.now_down σ.now_steps σ.now_line σ.now_strides σ.now_strains r u_firstAct u_actCount u_slotsKept u_told_count u_told_depth u_told_noon u_told_depthBehind u_told_beats u_told_kinds u_now_down u_now_steps u_now_line u_now_strides u_now_strains f7) rfl rfl rfl rfl hl.1 rfl (Nat.le_of_ble_eq_true rfl) dL_law_214 ⟨Nat.le_of_ble_eq_true rfl, Nat.le_of_ble_eq_true rfl⟩ (fun H locs hP hS => ?_)
  replace hP : va_P (dC, dI) vwCl (w7 cI a (S7.mk u_firstAct u_actCount u_slotsKept σ.weather σ.text_length σ.text_letters u_told_count u_told_depth u_told_noon u_told_depthBehind u_told_beats u_told_kinds u_now_down u_now_steps u_now_line u_now_strides u_now_strains σ.acts_cells σ.slots_cells σ.marks_count σ.marks_times σ.marks_treads σ.trial_down σ.trial_steps σ.trial_line σ.trial_strides σ.trial_strains σ.hasOne σ.hasOther) ++ w8 cI cZ d τ) H := hP
  replace hD : va_D (fun q : Nat => s.heap.size ≤ q) (w7 cI a (S7.mk u_firstAct u_actCount u_slotsKept σ.weather σ.text_length σ.text_letters u_told_count u_told_depth u_told_noon u_told_depthBehind u_told_beats u_told_kinds u_now_down u_now_steps u_now_line u_now_strides u_now_strains σ.acts_cells σ.slots_cells σ.marks_count σ.marks_times σ.marks_treads σ.trial_down σ.trial_steps σ.trial_line σ.trial_strides σ.trial_strains σ.hasOne σ.hasOther) ++ w8 cI cZ d τ) := wd hD rfl
  refine lv_aload_n hx hb dL_law_217 rfl (lv_at hl 2 rfl) ?_
  refine kVi (As := []) CF (cwV 0 hts gL_law_X8_party rfl rfl rfl (by decide +kernel) ⟨Nat.le_of_ble_eq_true rfl, Nat.le_of_ble_eq_true rfl⟩) PU_blind hP hD hS hA (va_recv hK.1 hP (ci := 8) (q0 := 25) rfl rfl) [25, 26, 29, 30, 31, 27, 28, 35] (fun h1 h2 h3 => PU_pre hK h1 _ h2 h3) (c_X8_party l dC dI cI cZ d.t d.text d.beat d.kind d.readSnow d.readWalker d.page d.trial d.book d.kept d.isKept d.markStep d.markTread d.order d.gains d.value _ τ.thrown τ.textSize τ.place τ.depth τ.noon τ.later τ.walkers τ.readWalkers τ.acts τ.marks τ.seed τ.stumbled τ.lineMany τ.lineOrder τ.whoseMany τ.whoseFirst τ.restMany τ.restFirst τ.text τ.readSnow τ.readWalker τ.page τ.beat τ.kind τ.isKept r v_thrown v_place v_depth v_noon v_later v_walkers v_readWalkers v_acts v_readSnow v_readWalker v_page v_beat v_kind v_isKept f8) rfl rfl rfl rfl hl.1 rfl (Nat.le_of_ble_eq_true rfl) dL_law_218 ⟨Nat.le_of_ble_eq_true rfl, Nat.le_of_ble_eq_true rfl⟩ (fun H locs hP hS => ?_)
  replace hP : va_P (dC, dI) vwCl (w7 cI a (S7.mk u_firstAct u_actCount u_slotsKept σ.weather σ.text_length σ.text_letters u_told_count u_told_depth u_told_noon u_told_depthBehind u_told_beats u_told_kinds u_now_down u_now_steps u_now_line u_now_strides u_now_strains σ.acts_cells σ.slots_cells σ.marks_count σ.marks_times σ.marks_treads σ.trial_down σ.trial_steps σ.trial_line σ.trial_strides σ.trial_strains σ.hasOne σ.hasOther) ++ w8 cI cZ d (S8.mk v_thrown τ.textSize v_place v_depth v_noon v_later v_walkers v_readWalkers v_acts τ.marks τ.seed τ.stumbled τ.lineMany τ.lineOrder τ.whoseMany τ.whoseFirst τ.restMany τ.restFirst τ.text v_beat v_kind v_readSnow v_readWalker v_page τ.trial τ.book τ.kept v_isKept τ.markStep τ.markTread τ.order τ.gains τ.value)) H := hP
  exact lv_icmp_eq (tgt := 976) hx hb dL_law_221 (by decide) (fun _ => kk _ _ _ _ hP hS hI2) (fun h => absurd rfl h)
set_option maxHeartbeats 4000000 in
set_option maxRecDepth 100000 in
theorem lwc_about (X : LC p s m c b L xs dC dI cI cZ tF) (hP : va_P (dC, dI) vwCl (w7 cI a σ ++ w8 cI cZ d τ) H) (hD : va_D (fun q : Nat => s.heap.size ≤ q) (w7 cI a σ ++ w8 cI cZ d τ)) (hS : va_S (fun q : Nat => s.heap.size ≤ q) s.heap H locs) (hl : lv_has ls 4 [(0, .ref b), (1, .ref a.t), (2, .ref d.t), (3, .int (nI i))]) (hi : i + 4 ≤ L) (hI : INV T σ τ) (h18 : T < 2 ^ 17)
    (kk : ∀ (σ2 : S7) (τ2 : S8) (H2 : Heap) (locs2 : List Loc), va_P (dC, dI) vwCl (w7 cI a σ2 ++ w8 cI cZ d τ2) H2 → va_S (fun q : Nat => s.heap.size ≤ q) s.heap H2 locs2 → INV (T + 1) σ2 τ2 → W p l e room_1 s m #[Value.ref b] below meth c H2 locs2 41 899 Q (F0 m 976 ls [])) : W p l e room_1 s m #[Value.ref b] below meth c H locs 41 899 Q (F0 m 226 ls []) := by
  have hx := X.hx
  have CF := X.CF
  have hb := CF.2.1
  have hown := CF.2.2.2.1
  have hts := CF.2.2.2.2
  have hK := X.hK
  have hF := X.hF
  have hA : ∀ q : Nat, s.heap.size ≤ q → (fun q : Nat => s.heap.size ≤ q) q := fun _ h => h
  obtain ⟨r, v_thrown, f7, f8, hI2⟩ := lwop_about hI h18 (xs (i + 1))
  refine lv_aload_n hx hb dL_law_226 rfl (lv_at hl 1 rfl) ?_
  refine kScr X hS hl (j := 1) (by omega) (by decide) dL_law_227 dL_law_228 dL_law_229 dL_law_230 dL_law_231 ?_
  refine kVi (As := [.int (xs (i + 1))]) CF (cwV 1 hts gL_law_X7_about rfl rfl rfl (by decide +kernel) ⟨Nat.le_of_ble_eq_true rfl, Nat.le_of_ble_eq_true rfl⟩) PU_blind hP hD hS hA (va_recv hK.1 hP (ci := 7) (q0 := 0) rfl rfl) [0, 1, 14, 6, 3, 9] (fun h1 h2 h3 => PU_pre hK h1 _ h2 h3) (c_X7_about l dC dI cI cZ a.t a.text a.told a.now a.acts a.slots a.marks a.foresight a.chances a.text_letters a.marks_times a.marks_treads a.now_line a.now_strides a.now_strains a.told_beats a.told_kinds _ σ.firstAct σ.actCount σ.slotsKept σ.weather σ.text_length σ.marks_count σ.now_down σ.now_steps σ.told_count σ.told_depth σ.told_noon σ.told_depthBehind σ.now_strains (xs (i + 1)) r f7) rfl rfl rfl rfl hl.1 rfl (Nat.le_of_ble_eq_true rfl) dL_law_232 ⟨Nat.le_of_ble_eq_true rfl, Nat.le_of_ble_eq_true rfl⟩ (fun H locs hP hS => ?_)
  replace hP : va_P (dC, dI) vwCl (w7 cI a σ ++ w8 cI cZ d τ) H := hP
  replace hD : va_D (fun q : Nat => s.heap.size ≤ q) (w7 cI a σ ++ w8 cI cZ d τ) := wd hD rfl
  refine lv_aload_n hx hb dL_law_235 rfl (lv_at hl 2 rfl) ?_
  refine kScr X hS hl (j := 1) (by omega) (by decide) dL_law_236 dL_law_237 dL_law_238 dL_law_239 dL_law_240 ?_
  refine kVi (As := [.int (xs (i + 1))]) CF (cwV 1 hts gL_law_X8_about rfl rfl rfl (by decide +kernel) ⟨Nat.le_of_ble_eq_true rfl, Nat.le_of_ble_eq_true rfl⟩) PU_blind hP hD hS hA (va_recv hK.1 hP (ci := 8) (q0 := 25) rfl rfl) [25, 31] (fun h1 h2 h3 => PU_pre hK h1 _ h2 h3) (c_X8_about l dC dI cI cZ d.t d.text d.beat d.kind d.readSnow d.readWalker d.page d.trial d.book d.kept d.isKept d.markStep d.markTread d.order d.gains d.value _ τ.thrown τ.textSize τ.place τ.depth τ.noon τ.later τ.walkers τ.readWalkers τ.acts τ.marks τ.seed τ.stumbled τ.lineMany τ.lineOrder τ.whoseMany τ.whoseFirst τ.restMany τ.restFirst τ.page (xs (i + 1)) r v_thrown f8) rfl rfl rfl rfl hl.1 rfl (Nat.le_of_ble_eq_true rfl) dL_law_241 ⟨Nat.le_of_ble_eq_true rfl, Nat.le_of_ble_eq_true rfl⟩ (fun H locs hP hS => ?_)
  replace hP : va_P (dC, dI) vwCl (w7 cI a σ ++ w8 cI cZ d (S8.mk v_thrown τ.textSize τ.place τ.depth τ.noon τ.later τ.walkers τ.readWalkers τ.acts τ.marks τ.seed τ.stumbled τ.lineMany τ.lineOrder τ.whoseMany τ.whoseFirst τ.restMany τ.restFirst τ.text τ.beat τ.kind τ.readSnow τ.readWalker τ.page τ.trial τ.book τ.kept τ.isKept τ.markStep τ.markTread τ.order τ.gains τ.value)) H := hP
  exact lv_icmp_eq (tgt := 976) hx hb dL_law_244 (by decide) (fun _ => kk _ _ _ _ hP hS hI2) (fun h => absurd rfl h)
end LAW
