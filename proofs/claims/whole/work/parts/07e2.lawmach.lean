section LAW
variable {p : Program} {l : Launch} {e : Env} {s : State} {m : MethodId} {below : List Frame} {meth : Method} {c : Code} {Q : State → Prop} {dC : Nat → ClassId} {dI : Nat → Nat → Nat} {cI cZ : ClassId} {tF : Nat} {a : A7} {d : A8} {b L i T : Nat} {xs : Nat → Int32} {σ : S7} {τ : S8} {H : Heap} {locs : List Loc} {ls : Array Slot} {q7 q8 : Nat}
set_option maxHeartbeats 4000000 in
set_option maxRecDepth 100000 in
theorem lwc_walker (X : LC p s m c b L xs dC dI cI cZ tF) (hP : va_P (dC, dI) vwCl (w7 cI a σ ++ w8 cI cZ d τ) H) (hD : va_D (fun q : Nat => s.heap.size ≤ q) (w7 cI a σ ++ w8 cI cZ d τ)) (hS : va_S (fun q : Nat => s.heap.size ≤ q) s.heap H locs) (hl : lv_has ls 4 [(0, .ref b), (1, .ref a.t), (2, .ref d.t), (3, .int (nI i))]) (hi : i + 4 ≤ L) (hI : INV T σ τ) (h18 : T < 2 ^ 17)
    (kk : ∀ (σ2 : S7) (τ2 : S8) (H2 : Heap) (locs2 : List Loc), va_P (dC, dI) vwCl (w7 cI a σ2 ++ w8 cI cZ d τ2) H2 → va_S (fun q : Nat => s.heap.size ≤ q) s.heap H2 locs2 → INV (T + 1) σ2 τ2 → W p l e room_1 s m #[Value.ref b] below meth c H2 locs2 41 899 Q (F0 m 976 ls [])) : W p l e room_1 s m #[Value.ref b] below meth c H locs 41 899 Q (F0 m 249 ls []) := by
  have hx := X.hx
  have CF := X.CF
  have hb := CF.2.1
  have hown := CF.2.2.2.1
  have hts := CF.2.2.2.2
  have hK := X.hK
  have hF := X.hF
  have hA : ∀ q : Nat, s.heap.size ≤ q → (fun q : Nat => s.heap.size ≤ q) q := fun _ h => h
  obtain ⟨r, v_thrown, v_stumbled, f7, f8, hI2⟩ := lwop_walker hI h18 (xs (i + 1)) (xs (i + 2))
  refine lv_aload_n hx hb dL_law_249 rfl (lv_at hl 1 rfl) ?_
  refine kScr X hS hl (j := 1) (by omega) (by decide) dL_law_250 dL_law_251 dL_law_252 dL_law_253 dL_law_254 ?_
  refine kScr X hS hl (j := 2) (by omega) (by decide) dL_law_255 dL_law_256 dL_law_257 dL_law_258 dL_law_259 ?_
  refine kVi (As := [.int (xs (i + 1)), .int (xs (i + 2))]) CF (cwV 2 hts gL_law_X7_walker rfl rfl rfl (by decide +kernel) ⟨Nat.le_of_ble_eq_true rfl, Nat.le_of_ble_eq_true rfl⟩) PU_blind hP hD hS hA (va_recv hK.1 hP (ci := 7) (q0 := 0) rfl rfl) [0, 3, 6, 7, 5, 8, 4, 9] (fun h1 h2 h3 => PU_pre hK h1 _ h2 h3) (c_X7_walker l dC dI cI cZ a.t a.text a.told a.now a.acts a.slots a.marks a.foresight a.chances a.told_beats a.told_kinds a.now_line a.now_strides a.now_strains _ σ.firstAct σ.actCount σ.slotsKept σ.weather σ.told_count σ.told_depth σ.told_noon σ.told_depthBehind σ.now_down σ.now_steps σ.now_line σ.told_kinds σ.now_strides σ.told_beats σ.now_strains (xs (i + 1)) (xs (i + 2)) r f7) rfl rfl rfl rfl hl.1 rfl (Nat.le_of_ble_eq_true rfl) dL_law_260 ⟨Nat.le_of_ble_eq_true rfl, Nat.le_of_ble_eq_true rfl⟩ (fun H locs hP hS => ?_)
  replace hP : va_P (dC, dI) vwCl (w7 cI a σ ++ w8 cI cZ d τ) H := hP
  replace hD : va_D (fun q : Nat => s.heap.size ≤ q) (w7 cI a σ ++ w8 cI cZ d τ) := wd hD rfl
  refine lv_aload_n hx hb dL_law_263 rfl (lv_at hl 2 rfl) ?_
  refine kScr X hS hl (j := 1) (by omega) (by decide) dL_law_264 dL_law_265 dL_law_266 dL_law_267 dL_law_268 ?_
  refine kScr X hS hl (j := 2) (by omega) (by decide) dL_law_269 dL_law_270 dL_law_271 dL_law_272 dL_law_273 ?_
  refine kVi (As := [.int (xs (i + 1)), .int (xs (i + 2))]) CF (cwV 2 hts gL_law_X8_walker rfl rfl rfl (by decide +kernel) ⟨Nat.le_of_ble_eq_true rfl, Nat.le_of_ble_eq_true rfl⟩) PU_blind hP hD hS hA (va_recv hK.1 hP (ci := 8) (q0 := 25) rfl rfl) [25, 31, 28, 27] (fun h1 h2 h3 => PU_pre hK h1 _ h2 h3) (c_X8_walker l dC dI cI cZ d.t d.text d.beat d.kind d.readSnow d.readWalker d.page d.trial d.book d.kept d.isKept d.markStep d.markTread d.order d.gains d.value _ τ.thrown τ.textSize τ.place τ.depth τ.noon τ.later τ.walkers τ.readWalkers τ.acts τ.marks τ.seed τ.stumbled τ.lineMany τ.lineOrder τ.whoseMany τ.whoseFirst τ.restMany τ.restFirst τ.page τ.kind τ.beat (xs (i + 1)) (xs (i + 2)) r v_thrown v_stumbled f8) rfl rfl rfl rfl hl.1 rfl (Nat.le_of_ble_eq_true rfl) dL_law_274 ⟨Nat.le_of_ble_eq_true rfl, Nat.le_of_ble_eq_true rfl⟩ (fun H locs hP hS => ?_)
  replace hP : va_P (dC, dI) vwCl (w7 cI a σ ++ w8 cI cZ d (S8.mk v_thrown τ.textSize τ.place τ.depth τ.noon τ.later τ.walkers τ.readWalkers τ.acts τ.marks τ.seed v_stumbled τ.lineMany τ.lineOrder τ.whoseMany τ.whoseFirst τ.restMany τ.restFirst τ.text τ.beat τ.kind τ.readSnow τ.readWalker τ.page τ.trial τ.book τ.kept τ.isKept τ.markStep τ.markTread τ.order τ.gains τ.value)) H := hP
  exact lv_icmp_eq (tgt := 976) hx hb dL_law_277 (by decide) (fun _ => kk _ _ _ _ hP hS hI2) (fun h => absurd rfl h)
set_option maxHeartbeats 4000000 in
set_option maxRecDepth 100000 in
theorem lwc_line (X : LC p s m c b L xs dC dI cI cZ tF) (hP : va_P (dC, dI) vwCl (w7 cI a σ ++ w8 cI cZ d τ) H) (hD : va_D (fun q : Nat => s.heap.size ≤ q) (w7 cI a σ ++ w8 cI cZ d τ)) (hS : va_S (fun q : Nat => s.heap.size ≤ q) s.heap H locs) (hl : lv_has ls 4 [(0, .ref b), (1, .ref a.t), (2, .ref d.t), (3, .int (nI i))]) (hi : i + 4 ≤ L) (hI : INV T σ τ) (h18 : T < 2 ^ 17)
    (kk : ∀ (σ2 : S7) (τ2 : S8) (H2 : Heap) (locs2 : List Loc), va_P (dC, dI) vwCl (w7 cI a σ2 ++ w8 cI cZ d τ2) H2 → va_S (fun q : Nat => s.heap.size ≤ q) s.heap H2 locs2 → INV (T + 1) σ2 τ2 → W p l e room_1 s m #[Value.ref b] below meth c H2 locs2 41 899 Q (F0 m 976 ls [])) : W p l e room_1 s m #[Value.ref b] below meth c H locs 41 899 Q (F0 m 282 ls []) := by
  have hx := X.hx
  have CF := X.CF
  have hb := CF.2.1
  have hown := CF.2.2.2.1
  have hts := CF.2.2.2.2
  have hK := X.hK
  have hF := X.hF
  have hA : ∀ q : Nat, s.heap.size ≤ q → (fun q : Nat => s.heap.size ≤ q) q := fun _ h => h
  obtain ⟨r, v_thrown, f7, f8, hI2⟩ := lwop_line hI h18 (xs (i + 1))
  refine lv_aload_n hx hb dL_law_282 rfl (lv_at hl 1 rfl) ?_
  refine kScr X hS hl (j := 1) (by omega) (by decide) dL_law_283 dL_law_284 dL_law_285 dL_law_286 dL_law_287 ?_
  refine kVi (As := [.int (xs (i + 1))]) CF (cwV 1 hts gL_law_X7_line rfl rfl rfl (by decide +kernel) ⟨Nat.le_of_ble_eq_true rfl, Nat.le_of_ble_eq_true rfl⟩) PU_blind hP hD hS hA (va_recv hK.1 hP (ci := 7) (q0 := 0) rfl rfl) [0, 3, 6, 7] (fun h1 h2 h3 => PU_pre hK h1 _ h2 h3) (c_X7_line l dC dI cI cZ a.t a.text a.told a.now a.acts a.slots a.marks a.foresight a.chances a.told_beats a.told_kinds a.now_line a.now_strides a.now_strains _ σ.firstAct σ.actCount σ.slotsKept σ.weather σ.told_count σ.told_depth σ.told_noon σ.told_depthBehind σ.now_down σ.now_steps σ.now_line (xs (i + 1)) r f7) rfl rfl rfl rfl hl.1 rfl (Nat.le_of_ble_eq_true rfl) dL_law_288 ⟨Nat.le_of_ble_eq_true rfl, Nat.le_of_ble_eq_true rfl⟩ (fun H locs hP hS => ?_)
  replace hP : va_P (dC, dI) vwCl (w7 cI a σ ++ w8 cI cZ d τ) H := hP
  replace hD : va_D (fun q : Nat => s.heap.size ≤ q) (w7 cI a σ ++ w8 cI cZ d τ) := wd hD rfl
  refine lv_aload_n hx hb dL_law_291 rfl (lv_at hl 2 rfl) ?_
  refine kScr X hS hl (j := 1) (by omega) (by decide) dL_law_292 dL_law_293 dL_law_294 dL_law_295 dL_law_296 ?_
  refine kVi (As := [.int (xs (i + 1))]) CF (cwV 1 hts gL_law_X8_line rfl rfl rfl (by decide +kernel) ⟨Nat.le_of_ble_eq_true rfl, Nat.le_of_ble_eq_true rfl⟩) PU_blind hP hD hS hA (va_recv hK.1 hP (ci := 8) (q0 := 25) rfl rfl) [25, 31] (fun h1 h2 h3 => PU_pre hK h1 _ h2 h3) (c_X8_line l dC dI cI cZ d.t d.text d.beat d.kind d.readSnow d.readWalker d.page d.trial d.book d.kept d.isKept d.markStep d.markTread d.order d.gains d.value _ τ.thrown τ.textSize τ.place τ.depth τ.noon τ.later τ.walkers τ.readWalkers τ.acts τ.marks τ.seed τ.stumbled τ.lineMany τ.lineOrder τ.whoseMany τ.whoseFirst τ.restMany τ.restFirst τ.page (xs (i + 1)) r v_thrown f8) rfl rfl rfl rfl hl.1 rfl (Nat.le_of_ble_eq_true rfl) dL_law_297 ⟨Nat.le_of_ble_eq_true rfl, Nat.le_of_ble_eq_true rfl⟩ (fun H locs hP hS => ?_)
  replace hP : va_P (dC, dI) vwCl (w7 cI a σ ++ w8 cI cZ d (S8.mk v_thrown τ.textSize τ.place τ.depth τ.noon τ.later τ.walkers τ.readWalkers τ.acts τ.marks τ.seed τ.stumbled τ.lineMany τ.lineOrder τ.whoseMany τ.whoseFirst τ.restMany τ.restFirst τ.text τ.beat τ.kind τ.readSnow τ.readWalker τ.page τ.trial τ.book τ.kept τ.isKept τ.markStep τ.markTread τ.order τ.gains τ.value)) H := hP
  exact lv_icmp_eq (tgt := 976) hx hb dL_law_300 (by decide) (fun _ => kk _ _ _ _ hP hS hI2) (fun h => absurd rfl h)
set_option maxHeartbeats 4000000 in
set_option maxRecDepth 100000 in
theorem lwc_step (X : LC p s m c b L xs dC dI cI cZ tF) (hP : va_P (dC, dI) vwCl (w7 cI a σ ++ w8 cI cZ d τ) H) (hD : va_D (fun q : Nat => s.heap.size ≤ q) (w7 cI a σ ++ w8 cI cZ d τ)) (hS : va_S (fun q : Nat => s.heap.size ≤ q) s.heap H locs) (hl : lv_has ls 4 [(0, .ref b), (1, .ref a.t), (2, .ref d.t), (3, .int (nI i))]) (hi : i + 4 ≤ L) (hI : INV T σ τ) (h18 : T < 2 ^ 17)
    (kk : ∀ (σ2 : S7) (τ2 : S8) (H2 : Heap) (locs2 : List Loc), va_P (dC, dI) vwCl (w7 cI a σ2 ++ w8 cI cZ d τ2) H2 → va_S (fun q : Nat => s.heap.size ≤ q) s.heap H2 locs2 → INV (T + 1) σ2 τ2 → W p l e room_1 s m #[Value.ref b] below meth c H2 locs2 41 899 Q (F0 m 976 ls [])) : W p l e room_1 s m #[Value.ref b] below meth c H locs 41 899 Q (F0 m 305 ls []) := by
  have hx := X.hx
  have CF := X.CF
  have hb := CF.2.1
  have hown := CF.2.2.2.1
  have hts := CF.2.2.2.2
  have hK := X.hK
  have hF := X.hF
  have hA : ∀ q : Nat, s.heap.size ≤ q → (fun q : Nat => s.heap.size ≤ q) q := fun _ h => h
  obtain ⟨r, u_firstAct, u_actCount, u_now_down, u_now_steps, u_acts_cells, v_thrown, v_acts, v_stumbled, v_book, v_page, f7, f8, hI2⟩ := lwop_step hI h18 
  refine lv_aload_n hx hb dL_law_305 rfl (lv_at hl 1 rfl) ?_
  refine kVi (As := []) CF (cwV 0 hts gL_law_X7_step rfl rfl rfl (by decide +kernel) ⟨Nat.le_of_ble_eq_true rfl, Nat.le_of_ble_eq_true rfl⟩) PU_blind hP hD hS hA (va_recv hK.1 hP (ci := 7) (q0 := 0) rfl rfl) [0, 10, 6, 7, 11, 8, 9, 3, 5, 4] (fun h1 h2 h3 => PU_pre hK h1 _ h2 h3) (c_X7_step l dC dI cI cZ a.t a.text a.told a.now a.acts a.slots a.marks a.foresight a.chances a.acts_cells a.now_line a.now_strides a.now_strains a.told_beats a.told_kinds _ σ.firstAct σ.actCount σ.slotsKept σ.weather σ.now_down σ.now_steps σ.now_line σ.acts_cells σ.now_strides σ.now_strains σ.told_count σ.told_depth σ.told_noon σ.told_depthBehind σ.told_kinds σ.told_beats r u_firstAct u_actCount u_now_down u_now_steps u_acts_cells f7) rfl rfl rfl rfl hl.1 rfl (Nat.le_of_ble_eq_true rfl) dL_law_306 ⟨Nat.le_of_ble_eq_true rfl, Nat.le_of_ble_eq_true rfl⟩ (fun H locs hP hS => ?_)
  replace hP : va_P (dC, dI) vwCl (w7 cI a (S7.mk u_firstAct u_actCount σ.slotsKept σ.weather σ.text_length σ.text_letters σ.told_count σ.told_depth σ.told_noon σ.told_depthBehind σ.told_beats σ.told_kinds u_now_down u_now_steps σ.now_line σ.now_strides σ.now_strains u_acts_cells σ.slots_cells σ.marks_count σ.marks_times σ.marks_treads σ.trial_down σ.trial_steps σ.trial_line σ.trial_strides σ.trial_strains σ.hasOne σ.hasOther) ++ w8 cI cZ d τ) H := hP
  replace hD : va_D (fun q : Nat => s.heap.size ≤ q) (w7 cI a (S7.mk u_firstAct u_actCount σ.slotsKept σ.weather σ.text_length σ.text_letters σ.told_count σ.told_depth σ.told_noon σ.told_depthBehind σ.told_beats σ.told_kinds u_now_down u_now_steps σ.now_line σ.now_strides σ.now_strains u_acts_cells σ.slots_cells σ.marks_count σ.marks_times σ.marks_treads σ.trial_down σ.trial_steps σ.trial_line σ.trial_strides σ.trial_strains σ.hasOne σ.hasOther) ++ w8 cI cZ d τ) := wd hD rfl
  refine lv_aload_n hx hb dL_law_309 rfl (lv_at hl 2 rfl) ?_
  refine kVi (As := []) CF (cwV 0 hts gL_law_X8_step rfl rfl rfl (by decide +kernel) ⟨Nat.le_of_ble_eq_true rfl, Nat.le_of_ble_eq_true rfl⟩) PU_blind hP hD hS hA (va_recv hK.1 hP (ci := 8) (q0 := 25) rfl rfl) [25, 33, 31, 28, 27] (fun h1 h2 h3 => PU_pre hK h1 _ h2 h3) (c_X8_step l dC dI cI cZ d.t d.text d.beat d.kind d.readSnow d.readWalker d.page d.trial d.book d.kept d.isKept d.markStep d.markTread d.order d.gains d.value _ τ.thrown τ.textSize τ.place τ.depth τ.noon τ.later τ.walkers τ.readWalkers τ.acts τ.marks τ.seed τ.stumbled τ.lineMany τ.lineOrder τ.whoseMany τ.whoseFirst τ.restMany τ.restFirst τ.book τ.page τ.kind τ.beat r v_thrown v_acts v_stumbled v_book v_page f8) rfl rfl rfl rfl hl.1 rfl (Nat.le_of_ble_eq_true rfl) dL_law_310 ⟨Nat.le_of_ble_eq_true rfl, Nat.le_of_ble_eq_true rfl⟩ (fun H locs hP hS => ?_)
  replace hP : va_P (dC, dI) vwCl (w7 cI a (S7.mk u_firstAct u_actCount σ.slotsKept σ.weather σ.text_length σ.text_letters σ.told_count σ.told_depth σ.told_noon σ.told_depthBehind σ.told_beats σ.told_kinds u_now_down u_now_steps σ.now_line σ.now_strides σ.now_strains u_acts_cells σ.slots_cells σ.marks_count σ.marks_times σ.marks_treads σ.trial_down σ.trial_steps σ.trial_line σ.trial_strides σ.trial_strains σ.hasOne σ.hasOther) ++ w8 cI cZ d (S8.mk v_thrown τ.textSize τ.place τ.depth τ.noon τ.later τ.walkers τ.readWalkers v_acts τ.marks τ.seed v_stumbled τ.lineMany τ.lineOrder τ.whoseMany τ.whoseFirst τ.restMany τ.restFirst τ.text τ.beat τ.kind τ.readSnow τ.readWalker v_page τ.trial v_book τ.kept τ.isKept τ.markStep τ.markTread τ.order τ.gains τ.value)) H := hP
  exact lv_icmp_eq (tgt := 976) hx hb dL_law_313 (by decide) (fun _ => kk _ _ _ _ hP hS hI2) (fun h => absurd rfl h)
set_option maxHeartbeats 4000000 in
set_option maxRecDepth 100000 in
theorem lwc_change (X : LC p s m c b L xs dC dI cI cZ tF) (hP : va_P (dC, dI) vwCl (w7 cI a σ ++ w8 cI cZ d τ) H) (hD : va_D (fun q : Nat => s.heap.size ≤ q) (w7 cI a σ ++ w8 cI cZ d τ)) (hS : va_S (fun q : Nat => s.heap.size ≤ q) s.heap H locs) (hl : lv_has ls 4 [(0, .ref b), (1, .ref a.t), (2, .ref d.t), (3, .int (nI i))]) (hi : i + 4 ≤ L) (hI : INV T σ τ) (h18 : T < 2 ^ 17)
    (kk : ∀ (σ2 : S7) (τ2 : S8) (H2 : Heap) (locs2 : List Loc), va_P (dC, dI) vwCl (w7 cI a σ2 ++ w8 cI cZ d τ2) H2 → va_S (fun q : Nat => s.heap.size ≤ q) s.heap H2 locs2 → INV (T + 1) σ2 τ2 → W p l e room_1 s m #[Value.ref b] below meth c H2 locs2 41 899 Q (F0 m 976 ls [])) : W p l e room_1 s m #[Value.ref b] below meth c H locs 41 899 Q (F0 m 318 ls []) := by
  have hx := X.hx
  have CF := X.CF
  have hb := CF.2.1
  have hown := CF.2.2.2.1
  have hts := CF.2.2.2.2
  have hK := X.hK
  have hF := X.hF
  have hA : ∀ q : Nat, s.heap.size ≤ q → (fun q : Nat => s.heap.size ≤ q) q := fun _ h => h
  obtain ⟨r, u_firstAct, u_actCount, u_now_line, u_acts_cells, v_thrown, v_acts, v_book, v_page, f7, f8, hI2⟩ := lwop_change hI h18 (xs (i + 1))
  refine lv_aload_n hx hb dL_law_318 rfl (lv_at hl 1 rfl) ?_
  refine kScr X hS hl (j := 1) (by omega) (by decide) dL_law_319 dL_law_320 dL_law_321 dL_law_322 dL_law_323 ?_
  refine kVi (As := [.int (xs (i + 1))]) CF (cwV 1 hts gL_law_X7_change rfl rfl rfl (by decide +kernel) ⟨Nat.le_of_ble_eq_true rfl, Nat.le_of_ble_eq_true rfl⟩) PU_blind hP hD hS hA (va_recv hK.1 hP (ci := 7) (q0 := 0) rfl rfl) [0, 6, 3, 10, 7, 11, 8, 9] (fun h1 h2 h3 => PU_pre hK h1 _ h2 h3) (c_X7_change l dC dI cI cZ a.t a.text a.told a.now a.acts a.slots a.marks a.foresight a.chances a.now_line a.now_strides a.now_strains a.told_beats a.told_kinds a.acts_cells _ σ.firstAct σ.actCount σ.slotsKept σ.weather σ.now_down σ.now_steps σ.told_count σ.told_depth σ.told_noon σ.told_depthBehind σ.now_line σ.acts_cells σ.now_strides σ.now_strains (xs (i + 1)) r u_firstAct u_actCount u_now_line u_acts_cells f7) rfl rfl rfl rfl hl.1 rfl (Nat.le_of_ble_eq_true rfl) dL_law_324 ⟨Nat.le_of_ble_eq_true rfl, Nat.le_of_ble_eq_true rfl⟩ (fun H locs hP hS => ?_)
  replace hP : va_P (dC, dI) vwCl (w7 cI a (S7.mk u_firstAct u_actCount σ.slotsKept σ.weather σ.text_length σ.text_letters σ.told_count σ.told_depth σ.told_noon σ.told_depthBehind σ.told_beats σ.told_kinds σ.now_down σ.now_steps u_now_line σ.now_strides σ.now_strains u_acts_cells σ.slots_cells σ.marks_count σ.marks_times σ.marks_treads σ.trial_down σ.trial_steps σ.trial_line σ.trial_strides σ.trial_strains σ.hasOne σ.hasOther) ++ w8 cI cZ d τ) H := hP
  replace hD : va_D (fun q : Nat => s.heap.size ≤ q) (w7 cI a (S7.mk u_firstAct u_actCount σ.slotsKept σ.weather σ.text_length σ.text_letters σ.told_count σ.told_depth σ.told_noon σ.told_depthBehind σ.told_beats σ.told_kinds σ.now_down σ.now_steps u_now_line σ.now_strides σ.now_strains u_acts_cells σ.slots_cells σ.marks_count σ.marks_times σ.marks_treads σ.trial_down σ.trial_steps σ.trial_line σ.trial_strides σ.trial_strains σ.hasOne σ.hasOther) ++ w8 cI cZ d τ) := wd hD rfl
  refine lv_aload_n hx hb dL_law_327 rfl (lv_at hl 2 rfl) ?_
  refine kScr X hS hl (j := 1) (by omega) (by decide) dL_law_328 dL_law_329 dL_law_330 dL_law_331 dL_law_332 ?_
  refine kVi (As := [.int (xs (i + 1))]) CF (cwV 1 hts gL_law_X8_change rfl rfl rfl (by decide +kernel) ⟨Nat.le_of_ble_eq_true rfl, Nat.le_of_ble_eq_true rfl⟩) PU_blind hP hD hS hA (va_recv hK.1 hP (ci := 8) (q0 := 25) rfl rfl) [25, 33, 31] (fun h1 h2 h3 => PU_pre hK h1 _ h2 h3) (c_X8_change l dC dI cI cZ d.t d.text d.beat d.kind d.readSnow d.readWalker d.page d.trial d.book d.kept d.isKept d.markStep d.markTread d.order d.gains d.value _ τ.thrown τ.textSize τ.place τ.depth τ.noon τ.later τ.walkers τ.readWalkers τ.acts τ.marks τ.seed τ.stumbled τ.lineMany τ.lineOrder τ.whoseMany τ.whoseFirst τ.restMany τ.restFirst τ.book τ.page (xs (i + 1)) r v_thrown v_acts v_book v_page f8) rfl rfl rfl rfl hl.1 rfl (Nat.le_of_ble_eq_true rfl) dL_law_333 ⟨Nat.le_of_ble_eq_true rfl, Nat.le_of_ble_eq_true rfl⟩ (fun H locs hP hS => ?_)
  replace hP : va_P (dC, dI) vwCl (w7 cI a (S7.mk u_firstAct u_actCount σ.slotsKept σ.weather σ.text_length σ.text_letters σ.told_count σ.told_depth σ.told_noon σ.told_depthBehind σ.told_beats σ.told_kinds σ.now_down σ.now_steps u_now_line σ.now_strides σ.now_strains u_acts_cells σ.slots_cells σ.marks_count σ.marks_times σ.marks_treads σ.trial_down σ.trial_steps σ.trial_line σ.trial_strides σ.trial_strains σ.hasOne σ.hasOther) ++ w8 cI cZ d (S8.mk v_thrown τ.textSize τ.place τ.depth τ.noon τ.later τ.walkers τ.readWalkers v_acts τ.marks τ.seed τ.stumbled τ.lineMany τ.lineOrder τ.whoseMany τ.whoseFirst τ.restMany τ.restFirst τ.text τ.beat τ.kind τ.readSnow τ.readWalker v_page τ.trial v_book τ.kept τ.isKept τ.markStep τ.markTread τ.order τ.gains τ.value)) H := hP
  exact lv_icmp_eq (tgt := 976) hx hb dL_law_336 (by decide) (fun _ => kk _ _ _ _ hP hS hI2) (fun h => absurd rfl h)
set_option maxHeartbeats 4000000 in
set_option maxRecDepth 100000 in
theorem lwc_drill (X : LC p s m c b L xs dC dI cI cZ tF) (hP : va_P (dC, dI) vwCl (w7 cI a σ ++ w8 cI cZ d τ) H) (hD : va_D (fun q : Nat => s.heap.size ≤ q) (w7 cI a σ ++ w8 cI cZ d τ)) (hS : va_S (fun q : Nat => s.heap.size ≤ q) s.heap H locs) (hl : lv_has ls 4 [(0, .ref b), (1, .ref a.t), (2, .ref d.t), (3, .int (nI i))]) (hi : i + 4 ≤ L) (hI : INV T σ τ) (h18 : T < 2 ^ 17)
    (kk : ∀ (σ2 : S7) (τ2 : S8) (H2 : Heap) (locs2 : List Loc), va_P (dC, dI) vwCl (w7 cI a σ2 ++ w8 cI cZ d τ2) H2 → va_S (fun q : Nat => s.heap.size ≤ q) s.heap H2 locs2 → INV (T + 1) σ2 τ2 → W p l e room_1 s m #[Value.ref b] below meth c H2 locs2 41 899 Q (F0 m 976 ls [])) : W p l e room_1 s m #[Value.ref b] below meth c H locs 41 899 Q (F0 m 341 ls []) := by
  have hx := X.hx
  have CF := X.CF
  have hb := CF.2.1
  have hown := CF.2.2.2.1
  have hts := CF.2.2.2.2
  have hK := X.hK
  have hF := X.hF
  have hA : ∀ q : Nat, s.heap.size ≤ q → (fun q : Nat => s.heap.size ≤ q) q := fun _ h => h
  obtain ⟨r, u_firstAct, u_actCount, u_now_strains, u_now_strides, u_acts_cells, v_thrown, v_acts, v_page, v_book, f7, f8, hI2⟩ := lwop_drill hI h18 (xs (i + 1)) (if (xs (i + 2)) = 0 then (0 : Int32) else 1)
  refine lv_aload_n hx hb dL_law_341 rfl (lv_at hl 1 rfl) ?_
  refine kScr X hS hl (j := 1) (by omega) (by decide) dL_law_342 dL_law_343 dL_law_344 dL_law_345 dL_law_346 ?_
  refine kScr X hS hl (j := 2) (by omega) (by decide) dL_law_347 dL_law_348 dL_law_349 dL_law_350 dL_law_351 ?_
  refine kNz hx hb dL_law_352 dL_law_355 dL_law_356 dL_law_359 ?_
  refine kVi (As := [.int (xs (i + 1)), .int (if (xs (i + 2)) = 0 then (0 : Int32) else 1)]) CF (cwV 2 hts gL_law_X7_drill rfl rfl rfl (by decide +kernel) ⟨Nat.le_of_ble_eq_true rfl, Nat.le_of_ble_eq_true rfl⟩) PU_blind hP hD hS hA (va_recv hK.1 hP (ci := 7) (q0 := 0) rfl rfl) [0, 3, 6, 9, 8, 10, 7, 11] (fun h1 h2 h3 => PU_pre hK h1 _ h2 h3) (c_X7_drill l dC dI cI cZ a.t a.text a.told a.now a.acts a.slots a.marks a.foresight a.chances a.told_beats a.told_kinds a.now_line a.now_strides a.now_strains a.acts_cells _ σ.firstAct σ.actCount σ.slotsKept σ.weather σ.told_count σ.told_depth σ.told_noon σ.told_depthBehind σ.now_down σ.now_steps σ.now_strains σ.now_strides σ.now_line σ.acts_cells (xs (i + 1)) (if (xs (i + 2)) = 0 then (0 : Int32) else 1) r u_firstAct u_actCount u_now_strains u_now_strides u_acts_cells f7) rfl rfl rfl rfl hl.1 rfl (Nat.le_of_ble_eq_true rfl) dL_law_360 ⟨Nat.le_of_ble_eq_true rfl, Nat.le_of_ble_eq_true rfl⟩ (fun H locs hP hS => ?_)
  replace hP : va_P (dC, dI) vwCl (w7 cI a (S7.mk u_firstAct u_actCount σ.slotsKept σ.weather σ.text_length σ.text_letters σ.told_count σ.told_depth σ.told_noon σ.told_depthBehind σ.told_beats σ.told_kinds σ.now_down σ.now_steps σ.now_line u_now_strides u_now_strains u_acts_cells σ.slots_cells σ.marks_count σ.marks_times σ.marks_treads σ.trial_down σ.trial_steps σ.trial_line σ.trial_strides σ.trial_strains σ.hasOne σ.hasOther) ++ w8 cI cZ d τ) H := hP
  replace hD : va_D (fun q : Nat => s.heap.size ≤ q) (w7 cI a (S7.mk u_firstAct u_actCount σ.slotsKept σ.weather σ.text_length σ.text_letters σ.told_count σ.told_depth σ.told_noon σ.told_depthBehind σ.told_beats σ.told_kinds σ.now_down σ.now_steps σ.now_line u_now_strides u_now_strains u_acts_cells σ.slots_cells σ.marks_count σ.marks_times σ.marks_treads σ.trial_down σ.trial_steps σ.trial_line σ.trial_strides σ.trial_strains σ.hasOne σ.hasOther) ++ w8 cI cZ d τ) := wd hD rfl
  refine lv_aload_n hx hb dL_law_363 rfl (lv_at hl 2 rfl) ?_
  refine kScr X hS hl (j := 1) (by omega) (by decide) dL_law_364 dL_law_365 dL_law_366 dL_law_367 dL_law_368 ?_
  refine kScr X hS hl (j := 2) (by omega) (by decide) dL_law_369 dL_law_370 dL_law_371 dL_law_372 dL_law_373 ?_
  refine kNz hx hb dL_law_374 dL_law_377 dL_law_378 dL_law_381 ?_
  refine kVi (As := [.int (xs (i + 1)), .int (if (xs (i + 2)) = 0 then (0 : Int32) else 1)]) CF (cwV 2 hts gL_law_X8_drill rfl rfl rfl (by decide +kernel) ⟨Nat.le_of_ble_eq_true rfl, Nat.le_of_ble_eq_true rfl⟩) PU_blind hP hD hS hA (va_recv hK.1 hP (ci := 8) (q0 := 25) rfl rfl) [25, 31, 33] (fun h1 h2 h3 => PU_pre hK h1 _ h2 h3) (c_X8_drill l dC dI cI cZ d.t d.text d.beat d.kind d.readSnow d.readWalker d.page d.trial d.book d.kept d.isKept d.markStep d.markTread d.order d.gains d.value _ τ.thrown τ.textSize τ.place τ.depth τ.noon τ.later τ.walkers τ.readWalkers τ.acts τ.marks τ.seed τ.stumbled τ.lineMany τ.lineOrder τ.whoseMany τ.whoseFirst τ.restMany τ.restFirst τ.page τ.book (xs (i + 1)) (if (xs (i + 2)) = 0 then (0 : Int32) else 1) r v_thrown v_acts v_page v_book f8) rfl rfl rfl rfl hl.1 rfl (Nat.le_of_ble_eq_true rfl) dL_law_382 ⟨Nat.le_of_ble_eq_true rfl, Nat.le_of_ble_eq_true rfl⟩ (fun H locs hP hS => ?_)
  replace hP : va_P (dC, dI) vwCl (w7 cI a (S7.mk u_firstAct u_actCount σ.slotsKept σ.weather σ.text_length σ.text_letters σ.told_count σ.told_depth σ.told_noon σ.told_depthBehind σ.told_beats σ.told_kinds σ.now_down σ.now_steps σ.now_line u_now_strides u_now_strains u_acts_cells σ.slots_cells σ.marks_count σ.marks_times σ.marks_treads σ.trial_down σ.trial_steps σ.trial_line σ.trial_strides σ.trial_strains σ.hasOne σ.hasOther) ++ w8 cI cZ d (S8.mk v_thrown τ.textSize τ.place τ.depth τ.noon τ.later τ.walkers τ.readWalkers v_acts τ.marks τ.seed τ.stumbled τ.lineMany τ.lineOrder τ.whoseMany τ.whoseFirst τ.restMany τ.restFirst τ.text τ.beat τ.kind τ.readSnow τ.readWalker v_page τ.trial v_book τ.kept τ.isKept τ.markStep τ.markTread τ.order τ.gains τ.value)) H := hP
  exact lv_icmp_eq (tgt := 976) hx hb dL_law_385 (by decide) (fun _ => kk _ _ _ _ hP hS hI2) (fun h => absurd rfl h)
end LAW
