section LAW
variable {p : Program} {l : Launch} {e : Env} {s : State} {m : MethodId} {below : List Frame} {meth : Method} {c : Code} {Q : State → Prop} {dC : Nat → ClassId} {dI : Nat → Nat → Nat} {cI cZ : ClassId} {tF : Nat} {a : A7} {d : A8} {b L i T : Nat} {xs : Nat → Int32} {σ : S7} {τ : S8} {H : Heap} {locs : List Loc} {ls : Array Slot} {q7 q8 : Nat}
set_option maxHeartbeats 4000000 in
set_option maxRecDepth 100000 in
theorem lwc_drills (X : LC p s m c b L xs dC dI cI cZ tF) (hP : va_P (dC, dI) vwCl (w7 cI a σ ++ w8 cI cZ d τ) H) (hD : va_D (fun q : Nat => s.heap.size ≤ q) (w7 cI a σ ++ w8 cI cZ d τ)) (hS : va_S (fun q : Nat => s.heap.size ≤ q) s.heap H locs) (hl : lv_has ls 4 [(0, .ref b), (1, .ref a.t), (2, .ref d.t), (3, .int (nI i))]) (hi : i + 4 ≤ L) (hI : INV T σ τ) (h18 : T < 2 ^ 17)
    (kk : ∀ (σ2 : S7) (τ2 : S8) (H2 : Heap) (locs2 : List Loc), va_P (dC, dI) vwCl (w7 cI a σ2 ++ w8 cI cZ d τ2) H2 → va_S (fun q : Nat => s.heap.size ≤ q) s.heap H2 locs2 → INV (T + 1) σ2 τ2 → W p l e room_1 s m #[Value.ref b] below meth c H2 locs2 41 899 Q (F0 m 976 ls [])) : W p l e room_1 s m #[Value.ref b] below meth c H locs 41 899 Q (F0 m 511 ls []) := by
  have hx := X.hx
  have CF := X.CF
  have hb := CF.2.1
  have hown := CF.2.2.2.1
  have hts := CF.2.2.2.2
  have hK := X.hK
  have hF := X.hF
  have hA : ∀ q : Nat, s.heap.size ≤ q → (fun q : Nat => s.heap.size ≤ q) q := fun _ h => h
  obtain ⟨r, v_thrown, v_stumbled, v_trial, f7, f8, hI2⟩ := lwop_drills hI h18 
  refine lv_aload_n hx hb dL_law_511 rfl (lv_at hl 1 rfl) ?_
  refine kVi (As := []) CF (cwV 0 hts gL_law_X7_drills rfl rfl rfl (by decide +kernel) ⟨Nat.le_of_ble_eq_true rfl, Nat.le_of_ble_eq_true rfl⟩) PU_blind hP hD hS hA (va_recv hK.1 hP (ci := 7) (q0 := 0) rfl rfl) [0, 21, 6, 3, 7, 8, 5, 4] (fun h1 h2 h3 => PU_pre hK h1 _ h2 h3) (c_X7_drills l dC dI cI cZ a.t a.text a.told a.now a.acts a.slots a.marks a.foresight a.chances a.trial a.now_line a.now_strides a.now_strains a.told_beats a.told_kinds _ σ.firstAct σ.actCount σ.slotsKept σ.weather σ.now_down σ.now_steps σ.told_count σ.told_depth σ.told_noon σ.told_depthBehind σ.now_line σ.now_strides σ.told_kinds σ.told_beats r f7) rfl rfl rfl rfl hl.1 rfl (Nat.le_of_ble_eq_true rfl) dL_law_512 ⟨Nat.le_of_ble_eq_true rfl, Nat.le_of_ble_eq_true rfl⟩ (fun H locs hP hS => ?_)
  replace hP : va_P (dC, dI) vwCl (w7 cI a σ ++ w8 cI cZ d τ) H := hP
  replace hD : va_D (fun q : Nat => s.heap.size ≤ q) (w7 cI a σ ++ w8 cI cZ d τ) := wd hD rfl
  refine lv_aload_n hx hb dL_law_515 rfl (lv_at hl 2 rfl) ?_
  refine kVi (As := []) CF (cwV 0 hts gL_law_X8_drills rfl rfl rfl (by decide +kernel) ⟨Nat.le_of_ble_eq_true rfl, Nat.le_of_ble_eq_true rfl⟩) PU_blind hP hD hS hA (va_recv hK.1 hP (ci := 8) (q0 := 25) rfl rfl) [25, 31, 32, 28, 27] (fun h1 h2 h3 => PU_pre hK h1 _ h2 h3) (c_X8_drills l dC dI cI cZ d.t d.text d.beat d.kind d.readSnow d.readWalker d.page d.trial d.book d.kept d.isKept d.markStep d.markTread d.order d.gains d.value _ τ.thrown τ.textSize τ.place τ.depth τ.noon τ.later τ.walkers τ.readWalkers τ.acts τ.marks τ.seed τ.stumbled τ.lineMany τ.lineOrder τ.whoseMany τ.whoseFirst τ.restMany τ.restFirst τ.page τ.trial τ.kind τ.beat r v_thrown v_stumbled v_trial f8) rfl rfl rfl rfl hl.1 rfl (Nat.le_of_ble_eq_true rfl) dL_law_516 ⟨Nat.le_of_ble_eq_true rfl, Nat.le_of_ble_eq_true rfl⟩ (fun H locs hP hS => ?_)
  replace hP : va_P (dC, dI) vwCl (w7 cI a σ ++ w8 cI cZ d (S8.mk v_thrown τ.textSize τ.place τ.depth τ.noon τ.later τ.walkers τ.readWalkers τ.acts τ.marks τ.seed v_stumbled τ.lineMany τ.lineOrder τ.whoseMany τ.whoseFirst τ.restMany τ.restFirst τ.text τ.beat τ.kind τ.readSnow τ.readWalker τ.page v_trial τ.book τ.kept τ.isKept τ.markStep τ.markTread τ.order τ.gains τ.value)) H := hP
  exact lv_icmp_eq (tgt := 976) hx hb dL_law_519 (by decide) (fun _ => kk _ _ _ _ hP hS hI2) (fun h => absurd rfl h)
set_option maxHeartbeats 4000000 in
set_option maxRecDepth 100000 in
theorem lwc_fallsIn (X : LC p s m c b L xs dC dI cI cZ tF) (hP : va_P (dC, dI) vwCl (w7 cI a σ ++ w8 cI cZ d τ) H) (hD : va_D (fun q : Nat => s.heap.size ≤ q) (w7 cI a σ ++ w8 cI cZ d τ)) (hS : va_S (fun q : Nat => s.heap.size ≤ q) s.heap H locs) (hl : lv_has ls 4 [(0, .ref b), (1, .ref a.t), (2, .ref d.t), (3, .int (nI i))]) (hi : i + 4 ≤ L) (hI : INV T σ τ) (h18 : T < 2 ^ 17)
    (kk : ∀ (σ2 : S7) (τ2 : S8) (H2 : Heap) (locs2 : List Loc), va_P (dC, dI) vwCl (w7 cI a σ2 ++ w8 cI cZ d τ2) H2 → va_S (fun q : Nat => s.heap.size ≤ q) s.heap H2 locs2 → INV (T + 1) σ2 τ2 → W p l e room_1 s m #[Value.ref b] below meth c H2 locs2 41 899 Q (F0 m 976 ls [])) : W p l e room_1 s m #[Value.ref b] below meth c H locs 41 899 Q (F0 m 524 ls []) := by
  have hx := X.hx
  have CF := X.CF
  have hb := CF.2.1
  have hown := CF.2.2.2.1
  have hts := CF.2.2.2.2
  have hK := X.hK
  have hF := X.hF
  have hA : ∀ q : Nat, s.heap.size ≤ q → (fun q : Nat => s.heap.size ≤ q) q := fun _ h => h
  obtain ⟨r, v_thrown, f7, f8, hI2⟩ := lwop_fallsIn hI h18 (xs (i + 1)) (xs (i + 2))
  refine lv_aload_n hx hb dL_law_524 rfl (lv_at hl 1 rfl) ?_
  refine kScr X hS hl (j := 1) (by omega) (by decide) dL_law_525 dL_law_526 dL_law_527 dL_law_528 dL_law_529 ?_
  refine kScr X hS hl (j := 2) (by omega) (by decide) dL_law_530 dL_law_531 dL_law_532 dL_law_533 dL_law_534 ?_
  refine kVi (As := [.int (xs (i + 1)), .int (xs (i + 2))]) CF (cwV 2 hts gL_law_X7_fallsIn rfl rfl rfl (by decide +kernel) ⟨Nat.le_of_ble_eq_true rfl, Nat.le_of_ble_eq_true rfl⟩) PU_blind hP hD hS hA (va_recv hK.1 hP (ci := 7) (q0 := 0) rfl rfl) [0, 3, 21, 6, 5, 8, 4] (fun h1 h2 h3 => PU_pre hK h1 _ h2 h3) (c_X7_fallsIn l dC dI cI cZ a.t a.text a.told a.now a.acts a.slots a.marks a.foresight a.chances a.told_beats a.told_kinds a.trial a.now_line a.now_strides a.now_strains _ σ.firstAct σ.actCount σ.slotsKept σ.weather σ.told_count σ.told_depth σ.told_noon σ.told_depthBehind σ.now_down σ.now_steps σ.told_kinds σ.now_strides σ.told_beats (xs (i + 1)) (xs (i + 2)) r f7) rfl rfl rfl rfl hl.1 rfl (Nat.le_of_ble_eq_true rfl) dL_law_535 ⟨Nat.le_of_ble_eq_true rfl, Nat.le_of_ble_eq_true rfl⟩ (fun H locs hP hS => ?_)
  replace hP : va_P (dC, dI) vwCl (w7 cI a σ ++ w8 cI cZ d τ) H := hP
  replace hD : va_D (fun q : Nat => s.heap.size ≤ q) (w7 cI a σ ++ w8 cI cZ d τ) := wd hD rfl
  refine lv_aload_n hx hb dL_law_538 rfl (lv_at hl 2 rfl) ?_
  refine kScr X hS hl (j := 1) (by omega) (by decide) dL_law_539 dL_law_540 dL_law_541 dL_law_542 dL_law_543 ?_
  refine kScr X hS hl (j := 2) (by omega) (by decide) dL_law_544 dL_law_545 dL_law_546 dL_law_547 dL_law_548 ?_
  refine kVi (As := [.int (xs (i + 1)), .int (xs (i + 2))]) CF (cwV 2 hts gL_law_X8_fallsIn rfl rfl rfl (by decide +kernel) ⟨Nat.le_of_ble_eq_true rfl, Nat.le_of_ble_eq_true rfl⟩) PU_blind hP hD hS hA (va_recv hK.1 hP (ci := 8) (q0 := 25) rfl rfl) [25, 31, 28, 27] (fun h1 h2 h3 => PU_pre hK h1 _ h2 h3) (c_X8_fallsIn l dC dI cI cZ d.t d.text d.beat d.kind d.readSnow d.readWalker d.page d.trial d.book d.kept d.isKept d.markStep d.markTread d.order d.gains d.value _ τ.thrown τ.textSize τ.place τ.depth τ.noon τ.later τ.walkers τ.readWalkers τ.acts τ.marks τ.seed τ.stumbled τ.lineMany τ.lineOrder τ.whoseMany τ.whoseFirst τ.restMany τ.restFirst τ.page τ.kind τ.beat (xs (i + 1)) (xs (i + 2)) r v_thrown f8) rfl rfl rfl rfl hl.1 rfl (Nat.le_of_ble_eq_true rfl) dL_law_549 ⟨Nat.le_of_ble_eq_true rfl, Nat.le_of_ble_eq_true rfl⟩ (fun H locs hP hS => ?_)
  replace hP : va_P (dC, dI) vwCl (w7 cI a σ ++ w8 cI cZ d (S8.mk v_thrown τ.textSize τ.place τ.depth τ.noon τ.later τ.walkers τ.readWalkers τ.acts τ.marks τ.seed τ.stumbled τ.lineMany τ.lineOrder τ.whoseMany τ.whoseFirst τ.restMany τ.restFirst τ.text τ.beat τ.kind τ.readSnow τ.readWalker τ.page τ.trial τ.book τ.kept τ.isKept τ.markStep τ.markTread τ.order τ.gains τ.value)) H := hP
  exact lv_icmp_eq (tgt := 976) hx hb dL_law_552 (by decide) (fun _ => kk _ _ _ _ hP hS hI2) (fun h => absurd rfl h)
set_option maxHeartbeats 4000000 in
set_option maxRecDepth 100000 in
theorem lwc_likes (X : LC p s m c b L xs dC dI cI cZ tF) (hP : va_P (dC, dI) vwCl (w7 cI a σ ++ w8 cI cZ d τ) H) (hD : va_D (fun q : Nat => s.heap.size ≤ q) (w7 cI a σ ++ w8 cI cZ d τ)) (hS : va_S (fun q : Nat => s.heap.size ≤ q) s.heap H locs) (hl : lv_has ls 4 [(0, .ref b), (1, .ref a.t), (2, .ref d.t), (3, .int (nI i))]) (hi : i + 4 ≤ L) (hI : INV T σ τ) (h18 : T < 2 ^ 17)
    (kk : ∀ (σ2 : S7) (τ2 : S8) (H2 : Heap) (locs2 : List Loc), va_P (dC, dI) vwCl (w7 cI a σ2 ++ w8 cI cZ d τ2) H2 → va_S (fun q : Nat => s.heap.size ≤ q) s.heap H2 locs2 → INV (T + 1) σ2 τ2 → W p l e room_1 s m #[Value.ref b] below meth c H2 locs2 41 899 Q (F0 m 976 ls [])) : W p l e room_1 s m #[Value.ref b] below meth c H locs 41 899 Q (F0 m 557 ls []) := by
  have hx := X.hx
  have CF := X.CF
  have hb := CF.2.1
  have hown := CF.2.2.2.1
  have hts := CF.2.2.2.2
  have hK := X.hK
  have hF := X.hF
  have hA : ∀ q : Nat, s.heap.size ≤ q → (fun q : Nat => s.heap.size ≤ q) q := fun _ h => h
  obtain ⟨r, v_thrown, f7, f8, hI2⟩ := lwop_likes hI h18 
  refine lv_aload_n hx hb dL_law_557 rfl (lv_at hl 1 rfl) ?_
  refine kVi (As := []) CF (cwV 0 hts gL_law_X7_likes rfl rfl rfl (by decide +kernel) ⟨Nat.le_of_ble_eq_true rfl, Nat.le_of_ble_eq_true rfl⟩) PU_blind hP hD hS hA (va_recv hK.1 hP (ci := 7) (q0 := 0) rfl rfl) [0, 21, 6, 3] (fun h1 h2 h3 => PU_pre hK h1 _ h2 h3) (c_X7_likes l dC dI cI cZ a.t a.text a.told a.now a.acts a.slots a.marks a.foresight a.chances a.trial a.now_line a.now_strides a.now_strains a.told_beats a.told_kinds _ σ.firstAct σ.actCount σ.slotsKept σ.weather σ.now_down σ.now_steps σ.told_count σ.told_depth σ.told_noon σ.told_depthBehind r f7) rfl rfl rfl rfl hl.1 rfl (Nat.le_of_ble_eq_true rfl) dL_law_558 ⟨Nat.le_of_ble_eq_true rfl, Nat.le_of_ble_eq_true rfl⟩ (fun H locs hP hS => ?_)
  replace hP : va_P (dC, dI) vwCl (w7 cI a σ ++ w8 cI cZ d τ) H := hP
  replace hD : va_D (fun q : Nat => s.heap.size ≤ q) (w7 cI a σ ++ w8 cI cZ d τ) := wd hD rfl
  refine lv_aload_n hx hb dL_law_561 rfl (lv_at hl 2 rfl) ?_
  refine kVi (As := []) CF (cwV 0 hts gL_law_X8_likes rfl rfl rfl (by decide +kernel) ⟨Nat.le_of_ble_eq_true rfl, Nat.le_of_ble_eq_true rfl⟩) PU_blind hP hD hS hA (va_recv hK.1 hP (ci := 8) (q0 := 25) rfl rfl) [25, 31] (fun h1 h2 h3 => PU_pre hK h1 _ h2 h3) (c_X8_likes l dC dI cI cZ d.t d.text d.beat d.kind d.readSnow d.readWalker d.page d.trial d.book d.kept d.isKept d.markStep d.markTread d.order d.gains d.value _ τ.thrown τ.textSize τ.place τ.depth τ.noon τ.later τ.walkers τ.readWalkers τ.acts τ.marks τ.seed τ.stumbled τ.lineMany τ.lineOrder τ.whoseMany τ.whoseFirst τ.restMany τ.restFirst τ.page r v_thrown f8) rfl rfl rfl rfl hl.1 rfl (Nat.le_of_ble_eq_true rfl) dL_law_562 ⟨Nat.le_of_ble_eq_true rfl, Nat.le_of_ble_eq_true rfl⟩ (fun H locs hP hS => ?_)
  replace hP : va_P (dC, dI) vwCl (w7 cI a σ ++ w8 cI cZ d (S8.mk v_thrown τ.textSize τ.place τ.depth τ.noon τ.later τ.walkers τ.readWalkers τ.acts τ.marks τ.seed τ.stumbled τ.lineMany τ.lineOrder τ.whoseMany τ.whoseFirst τ.restMany τ.restFirst τ.text τ.beat τ.kind τ.readSnow τ.readWalker τ.page τ.trial τ.book τ.kept τ.isKept τ.markStep τ.markTread τ.order τ.gains τ.value)) H := hP
  exact lv_icmp_eq (tgt := 976) hx hb dL_law_565 (by decide) (fun _ => kk _ _ _ _ hP hS hI2) (fun h => absurd rfl h)
set_option maxHeartbeats 4000000 in
set_option maxRecDepth 100000 in
theorem lwc_judge (X : LC p s m c b L xs dC dI cI cZ tF) (hP : va_P (dC, dI) vwCl (w7 cI a σ ++ w8 cI cZ d τ) H) (hD : va_D (fun q : Nat => s.heap.size ≤ q) (w7 cI a σ ++ w8 cI cZ d τ)) (hS : va_S (fun q : Nat => s.heap.size ≤ q) s.heap H locs) (hl : lv_has ls 4 [(0, .ref b), (1, .ref a.t), (2, .ref d.t), (3, .int (nI i))]) (hi : i + 4 ≤ L) (hI : INV T σ τ) (h18 : T < 2 ^ 17)
    (kk : ∀ (σ2 : S7) (τ2 : S8) (H2 : Heap) (locs2 : List Loc), va_P (dC, dI) vwCl (w7 cI a σ2 ++ w8 cI cZ d τ2) H2 → va_S (fun q : Nat => s.heap.size ≤ q) s.heap H2 locs2 → INV (T + 1) σ2 τ2 → W p l e room_1 s m #[Value.ref b] below meth c H2 locs2 41 899 Q (F0 m 976 ls [])) : W p l e room_1 s m #[Value.ref b] below meth c H locs 41 899 Q (F0 m 570 ls []) := by
  have hx := X.hx
  have CF := X.CF
  have hb := CF.2.1
  have hown := CF.2.2.2.1
  have hts := CF.2.2.2.2
  have hK := X.hK
  have hF := X.hF
  have hA : ∀ q : Nat, s.heap.size ≤ q → (fun q : Nat => s.heap.size ≤ q) q := fun _ h => h
  have w_long := hts (.constantLong RL 90 4294967295) wL_long
  obtain ⟨r, u_foresight_trial_down, u_foresight_trial_steps, u_foresight_trial_line, u_foresight_trial_strides, u_foresight_trial_strains, v_thrown, v_stumbled, v_trial, f7, f8, hI2⟩ := lwop_judge hI h18 (xs (i + 1)) (lgv (xs (i + 2)) (xs (i + 3)))
  refine lv_aload_n hx hb dL_law_570 rfl (lv_at hl 1 rfl) ?_
  refine kScr X hS hl (j := 1) (by omega) (by decide) dL_law_571 dL_law_572 dL_law_573 dL_law_574 dL_law_575 ?_
  refine kScr X hS hl (j := 2) (by omega) (by decide) dL_law_576 dL_law_577 dL_law_578 dL_law_579 dL_law_580 ?_
  refine lv_i2l hx hb dL_law_581 rfl ?_
  refine lv_bipush (v := 32) hx hb dL_law_582 (by decide) ?_
  refine lv_lshl hx hb dL_law_584 rfl ?_
  refine kScr X hS hl (j := 3) (by omega) (by decide) dL_law_585 dL_law_586 dL_law_587 dL_law_588 dL_law_589 ?_
  refine lv_i2l hx hb dL_law_590 rfl ?_
  refine lv_ldc2 (v := 4294967295) hx hb hown w_long dL_law_591 ?_
  refine lv_land hx hb dL_law_594 ?_
  refine lv_lor hx hb dL_law_595 ?_
  refine kVi (As := [.int (xs (i + 1)), .long (lgv (xs (i + 2)) (xs (i + 3)))]) CF (cwV 2 hts gL_law_X7_judge rfl rfl rfl (by decide +kernel) ⟨Nat.le_of_ble_eq_true rfl, Nat.le_of_ble_eq_true rfl⟩) PU_blind hP hD hS hA (va_recv hK.1 hP (ci := 7) (q0 := 0) rfl rfl) [0, 21, 17, 6, 7, 18, 8, 19, 9, 20, 3, 5, 4] (fun h1 h2 h3 => PU_pre hK h1 _ h2 h3) (c_X7_judge l dC dI cI cZ a.t a.text a.told a.now a.acts a.slots a.marks a.foresight a.chances a.trial a.trial_line a.trial_strides a.trial_strains a.now_line a.now_strides a.now_strains a.told_beats a.told_kinds _ σ.firstAct σ.actCount σ.slotsKept σ.weather σ.trial_down σ.trial_steps σ.now_down σ.now_steps σ.now_line σ.trial_line σ.now_strides σ.trial_strides σ.now_strains σ.trial_strains σ.told_count σ.told_depth σ.told_noon σ.told_depthBehind σ.told_kinds σ.told_beats (xs (i + 1)) (lgv (xs (i + 2)) (xs (i + 3))) r u_foresight_trial_down u_foresight_trial_steps u_foresight_trial_line u_foresight_trial_strides u_foresight_trial_strains f7) rfl rfl rfl rfl hl.1 rfl (Nat.le_of_ble_eq_true rfl) dL_law_596 ⟨Nat.le_of_ble_eq_true rfl, Nat.le_of_ble_eq_true rfl⟩ (fun H locs hP hS => ?_)
  replace hP : va_P (dC, dI) vwCl (w7 cI a (S7.mk σ.firstAct σ.actCount σ.slotsKept σ.weather σ.text_length σ.text_letters σ.told_count σ.told_depth σ.told_noon σ.told_depthBehind σ.told_beats σ.told_kinds σ.now_down σ.now_steps σ.now_line σ.now_strides σ.now_strains σ.acts_cells σ.slots_cells σ.marks_count σ.marks_times σ.marks_treads u_foresight_trial_down u_foresight_trial_steps u_foresight_trial_line u_foresight_trial_strides u_foresight_trial_strains σ.hasOne σ.hasOther) ++ w8 cI cZ d τ) H := hP
  replace hD : va_D (fun q : Nat => s.heap.size ≤ q) (w7 cI a (S7.mk σ.firstAct σ.actCount σ.slotsKept σ.weather σ.text_length σ.text_letters σ.told_count σ.told_depth σ.told_noon σ.told_depthBehind σ.told_beats σ.told_kinds σ.now_down σ.now_steps σ.now_line σ.now_strides σ.now_strains σ.acts_cells σ.slots_cells σ.marks_count σ.marks_times σ.marks_treads u_foresight_trial_down u_foresight_trial_steps u_foresight_trial_line u_foresight_trial_strides u_foresight_trial_strains σ.hasOne σ.hasOther) ++ w8 cI cZ d τ) := wd hD rfl
  refine lv_aload_n hx hb dL_law_599 rfl (lv_at hl 2 rfl) ?_
  refine kScr X hS hl (j := 1) (by omega) (by decide) dL_law_600 dL_law_601 dL_law_602 dL_law_603 dL_law_604 ?_
  refine kScr X hS hl (j := 2) (by omega) (by decide) dL_law_605 dL_law_606 dL_law_607 dL_law_608 dL_law_609 ?_
  refine lv_i2l hx hb dL_law_610 rfl ?_
  refine lv_bipush (v := 32) hx hb dL_law_611 (by decide) ?_
  refine lv_lshl hx hb dL_law_613 rfl ?_
  refine kScr X hS hl (j := 3) (by omega) (by decide) dL_law_614 dL_law_615 dL_law_616 dL_law_617 dL_law_618 ?_
  refine lv_i2l hx hb dL_law_619 rfl ?_
  refine lv_ldc2 (v := 4294967295) hx hb hown w_long dL_law_620 ?_
  refine lv_land hx hb dL_law_623 ?_
  refine lv_lor hx hb dL_law_624 ?_
  refine kVi (As := [.int (xs (i + 1)), .long (lgv (xs (i + 2)) (xs (i + 3)))]) CF (cwV 2 hts gL_law_X8_judge rfl rfl rfl (by decide +kernel) ⟨Nat.le_of_ble_eq_true rfl, Nat.le_of_ble_eq_true rfl⟩) PU_blind hP hD hS hA (va_recv hK.1 hP (ci := 8) (q0 := 25) rfl rfl) [25, 31, 32, 28, 27] (fun h1 h2 h3 => PU_pre hK h1 _ h2 h3) (c_X8_judge l dC dI cI cZ d.t d.text d.beat d.kind d.readSnow d.readWalker d.page d.trial d.book d.kept d.isKept d.markStep d.markTread d.order d.gains d.value _ τ.thrown τ.textSize τ.place τ.depth τ.noon τ.later τ.walkers τ.readWalkers τ.acts τ.marks τ.seed τ.stumbled τ.lineMany τ.lineOrder τ.whoseMany τ.whoseFirst τ.restMany τ.restFirst τ.page τ.trial τ.kind τ.beat (xs (i + 1)) (lgv (xs (i + 2)) (xs (i + 3))) r v_thrown v_stumbled v_trial f8) rfl rfl rfl rfl hl.1 rfl (Nat.le_of_ble_eq_true rfl) dL_law_625 ⟨Nat.le_of_ble_eq_true rfl, Nat.le_of_ble_eq_true rfl⟩ (fun H locs hP hS => ?_)
  replace hP : va_P (dC, dI) vwCl (w7 cI a (S7.mk σ.firstAct σ.actCount σ.slotsKept σ.weather σ.text_length σ.text_letters σ.told_count σ.told_depth σ.told_noon σ.told_depthBehind σ.told_beats σ.told_kinds σ.now_down σ.now_steps σ.now_line σ.now_strides σ.now_strains σ.acts_cells σ.slots_cells σ.marks_count σ.marks_times σ.marks_treads u_foresight_trial_down u_foresight_trial_steps u_foresight_trial_line u_foresight_trial_strides u_foresight_trial_strains σ.hasOne σ.hasOther) ++ w8 cI cZ d (S8.mk v_thrown τ.textSize τ.place τ.depth τ.noon τ.later τ.walkers τ.readWalkers τ.acts τ.marks τ.seed v_stumbled τ.lineMany τ.lineOrder τ.whoseMany τ.whoseFirst τ.restMany τ.restFirst τ.text τ.beat τ.kind τ.readSnow τ.readWalker τ.page v_trial τ.book τ.kept τ.isKept τ.markStep τ.markTread τ.order τ.gains τ.value)) H := hP
  exact lv_icmp_eq (tgt := 976) hx hb dL_law_628 (by decide) (fun _ => kk _ _ _ _ hP hS hI2) (fun h => absurd rfl h)
set_option maxHeartbeats 4000000 in
set_option maxRecDepth 100000 in
theorem lwc_share (X : LC p s m c b L xs dC dI cI cZ tF) (hP : va_P (dC, dI) vwCl (w7 cI a σ ++ w8 cI cZ d τ) H) (hD : va_D (fun q : Nat => s.heap.size ≤ q) (w7 cI a σ ++ w8 cI cZ d τ)) (hS : va_S (fun q : Nat => s.heap.size ≤ q) s.heap H locs) (hl : lv_has ls 4 [(0, .ref b), (1, .ref a.t), (2, .ref d.t), (3, .int (nI i))]) (hi : i + 4 ≤ L) (hI : INV T σ τ) (h18 : T < 2 ^ 17)
    (kk : ∀ (σ2 : S7) (τ2 : S8) (H2 : Heap) (locs2 : List Loc), va_P (dC, dI) vwCl (w7 cI a σ2 ++ w8 cI cZ d τ2) H2 → va_S (fun q : Nat => s.heap.size ≤ q) s.heap H2 locs2 → INV (T + 1) σ2 τ2 → W p l e room_1 s m #[Value.ref b] below meth c H2 locs2 41 899 Q (F0 m 976 ls [])) : W p l e room_1 s m #[Value.ref b] below meth c H locs 41 899 Q (F0 m 633 ls []) := by
  have hx := X.hx
  have CF := X.CF
  have hb := CF.2.1
  have hown := CF.2.2.2.1
  have hts := CF.2.2.2.2
  have hK := X.hK
  have hF := X.hF
  have hA : ∀ q : Nat, s.heap.size ≤ q → (fun q : Nat => s.heap.size ≤ q) q := fun _ h => h
  obtain ⟨r, u_foresight_trial_down, u_foresight_trial_steps, u_foresight_trial_line, u_foresight_trial_strides, u_foresight_trial_strains, v_thrown, v_stumbled, v_trial, v_value, f7, f8, hI2⟩ := lwop_share hI h18 (xs (i + 1)) (if (xs (i + 2)) = 0 then (0 : Int32) else 1)
  refine lv_aload_n hx hb dL_law_633 rfl (lv_at hl 1 rfl) ?_
  refine kScr X hS hl (j := 1) (by omega) (by decide) dL_law_634 dL_law_635 dL_law_636 dL_law_637 dL_law_638 ?_
  refine kScr X hS hl (j := 2) (by omega) (by decide) dL_law_639 dL_law_640 dL_law_641 dL_law_642 dL_law_643 ?_
  refine kNz hx hb dL_law_644 dL_law_647 dL_law_648 dL_law_651 ?_
  refine kVi (As := [.int (xs (i + 1)), .int (if (xs (i + 2)) = 0 then (0 : Int32) else 1)]) CF (cwV 2 hts gL_law_X7_share rfl rfl rfl (by decide +kernel) ⟨Nat.le_of_ble_eq_true rfl, Nat.le_of_ble_eq_true rfl⟩) PUS_blind hP hD hS hA (va_recv hK.1 hP (ci := 7) (q0 := 0) rfl rfl) [0, 3, 21, 17, 6, 7, 18, 8, 19, 9, 20, 5, 4] (fun h1 h2 h3 => PUS_pre hK hF hS h1 h2 h3) (c_X7_share l dC dI cI cZ tF a.t a.text a.told a.now a.acts a.slots a.marks a.foresight a.chances a.told_beats a.told_kinds a.trial a.trial_line a.trial_strides a.trial_strains a.now_line a.now_strides a.now_strains _ σ.firstAct σ.actCount σ.slotsKept σ.weather σ.told_count σ.told_depth σ.told_noon σ.told_depthBehind σ.trial_down σ.trial_steps σ.now_down σ.now_steps σ.now_line σ.trial_line σ.now_strides σ.trial_strides σ.now_strains σ.trial_strains σ.told_kinds σ.told_beats (xs (i + 1)) (if (xs (i + 2)) = 0 then (0 : Int32) else 1) r u_foresight_trial_down u_foresight_trial_steps u_foresight_trial_line u_foresight_trial_strides u_foresight_trial_strains f7) rfl rfl rfl rfl hl.1 rfl (Nat.le_of_ble_eq_true rfl) dL_law_652 ⟨Nat.le_of_ble_eq_true rfl, Nat.le_of_ble_eq_true rfl⟩ (fun H locs hP hS => ?_)
  replace hP : va_P (dC, dI) vwCl (w7 cI a (S7.mk σ.firstAct σ.actCount σ.slotsKept σ.weather σ.text_length σ.text_letters σ.told_count σ.told_depth σ.told_noon σ.told_depthBehind σ.told_beats σ.told_kinds σ.now_down σ.now_steps σ.now_line σ.now_strides σ.now_strains σ.acts_cells σ.slots_cells σ.marks_count σ.marks_times σ.marks_treads u_foresight_trial_down u_foresight_trial_steps u_foresight_trial_line u_foresight_trial_strides u_foresight_trial_strains σ.hasOne σ.hasOther) ++ w8 cI cZ d τ) H := hP
  replace hD : va_D (fun q : Nat => s.heap.size ≤ q) (w7 cI a (S7.mk σ.firstAct σ.actCount σ.slotsKept σ.weather σ.text_length σ.text_letters σ.told_count σ.told_depth σ.told_noon σ.told_depthBehind σ.told_beats σ.told_kinds σ.now_down σ.now_steps σ.now_line σ.now_strides σ.now_strains σ.acts_cells σ.slots_cells σ.marks_count σ.marks_times σ.marks_treads u_foresight_trial_down u_foresight_trial_steps u_foresight_trial_line u_foresight_trial_strides u_foresight_trial_strains σ.hasOne σ.hasOther) ++ w8 cI cZ d τ) := wd hD rfl
  refine lv_aload_n hx hb dL_law_655 rfl (lv_at hl 2 rfl) ?_
  refine kScr X hS hl (j := 1) (by omega) (by decide) dL_law_656 dL_law_657 dL_law_658 dL_law_659 dL_law_660 ?_
  refine kScr X hS hl (j := 2) (by omega) (by decide) dL_law_661 dL_law_662 dL_law_663 dL_law_664 dL_law_665 ?_
  refine kNz hx hb dL_law_666 dL_law_669 dL_law_670 dL_law_673 ?_
  refine kVi (As := [.int (xs (i + 1)), .int (if (xs (i + 2)) = 0 then (0 : Int32) else 1)]) CF (cwV 2 hts gL_law_X8_share rfl rfl rfl (by decide +kernel) ⟨Nat.le_of_ble_eq_true rfl, Nat.le_of_ble_eq_true rfl⟩) PU_blind hP hD hS hA (va_recv hK.1 hP (ci := 8) (q0 := 25) rfl rfl) [25, 31, 32, 28, 27, 40] (fun h1 h2 h3 => PU_pre hK h1 _ h2 h3) (c_X8_share l dC dI cI cZ d.t d.text d.beat d.kind d.readSnow d.readWalker d.page d.trial d.book d.kept d.isKept d.markStep d.markTread d.order d.gains d.value _ τ.thrown τ.textSize τ.place τ.depth τ.noon τ.later τ.walkers τ.readWalkers τ.acts τ.marks τ.seed τ.stumbled τ.lineMany τ.lineOrder τ.whoseMany τ.whoseFirst τ.restMany τ.restFirst τ.page τ.trial τ.kind τ.beat τ.value (xs (i + 1)) (if (xs (i + 2)) = 0 then (0 : Int32) else 1) r v_thrown v_stumbled v_trial v_value f8) rfl rfl rfl rfl hl.1 rfl (Nat.le_of_ble_eq_true rfl) dL_law_674 ⟨Nat.le_of_ble_eq_true rfl, Nat.le_of_ble_eq_true rfl⟩ (fun H locs hP hS => ?_)
  replace hP : va_P (dC, dI) vwCl (w7 cI a (S7.mk σ.firstAct σ.actCount σ.slotsKept σ.weather σ.text_length σ.text_letters σ.told_count σ.told_depth σ.told_noon σ.told_depthBehind σ.told_beats σ.told_kinds σ.now_down σ.now_steps σ.now_line σ.now_strides σ.now_strains σ.acts_cells σ.slots_cells σ.marks_count σ.marks_times σ.marks_treads u_foresight_trial_down u_foresight_trial_steps u_foresight_trial_line u_foresight_trial_strides u_foresight_trial_strains σ.hasOne σ.hasOther) ++ w8 cI cZ d (S8.mk v_thrown τ.textSize τ.place τ.depth τ.noon τ.later τ.walkers τ.readWalkers τ.acts τ.marks τ.seed v_stumbled τ.lineMany τ.lineOrder τ.whoseMany τ.whoseFirst τ.restMany τ.restFirst τ.text τ.beat τ.kind τ.readSnow τ.readWalker τ.page v_trial τ.book τ.kept τ.isKept τ.markStep τ.markTread τ.order τ.gains v_value)) H := hP
  exact lv_icmp_eq (tgt := 976) hx hb dL_law_677 (by decide) (fun _ => kk _ _ _ _ hP hS hI2) (fun h => absurd rfl h)
end LAW
