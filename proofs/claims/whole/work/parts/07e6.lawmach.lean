section LAW
variable {p : Program} {l : Launch} {e : Env} {s : State} {m : MethodId} {below : List Frame} {meth : Method} {c : Code} {Q : State → Prop} {dC : Nat → ClassId} {dI : Nat → Nat → Nat} {cI cZ : ClassId} {tF : Nat} {a : A7} {d : A8} {b L i T : Nat} {xs : Nat → Int32} {σ : S7} {τ : S8} {H : Heap} {locs : List Loc} {ls : Array Slot} {q7 q8 : Nat}
set_option maxHeartbeats 4000000 in
set_option maxRecDepth 100000 in
theorem lwc_seed (X : LC p s m c b L xs dC dI cI cZ tF) (hP : va_P (dC, dI) vwCl (w7 cI a σ ++ w8 cI cZ d τ) H) (hD : va_D (fun q : Nat => s.heap.size ≤ q) (w7 cI a σ ++ w8 cI cZ d τ)) (hS : va_S (fun q : Nat => s.heap.size ≤ q) s.heap H locs) (hl : lv_has ls 4 [(0, .ref b), (1, .ref a.t), (2, .ref d.t), (3, .int (nI i))]) (hi : i + 4 ≤ L) (hI : INV T σ τ) (h18 : T < 2 ^ 17)
    (kk : ∀ (σ2 : S7) (τ2 : S8) (H2 : Heap) (locs2 : List Loc), va_P (dC, dI) vwCl (w7 cI a σ2 ++ w8 cI cZ d τ2) H2 → va_S (fun q : Nat => s.heap.size ≤ q) s.heap H2 locs2 → INV (T + 1) σ2 τ2 → W p l e room_1 s m #[Value.ref b] below meth c H2 locs2 41 899 Q (F0 m 976 ls [])) : W p l e room_1 s m #[Value.ref b] below meth c H locs 41 899 Q (F0 m 853 ls []) := by
  have hx := X.hx
  have CF := X.CF
  have hb := CF.2.1
  have hown := CF.2.2.2.1
  have hts := CF.2.2.2.2
  have hK := X.hK
  have hF := X.hF
  have hA : ∀ q : Nat, s.heap.size ≤ q → (fun q : Nat => s.heap.size ≤ q) q := fun _ h => h
  have w_long := hts (.constantLong RL 90 4294967295) wL_long
  obtain ⟨r, u_weather, v_thrown, f7, f8, hI2⟩ := lwop_seed hI h18 (lgv (xs (i + 1)) (xs (i + 2)))
  refine lv_aload_n hx hb dL_law_853 rfl (lv_at hl 1 rfl) ?_
  refine kScr X hS hl (j := 1) (by omega) (by decide) dL_law_854 dL_law_855 dL_law_856 dL_law_857 dL_law_858 ?_
  refine lv_i2l hx hb dL_law_859 rfl ?_
  refine lv_bipush (v := 32) hx hb dL_law_860 (by decide) ?_
  refine lv_lshl hx hb dL_law_862 rfl ?_
  refine kScr X hS hl (j := 2) (by omega) (by decide) dL_law_863 dL_law_864 dL_law_865 dL_law_866 dL_law_867 ?_
  refine lv_i2l hx hb dL_law_868 rfl ?_
  refine lv_ldc2 (v := 4294967295) hx hb hown w_long dL_law_869 ?_
  refine lv_land hx hb dL_law_872 ?_
  refine lv_lor hx hb dL_law_873 ?_
  refine kVl (As := [.long (lgv (xs (i + 1)) (xs (i + 2)))]) CF (cwV 1 hts gL_law_X7_seed rfl rfl rfl (by decide +kernel) ⟨Nat.le_of_ble_eq_true rfl, Nat.le_of_ble_eq_true rfl⟩) PU_blind hP hD hS hA (va_recv hK.1 hP (ci := 7) (q0 := 0) rfl rfl) [0] (fun h1 h2 h3 => PU_pre hK h1 _ h2 h3) (c_X7_seed l dC dI cI cZ a.t a.text a.told a.now a.acts a.slots a.marks a.foresight a.chances _ σ.firstAct σ.actCount σ.slotsKept σ.weather (lgv (xs (i + 1)) (xs (i + 2))) r u_weather f7) rfl rfl rfl rfl hl.1 rfl (Nat.le_of_ble_eq_true rfl) dL_law_874 ⟨Nat.le_of_ble_eq_true rfl, Nat.le_of_ble_eq_true rfl⟩ (fun H locs hP hS => ?_)
  replace hP : va_P (dC, dI) vwCl (w7 cI a (S7.mk σ.firstAct σ.actCount σ.slotsKept u_weather σ.text_length σ.text_letters σ.told_count σ.told_depth σ.told_noon σ.told_depthBehind σ.told_beats σ.told_kinds σ.now_down σ.now_steps σ.now_line σ.now_strides σ.now_strains σ.acts_cells σ.slots_cells σ.marks_count σ.marks_times σ.marks_treads σ.trial_down σ.trial_steps σ.trial_line σ.trial_strides σ.trial_strains σ.hasOne σ.hasOther) ++ w8 cI cZ d τ) H := hP
  replace hD : va_D (fun q : Nat => s.heap.size ≤ q) (w7 cI a (S7.mk σ.firstAct σ.actCount σ.slotsKept u_weather σ.text_length σ.text_letters σ.told_count σ.told_depth σ.told_noon σ.told_depthBehind σ.told_beats σ.told_kinds σ.now_down σ.now_steps σ.now_line σ.now_strides σ.now_strains σ.acts_cells σ.slots_cells σ.marks_count σ.marks_times σ.marks_treads σ.trial_down σ.trial_steps σ.trial_line σ.trial_strides σ.trial_strains σ.hasOne σ.hasOther) ++ w8 cI cZ d τ) := wd hD rfl
  refine lv_aload_n hx hb dL_law_877 rfl (lv_at hl 2 rfl) ?_
  refine kScr X hS hl (j := 1) (by omega) (by decide) dL_law_878 dL_law_879 dL_law_880 dL_law_881 dL_law_882 ?_
  refine lv_i2l hx hb dL_law_883 rfl ?_
  refine lv_bipush (v := 32) hx hb dL_law_884 (by decide) ?_
  refine lv_lshl hx hb dL_law_886 rfl ?_
  refine kScr X hS hl (j := 2) (by omega) (by decide) dL_law_887 dL_law_888 dL_law_889 dL_law_890 dL_law_891 ?_
  refine lv_i2l hx hb dL_law_892 rfl ?_
  refine lv_ldc2 (v := 4294967295) hx hb hown w_long dL_law_893 ?_
  refine lv_land hx hb dL_law_896 ?_
  refine lv_lor hx hb dL_law_897 ?_
  refine kVl (As := [.long (lgv (xs (i + 1)) (xs (i + 2)))]) CF (cwV 1 hts gL_law_X8_seed rfl rfl rfl (by decide +kernel) ⟨Nat.le_of_ble_eq_true rfl, Nat.le_of_ble_eq_true rfl⟩) PU_blind hP hD hS hA (va_recv hK.1 hP (ci := 8) (q0 := 25) rfl rfl) [25] (fun h1 h2 h3 => PU_pre hK h1 _ h2 h3) (c_X8_seed l dC dI cI cZ d.t d.text d.beat d.kind d.readSnow d.readWalker d.page d.trial d.book d.kept d.isKept d.markStep d.markTread d.order d.gains d.value _ τ.thrown τ.textSize τ.place τ.depth τ.noon τ.later τ.walkers τ.readWalkers τ.acts τ.marks τ.seed τ.stumbled τ.lineMany τ.lineOrder τ.whoseMany τ.whoseFirst τ.restMany τ.restFirst (lgv (xs (i + 1)) (xs (i + 2))) r v_thrown u_weather f8) rfl rfl rfl rfl hl.1 rfl (Nat.le_of_ble_eq_true rfl) dL_law_898 ⟨Nat.le_of_ble_eq_true rfl, Nat.le_of_ble_eq_true rfl⟩ (fun H locs hP hS => ?_)
  replace hP : va_P (dC, dI) vwCl (w7 cI a (S7.mk σ.firstAct σ.actCount σ.slotsKept u_weather σ.text_length σ.text_letters σ.told_count σ.told_depth σ.told_noon σ.told_depthBehind σ.told_beats σ.told_kinds σ.now_down σ.now_steps σ.now_line σ.now_strides σ.now_strains σ.acts_cells σ.slots_cells σ.marks_count σ.marks_times σ.marks_treads σ.trial_down σ.trial_steps σ.trial_line σ.trial_strides σ.trial_strains σ.hasOne σ.hasOther) ++ w8 cI cZ d (S8.mk v_thrown τ.textSize τ.place τ.depth τ.noon τ.later τ.walkers τ.readWalkers τ.acts τ.marks u_weather τ.stumbled τ.lineMany τ.lineOrder τ.whoseMany τ.whoseFirst τ.restMany τ.restFirst τ.text τ.beat τ.kind τ.readSnow τ.readWalker τ.page τ.trial τ.book τ.kept τ.isKept τ.markStep τ.markTread τ.order τ.gains τ.value)) H := hP
  refine W.lcmp hx hb dL_law_901 ?_
  exact lv_if_eq (tgt := 976) hx hb dL_law_902 (by decide) (fun _ => kk _ _ _ _ hP hS hI2) (fun h => absurd (lgc_self r) h)
set_option maxHeartbeats 4000000 in
set_option maxRecDepth 100000 in
theorem lwc_winters (X : LC p s m c b L xs dC dI cI cZ tF) (hP : va_P (dC, dI) vwCl (w7 cI a σ ++ w8 cI cZ d τ) H) (hD : va_D (fun q : Nat => s.heap.size ≤ q) (w7 cI a σ ++ w8 cI cZ d τ)) (hS : va_S (fun q : Nat => s.heap.size ≤ q) s.heap H locs) (hl : lv_has ls 4 [(0, .ref b), (1, .ref a.t), (2, .ref d.t), (3, .int (nI i))]) (hi : i + 4 ≤ L) (hI : INV T σ τ) (h18 : T < 2 ^ 17)
    (kk : ∀ (σ2 : S7) (τ2 : S8) (H2 : Heap) (locs2 : List Loc), va_P (dC, dI) vwCl (w7 cI a σ2 ++ w8 cI cZ d τ2) H2 → va_S (fun q : Nat => s.heap.size ≤ q) s.heap H2 locs2 → INV (T + 1) σ2 τ2 → W p l e room_1 s m #[Value.ref b] below meth c H2 locs2 41 899 Q (F0 m 976 ls [])) : W p l e room_1 s m #[Value.ref b] below meth c H locs 41 899 Q (F0 m 907 ls []) := by
  have hx := X.hx
  have CF := X.CF
  have hb := CF.2.1
  have hown := CF.2.2.2.1
  have hts := CF.2.2.2.2
  have hK := X.hK
  have hF := X.hF
  have hA : ∀ q : Nat, s.heap.size ≤ q → (fun q : Nat => s.heap.size ≤ q) q := fun _ h => h
  obtain ⟨r, u_weather, u_foresight_trial_down, u_foresight_trial_steps, u_foresight_trial_line, u_foresight_trial_strides, u_foresight_trial_strains, v_thrown, v_stumbled, v_trial, f7, f8, hI2⟩ := lwop_winters hI h18 (xs (i + 1))
  refine lv_aload_n hx hb dL_law_907 rfl (lv_at hl 1 rfl) ?_
  refine kScr X hS hl (j := 1) (by omega) (by decide) dL_law_908 dL_law_909 dL_law_910 dL_law_911 dL_law_912 ?_
  refine kVi (As := [.int (xs (i + 1))]) CF (cwV 1 hts gL_law_X7_winters rfl rfl rfl (by decide +kernel) ⟨Nat.le_of_ble_eq_true rfl, Nat.le_of_ble_eq_true rfl⟩) PU_blind hP hD hS hA (va_recv hK.1 hP (ci := 7) (q0 := 0) rfl rfl) [0, 22, 17, 6, 7, 18, 8, 19, 9, 20, 3, 5, 4] (fun h1 h2 h3 => PU_pre hK h1 _ h2 h3) (c_X7_winters l dC dI cI cZ a.t a.text a.told a.now a.acts a.slots a.marks a.foresight a.chances a.trial a.hasOne a.hasOther a.trial_line a.trial_strides a.trial_strains a.now_line a.now_strides a.now_strains a.told_beats a.told_kinds _ σ.firstAct σ.actCount σ.slotsKept σ.weather σ.trial_down σ.trial_steps σ.now_down σ.now_steps σ.now_line σ.trial_line σ.now_strides σ.trial_strides σ.now_strains σ.trial_strains σ.told_count σ.told_depth σ.told_noon σ.told_depthBehind σ.told_kinds σ.told_beats (xs (i + 1)) r u_weather u_foresight_trial_down u_foresight_trial_steps u_foresight_trial_line u_foresight_trial_strides u_foresight_trial_strains f7) rfl rfl rfl rfl hl.1 rfl (Nat.le_of_ble_eq_true rfl) dL_law_913 ⟨Nat.le_of_ble_eq_true rfl, Nat.le_of_ble_eq_true rfl⟩ (fun H locs hP hS => ?_)
  replace hP : va_P (dC, dI) vwCl (w7 cI a (S7.mk σ.firstAct σ.actCount σ.slotsKept u_weather σ.text_length σ.text_letters σ.told_count σ.told_depth σ.told_noon σ.told_depthBehind σ.told_beats σ.told_kinds σ.now_down σ.now_steps σ.now_line σ.now_strides σ.now_strains σ.acts_cells σ.slots_cells σ.marks_count σ.marks_times σ.marks_treads u_foresight_trial_down u_foresight_trial_steps u_foresight_trial_line u_foresight_trial_strides u_foresight_trial_strains σ.hasOne σ.hasOther) ++ w8 cI cZ d τ) H := hP
  replace hD : va_D (fun q : Nat => s.heap.size ≤ q) (w7 cI a (S7.mk σ.firstAct σ.actCount σ.slotsKept u_weather σ.text_length σ.text_letters σ.told_count σ.told_depth σ.told_noon σ.told_depthBehind σ.told_beats σ.told_kinds σ.now_down σ.now_steps σ.now_line σ.now_strides σ.now_strains σ.acts_cells σ.slots_cells σ.marks_count σ.marks_times σ.marks_treads u_foresight_trial_down u_foresight_trial_steps u_foresight_trial_line u_foresight_trial_strides u_foresight_trial_strains σ.hasOne σ.hasOther) ++ w8 cI cZ d τ) := wd hD rfl
  refine lv_aload_n hx hb dL_law_916 rfl (lv_at hl 2 rfl) ?_
  refine kScr X hS hl (j := 1) (by omega) (by decide) dL_law_917 dL_law_918 dL_law_919 dL_law_920 dL_law_921 ?_
  refine kVi (As := [.int (xs (i + 1))]) CF (cwV 1 hts gL_law_X8_winters rfl rfl rfl (by decide +kernel) ⟨Nat.le_of_ble_eq_true rfl, Nat.le_of_ble_eq_true rfl⟩) PU_blind hP hD hS hA (va_recv hK.1 hP (ci := 8) (q0 := 25) rfl rfl) [25, 31, 32, 28, 27] (fun h1 h2 h3 => PU_pre hK h1 _ h2 h3) (c_X8_winters l dC dI cI cZ d.t d.text d.beat d.kind d.readSnow d.readWalker d.page d.trial d.book d.kept d.isKept d.markStep d.markTread d.order d.gains d.value _ τ.thrown τ.textSize τ.place τ.depth τ.noon τ.later τ.walkers τ.readWalkers τ.acts τ.marks τ.seed τ.stumbled τ.lineMany τ.lineOrder τ.whoseMany τ.whoseFirst τ.restMany τ.restFirst τ.page τ.trial τ.kind τ.beat (xs (i + 1)) r v_thrown u_weather v_stumbled v_trial f8) rfl rfl rfl rfl hl.1 rfl (Nat.le_of_ble_eq_true rfl) dL_law_922 ⟨Nat.le_of_ble_eq_true rfl, Nat.le_of_ble_eq_true rfl⟩ (fun H locs hP hS => ?_)
  replace hP : va_P (dC, dI) vwCl (w7 cI a (S7.mk σ.firstAct σ.actCount σ.slotsKept u_weather σ.text_length σ.text_letters σ.told_count σ.told_depth σ.told_noon σ.told_depthBehind σ.told_beats σ.told_kinds σ.now_down σ.now_steps σ.now_line σ.now_strides σ.now_strains σ.acts_cells σ.slots_cells σ.marks_count σ.marks_times σ.marks_treads u_foresight_trial_down u_foresight_trial_steps u_foresight_trial_line u_foresight_trial_strides u_foresight_trial_strains σ.hasOne σ.hasOther) ++ w8 cI cZ d (S8.mk v_thrown τ.textSize τ.place τ.depth τ.noon τ.later τ.walkers τ.readWalkers τ.acts τ.marks u_weather v_stumbled τ.lineMany τ.lineOrder τ.whoseMany τ.whoseFirst τ.restMany τ.restFirst τ.text τ.beat τ.kind τ.readSnow τ.readWalker τ.page v_trial τ.book τ.kept τ.isKept τ.markStep τ.markTread τ.order τ.gains τ.value)) H := hP
  exact lv_icmp_eq (tgt := 976) hx hb dL_law_925 (by decide) (fun _ => kk _ _ _ _ hP hS hI2) (fun h => absurd rfl h)
set_option maxHeartbeats 4000000 in
set_option maxRecDepth 100000 in
theorem lwc_keep (X : LC p s m c b L xs dC dI cI cZ tF) (hP : va_P (dC, dI) vwCl (w7 cI a σ ++ w8 cI cZ d τ) H) (hD : va_D (fun q : Nat => s.heap.size ≤ q) (w7 cI a σ ++ w8 cI cZ d τ)) (hS : va_S (fun q : Nat => s.heap.size ≤ q) s.heap H locs) (hl : lv_has ls 4 [(0, .ref b), (1, .ref a.t), (2, .ref d.t), (3, .int (nI i))]) (hi : i + 4 ≤ L) (hI : INV T σ τ) (h18 : T < 2 ^ 17)
    (kk : ∀ (σ2 : S7) (τ2 : S8) (H2 : Heap) (locs2 : List Loc), va_P (dC, dI) vwCl (w7 cI a σ2 ++ w8 cI cZ d τ2) H2 → va_S (fun q : Nat => s.heap.size ≤ q) s.heap H2 locs2 → INV (T + 1) σ2 τ2 → W p l e room_1 s m #[Value.ref b] below meth c H2 locs2 41 899 Q (F0 m 976 ls [])) : W p l e room_1 s m #[Value.ref b] below meth c H locs 41 899 Q (F0 m 930 ls []) := by
  have hx := X.hx
  have CF := X.CF
  have hb := CF.2.1
  have hown := CF.2.2.2.1
  have hts := CF.2.2.2.2
  have hK := X.hK
  have hF := X.hF
  have hA : ∀ q : Nat, s.heap.size ≤ q → (fun q : Nat => s.heap.size ≤ q) q := fun _ h => h
  obtain ⟨r, u_slotsKept, u_slots_cells, v_thrown, v_isKept, v_kept, f7, f8, hI2⟩ := lwop_keep hI h18 (xs (i + 1))
  refine lv_aload_n hx hb dL_law_930 rfl (lv_at hl 1 rfl) ?_
  refine kScr X hS hl (j := 1) (by omega) (by decide) dL_law_931 dL_law_932 dL_law_933 dL_law_934 dL_law_935 ?_
  refine kVi (As := [.int (xs (i + 1))]) CF (cwV 1 hts gL_law_X7_keep rfl rfl rfl (by decide +kernel) ⟨Nat.le_of_ble_eq_true rfl, Nat.le_of_ble_eq_true rfl⟩) PU_blind hP hD hS hA (va_recv hK.1 hP (ci := 7) (q0 := 0) rfl rfl) [0, 12, 6, 7, 13, 8, 9] (fun h1 h2 h3 => PU_pre hK h1 _ h2 h3) (c_X7_keep l dC dI cI cZ a.t a.text a.told a.now a.acts a.slots a.marks a.foresight a.chances a.slots_cells a.now_line a.now_strides a.now_strains _ σ.firstAct σ.actCount σ.slotsKept σ.weather σ.now_down σ.now_steps σ.now_line σ.slots_cells σ.now_strides σ.now_strains (xs (i + 1)) r u_slotsKept u_slots_cells f7) rfl rfl rfl rfl hl.1 rfl (Nat.le_of_ble_eq_true rfl) dL_law_936 ⟨Nat.le_of_ble_eq_true rfl, Nat.le_of_ble_eq_true rfl⟩ (fun H locs hP hS => ?_)
  replace hP : va_P (dC, dI) vwCl (w7 cI a (S7.mk σ.firstAct σ.actCount u_slotsKept σ.weather σ.text_length σ.text_letters σ.told_count σ.told_depth σ.told_noon σ.told_depthBehind σ.told_beats σ.told_kinds σ.now_down σ.now_steps σ.now_line σ.now_strides σ.now_strains σ.acts_cells u_slots_cells σ.marks_count σ.marks_times σ.marks_treads σ.trial_down σ.trial_steps σ.trial_line σ.trial_strides σ.trial_strains σ.hasOne σ.hasOther) ++ w8 cI cZ d τ) H := hP
  replace hD : va_D (fun q : Nat => s.heap.size ≤ q) (w7 cI a (S7.mk σ.firstAct σ.actCount u_slotsKept σ.weather σ.text_length σ.text_letters σ.told_count σ.told_depth σ.told_noon σ.told_depthBehind σ.told_beats σ.told_kinds σ.now_down σ.now_steps σ.now_line σ.now_strides σ.now_strains σ.acts_cells u_slots_cells σ.marks_count σ.marks_times σ.marks_treads σ.trial_down σ.trial_steps σ.trial_line σ.trial_strides σ.trial_strains σ.hasOne σ.hasOther) ++ w8 cI cZ d τ) := wd hD rfl
  refine lv_aload_n hx hb dL_law_939 rfl (lv_at hl 2 rfl) ?_
  refine kScr X hS hl (j := 1) (by omega) (by decide) dL_law_940 dL_law_941 dL_law_942 dL_law_943 dL_law_944 ?_
  refine kVi (As := [.int (xs (i + 1))]) CF (cwV 1 hts gL_law_X8_keep rfl rfl rfl (by decide +kernel) ⟨Nat.le_of_ble_eq_true rfl, Nat.le_of_ble_eq_true rfl⟩) PU_blind hP hD hS hA (va_recv hK.1 hP (ci := 8) (q0 := 25) rfl rfl) [25, 35, 31, 34] (fun h1 h2 h3 => PU_pre hK h1 _ h2 h3) (c_X8_keep l dC dI cI cZ d.t d.text d.beat d.kind d.readSnow d.readWalker d.page d.trial d.book d.kept d.isKept d.markStep d.markTread d.order d.gains d.value _ τ.thrown τ.textSize τ.place τ.depth τ.noon τ.later τ.walkers τ.readWalkers τ.acts τ.marks τ.seed τ.stumbled τ.lineMany τ.lineOrder τ.whoseMany τ.whoseFirst τ.restMany τ.restFirst τ.isKept τ.page τ.kept (xs (i + 1)) r v_thrown v_isKept v_kept f8) rfl rfl rfl rfl hl.1 rfl (Nat.le_of_ble_eq_true rfl) dL_law_945 ⟨Nat.le_of_ble_eq_true rfl, Nat.le_of_ble_eq_true rfl⟩ (fun H locs hP hS => ?_)
  replace hP : va_P (dC, dI) vwCl (w7 cI a (S7.mk σ.firstAct σ.actCount u_slotsKept σ.weather σ.text_length σ.text_letters σ.told_count σ.told_depth σ.told_noon σ.told_depthBehind σ.told_beats σ.told_kinds σ.now_down σ.now_steps σ.now_line σ.now_strides σ.now_strains σ.acts_cells u_slots_cells σ.marks_count σ.marks_times σ.marks_treads σ.trial_down σ.trial_steps σ.trial_line σ.trial_strides σ.trial_strains σ.hasOne σ.hasOther) ++ w8 cI cZ d (S8.mk v_thrown τ.textSize τ.place τ.depth τ.noon τ.later τ.walkers τ.readWalkers τ.acts τ.marks τ.seed τ.stumbled τ.lineMany τ.lineOrder τ.whoseMany τ.whoseFirst τ.restMany τ.restFirst τ.text τ.beat τ.kind τ.readSnow τ.readWalker τ.page τ.trial τ.book v_kept v_isKept τ.markStep τ.markTread τ.order τ.gains τ.value)) H := hP
  exact lv_icmp_eq (tgt := 976) hx hb dL_law_948 (by decide) (fun _ => kk _ _ _ _ hP hS hI2) (fun h => absurd rfl h)
set_option maxHeartbeats 4000000 in
set_option maxRecDepth 100000 in
theorem lwc_again (X : LC p s m c b L xs dC dI cI cZ tF) (hP : va_P (dC, dI) vwCl (w7 cI a σ ++ w8 cI cZ d τ) H) (hD : va_D (fun q : Nat => s.heap.size ≤ q) (w7 cI a σ ++ w8 cI cZ d τ)) (hS : va_S (fun q : Nat => s.heap.size ≤ q) s.heap H locs) (hl : lv_has ls 4 [(0, .ref b), (1, .ref a.t), (2, .ref d.t), (3, .int (nI i))]) (hi : i + 4 ≤ L) (hI : INV T σ τ) (h18 : T < 2 ^ 17)
    (kk : ∀ (σ2 : S7) (τ2 : S8) (H2 : Heap) (locs2 : List Loc), va_P (dC, dI) vwCl (w7 cI a σ2 ++ w8 cI cZ d τ2) H2 → va_S (fun q : Nat => s.heap.size ≤ q) s.heap H2 locs2 → INV (T + 1) σ2 τ2 → W p l e room_1 s m #[Value.ref b] below meth c H2 locs2 41 899 Q (F0 m 976 ls [])) : W p l e room_1 s m #[Value.ref b] below meth c H locs 41 899 Q (F0 m 953 ls []) := by
  have hx := X.hx
  have CF := X.CF
  have hb := CF.2.1
  have hown := CF.2.2.2.1
  have hts := CF.2.2.2.2
  have hK := X.hK
  have hF := X.hF
  have hA : ∀ q : Nat, s.heap.size ≤ q → (fun q : Nat => s.heap.size ≤ q) q := fun _ h => h
  obtain ⟨r, u_firstAct, u_actCount, u_now_down, u_now_steps, u_now_line, u_now_strides, u_now_strains, v_thrown, v_acts, v_page, f7, f8, hI2⟩ := lwop_again hI h18 (xs (i + 1))
  refine lv_aload_n hx hb dL_law_953 rfl (lv_at hl 1 rfl) ?_
  refine kScr X hS hl (j := 1) (by omega) (by decide) dL_law_954 dL_law_955 dL_law_956 dL_law_957 dL_law_958 ?_
  refine kVi (As := [.int (xs (i + 1))]) CF (cwV 1 hts gL_law_X7_again rfl rfl rfl (by decide +kernel) ⟨Nat.le_of_ble_eq_true rfl, Nat.le_of_ble_eq_true rfl⟩) PU_blind hP hD hS hA (va_recv hK.1 hP (ci := 7) (q0 := 0) rfl rfl) [0, 12, 6, 13, 7, 8, 9] (fun h1 h2 h3 => PU_pre hK h1 _ h2 h3) (c_X7_again l dC dI cI cZ a.t a.text a.told a.now a.acts a.slots a.marks a.foresight a.chances a.slots_cells a.now_line a.now_strides a.now_strains _ σ.firstAct σ.actCount σ.slotsKept σ.weather σ.now_down σ.now_steps σ.slots_cells σ.now_line σ.now_strides σ.now_strains (xs (i + 1)) r u_firstAct u_actCount u_now_down u_now_steps u_now_line u_now_strides u_now_strains f7) rfl rfl rfl rfl hl.1 rfl (Nat.le_of_ble_eq_true rfl) dL_law_959 ⟨Nat.le_of_ble_eq_true rfl, Nat.le_of_ble_eq_true rfl⟩ (fun H locs hP hS => ?_)
  replace hP : va_P (dC, dI) vwCl (w7 cI a (S7.mk u_firstAct u_actCount σ.slotsKept σ.weather σ.text_length σ.text_letters σ.told_count σ.told_depth σ.told_noon σ.told_depthBehind σ.told_beats σ.told_kinds u_now_down u_now_steps u_now_line u_now_strides u_now_strains σ.acts_cells σ.slots_cells σ.marks_count σ.marks_times σ.marks_treads σ.trial_down σ.trial_steps σ.trial_line σ.trial_strides σ.trial_strains σ.hasOne σ.hasOther) ++ w8 cI cZ d τ) H := hP
  replace hD : va_D (fun q : Nat => s.heap.size ≤ q) (w7 cI a (S7.mk u_firstAct u_actCount σ.slotsKept σ.weather σ.text_length σ.text_letters σ.told_count σ.told_depth σ.told_noon σ.told_depthBehind σ.told_beats σ.told_kinds u_now_down u_now_steps u_now_line u_now_strides u_now_strains σ.acts_cells σ.slots_cells σ.marks_count σ.marks_times σ.marks_treads σ.trial_down σ.trial_steps σ.trial_line σ.trial_strides σ.trial_strains σ.hasOne σ.hasOther) ++ w8 cI cZ d τ) := wd hD rfl
  refine lv_aload_n hx hb dL_law_962 rfl (lv_at hl 2 rfl) ?_
  refine kScr X hS hl (j := 1) (by omega) (by decide) dL_law_963 dL_law_964 dL_law_965 dL_law_966 dL_law_967 ?_
  refine kVi (As := [.int (xs (i + 1))]) CF (cwV 1 hts gL_law_X8_again rfl rfl rfl (by decide +kernel) ⟨Nat.le_of_ble_eq_true rfl, Nat.le_of_ble_eq_true rfl⟩) PU_blind hP hD hS hA (va_recv hK.1 hP (ci := 8) (q0 := 25) rfl rfl) [25, 35, 34, 31] (fun h1 h2 h3 => PU_pre hK h1 _ h2 h3) (c_X8_again l dC dI cI cZ d.t d.text d.beat d.kind d.readSnow d.readWalker d.page d.trial d.book d.kept d.isKept d.markStep d.markTread d.order d.gains d.value _ τ.thrown τ.textSize τ.place τ.depth τ.noon τ.later τ.walkers τ.readWalkers τ.acts τ.marks τ.seed τ.stumbled τ.lineMany τ.lineOrder τ.whoseMany τ.whoseFirst τ.restMany τ.restFirst τ.isKept τ.kept τ.page (xs (i + 1)) r v_thrown v_acts v_page f8) rfl rfl rfl rfl hl.1 rfl (Nat.le_of_ble_eq_true rfl) dL_law_968 ⟨Nat.le_of_ble_eq_true rfl, Nat.le_of_ble_eq_true rfl⟩ (fun H locs hP hS => ?_)
  replace hP : va_P (dC, dI) vwCl (w7 cI a (S7.mk u_firstAct u_actCount σ.slotsKept σ.weather σ.text_length σ.text_letters σ.told_count σ.told_depth σ.told_noon σ.told_depthBehind σ.told_beats σ.told_kinds u_now_down u_now_steps u_now_line u_now_strides u_now_strains σ.acts_cells σ.slots_cells σ.marks_count σ.marks_times σ.marks_treads σ.trial_down σ.trial_steps σ.trial_line σ.trial_strides σ.trial_strains σ.hasOne σ.hasOther) ++ w8 cI cZ d (S8.mk v_thrown τ.textSize τ.place τ.depth τ.noon τ.later τ.walkers τ.readWalkers v_acts τ.marks τ.seed τ.stumbled τ.lineMany τ.lineOrder τ.whoseMany τ.whoseFirst τ.restMany τ.restFirst τ.text τ.beat τ.kind τ.readSnow τ.readWalker v_page τ.trial τ.book τ.kept τ.isKept τ.markStep τ.markTread τ.order τ.gains τ.value)) H := hP
  exact lv_icmp_eq (tgt := 976) hx hb dL_law_971 (by decide) (fun _ => kk _ _ _ _ hP hS hI2) (fun h => absurd rfl h)
end LAW
