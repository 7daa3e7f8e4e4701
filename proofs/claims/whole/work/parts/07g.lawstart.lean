/-! ===== the law's start ===== -/
abbrev s70 : S7 := S7.mk 0 0 0 0 0 (fun _ => 0) 0 1 0 1 (fun _ => 0) (fun _ => 0) 0 0 (fun _ => 0) (fun _ => 0) (fun _ => 0) (fun _ => 0) (fun _ => 0) 0 (fun _ => 0) (fun _ => 0) 0 0 (fun _ => 0) (fun _ => 0) (fun _ => 0) (fun _ => 0) (fun _ => 0)
abbrev s80 : S8 := S8.mk 0 0 0 1 0 1 0 0 0 0 0 0 0 0 0 0 0 0 (fun _ => 0) (fun _ => 0) (fun _ => 0) (fun _ => 0) (fun _ => 0) (fun _ => 0) (fun _ => 0) (fun _ => 0) (fun _ => 0) (fun _ => 0) (fun _ => 0) (fun _ => 0) (fun _ => 0) (fun _ => 0) (fun _ => 0)
theorem INV_0 : INV 0 s70 s80 := by
  have ag : ∀ f g : Nat → Int32, AG 0 f g := fun f g j hj => absurd hj (Nat.not_lt_zero _)
  refine ⟨⟨0, by omega, rfl, rfl, ag _ _⟩, ⟨0, by omega, rfl, rfl, ag _ _, ag _ _, fun j hj => absurd hj (Nat.not_lt_zero _)⟩, rfl, 0, ⟨rfl, rfl, rfl, rfl, rfl, ag _ _, ag _ _, by omega, fun w hw => absurd hw (Nat.not_lt_zero _), fun w hw => absurd hw (Nat.not_lt_zero _)⟩, ⟨ag _ _, ag _ _, ag _ _, rfl, rfl⟩,
    ⟨⟨fun i => i, fun j hj => absurd hj (Nat.not_lt_zero _), fun i j _ _ h => h⟩, fun w hw => absurd hw (Nat.not_lt_zero _), fun w hw => absurd hw (Nat.not_lt_zero _), ⟨0, Nat.le_refl _, rfl⟩, 0, by decide, rfl⟩, RA_0, fun k hk => ⟨?_, fun h => ?_⟩⟩
  · show (0 : Int32) = db 0 k
    rw [db0 k (by omega)]
  · have h : db 0 k = 1 := h
    rw [db0 k (by omega)] at h
    exact absurd h (by decide)
theorem wL_r2 : ∀ w ∈ wsL_law_r2, w ∈ wsL_law := fun _ h => List.mem_append_left _ (List.mem_append_left _ (List.mem_append_left _ (List.mem_append_left _ (List.mem_append_left _ (List.mem_append_left _ (List.mem_append_left _ (List.mem_append_left _ (List.mem_append_left _ (List.mem_append_left _ (List.mem_append_right _ (List.mem_append_left _ h)))))))))))
theorem nw_in : ∀ w ∈ nwL.map (fun q => Cond.methodLinkNest q.1 q.2.1 q.2.2.1 q.2.2.2), w ∈ lw_tbl := mem_ix _ [60, 74, 140, 241, 268, 275, 297, 302, 337, 356, 389, 418, 519, 555, 656, 676, 681, 682, 705, 706] (by decide +kernel)
theorem nf_in : ∀ w ∈ nwG.map (fun q => Cond.fieldLinkNest q.1 q.2 "PassInStep" "FACTORIALS" "[I" "PassInStep"), w ∈ lw_tbl := mem_ix _ [516, 524] (by decide +kernel)
theorem ls_in : ∀ w ∈ [Cond.laysStatic "PassInStep" "FACTORIALS" "[I", Cond.arrayClass .int, Cond.arrayClass .boolean], w ∈ lw_tbl := mem_ix _ [517, 71, 864] (by decide +kernel)
theorem arr_K {args : Array Value} {s : State} {ty : FieldType} (hty : ∀ C, ty ≠ .object C) (h : (Cond.arrayClass ty).before args s = true) : ∃ cA : ClassId, ArrOfT s cA ty ∧ va_RA s cA ty := by
  obtain ⟨cA, kA, comp, h1, h2, h3⟩ := Cond.arrayClass_spec h
  refine ⟨cA, fun n z => ⟨fun k h => (by cases h), kA, h2, comp, h3⟩, ?_⟩
  cases ty with
  | object C => exact absurd rfl (hty C)
  | _ => exact h1
set_option maxHeartbeats 4000000 in
set_option maxRecDepth 100000 in
theorem fac_FS {s : State} {b : Nat} {A : Nat → Prop} (hini : (Cond.initialized "PassInStep").before #[Value.ref b] s = true) (hls : (Cond.laysStatic "PassInStep" "FACTORIALS" "[I").before #[Value.ref b] s = true) (hgv : (Jvm.Cond.and given_1 narrow_1).before #[Value.ref b] s = true) (hA : ∀ a : Nat, a < s.heap.size → ¬ A a) : ∃ tF, FS tF A s := by
  have hf := flat_of_before _ hgv
  have harr : (Cond.arrayOf (.static "PassInStep" "FACTORIALS" "[I") .int).before #[Value.ref b] s = true := hf _ (by decide +kernel)
  have hlen : (Cond.eq (.length (.static "PassInStep" "FACTORIALS" "[I")) (.int 6)).before #[Value.ref b] s = true := hf _ (by decide +kernel)
  have e0 : (Cond.eq (.elem (.static "PassInStep" "FACTORIALS" "[I") (.int 0)) (.int 1)).before #[Value.ref b] s = true := hf _ (by decide +kernel)
  have e1 : (Cond.eq (.elem (.static "PassInStep" "FACTORIALS" "[I") (.int 1)) (.int 1)).before #[Value.ref b] s = true := hf _ (by decide +kernel)
  have e2 : (Cond.eq (.elem (.static "PassInStep" "FACTORIALS" "[I") (.int 2)) (.int 2)).before #[Value.ref b] s = true := hf _ (by decide +kernel)
  have e3 : (Cond.eq (.elem (.static "PassInStep" "FACTORIALS" "[I") (.int 3)) (.int 6)).before #[Value.ref b] s = true := hf _ (by decide +kernel)
  have e4 : (Cond.eq (.elem (.static "PassInStep" "FACTORIALS" "[I") (.int 4)) (.int 24)).before #[Value.ref b] s = true := hf _ (by decide +kernel)
  have e5 : (Cond.eq (.elem (.static "PassInStep" "FACTORIALS" "[I") (.int 5)) (.int 120)).before #[Value.ref b] s = true := hf _ (by decide +kernel)
  obtain ⟨t, ht, hT⟩ := va_Tof (tm := .static "PassInStep" "FACTORIALS" "[I") (ty := .int) (N := 6) (f := fun j => .int (fF j)) (A := A) (by decide) harr (va_eqt hlen) (fun j hj => by
    rcases (show j = 0 ∨ j = 1 ∨ j = 2 ∨ j = 3 ∨ j = 4 ∨ j = 5 by omega) with rfl | rfl | rfl | rfl | rfl | rfl
    · exact va_eqt e0
    · exact va_eqt e1
    · exact va_eqt e2
    · exact va_eqt e3
    · exact va_eqt e4
    · exact va_eqt e5) hA
  exact ⟨t, va_Zof hls hini ht hA, hT⟩
set_option maxHeartbeats 4000000 in
set_option maxRecDepth 100000 in
theorem whole_start {p : Program} {e : Env} {s : State} {m : MethodId} {below : List Frame} {meth : Method} {c : Code} (l : Launch) {b L : Nat} {xs : Nat → Int32} (hL : L ≤ 2048) (C0 : lw_At p s m meth c b L xs) : W p l e room_1 s m #[Value.ref b] below meth c s.heap [] 0 0 (lw_Z below #[Value.ref b] s) (entryFrame m ([Value.ref b] : List Value).toArray 4) := by
  obtain ⟨hx, hb, hr, hml, hown, hts0, hX, hbl, hlocks, hgv⟩ := id C0
  have hts : ∀ w ∈ wsL_law, w.before #[Value.ref b] s = true := fun w h => hts0 w (wsL_law_in w h)
  have CF : CallFix p m c cL_law 4 s #[Value.ref b] wsL_law RL := ⟨hx, hb, hml, hown, hts⟩
  have hA : ∀ q : Nat, s.heap.size ≤ q → (fun q : Nat => s.heap.size ≤ q) q := fun _ h => h
  obtain ⟨c0, iS0, hKn0⟩ := u_known (C := RX0) (T := TX0) (N := 5) (n := 5) hts inlX0 (hts _ (wL_r2 (.instantiable RX0 5) (by decide +kernel)))
  obtain ⟨c1, iS1, hKn1⟩ := u_known (C := RX1) (T := TX1) (N := 3) (n := 3) hts inlX1 (hts _ (wL_r2 (.instantiable RX1 3) (by decide +kernel)))
  obtain ⟨c2, iS2, hKn2⟩ := u_known (C := RX2) (T := TX2) (N := 3) (n := 3) hts inlX2 (hts _ (wL_r2 (.instantiable RX2 3) (by decide +kernel)))
  obtain ⟨c3, iS3, hKn3⟩ := u_known (C := RX3) (T := TX3) (N := 6) (n := 6) hts inlX3 (hts _ (wL_r1 (.instantiable RX3 6) (by decide +kernel)))
  obtain ⟨c4, iS4, hKn4⟩ := u_known (C := RX4) (T := TX4) (N := 1) (n := 1) hts inlX4 (hts _ (wL_r2 (.instantiable RX4 1) (by decide +kernel)))
  obtain ⟨c5, iS5, hKn5⟩ := u_known (C := RX5) (T := TX5) (N := 2) (n := 2) hts inlX5 (hts _ (wL_r1 (.instantiable RX5 2) (by decide +kernel)))
  obtain ⟨c6, iS6, hKn6⟩ := u_known (C := RX6) (T := TX6) (N := 6) (n := 6) hts inlX6 (hts _ (wL_r1 (.instantiable RX6 6) (by decide +kernel)))
  obtain ⟨c7, iS7, hKn7⟩ := u_known (C := RX7) (T := TX7) (N := 12) (n := 12) hts inlX7 (hts _ (wL_r1 (.instantiable RX7 12) (by decide +kernel)))
  obtain ⟨c8, iS8, hKn8⟩ := u_known (C := RX8) (T := TX8) (N := 33) (n := 33) hts inlX8 (hts _ (wL_r1 (.instantiable RX8 33) (by decide +kernel)))
  obtain ⟨dC, dI, hKc⟩ : ∃ (dC : Nat → ClassId) (dI : Nat → Nat → Nat), ∀ (k : Nat) (q : vw_C), vwCl[k]? = some q → u_Kn s q.1 q.2.1 q.2.2 (dC k) (dI k) := by
    refine ⟨fun k => if k = 0 then c0 else if k = 1 then c1 else if k = 2 then c2 else if k = 3 then c3 else if k = 4 then c4 else if k = 5 then c5 else if k = 6 then c6 else if k = 7 then c7 else c8, fun k => if k = 0 then iS0 else if k = 1 then iS1 else if k = 2 then iS2 else if k = 3 then iS3 else if k = 4 then iS4 else if k = 5 then iS5 else if k = 6 then iS6 else if k = 7 then iS7 else iS8, ?_⟩
    intro k q hq
    match k, hq with
    | 0, hq => cases hq; exact hKn0
    | 1, hq => cases hq; exact hKn1
    | 2, hq => cases hq; exact hKn2
    | 3, hq => cases hq; exact hKn3
    | 4, hq => cases hq; exact hKn4
    | 5, hq => cases hq; exact hKn5
    | 6, hq => cases hq; exact hKn6
    | 7, hq => cases hq; exact hKn7
    | 8, hq => cases hq; exact hKn8
    | k + 9, hq => simp [vwCl] at hq
  obtain ⟨cI, hI1, hI2⟩ := arr_K (ty := .int) (fun C h => by cases h) (hts0 _ (ls_in (.arrayClass .int) (by decide +kernel)))
  obtain ⟨cZ, hZ1, hZ2⟩ := arr_K (ty := .boolean) (fun C h => by cases h) (hts0 _ (ls_in (.arrayClass .boolean) (by decide +kernel)))
  have hK : KK (dC, dI) cI cZ s := by
    refine ⟨⟨hKc, fun k q hk => ?_⟩, fun q hq => ?_, fun q hq => ?_⟩
    · match k, hk with
      | 0, hk => cases hk; exact ⟨hI1, hI2⟩
      | 1, hk => cases hk; exact ⟨hZ1, hZ2⟩
      | k + 2, hk => simp at hk
    · exact va_Nw.of rfl (hts0 _ (nw_in _ (List.mem_map.mpr ⟨q, hq, rfl⟩)))
    · exact va_Nw.of rfl (hts0 _ (nf_in _ (List.mem_map.mpr ⟨q, hq, rfl⟩)))
  obtain ⟨tF, hF⟩ := fac_FS (A := fun q : Nat => s.heap.size ≤ q) (hts (.initialized RX7) (wL_r1 _ (by decide +kernel))) (hts0 _ (ls_in (.laysStatic "PassInStep" "FACTORIALS" "[I") (by decide +kernel))) hgv (fun a ha => Nat.not_le.mpr ha)
  have X : LC p s m c b L xs dC dI cI cZ tF := ⟨hx, CF, hX, hbl, hL, hK, hF⟩
  have hS : va_S (fun q : Nat => s.heap.size ≤ q) s.heap s.heap [] := va_S.rf
  have hP : va_P (dC, dI) vwCl [] s.heap := fun k q h => by simp at h
  have hD : va_D (fun q : Nat => s.heap.size ≤ q) [] := ⟨fun i j p q h => by simp at h, fun k q h => by simp at h⟩
  have hl := lv_entry ([.ref b]) (n := 4) (Nat.le_of_ble_eq_true rfl)
  rw [lg_entry_eq]
  generalize (lg_sl ([.ref b]) ++ List.replicate (4 - (lg_sl ([.ref b])).length) Slot.unset).toArray = ls at hl ⊢
  have hl : lv_has ls 4 [(0, .ref b)] := hl
  have w_0 := hts (.classLink RL 7 RX7) (wL_r1 _ (by decide +kernel))
  have w_1 := hts (.instantiable RX7 12) (wL_r1 _ (by decide +kernel))
  have w_2 := hts (.initialized RX7) (wL_r1 _ (by decide +kernel))
  have w_3 := hts (.methodLink RL 9 yX7_init) (wL_r1 _ (by decide +kernel))
  have w_4 := hts (.instanceMethod yX7_init) (wL_r1 _ (by decide +kernel))
  have w_5 := hts (.classLink RL 10 RX8) (wL_r1 _ (by decide +kernel))
  have w_6 := hts (.instantiable RX8 33) (wL_r1 _ (by decide +kernel))
  have w_7 := hts (.initialized RX8) (wL_r1 _ (by decide +kernel))
  have w_8 := hts (.methodLink RL 12 yX8_init) (wL_r45 _ (by decide +kernel))
  have w_9 := hts (.instanceMethod yX8_init) (wL_r45 _ (by decide +kernel))
  refine va_new (ci := 7) (fs := [.null, .null, .null, .null, .null, .null, .null, .null, .int 0, .int 0, .int 0, .long 0]) (C := RX7) (T := TX7) (N := 12) hx hb hts inlX7 tyX7 tyX7_ok hown w_0 w_1 w_2 hK.1 hP hD hS hA rfl (fun j hj => by rcases (show j = 0 ∨ j = 1 ∨ j = 2 ∨ j = 3 ∨ j = 4 ∨ j = 5 ∨ j = 6 ∨ j = 7 ∨ j = 8 ∨ j = 9 ∨ j = 10 ∨ j = 11 by omega) with rfl | rfl | rfl | rfl | rfl | rfl | rfl | rfl | rfl | rfl | rfl | rfl <;> rfl) (Nat.le_of_ble_eq_true rfl) (Nat.le_of_ble_eq_true rfl) dL_law_0 (fun q0 H hP hD hS => ?_)
  replace hP : va_P (dC, dI) vwCl [(q0, .inr (7, [.null, .null, .null, .null, .null, .null, .null, .null, .int 0, .int 0, .int 0, .long 0]))] H := hP
  replace hD : va_D (fun q : Nat => s.heap.size ≤ q) [(q0, .inr (7, [.null, .null, .null, .null, .null, .null, .null, .null, .int 0, .int 0, .int 0, .long 0]))] := hD
  refine W.widen (k := 1) (n := 12) (Nat.le_refl _) (Nat.le_refl _) ?_
  refine lv_dup hx hb dL_law_3 rfl ?_
  refine kIc (As := []) (wr := []) CF (cwI 0 hts gL_law_X7_init rfl rfl rfl w_2 w_3 w_4 rfl (by decide +kernel) ⟨Nat.le_of_ble_eq_true rfl, Nat.le_of_ble_eq_true rfl⟩) PU_blind hP hD hS hA [0] [] (fun h1 h2 h3 => PU_pre hK h1 _ h2 h3) (c_X7_init l dC dI cI cZ q0 _) rfl rfl rfl rfl (by decide) rfl hl.1 rfl (Nat.le_of_ble_eq_true rfl) dL_law_4 ⟨Nat.le_of_ble_eq_true rfl, Nat.le_of_ble_eq_true rfl⟩ (fun u H1 locs1 hP1 hD1 hS1 => ?_)
  have hP2 : va_P (dC, dI) vwCl (w7 cI (A7.mk q0 u.1 u.2.1 u.2.2.1 u.2.2.2.1 u.2.2.2.2.1 u.2.2.2.2.2.1 u.2.2.2.2.2.2.1 u.2.2.2.2.2.2.2.1 u.2.2.2.2.2.2.2.2.1 u.2.2.2.2.2.2.2.2.2.1 u.2.2.2.2.2.2.2.2.2.2.1 u.2.2.2.2.2.2.2.2.2.2.2.1 u.2.2.2.2.2.2.2.2.2.2.2.2.1 u.2.2.2.2.2.2.2.2.2.2.2.2.2.1 u.2.2.2.2.2.2.2.2.2.2.2.2.2.2.1 u.2.2.2.2.2.2.2.2.2.2.2.2.2.2.2.1 u.2.2.2.2.2.2.2.2.2.2.2.2.2.2.2.2.1 u.2.2.2.2.2.2.2.2.2.2.2.2.2.2.2.2.2.1 u.2.2.2.2.2.2.2.2.2.2.2.2.2.2.2.2.2.2.1 u.2.2.2.2.2.2.2.2.2.2.2.2.2.2.2.2.2.2.2.1 u.2.2.2.2.2.2.2.2.2.2.2.2.2.2.2.2.2.2.2.2.1 u.2.2.2.2.2.2.2.2.2.2.2.2.2.2.2.2.2.2.2.2.2.1 u.2.2.2.2.2.2.2.2.2.2.2.2.2.2.2.2.2.2.2.2.2.2.1 u.2.2.2.2.2.2.2.2.2.2.2.2.2.2.2.2.2.2.2.2.2.2.2) s70) H1 := hP1
  have hD2 : va_D (fun q : Nat => s.heap.size ≤ q) (w7 cI (A7.mk q0 u.1 u.2.1 u.2.2.1 u.2.2.2.1 u.2.2.2.2.1 u.2.2.2.2.2.1 u.2.2.2.2.2.2.1 u.2.2.2.2.2.2.2.1 u.2.2.2.2.2.2.2.2.1 u.2.2.2.2.2.2.2.2.2.1 u.2.2.2.2.2.2.2.2.2.2.1 u.2.2.2.2.2.2.2.2.2.2.2.1 u.2.2.2.2.2.2.2.2.2.2.2.2.1 u.2.2.2.2.2.2.2.2.2.2.2.2.2.1 u.2.2.2.2.2.2.2.2.2.2.2.2.2.2.1 u.2.2.2.2.2.2.2.2.2.2.2.2.2.2.2.1 u.2.2.2.2.2.2.2.2.2.2.2.2.2.2.2.2.1 u.2.2.2.2.2.2.2.2.2.2.2.2.2.2.2.2.2.1 u.2.2.2.2.2.2.2.2.2.2.2.2.2.2.2.2.2.2.1 u.2.2.2.2.2.2.2.2.2.2.2.2.2.2.2.2.2.2.2.1 u.2.2.2.2.2.2.2.2.2.2.2.2.2.2.2.2.2.2.2.2.1 u.2.2.2.2.2.2.2.2.2.2.2.2.2.2.2.2.2.2.2.2.2.1 u.2.2.2.2.2.2.2.2.2.2.2.2.2.2.2.2.2.2.2.2.2.2.1 u.2.2.2.2.2.2.2.2.2.2.2.2.2.2.2.2.2.2.2.2.2.2.2) s70) := hD1
  clear hP1 hD1 hP hD
  refine W.widen (k := 25) (n := 425) (Nat.le_refl _) (Nat.le_refl _) ?_
  generalize ea : A7.mk q0 u.1 u.2.1 u.2.2.1 u.2.2.2.1 u.2.2.2.2.1 u.2.2.2.2.2.1 u.2.2.2.2.2.2.1 u.2.2.2.2.2.2.2.1 u.2.2.2.2.2.2.2.2.1 u.2.2.2.2.2.2.2.2.2.1 u.2.2.2.2.2.2.2.2.2.2.1 u.2.2.2.2.2.2.2.2.2.2.2.1 u.2.2.2.2.2.2.2.2.2.2.2.2.1 u.2.2.2.2.2.2.2.2.2.2.2.2.2.1 u.2.2.2.2.2.2.2.2.2.2.2.2.2.2.1 u.2.2.2.2.2.2.2.2.2.2.2.2.2.2.2.1 u.2.2.2.2.2.2.2.2.2.2.2.2.2.2.2.2.1 u.2.2.2.2.2.2.2.2.2.2.2.2.2.2.2.2.2.1 u.2.2.2.2.2.2.2.2.2.2.2.2.2.2.2.2.2.2.1 u.2.2.2.2.2.2.2.2.2.2.2.2.2.2.2.2.2.2.2.1 u.2.2.2.2.2.2.2.2.2.2.2.2.2.2.2.2.2.2.2.2.1 u.2.2.2.2.2.2.2.2.2.2.2.2.2.2.2.2.2.2.2.2.2.1 u.2.2.2.2.2.2.2.2.2.2.2.2.2.2.2.2.2.2.2.2.2.2.1 u.2.2.2.2.2.2.2.2.2.2.2.2.2.2.2.2.2.2.2.2.2.2.2 = a at hP2 hD2
  have ea0 : q0 = a.t := by rw [← ea]
  subst ea0
  refine lv_astore_n (lv' := [(1, .ref a.t), (0, .ref b)]) hx hb dL_law_7 rfl hl (by decide) rfl (fun ls hl => ?_)
  refine va_new (ci := 8) (fs := [.int 0, .null, .int 0, .int 0, .int 0, .int 0, .int 0, .int 0, .null, .null, .null, .int 0, .null, .null, .null, .null, .int 0, .null, .null, .int 0, .null, .null, .long 0, .int 0, .null, .int 0, .int 0, .int 0, .int 0, .int 0, .int 0, .null, .null]) (C := RX8) (T := TX8) (N := 33) hx hb hts inlX8 tyX8 tyX8_ok hown w_5 w_6 w_7 hK.1 hP2 hD2 hS1 hA rfl (fun j hj => by rcases (show j = 0 ∨ j = 1 ∨ j = 2 ∨ j = 3 ∨ j = 4 ∨ j = 5 ∨ j = 6 ∨ j = 7 ∨ j = 8 ∨ j = 9 ∨ j = 10 ∨ j = 11 ∨ j = 12 ∨ j = 13 ∨ j = 14 ∨ j = 15 ∨ j = 16 ∨ j = 17 ∨ j = 18 ∨ j = 19 ∨ j = 20 ∨ j = 21 ∨ j = 22 ∨ j = 23 ∨ j = 24 ∨ j = 25 ∨ j = 26 ∨ j = 27 ∨ j = 28 ∨ j = 29 ∨ j = 30 ∨ j = 31 ∨ j = 32 by omega) with rfl | rfl | rfl | rfl | rfl | rfl | rfl | rfl | rfl | rfl | rfl | rfl | rfl | rfl | rfl | rfl | rfl | rfl | rfl | rfl | rfl | rfl | rfl | rfl | rfl | rfl | rfl | rfl | rfl | rfl | rfl | rfl | rfl <;> rfl) (Nat.le_of_ble_eq_true rfl) (Nat.le_of_ble_eq_true rfl) dL_law_8 (fun q1 H3 hP3 hD3 hS3 => ?_)
  refine W.widen (k := 26) (n := 458) (Nat.le_refl _) (Nat.le_refl _) ?_
  refine lv_dup hx hb dL_law_11 rfl ?_
  refine kIc (As := []) (wr := w7 cI a s70) CF (cwI 0 hts gL_law_X8_init rfl rfl rfl w_7 w_8 w_9 rfl (by decide +kernel) ⟨Nat.le_of_ble_eq_true rfl, Nat.le_of_ble_eq_true rfl⟩) PU_blind hP3 hD3 hS3 hA [25] [0, 1, 2, 3, 4, 5, 6, 7, 8, 9, 10, 11, 12, 13, 14, 15, 16, 17, 18, 19, 20, 21, 22, 23, 24] (fun h1 h2 h3 => PU_pre hK h1 _ h2 h3) (c_X8_init l dC dI cI cZ q1 _) rfl rfl rfl rfl (by decide) rfl hl.1 rfl (Nat.le_of_ble_eq_true rfl) dL_law_12 ⟨Nat.le_of_ble_eq_true rfl, Nat.le_of_ble_eq_true rfl⟩ (fun v H5 locs5 hP5 hD5 hS5 => ?_)
  have hP6 : va_P (dC, dI) vwCl (w7 cI a s70 ++ w8 cI cZ (A8.mk q1 v.1 v.2.1 v.2.2.1 v.2.2.2.1 v.2.2.2.2.1 v.2.2.2.2.2.1 v.2.2.2.2.2.2.1 v.2.2.2.2.2.2.2.1 v.2.2.2.2.2.2.2.2.1 v.2.2.2.2.2.2.2.2.2.1 v.2.2.2.2.2.2.2.2.2.2.1 v.2.2.2.2.2.2.2.2.2.2.2.1 v.2.2.2.2.2.2.2.2.2.2.2.2.1 v.2.2.2.2.2.2.2.2.2.2.2.2.2.1 v.2.2.2.2.2.2.2.2.2.2.2.2.2.2) s80) H5 := hP5
  have hD6 : va_D (fun q : Nat => s.heap.size ≤ q) (w7 cI a s70 ++ w8 cI cZ (A8.mk q1 v.1 v.2.1 v.2.2.1 v.2.2.2.1 v.2.2.2.2.1 v.2.2.2.2.2.1 v.2.2.2.2.2.2.1 v.2.2.2.2.2.2.2.1 v.2.2.2.2.2.2.2.2.1 v.2.2.2.2.2.2.2.2.2.1 v.2.2.2.2.2.2.2.2.2.2.1 v.2.2.2.2.2.2.2.2.2.2.2.1 v.2.2.2.2.2.2.2.2.2.2.2.2.1 v.2.2.2.2.2.2.2.2.2.2.2.2.2.1 v.2.2.2.2.2.2.2.2.2.2.2.2.2.2) s80) := hD5
  clear hP5 hD5 hP3 hD3
  refine W.widen (k := 41) (n := 899) (Nat.le_refl _) (Nat.le_refl _) ?_
  generalize ed : A8.mk q1 v.1 v.2.1 v.2.2.1 v.2.2.2.1 v.2.2.2.2.1 v.2.2.2.2.2.1 v.2.2.2.2.2.2.1 v.2.2.2.2.2.2.2.1 v.2.2.2.2.2.2.2.2.1 v.2.2.2.2.2.2.2.2.2.1 v.2.2.2.2.2.2.2.2.2.2.1 v.2.2.2.2.2.2.2.2.2.2.2.1 v.2.2.2.2.2.2.2.2.2.2.2.2.1 v.2.2.2.2.2.2.2.2.2.2.2.2.2.1 v.2.2.2.2.2.2.2.2.2.2.2.2.2.2 = d at hP6 hD6
  have ed0 : q1 = d.t := by rw [← ed]
  subst ed0
  refine lv_astore_n (lv' := [(2, .ref d.t), (1, .ref a.t), (0, .ref b)]) hx hb dL_law_15 rfl hl (by decide) rfl (fun ls hl => ?_)
  refine lv_iconst (v := 0) hx hb dL_law_16 (by decide) ?_
  refine lv_istore_n (lv' := [(3, .int 0), (2, .ref d.t), (1, .ref a.t), (0, .ref b)]) hx hb dL_law_17 rfl hl (by decide) rfl (fun ls hl => ?_)
  exact law_loop X hr hlocks (L + 1) 0 0 s70 s80 H5 _ ls (Nat.zero_le L) (by omega) (Nat.le_refl 0) INV_0 hP6 hD6 hS5 (lv_sub hl [3, 2, 1, 0] rfl)
