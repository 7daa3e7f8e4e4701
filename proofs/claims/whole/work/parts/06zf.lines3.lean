theorem ord_0 : ∀ n, n < 6 → ∀ j, j < n → pfn (ord n 0) j = nI j := by decide +kernel
theorem m_24 {n : Nat} (hn : n ≤ 5) (dep noo lat stm lm lo : Int32) (P Q K B o : Nat → Int32) : ∀ (k j fu : Nat), j + k = n → k < fu → L_X8_findLines_24 dep noo lat (nI n) stm lm lo P Q K B fu (nI j) (cpy j nI o) = if nI n ≤ 0 then J_X8_findLines_57 0 dep noo lat (nI n) stm lm lo (cpy n nI o) P Q K B else J_X8_findLines_57 1 dep noo lat (nI n) stm lm lo (cpy n nI o) P Q K B
  | k, j, 0, _, h => absurd h (Nat.not_lt_zero _)
  | 0, j, fu + 1, hj, _ => by
    have : j = n := by omega
    subst this
    rw [L_X8_findLines_24, if_pos (nI_le (Nat.le_refl _) (by omega))]
  | k + 1, j, fu + 1, hj, hf => by
    have ih := m_24 hn dep noo lat stm lm lo P Q K B o k (j + 1) fu (by omega) (by omega)
    rw [L_X8_findLines_24, if_neg (nI_ge (by omega) (by omega)), q_wr _ _ (by omega) (by omega), ob, nI_1, cpy_s]
    exact ih
theorem op_lines (x th stm lm lo : Int32) {n T : Nat} {tc dC nC lC wM dM nM lM td tst : Int32} {kC bC kM bM lnC sC srC P : Nat → Int32} (fd fs : Int32) (fl fst fsr Q o : Nat → Int32) (hP : PTY n tc dC nC lC kC bC wM dM nM lM kM bM) (hY : RY n lnC sC srC td tst P) (hG : GP n T P) (hT : T < 2 ^ 18) :
    ∃ r fd' fs' fl' fst' fsr' th' stm' lm' lo' o' Q', f_X7_lines x tc dC nC lC fd fs td tst lnC fl sC fst srC fsr kC bC = some (r, fd', fs', fl', fst', fsr') ∧ f_X8_lines x th dM nM lM wM stm lm lo o P Q kM bM = some (r, th', stm', lm', lo', o', Q') := by
  obtain ⟨rfl, rfl, rfl, rfl, rfl, hk, hb, hR⟩ := hP
  obtain ⟨y1, y2, y3, rfl, rfl⟩ := hY
  have hS := hG.sok
  obtain ⟨⟨ln, hl⟩, -, -, ⟨t, ht, h16⟩, -⟩ := id hG
  have hn := hR.1
  unfold f_X7_lines f_X8_lines f_X1_bestLine f_X8_findLines J_X8_findLines_14
  rw [h16]
  by_cases h0 : n = 0
  · subst h0
    obtain ⟨w, ew, hw⟩ := c_setOrder (n := 0) (r := 0) (by omega) (by decide) (cpy 5 lnC fl)
    have hC := c_goOn 0 6 t (fun j => 0) kM (fun w => P (5 + w)) bM kC (cpy 5 sC fst) bC w dC nC lC (P 15) hR (fun j hj => absurd hj (Nat.not_lt_zero _)) hk ((AG_cpy hn sC fst).tr y2) hb (by omega) (by omega)
    obtain ⟨q, hq, eq⟩ := sb_lt (n := 0) (by omega) (gs 0 (fun j => 0) kM (fun w => P (5 + w)) bM 0 dC nC lC 6 (P 15) t)
    have q0 : q = 0 := by have : 2 ^ 0 = 1 := rfl
                          omega
    subst q0
    have hc : L_X1_bestLine_7 x (nI 0) dC nC lC (P 15) (nI t) lnC sC srC kC bC fuelC (-1) 0 0 fd fs fl fst fsr = some (0, gs 0 (fun j => 0) kM (fun w => P (5 + w)) bM 0 dC nC lC 6 (P 15) t, nI (t + 6), w, cpy 5 sC fst, cpy 5 srC fsr) := by
      obtain ⟨f, hf⟩ : ∃ f, fuelC = f + 1 + 1 := ⟨3998, rfl⟩
      rw [hf, L_X1_bestLine_7, c_size, ob, (ways_at 0 (by omega)).2, ob, if_neg (by decide), c_copyFrom, ob]
      dsimp only
      rw [← nI_0, ew, ob, show (6 : Int32) = nI 6 from rfl, hC, ob]
      dsimp only
      rw [c_standing _ hn, ob, ob, c_figures hn, ob, eq, if_neg (by decide)]
      unfold J_X1_bestLine_78
      rw [L_X1_bestLine_7, c_size, ob, (ways_at 0 (by omega)).2, ob, if_pos (by decide)]
      rw [show pc (nI 0) = nI 0 by decide, show fg w 0 0 0 = 0 from rfl, nI_0]
      by_cases hx : x = 0
      · rw [if_pos hx]
      · rw [if_neg hx]
    have hL := m_24 hn dC nC lC stm 0 0 P Q kM bM o 0 0 fuelC (by omega) (fuel_lt (by omega))
    rw [if_pos (show nI 0 ≤ 0 by decide), cpy_0, nI_0] at hL
    have hm : J_X8_findLines_57 0 dC nC lC 0 stm 0 0 o P Q kM bM = some (stm, 0, 0, o, Q) := by
      obtain ⟨f, hf⟩ : ∃ f, fuelC = f + 1 := ⟨3999, rfl⟩
      unfold J_X8_findLines_57
      rw [hf, L_X8_findLines_58, if_pos z00]
    rw [hm] at hL
    rw [hc, ob, nI_0, if_pos z00, hL, ob]
    dsimp only
    by_cases hx : x = 0
    · rw [if_pos hx]; exact ⟨_, _, _, _, _, _, _, _, _, _, _, _, rfl, rfl⟩
    · rw [if_neg hx]; exact ⟨_, _, _, _, _, _, _, _, _, _, _, _, rfl, rfl⟩
  · have hf := fn_le n
    obtain ⟨R, F, fd', fs', fl', fst', fsr', stm', o', Q', k1, k2⟩ := lines_loop x (by omega) hR h16 (by omega) y2 hk hb hS (lnC := lnC) (srC := srC) (dC := dC) (nC := nC) (lC := lC) (fn n) 0 fuelC fuelC (-1) (-9) 0 fd fs stm fl fst fsr (cpy n nI o) Q (by omega) (fuel_lt (by omega)) (fuel_lt (by omega)) (fun _ j hj => by rw [cpy_in hj, ord_0 n (by omega) j hj]) (Or.inr ⟨rfl, rfl, hf.2⟩)
    rw [nI_0] at k1
    have hL := m_24 hn dC nC lC stm (-9) 0 P Q kM bM o n 0 fuelC (by omega) (fuel_lt (by omega))
    rw [if_neg (show ¬ nI n ≤ 0 from q_nle.mpr ((i_gt (x := nI n) (k := 0) (by omega)).mpr (by rw [nI_toInt (by omega)]; omega))), cpy_0, nI_0] at hL
    rw [if_pos hf.2] at k2
    rw [k1, ob, if_neg (q_ne0 (b := n) (by omega) (by omega)), hL]
    unfold J_X8_findLines_57
    rw [k2, ob]
    dsimp only
    by_cases hx : x = 0
    · rw [if_pos hx, if_pos hx]; exact ⟨_, _, _, _, _, _, _, _, _, _, _, _, rfl, rfl⟩
    · rw [if_neg hx, if_neg hx]; exact ⟨_, _, _, _, _, _, _, _, _, _, _, _, rfl, rfl⟩
