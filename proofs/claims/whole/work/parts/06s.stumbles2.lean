theorem op_stumbles (x1 x2 u th stm : Int32) {n T : Nat} {tc dC nC lC wM dM nM lM td tst : Int32} {kC bC kM bM lnC sC srC P : Nat → Int32} (fd fs : Int32) (fl fst fsr Q : Nat → Int32) (hP : PTY n tc dC nC lC kC bC wM dM nM lM kM bM) (hY : RY n lnC sC srC td tst P) (hG : GP n T P) (hT : T < 2 ^ 19) :
    ∃ r fd' fs' fl' fst' fsr' th' stm' Q', f_X7_stumbles x1 x2 u tc dC nC lC fd fs td tst lnC fl sC fst srC fsr kC bC = some (r, fd', fs', fl', fst', fsr') ∧ f_X8_stumbles x1 x2 u th dM nM lM wM stm P Q kM bM = some (r, th', stm', Q') := by
  obtain ⟨rfl, rfl, rfl, rfl, rfl, hk, hb, hR⟩ := hP
  obtain ⟨y1, y2, y3, rfl, rfl⟩ := hY
  have hS := hG.sok
  obtain ⟨⟨ln, hl⟩, -, -, ⟨t, ht, h16⟩, -⟩ := id hG
  have hn := hR.1
  unfold f_X7_stumbles f_X8_stumbles
  rw [show (0 : Int64) = lN 0 from rfl, show (5 : Int64) = lN 5 from rfl, show (10 : Int64) = lN 10 from rfl, m_in32 x1 0 5 (by omega) (by omega), m_in32 x2 0 10 (by omega) (by omega), ob, ob]
  have i1 : x1 < 0 ↔ x1.toInt < 0 := i_lt0
  have i2 : x2 < 0 ↔ x2.toInt < 0 := i_lt0
  have i3 : (5 : Int32) < x1 ↔ ((5 : Nat) : Int) < x1.toInt := i_gt (k := 5) (by omega)
  have i4 : x2 ≤ (10 : Int32) ↔ x2.toInt ≤ (10 : Nat) := i_le (k := 10) (by omega)
  by_cases h1 : x1.toInt < 0
  · rw [if_pos (i1.mpr h1), iv_f (by omega), if_pos z00]
    exact ⟨_, _, _, _, _, _, _, _, _, rfl, rfl⟩
  · rw [if_neg (fun e => h1 (i1.mp e))]
    by_cases h3 : ((5 : Nat) : Int) < x1.toInt
    · rw [if_pos (i3.mpr h3), iv_f (by omega), if_pos z00]
      exact ⟨_, _, _, _, _, _, _, _, _, rfl, rfl⟩
    · rw [if_neg (fun e => h3 (i3.mp e)), iv_t (by omega), if_neg one0]
      by_cases h2 : x2.toInt < 0
      · rw [if_pos (i2.mpr h2), iv_f (by omega), if_pos z00]
        exact ⟨_, _, _, _, _, _, _, _, _, rfl, rfl⟩
      · rw [if_neg (fun e => h2 (i2.mp e))]
        by_cases h4 : x2.toInt ≤ (10 : Nat)
        · rw [if_pos (i4.mpr h4), iv_t (by omega), if_neg one0]
          obtain ⟨x, -, hx, rfl⟩ := i_of (x := x2) (a := 0) (b := 10) (by omega) (by omega) (by omega)
          have hp := pn_le hn
          obtain ⟨R, fd', fs', fl', fst', fsr', Q', k1, k2, k3⟩ := st_loop x1 x u 0 (by omega) hR hl h16 (by omega) y1 y2 hk hb hS (srC := srC) (dC := dC) (nC := nC) (lC := lC) (2 ^ n) 0 fuelC fuelC 0 fd fs stm fl fst fsr Q (by omega) (fuel_lt (by omega)) (fuel_lt (by omega)) (by omega)
          rw [nI_0, ← h16] at k2
          rw [nI_0] at k3
          have hp10 : 0 < 10 ^ n ∧ 10 ^ n < 2 ^ 20 := by
            have : n = 0 ∨ n = 1 ∨ n = 2 ∨ n = 3 ∨ n = 4 ∨ n = 5 := by omega
            rcases this with rfl | rfl | rfl | rfl | rfl | rfl <;> decide
          obtain ⟨r, q1, q2⟩ := frac_both (nI R) u (10 ^ n) (by rw [nI_toInt (by omega)]; omega) hp10.1 hp10.2
          rw [pwr10 n (by omega), q2] at k3
          unfold f_X0_stumblesAbove
          refine ⟨r, fd', fs', fl', fst', fsr', 0, 0, Q', ?_, k3.trans (ob _ _)⟩
          rw [k2, ob]
          dsimp only
          rw [c_below (by omega), ob, pwr10 n (by omega), q1, ob]
        · rw [if_neg (fun e => h4 (i4.mp e)), iv_f (by omega), if_pos z00]
          exact ⟨_, _, _, _, _, _, _, _, _, rfl, rfl⟩
