/-! ===== judge ===== -/
theorem beg_ok {n T : Nat} {l s z P : Nat → Int32} {D t : Int32} (hn : n ≤ 5) (hY : RY n l s z D t P) (hG : GP n T P) (l0 s0 z0 Q : Nat → Int32) : RY n (cpy 5 l l0) (cpy 5 s s0) (cpy 5 z z0) D t (cpy 17 P Q) ∧ GP n T (cpy 17 P Q) := by
  have e : ∀ i, i < 17 → cpy 17 P Q i = P i := fun i hi => cpy_in hi
  obtain ⟨h1, h2, h3, h4, h5⟩ := RY_pg hn hY e
  exact ⟨⟨(AG_cpy hn _ _).tr h1, (AG_cpy hn _ _).tr h2, (AG_cpy hn _ _).tr h3, h4, h5⟩, GP_cong hn hG e⟩
theorem longPow_loop (m : Nat) (hm : m ≤ 4) : ∀ (k i fu : Nat), i + k = m → k < fu → L_X8_longPower_5 (1000 : Int64) (nI m) fu (lN (1000 ^ i)) (nI i) = some (lN (1000 ^ m))
  | k, i, 0, _, h => absurd h (Nat.not_lt_zero _)
  | 0, i, fu + 1, hj, _ => by
    have : i = m := by omega
    subst this
    rw [L_X8_longPower_5, if_pos (nI_leI (by omega) (by omega) |>.mpr (Nat.le_refl _))]
  | k + 1, i, fu + 1, hj, hf => by
    have ih := longPow_loop m hm k (i + 1) fu (by omega) (by omega)
    rw [L_X8_longPower_5, if_neg (nI_ge (by omega) (by omega)), show (1000 : Int64) = lN 1000 from rfl, lN_mul, nI_1, show 1000 ^ i * 1000 = 1000 ^ (i + 1) from (Nat.pow_succ 1000 i).symm]
    exact ih
theorem m_longPow (m : Nat) (hm : m ≤ 4) : f_X8_longPower (1000 : Int64) (nI m) = some (lN (1000 ^ m)) := by
  have h := longPow_loop m hm m 0 fuelC (by omega) (fuel_lt (by omega))
  rw [nI_0] at h
  exact h
theorem c_judge_loop (m : Nat) (hm : m ≤ 4) (x2 : Int64) (fd fs td ts c d nn lt : Int32) (l fl s fst z fsr kC bC : Nat → Int32) : ∀ (k i fu : Nat), i + k = m → k < fu →
    L_X7_judge_25 (nI m) x2 fd fs td ts l fl s fst z fsr c d nn lt kC bC fu (lN (1000 ^ i)) (nI i) = if (lg_cmp x2 (lN (1000 ^ m))) < 0 then f_X1_firstUndoable (lN (1000 ^ m)) x2 fd fs td ts l fl s fst z fsr c d nn lt kC bC else some ((-2), fd, fs, fl, fst, fsr)
  | k, i, 0, _, h => absurd h (Nat.not_lt_zero _)
  | 0, i, fu + 1, hj, _ => by
    have : i = m := by omega
    subst this
    rw [L_X7_judge_25, if_pos (nI_leI (by omega) (by omega) |>.mpr (Nat.le_refl _))]
    split
    · cases f_X1_firstUndoable (lN (1000 ^ i)) x2 fd fs td ts l fl s fst z fsr c d nn lt kC bC with
      | none => rfl
      | some o => rfl
    · rfl
  | k + 1, i, fu + 1, hj, hf => by
    have ih := c_judge_loop m hm x2 fd fs td ts c d nn lt l fl s fst z fsr kC bC k (i + 1) fu (by omega) (by omega)
    rw [L_X7_judge_25, if_neg (nI_ge (by omega) (by omega)), show (1000 : Int64) = lN 1000 from rfl, lN_mul, nI_1, show 1000 ^ i * 1000 = 1000 ^ (i + 1) from (Nat.pow_succ 1000 i).symm]
    exact ih
theorem p1000 {k : Nat} (h : k ≤ 4) : 0 < 1000 ^ k ∧ 1000 ^ k < 2 ^ 63 := by
  have : k = 0 ∨ k = 1 ∨ k = 2 ∨ k = 3 ∨ k = 4 := by omega
  rcases this with rfl | rfl | rfl | rfl | rfl <;> decide
theorem judge_loop (m row : Nat) (hm : m ≤ 4) (hrow : row < 2 ^ 63) (th : Int32) {n : Nat} {tc dC nC lC wM dM nM lM : Int32} {kC bC kM bM : Nat → Int32} (hn : n ≤ 5) (hP : PTY n tc dC nC lC kC bC wM dM nM lM kM bM) : ∀ (k i fu fu' T : Nat) (D t : Int32) (l s z p : Nat → Int32), i + k = m → k < fu → k < fu' → RY n l s z D t p → GP n T p → T + k < 2 ^ 19 →
    ∃ r fd' fs' fl' fst' fsr' th' stm' Q', L_X1_firstUndoable_21 (lN row) tc dC nC lC kC bC fu (nI i) (lN (1000 ^ k / 1000)) D t l s z = some (r, fd', fs', fl', fst', fsr') ∧ L_X8_judge_44 (nI m) (lN row) th dM nM lM wM 0 kM bM fu' (nI i) p = some (r, th', stm', Q')
  | k, i, 0, _, _, _, _, _, _, _, _, _, h, _, _, _, _ => absurd h (Nat.not_lt_zero _)
  | k, i, _, 0, _, _, _, _, _, _, _, _, _, h, _, _, _ => absurd h (Nat.not_lt_zero _)
  | 0, i, fu + 1, fu' + 1, T, D, t, l, s, z, p, hj, _, _, _, _, _ => by
    have : i = m := by omega
    subst this
    rw [L_X1_firstUndoable_21, L_X8_judge_44, if_pos (by decide), if_pos (nI_leI (by omega) (by omega) |>.mpr (Nat.le_refl _))]
    exact ⟨_, _, _, _, _, _, _, _, _, rfl, rfl⟩
  | k + 1, i, fu + 1, fu' + 1, T, D, t, l, s, z, p, hj, hf, hf', hY, hG, hT => by
    obtain ⟨q0, q1⟩ := p1000 (k := k) (by omega)
    have e1 : (1000 : Nat) ^ (k + 1) / 1000 = 1000 ^ k := by rw [Nat.pow_succ, Nat.mul_div_cancel _ (by omega)]
    have hu : ¬ lN (1000 ^ k) = (0 : Int64) := fun e => absurd ((pk_lEQ (b := 0) q1 (by omega)).mp e) (by omega)
    have hu2 : ¬ lg_cmp (lN (1000 ^ k)) (0 : Int64) ≤ 0 := q_nle.mpr ((lg_pos _ _).mpr ((pk_lLT (a := 0) (by omega) q1).mpr q0))
    have ef : ((lN row / lN (1000 ^ k)) - (lN row / lN (1000 ^ k)) / (1000 : Int64) * (1000 : Int64)).toInt32 = nI (row / 1000 ^ k % 1000) := by
      rw [pk_lDiv hrow q0 q1, show (1000 : Int64) = lN 1000 from rfl, pk_lRem (Nat.lt_of_le_of_lt (Nat.div_le_self _ _) hrow) (by omega) (by omega), lN_i]
    have hfl : row / 1000 ^ k % 1000 < 1000 := Nat.mod_lt _ (by omega)
    obtain ⟨r, D', t', z', s', l', p', k1, k2, k3, k4, k5⟩ := doing_ok hn hP hfl hY hG (by omega)
    have ed : nI m - 1 - nI i = nI k := by
      rw [show (1 : Int32) = nI 1 from rfl, pk_sub (a := m) (b := 1) (by omega), pk_sub (by omega), show m - 1 - i = k by omega]
    rw [e1, L_X1_firstUndoable_21, L_X8_judge_44, if_neg hu2, if_neg hu, if_neg (nI_ge (by omega) (by omega)), ed, m_longPow k (by omega), ob, if_neg hu, ef, k1, k2, ob, ob]
    dsimp only
    rcases k5 with rfl | rfl
    · rw [if_pos z00, if_pos z00]
      exact ⟨_, _, _, _, _, _, _, _, _, rfl, rfl⟩
    · rw [if_neg one0, if_neg one0]
      have ih := judge_loop m row hm hrow th hn hP k (i + 1) fu fu' (T + 1) D' t' l' s' z' p' (by omega) (by omega) (by omega) k3 k4 (by omega)
      rw [show lN (1000 ^ k) / (1000 : Int64) = lN (1000 ^ k / 1000) from pk_lDiv (b := 1000) q1 (by omega) (by omega), nI_1]
      exact ih
theorem lg_cmp_nn (x : Int64) : 0 ≤ lg_cmp x (0 : Int64) ↔ (0 : Int64) ≤ x := by
  constructor
  · intro h
    have h2 : ¬ x < 0 := fun e => absurd ((lg_neg _ _).mpr e) (q_nlt.mpr h)
    rw [L_lt] at h2; rw [L_le]; omega
  · intro h
    exact q_nlt.mp (fun e => by have := (lg_neg _ _).mp e; rw [L_lt] at this; rw [L_le] at h; omega)
theorem op_judge (x : Int32) (row : Int64) (th stm : Int32) {n T : Nat} {tc dC nC lC wM dM nM lM td tst : Int32} {kC bC kM bM lnC sC srC P : Nat → Int32} (fd fs : Int32) (fl fst fsr Q : Nat → Int32) (hn : n ≤ 5) (hP : PTY n tc dC nC lC kC bC wM dM nM lM kM bM) (hY : RY n lnC sC srC td tst P) (hG : GP n T P) (hT : T < 2 ^ 18) :
    ∃ r fd' fs' fl' fst' fsr' th' stm' Q', f_X7_judge x row fd fs td tst lnC fl sC fst srC fsr tc dC nC lC kC bC = some (r, fd', fs', fl', fst', fsr') ∧ f_X8_judge x row th dM nM lM wM stm P Q kM bM = some (r, th', stm', Q') := by
  unfold f_X7_judge f_X8_judge
  rw [show (1 : Int64) = lN 1 from rfl, show (4 : Int64) = lN 4 from rfl, m_in32 x 1 4 (by omega) (by omega), ob]
  have i1 : x < 1 ↔ x.toInt < (1 : Nat) := i_lt (k := 1) (by omega)
  have i4 : (4 : Int32) < x ↔ ((4 : Nat) : Int) < x.toInt := i_gt (k := 4) (by omega)
  by_cases h1 : x.toInt < (1 : Nat)
  · rw [if_pos (i1.mpr h1), iv_f (by omega), if_pos z00]
    exact ⟨_, _, _, _, _, _, _, _, _, rfl, rfl⟩
  · rw [if_neg (fun e => h1 (i1.mp e))]
    by_cases h4 : ((4 : Nat) : Int) < x.toInt
    · rw [if_pos (i4.mpr h4), iv_f (by omega), if_pos z00]
      exact ⟨_, _, _, _, _, _, _, _, _, rfl, rfl⟩
    · rw [if_neg (fun e => h4 (i4.mp e)), iv_t (by omega), if_neg one0]
      obtain ⟨m, hm1, hm, rfl⟩ := i_of (x := x) (a := 1) (b := 4) (by omega) (by omega) (by omega)
      obtain ⟨q0, q1⟩ := p1000 hm
      rw [m_longPow m hm, ob, m_in, ob, lN_sub (by omega)]
      by_cases h0 : row < 0
      · rw [if_neg (fun e => by have := (L_le _ _).mp ((lg_cmp_nn row).mp e); rw [L_lt] at h0; omega), iv_f (fun e => by have := (L_le _ _).mp e.1; rw [L_lt] at h0; omega), if_pos z00]
        exact ⟨_, _, _, _, _, _, _, _, _, rfl, rfl⟩
      · obtain ⟨rw_, hrow, rfl⟩ := pk_lOf h0
        have hnn : (0 : Int64) ≤ lN rw_ := (pk_lLE (a := 0) (by omega) hrow).mpr (by omega)
        rw [if_pos ((lg_cmp_nn _).mpr hnn)]
        have hL := c_judge_loop m hm (lN rw_) fd fs td tst tc dC nC lC lnC fl sC fst srC fsr kC bC m 0 fuelC (by omega) (fuel_lt (by omega))
        rw [nI_0, show lN (1000 ^ 0) = lN 1 from rfl] at hL
        rw [hL]
        by_cases hb : rw_ < 1000 ^ m
        · rw [if_pos ((lg_neg _ _).mpr ((pk_lLT hrow q1).mpr hb)), iv_t ⟨hnn, (pk_lLE hrow (by omega)).mpr (by omega)⟩, if_neg one0, m_begin, ob]
          unfold f_X1_firstUndoable
          rw [c_copyFrom, ob]
          dsimp only
          rw [show lN (1000 ^ m) / (1000 : Int64) = lN (1000 ^ m / 1000) from pk_lDiv (b := 1000) q1 (by omega) (by omega)]
          obtain ⟨b1, b2⟩ := beg_ok hn hY hG fl fst fsr Q
          have := judge_loop m rw_ hm hrow 0 hn hP m 0 fuelC fuelC T td tst _ _ _ _ (by omega) (fuel_lt (by omega)) (fuel_lt (by omega)) b1 b2 (by omega)
          rw [nI_0] at this
          exact this
        · rw [if_neg (fun e => hb ((pk_lLT hrow q1).mp ((lg_neg _ _).mp e))), iv_f (fun e => by have := (pk_lLE hrow (by omega)).mp e.2; omega), if_pos z00]
          exact ⟨_, _, _, _, _, _, _, _, _, rfl, rfl⟩
