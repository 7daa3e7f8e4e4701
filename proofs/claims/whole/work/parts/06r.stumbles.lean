/-! ===== stumbles ===== -/
theorem pn_le {n : Nat} (hn : n ≤ 5) : 2 ^ n ≤ 32 ∧ 0 < 2 ^ n := ⟨p2_32 hn, Nat.pow_pos (by omega)⟩
theorem shl_n {n : Nat} (hn : n ≤ 5) : (1 : Int32) <<< (nI n &&& 31) = nI (2 ^ n) := pow_w n (by omega)
theorem st_loop (x1 : Int32) (x : Nat) (u th : Int32) (hx : x < 11) {n t : Nat} {ln : Nat → Nat} {kC bC kM bM lnC sC srC P : Nat → Int32} {dC nC lC : Int32} (hR : RP n kM bM) (hl : LN n ln P) (h16 : P 16 = nI t) (ht : t < 2 ^ 20) (y1 : AG n lnC P) (y2 : AG n sC (fun w => P (5 + w))) (hk : AG n kC kM) (hb : AG n bC bM) (hS : SOK n (fun w => P (5 + w))) :
    ∀ (k i fu fu' A : Nat) (fd fs stm : Int32) (fl fst fsr Q : Nat → Int32), i + k = 2 ^ n → k < fu → k < fu' → A ≤ 100000 * i →
    ∃ R fd' fs' fl' fst' fsr' Q', R ≤ 100000 * 2 ^ n ∧ L_X0_stumblesAbove_5 x1 (nI x) (nI n) dC nC lC (P 15) (nI t) lnC sC srC kC bC fu (nI A) (nI i) fd fs fl fst fsr = some (nI R, fd', fs', fl', fst', fsr') ∧ L_X8_stumbles_38 x1 (nI x) u th dC nC lC (nI n) P kM bM fu' (nI A) (nI i) stm Q = (f_X8_fraction (nI R) (pwr 10 n 1) u).bind fun r4 => some (r4, th, 0, Q')
  | k, i, 0, _, _, _, _, _, _, _, _, _, _, h, _, _ => absurd h (Nat.not_lt_zero _)
  | k, i, _, 0, _, _, _, _, _, _, _, _, _, _, h, _ => absurd h (Nat.not_lt_zero _)
  | 0, i, fu + 1, fu' + 1, A, fd, fs, stm, fl, fst, fsr, Q, hj, _, _, hA => by
    have hn := hR.1
    have hp := pn_le hn
    refine ⟨A, fd, fs, fl, fst, fsr, Q, ?_, ?_, ?_⟩
    · rw [← hj]; exact hA
    · rw [L_X0_stumblesAbove_5, c_size, ob, shl_n hn, if_pos (nI_le (by omega) (by omega))]
    · rw [L_X8_stumbles_38, shl_n hn, if_pos (nI_le (by omega) (by omega)), show (10 : Int32) = nI 10 from rfl, m_power _ (by omega), ob]
  | k + 1, i, fu + 1, fu' + 1, A, fd, fs, stm, fl, fst, fsr, Q, hj, hf, hf', hA => by
    have hn := hR.1
    have hp := pn_le hn
    have b := beg (P := P) (Q := Q) (T := 0) (t := t) hn
    have e : ∀ j, j < 17 → cpy 17 P Q j = P j := fun j hj => cpy_in hj
    have b1 : pg (cpy 17 P Q) (P 15) t = cpy 17 P Q := by
      have := pg_id (P := cpy 17 P Q) (t := t) (by rw [e 16 (by omega)]; exact h16)
      rw [e 15 (by omega)] at this
      exact this
    have b4 : AG n (fun w => cpy 17 P Q (5 + w)) (fun w => P (5 + w)) := fun w hw => e _ (by omega)
    have b2 : ∀ j, j < n → ln j < n ∧ cpy 17 P Q j = nI (ln j) := fun j hj => ⟨(hl.1 j hj).1, by rw [e j (by omega)]; exact (hl.1 j hj).2⟩
    have b3 : SOK n (fun w => cpy 17 P Q (5 + w)) := fun w hw => by rw [b4 w hw]; exact hS w hw
    have hM := m_stepP n t ln kM bM (cpy 17 P Q) (nI i) dC nC lC (P 15) hR (by omega) b2 b3
    obtain ⟨e1, e2⟩ := sDC_congr (K := kM) (B := bM) (ln := ln) (nI i) dC nC lC (P 15) t (fun j hj => (hl.1 j hj).1) AG.rf b4 AG.rf
    rw [b1, e1] at hM
    have hC := c_step n t ln kM (fun w => P (5 + w)) bM kC (cpy 5 sC fst) bC (cpy 5 lnC fl) (nI i) (P 15) dC nC lC hR (by omega) (fun j hj => ⟨(hl.1 j hj).1, by rw [AG_cpy hn lnC fl j hj, y1 j hj]; exact (hl.1 j hj).2⟩) hk ((AG_cpy hn sC fst).tr y2) hb
    obtain ⟨p1, p2, p3, p4, p5⟩ := lk_all n (by omega) i (by omega) x hx
    have key : ∀ (c : Prop) [Decidable c] (A' : Nat), A' ≤ 100000 * (i + 1) → (nI A' = if c then nI A else nI A + lkf (nI i) (nI x) n 0 1) → ∀ (D' s' : Int32) (l' st' sr' q' : Nat → Int32), ∃ R fd' fs' fl' fst' fsr' Q', R ≤ 100000 * 2 ^ n ∧ (if c then L_X0_stumblesAbove_5 x1 (nI x) (nI n) dC nC lC (P 15) (nI t) lnC sC srC kC bC fu (nI A) (nI (i + 1)) D' s' l' st' sr' else L_X0_stumblesAbove_5 x1 (nI x) (nI n) dC nC lC (P 15) (nI t) lnC sC srC kC bC fu (nI A + lkf (nI i) (nI x) n 0 1) (nI (i + 1)) D' s' l' st' sr') = some (nI R, fd', fs', fl', fst', fsr') ∧ (if c then L_X8_stumbles_38 x1 (nI x) u th dC nC lC (nI n) P kM bM fu' (nI A + 0) (nI (i + 1)) (nI i) q' else L_X8_stumbles_38 x1 (nI x) u th dC nC lC (nI n) P kM bM fu' (nI A + lkf (nI i) (nI x) n 0 1) (nI (i + 1)) (nI i) q') = (f_X8_fraction (nI R) (pwr 10 n 1) u).bind fun r4 => some (r4, th, 0, Q') := by
      intro c _ A' hA' eA D' s' l' st' sr' q'
      have ih := st_loop x1 x u th hx hR hl h16 ht y1 y2 hk hb hS (srC := srC) (dC := dC) (nC := nC) (lC := lC) k (i + 1) fu fu' A' D' s' (nI i) l' st' sr' q' (by omega) (by omega) (by omega) hA'
      rw [eA] at ih
      by_cases hc : c
      · rw [if_pos hc] at ih
        rw [if_pos hc, if_pos hc, q_add0]
        exact ih
      · rw [if_neg hc] at ih
        rw [if_neg hc, if_neg hc]
        exact ih
    rw [L_X0_stumblesAbove_5, L_X8_stumbles_38, c_size, ob, shl_n hn, if_neg (nI_ge (by omega) (by omega)), if_neg (nI_ge (by omega) (by omega)), c_copyFrom, ob, m_begin, ob]
    dsimp only
    rw [hC, ob, hM, ob]
    dsimp only
    rw [c_standing _ hn, ob, m_many, ob, m_up, ob, m_many, ob, pg_15, c_lk _ _ (by omega), ob]
    unfold J_X0_stumblesAbove_61 J_X8_stumbles_117
    rw [p1, m_power _ (by omega), ob, pk_sub p2, m_power _ (by omega), ob, ← p3, nI_1]
    by_cases hc : pc (sb n (sD n ln kM (fun w => P (5 + w)) bM (nI i) dC nC lC (P 15) t)) < x1
    · have := key True A (by omega) (by rw [if_pos trivial])
      simp only [if_true] at this
      simp only [if_pos hc]
      exact this _ _ _ _ _ _
    · have := key False (A + (lkf (nI i) (nI x) n 0 1).toNatClampNeg) (by omega) (by rw [if_neg (fun h => h), ← nI_add, ← p4])
      simp only [if_false] at this
      simp only [if_neg hc]
      exact this _ _ _ _ _ _
