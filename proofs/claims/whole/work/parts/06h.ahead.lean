/-! ===== ahead, drops ===== -/
theorem AG.tr {n : Nat} {f g h : Nat → Int32} (a : AG n f g) (b : AG n g h) : AG n f h := fun j hj => (a j hj).trans (b j hj)
theorem AG.sy {n : Nat} {f g : Nat → Int32} (a : AG n f g) : AG n g f := fun j hj => (a j hj).symm
theorem AG.rf {n : Nat} {f : Nat → Int32} : AG n f f := fun _ _ => rfl
theorem AG_cpy {n k : Nat} (h : n ≤ k) (f g : Nat → Int32) : AG n (cpy k f g) f := fun j hj => cpy_in (by omega)
def sb (n : Nat) (D : Int32) : Int32 := (((1 : Int32) <<< (nI n &&& 31)) - 1) &&& (D ^^^ (-1))
theorem c_standingBits (D : Int32) (n : Nat) : f_X6_standingBits D (nI n) = some (sb n D) := rfl
theorem m_up (n : Nat) (P : Nat → Int32) : f_X8_up 17 (nI n) P = some (sb n (P 15)) := by
  unfold f_X8_up
  rw [show (15 : Int32) = nI 15 from rfl, rdp 15 (by omega), ob]; rfl
/-- the page as the trial begins -/
theorem beg {n T : Nat} {P Q : Nat → Int32} {t : Nat} (hn : n ≤ 5) (hG : GP n T P) (h16 : P 16 = nI t) {ln : Nat → Nat} (hl : LN n ln P) :
    pg (cpy 17 P Q) (P 15) t = cpy 17 P Q ∧ (∀ j, j < n → ln j < n ∧ cpy 17 P Q j = nI (ln j)) ∧ SOK n (fun w => cpy 17 P Q (5 + w)) ∧ AG n (fun w => cpy 17 P Q (5 + w)) (fun w => P (5 + w)) := by
  have e : ∀ j, j < 17 → cpy 17 P Q j = P j := fun j hj => cpy_in hj
  refine ⟨?_, fun j hj => ⟨(hl.1 j hj).1, by rw [e j (by omega)]; exact (hl.1 j hj).2⟩, fun w hw => ?_, fun w hw => e _ (by omega)⟩
  · have := pg_id (P := cpy 17 P Q) (t := t) (by rw [e 16 (by omega)]; exact h16)
    rw [e 15 (by omega)] at this
    exact this
  · dsimp only
    rw [e _ (by omega)]
    exact hG.sok w hw
theorem op_ahead (x th stm : Int32) {n T : Nat} {tc dC nC lC wM dM nM lM td tst : Int32} {kC bC kM bM lnC sC srC P : Nat → Int32} (fd fs : Int32) (fl fst fsr Q : Nat → Int32) (hP : PTY n tc dC nC lC kC bC wM dM nM lM kM bM) (hY : RY n lnC sC srC td tst P) (hG : GP n T P) (hT : T < 2 ^ 19) :
    ∃ r fd' fs' fl' fst' fsr' th' stm' Q', f_X7_ahead x fd fs td tst lnC fl sC fst srC fsr tc dC nC lC kC bC = some (r, fd', fs', fl', fst', fsr') ∧ f_X8_ahead x th dM nM lM wM stm P Q kM bM = some (r, th', stm', Q') := by
  obtain ⟨rfl, rfl, rfl, rfl, rfl, hk, hb, hR⟩ := hP
  obtain ⟨y1, y2, y3, rfl, rfl⟩ := hY
  obtain ⟨⟨ln, hl⟩, -, -, ⟨t, ht, h16⟩, -⟩ := id hG
  have hn := hR.1
  unfold f_X7_ahead f_X8_ahead J_X7_ahead_10
  rw [show (0 : Int64) = lN 0 from rfl, show (20 : Int64) = lN 20 from rfl, m_in32 x 0 20 (by omega) (by omega), ob]
  simp only [show (x < 0) ↔ (x.toInt < 0) from i_lt0, show (x ≤ 20) ↔ (x.toInt ≤ (20 : Nat)) from i_le (k := 20) (by omega)]
  by_cases h1 : x.toInt < 0
  · rw [if_pos h1, iv_f (c := ((0 : Nat) : Int) ≤ x.toInt ∧ x.toInt ≤ (20 : Nat)) (by omega), if_pos z00]
    exact ⟨_, _, _, _, _, _, _, _, _, rfl, rfl⟩
  · by_cases h2 : x.toInt ≤ (20 : Nat)
    · rw [if_neg h1, if_pos h2, iv_t (c := ((0 : Nat) : Int) ≤ x.toInt ∧ x.toInt ≤ (20 : Nat)) (by omega), if_neg one0]
      obtain ⟨N, -, hN, rfl⟩ := i_of (x := x) (a := 0) (b := 20) (by omega) (by omega) (by omega)
      obtain ⟨b1, b2, b3, b4⟩ := beg (Q := Q) hn hG h16 hl
      have hM := m_goSteps n N t ln kM bM (cpy 17 P Q) 0 dC nC lC (P 15) hR b2 b3 (by omega) (by omega)
      rw [b1, gs_congr 0 dC nC lC (fun j hj => (hl.1 j hj).1) AG.rf b4 AG.rf] at hM
      rw [m_begin, ob]
      dsimp only
      rw [hM, ob, m_up, ob, pg_15]
      unfold f_X1_standingBehind
      rw [c_copyFrom, ob]
      dsimp only
      have hC := c_goOn n N t ln kM (fun w => P (5 + w)) bM kC (cpy 5 sC fst) bC (cpy 5 lnC fl) dC nC lC (P 15) hR (fun j hj => ⟨(hl.1 j hj).1, by rw [AG_cpy hn lnC fl j hj, y1 j hj]; exact (hl.1 j hj).2⟩) hk ((AG_cpy hn sC fst).tr y2) hb (by omega) (by omega)
      rw [← h16] at hC
      rw [hC, ob]
      dsimp only
      rw [c_standingBits, ob, ob]
      exact ⟨_, _, _, _, _, _, _, _, _, rfl, rfl⟩
    · rw [if_neg h1, if_neg h2, iv_f (c := ((0 : Nat) : Int) ≤ x.toInt ∧ x.toInt ≤ (20 : Nat)) (by omega), if_pos z00]
      exact ⟨_, _, _, _, _, _, _, _, _, rfl, rfl⟩
theorem drop_loop {n w : Nat} {ln : Nat → Nat} {K B Kc Bc Sc line srt P : Nat → Int32} (th dep noo lat : Int32) (hR : RP n K B) (hl : ∀ j, j < n → ln j < n ∧ line j = nI (ln j)) (hlP : ∀ j, j < n → ln j < n ∧ P j = nI (ln j)) (hK : AG n Kc K) (hB : AG n Bc B) (hS : AG n Sc (fun w => P (5 + w))) (hSO : SOK n (fun w => P (5 + w))) (hw : w < n) :
    ∀ (k j fu fu' t : Nat) (D : Int32), j + k = 21 → k < fu → k < fu' → t + k < 2 ^ 20 → ∃ r fd' fs' Q', L_X1_dropOf_13 (nI w) line Sc srt (nI n) dep noo lat Kc Bc fu (nI j) D (nI t) = some (r, fd', fs', line, Sc, srt) ∧ L_X8_drops_21 (nI w) th dep noo lat (nI n) 0 K B fu' (nI j) (pg P D t) = some (r, th, 0, Q')
  | k, j, 0, _, _, _, _, h, _, _ => absurd h (Nat.not_lt_zero _)
  | k, j, _, 0, _, _, _, _, h, _ => absurd h (Nat.not_lt_zero _)
  | 0, j, fu + 1, fu' + 1, t, D, hj, _, _, _ => by
    have : j = 21 := by omega
    subst this
    rw [L_X1_dropOf_13, L_X8_drops_21, if_pos (by decide), if_pos (by decide)]
    exact ⟨_, _, _, _, rfl, rfl⟩
  | k + 1, j, fu + 1, fu' + 1, t, D, hj, hf, hf', ht => by
    have hn := hR.1
    have ih := drop_loop (srt := srt) th dep noo lat hR hl hlP hK hB hS hSO hw k (j + 1) fu fu' (t + 1) (sD n ln K (fun w => P (5 + w)) B 0 dep noo lat D t) (by omega) (by omega) (by omega) (by omega)
    rw [L_X1_dropOf_13, L_X8_drops_21, if_neg (show ¬ (20 : Int32) < nI j from nI_nlt (b := j) (a := 20) (by omega) (by omega)), if_neg (show ¬ (20 : Int32) < nI j from nI_nlt (b := j) (a := 20) (by omega) (by omega))]
    rw [show (15 : Int32) = nI 15 from rfl, rdp 15 (by omega), pg_15, c_isDown, ob, ob, m_has, ob]
    by_cases hd : db D w = 0
    · rw [if_pos hd, if_pos hd, c_step n t ln K (fun w => P (5 + w)) B Kc Sc Bc line 0 D dep noo lat hR (by omega) hl hK hS hB, m_stepP n t ln K B P 0 dep noo lat D hR (by omega) hlP hSO, ob, ob]
      dsimp only
      rw [nI_1]
      exact ih
    · rw [if_neg hd, if_neg hd]
      exact ⟨_, _, _, _, rfl, rfl⟩
theorem op_drops (x th stm : Int32) {n T : Nat} {tc dC nC lC wM dM nM lM td tst : Int32} {kC bC kM bM lnC sC srC P : Nat → Int32} (fd fs : Int32) (fl fst fsr Q : Nat → Int32) (hP : PTY n tc dC nC lC kC bC wM dM nM lM kM bM) (hY : RY n lnC sC srC td tst P) (hG : GP n T P) (hT : T < 2 ^ 19) :
    ∃ r fd' fs' fl' fst' fsr' th' stm' Q', f_X7_drops x tc dC nC lC fd fs td tst lnC fl sC fst srC fsr kC bC = some (r, fd', fs', fl', fst', fsr') ∧ f_X8_drops x th dM nM lM wM stm P Q kM bM = some (r, th', stm', Q') := by
  obtain ⟨rfl, rfl, rfl, rfl, rfl, hk, hb, hR⟩ := hP
  obtain ⟨y1, y2, y3, rfl, rfl⟩ := hY
  obtain ⟨⟨ln, hl⟩, -, -, ⟨t, ht, h16⟩, -⟩ := id hG
  have hn := hR.1
  unfold f_X7_drops f_X8_drops
  rw [c_has x (by omega), m_noWalker x hn, ob, ob]
  by_cases h : 0 ≤ x.toInt ∧ x.toInt < n
  · rw [iv_t h, if_neg one0, if_pos h, if_pos z00]
    obtain ⟨w, -, hw, rfl⟩ := i_of (x := x) (a := 0) (b := n - 1) (by omega) (by omega) (by omega)
    obtain ⟨b1, b2, b3, b4⟩ := beg (Q := Q) hn hG h16 hl
    obtain ⟨r, fd', fs', Q', r1, r2⟩ := drop_loop (w := w) (srt := cpy 5 srC fsr) (P := cpy 17 P Q) 0 dC nC lC hR (line := cpy 5 lnC fl) (Sc := cpy 5 sC fst) (fun j hj => ⟨(hl.1 j hj).1, by rw [AG_cpy hn lnC fl j hj, y1 j hj]; exact (hl.1 j hj).2⟩) b2 hk hb (((AG_cpy hn sC fst).tr y2).tr b4.sy) b3 (by omega) 21 0 fuelC fuelC t (P 15) rfl (fuel_lt (by omega)) (fuel_lt (by omega)) (by omega)
    rw [b1, nI_0] at r2
    rw [nI_0, ← h16] at r1
    have eC : f_X1_dropOf (nI w) fd fs (P 15) (P 16) lnC fl sC fst srC fsr (nI n) dC nC lC kC bC = some (r, fd', fs', cpy 5 lnC fl, cpy 5 sC fst, cpy 5 srC fsr) := by
      unfold f_X1_dropOf
      rw [c_copyFrom]
      exact (ob _ _).trans r1
    rw [eC, ob, m_begin]
    exact ⟨r, fd', fs', _, _, _, 0, 0, Q', rfl, (ob _ _).trans r2⟩
  · rw [iv_f h, if_pos z00, if_neg h, if_neg one0]
    exact ⟨_, _, _, _, _, _, _, _, _, rfl, rfl⟩
