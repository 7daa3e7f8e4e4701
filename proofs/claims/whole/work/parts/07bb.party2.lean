/-! party once more: the acts and the slots lie in two rows of cells -/
theorem op_party2 (th pl rw0 : Int32) {n T : Nat} {fa ac sk tl ts tc dC nC lC wM dM nM lM td tst acts : Int32} {L tx kC bC kM bM lnC sC srC P cells cells2 book isK kept : Nat → Int32} (sn wk : Nat → Int32) (hT : RT tl L ts tx) (hP : PTY n tc dC nC lC kC bC wM dM nM lM kM bM) (hY : RY n lnC sC srC td tst P) (hG : GP n T P) (hA : RA n T fa ac cells acts book) (hS : RS n T sk cells2 isK kept) :
    ∃ r fa' ac' sk' tc' dC' nC' lC' bC' kC' td' tst' lnC' sC' srC' th' pl' dM' nM' lM' wM' rw_ acts' sn' wk' P' bM' kM' isK' n',
      f_X7_party fa ac sk tl L tc dC nC lC bC kC td tst lnC sC srC = some (r, fa', ac', sk', tc', dC', nC', lC', bC', kC', td', tst', lnC', sC', srC') ∧
      f_X8_party th ts pl dM nM lM wM rw0 acts tx sn wk P bM kM isK = some (r, th', pl', dM', nM', lM', wM', rw_, acts', sn', wk', P', bM', kM', isK') ∧
      PTY n' tc' dC' nC' lC' kC' bC' wM' dM' nM' lM' kM' bM' ∧ RY n' lnC' sC' srC' td' tst' P' ∧ GP n' T P' ∧ RA n' T fa' ac' cells acts' book ∧ RS n' T sk' cells2 isK' kept := by
  obtain ⟨k, hk, rfl, rfl, hL⟩ := hT
  obtain ⟨r, r1, r2⟩ := c_fault hk hL
  obtain ⟨r', pl', rw_, sn', wk', s1, s2, s3⟩ := m_readParty pl rw0 sn wk hk (tx := tx)
  have e := FP_one r2 s2
  subst e
  unfold f_X7_party f_X8_party
  rw [r1, ob, s1, ob]
  dsimp only
  by_cases h9 : r = -9
  · subst h9
    rw [if_pos rfl, if_pos rfl]
    have hfit := FP_fit hk r2
    obtain ⟨m, hm, rfl, rfl, ⟨t1, t2, t3⟩, hw⟩ := s3 rfl
    obtain ⟨bt', kd', c1, c2⟩ := c_readFrom (L := L) (bt := bC) (kd := kC) tc dC nC lC hm
    obtain ⟨l', s', q', d1, d2⟩ := c_begin (L := L) (l := lnC) (s := sC) (r := srC) td tst hm
    obtain ⟨p1, z1, z2⟩ := m_zero_loop 0 pl' (sn' 0) (sn' 1) (sn' 2) (nI m) (nI m) acts sn' wk' bM kM isK 17 0 fuelC P (by omega) (fuel_lt (by omega)) (fun i hi => absurd hi (Nat.not_lt_zero _))
    obtain ⟨p', bt2, kd2, iz', w1, ⟨w2, w2'⟩, w3, w4⟩ := m_set_loop 0 pl' (sn' 0) (sn' 1) (sn' 2) (nI m) acts sn' wk' isK hm m 0 fuelC p1 bM kM (by omega) (fuel_lt (by omega)) (fun i hi => absurd hi (Nat.not_lt_zero _)) (fun i _ h2 => z1 i h2)
    rw [nI_0] at z2 w1
    rw [c1, ob]
    dsimp only
    rw [d1, ob]
    dsimp only
    unfold f_X7_forgetActs f_X3_size
    rw [ob]
    dsimp only
    rw [ob, show rdI sn' 3 0 = some (sn' 0) from q_rd sn' (j := 0) (by omega) (by omega), ob, show rdI sn' 3 1 = some (sn' 1) from q_rd sn' (j := 1) (by omega) (by omega), ob, show rdI sn' 3 2 = some (sn' 2) from q_rd sn' (j := 2) (by omega) (by omega), ob, z2, w1]
    have hLt : ∀ i, i < 4 + 4 * m → L i = tx i := hL
    refine ⟨_, _, _, _, _, _, _, _, _, _, _, _, _, _, _, _, _, _, _, _, _, _, _, _, _, _, _, _, _, m, rfl, rfl, ⟨rfl, rfl, ?_, ?_, ?_, fun i hi => ?_, fun i hi => ?_, hm, fun i hi => ?_, fun i hi => ?_⟩, ⟨fun i hi => ?_, fun i hi => ?_, fun i hi => ?_, ?_, ?_⟩, ⟨⟨fun i => i, fun i hi => ⟨hi, ?_⟩, fun i j _ _ h => h⟩, fun i hi => ?_, fun i hi => ?_, ⟨0, Nat.zero_le _, ?_⟩, 0, ?_, ?_⟩, RA_0, fun i hi => ⟨?_, fun h => ?_⟩⟩
    · rw [t1, hLt 1 (by omega)]
    · rw [t2, hLt 2 (by omega)]
    · rw [t3, hLt 3 (by omega)]
    · rw [(c2 i hi).2, (w3 i hi).2.2.2, (hw i hi).2.2, hLt _ (by omega)]
    · rw [(c2 i hi).1, (w3 i hi).2.2.1, (hw i hi).2.1, hLt _ (by omega)]
    · rw [(w3 i hi).2.2.1, (hw i hi).2.1]
      have f2 := hfit (4 + 4 * i + 2) (by omega)
      rw [(fit_w (j := i) (by omega)).2.2.1] at f2
      obtain ⟨j, j1, j2, j3⟩ := i_of (a := 1) (b := 4) f2.1 f2.2 (by omega)
      exact ⟨j, j1, j2, j3⟩
    · rw [(w3 i hi).2.2.2, (hw i hi).2.2]
      have f2 := hfit (4 + 4 * i + 3) (by omega)
      rw [(fit_w (j := i) (by omega)).2.2.2] at f2
      obtain ⟨j, j1, j2, j3⟩ := i_of (a := 0) (b := 3) f2.1 f2.2 (by omega)
      exact ⟨j, j2, j3⟩
    · rw [(d2 i (by omega)).1, (w3 i hi).1]
    · dsimp only
      rw [(d2 i (by omega)).2.1 hi, (w3 i hi).2.1, (hw i hi).1, hLt _ (by omega)]
    · dsimp only
      rw [(d2 i (by omega)).2.2, w4 (10 + i) (by omega) (by omega)]
    · rw [w4 15 (by omega) (by omega)]
    · rw [w4 16 (by omega) (by omega)]
    · exact (w3 i hi).1
    · rw [(w3 i hi).2.1, (hw i hi).1]
      have f2 := hfit (4 + 4 * i + 1) (by omega)
      rw [(fit_w (j := i) (by omega)).2.1] at f2
      obtain ⟨j, j1, j2, j3⟩ := i_of (a := 1) (b := 9) f2.1 f2.2 (by omega)
      exact ⟨j, j1, j2, j3⟩
    · exact ⟨0, by omega, by rw [w4 (10 + i) (by omega) (by omega)]; rfl⟩
    · rw [w4 16 (by omega) (by omega)]; rfl
    · exact Nat.pos_of_ne_zero (fun h => by have := Nat.two_pow_pos m; omega)
    · rw [w4 15 (by omega) (by omega)]; rfl
    · rw [db0 i (by omega)]
      rcases (show i = 0 ∨ i = 1 by omega) with e | e
      · subst e; exact w2
      · subst e; exact w2'
    · rw [db0 i (by omega)] at h
      exact absurd h (by decide)
  · rw [if_neg h9, if_neg h9]
    exact ⟨_, _, _, _, _, _, _, _, _, _, _, _, _, _, _, _, _, _, _, _, _, _, _, _, _, _, _, _, _, n, rfl, rfl, hP, hY, hG, hA, hS⟩
