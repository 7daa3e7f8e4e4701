/-! ===== party ===== -/
theorem fit_lt {k : Nat} {tx : Nat → Int32} (hf : ∀ j, j < k → fit tx j) : k ≤ 24 := Classical.byContradiction fun h => fit_far (Nat.le_refl 24) (hf 24 (by omega))
theorem FP_fit {k : Nat} {tx : Nat → Int32} (hk : k ≤ 48) (h : FP k tx (-9)) : ∀ j, j < k → fit tx j := by
  have hn9 : ∀ i, i ≤ 48 → ¬ nI i = -9 := fun i hi e => by
    rw [q_eq, nI_toInt (by omega)] at e
    have : (-9 : Int32).toInt = -9 := rfl
    omega
  rcases h with ⟨i, h1, h2, h3, h4⟩ | ⟨h1, _⟩
  · exact absurd h4.symm (hn9 i (by omega))
  · exact h1
theorem mul4 (j : Nat) : nI j * 4 = nI (4 * j) := by rw [Nat.mul_comm]; exact pk_mul j 4
theorem c_readFrom_loop {m : Nat} {L : Nat → Int32} {d n b : Int32} (hm : m ≤ 5) : ∀ (q j fu : Nat) (bt kd : Nat → Int32), j + q = m → q < fu → (∀ i, i < j → bt i = L (4 + 4 * i + 2) - 48 ∧ kd i = L (4 + 4 * i + 3) - 48) →
    ∃ bt' kd', L_X3_readFrom_49 L (nI m) d n b fu (nI j) bt kd = some (nI m, d, n, b, bt', kd') ∧ ∀ i, i < m → bt' i = L (4 + 4 * i + 2) - 48 ∧ kd' i = L (4 + 4 * i + 3) - 48
  | q, j, 0, _, _, _, h, _ => absurd h (Nat.not_lt_zero _)
  | 0, j, fu + 1, bt, kd, hj, _, h => by
    rw [L_X3_readFrom_49, if_pos (nI_le (by omega) (by omega))]
    exact ⟨_, _, rfl, fun i hi => h i (by omega)⟩
  | q + 1, j, fu + 1, bt, kd, hj, hf, h => by
    have e2 : (4 + nI j * 4) + 2 = nI (4 + 4 * j + 2) := by rw [mul4, show (4 : Int32) + nI (4 * j) = nI (4 + 4 * j) from nI_add 4 _]; exact nI_add _ 2
    have e3 : (4 + nI j * 4) + 3 = nI (4 + 4 * j + 3) := by rw [mul4, show (4 : Int32) + nI (4 * j) = nI (4 + 4 * j) from nI_add 4 _]; exact nI_add _ 3
    rw [L_X3_readFrom_49, if_neg (nI_ge (by omega) (by omega)), e2, c_figureAt L (by omega), ob, q_put bt _ (by omega) (by omega), ob, e3, c_figureAt L (by omega), ob, q_put kd _ (by omega) (by omega), ob, nI_1]
    refine c_readFrom_loop hm q (j + 1) fu _ _ (by omega) (by omega) (fun i hi => ?_)
    by_cases e : i = j
    · subst e; exact ⟨q_us, q_us⟩
    · rw [q_un e, q_un e]; exact h i (by omega)
theorem c_readFrom {m : Nat} {L bt kd : Nat → Int32} (c d n b : Int32) (hm : m ≤ 5) : ∃ bt' kd', f_X3_readFrom (nI (4 + 4 * m)) L c d n b bt kd = some (nI m, L 1 - 48, L 2 - 48, L 3 - 48, bt', kd') ∧ ∀ i, i < m → bt' i = L (4 + 4 * i + 2) - 48 ∧ kd' i = L (4 + 4 * i + 3) - 48 := by
  obtain ⟨bt', kd', h1, h2⟩ := c_readFrom_loop (d := L 1 - 48) (n := L 2 - 48) (b := L 3 - 48) (L := L) hm m 0 fuelC bt kd (by omega) (fuel_lt (by omega)) (fun i hi => absurd hi (Nat.not_lt_zero _))
  refine ⟨bt', kd', ?_, h2⟩
  have e : (nI (4 + 4 * m) - 4) / 4 = nI m := by
    rw [show nI (4 + 4 * m) - 4 = nI (4 * m) from (pk_sub (a := 4 + 4 * m) (b := 4) (by omega)).trans (congrArg nI (by omega)), show nI (4 * m) / 4 = nI (4 * m / 4) from pk_div (d := 4) (by omega) (by omega) (by omega)]
    exact congrArg nI (by omega)
  unfold f_X3_readFrom f_X5_size
  rw [show f_X5_figureAt 1 L = some (L 1 - 48) from c_figureAt L (i := 1) (by omega), ob, show f_X5_figureAt 2 L = some (L 2 - 48) from c_figureAt L (i := 2) (by omega), ob, show f_X5_figureAt 3 L = some (L 3 - 48) from c_figureAt L (i := 3) (by omega), ob, ob, e]
  have e5 : (if nI m < 5 then nI m else 5) = nI m := by
    by_cases h : m < 5
    · rw [if_pos (show nI m < (5 : Int32) from nI_lt (b := 5) h (by omega))]
    · have : m = 5 := by omega
      subst this; rfl
  rw [e5]
  have e0 : (if 0 < nI m then nI m else 0) = nI m := by
    by_cases h : m = 0
    · subst h; rfl
    · rw [if_pos (show (0 : Int32) < nI m from nI_lt (a := 0) (by omega) (by omega))]
  rw [e0]
  rw [nI_0] at h1
  exact h1
theorem c_begin_loop {m : Nat} {L : Nat → Int32} (dn st : Int32) (hm : m ≤ 5) : ∀ (q j fu : Nat) (l s r : Nat → Int32), j + q = 5 → q < fu → (∀ i, i < j → l i = nI i ∧ (i < m → s i = L (4 + 4 * i + 1) - 48) ∧ r i = 0) →
    ∃ l' s' r', L_X6_begin_2 dn st (nI m) L fu (nI j) l s r = some (0, 0, l', s', r') ∧ ∀ i, i < 5 → l' i = nI i ∧ (i < m → s' i = L (4 + 4 * i + 1) - 48) ∧ r' i = 0
  | q, j, 0, _, _, _, _, h, _ => absurd h (Nat.not_lt_zero _)
  | 0, j, fu + 1, l, s, r, hj, _, h => by
    rw [L_X6_begin_2, if_pos (show (5 : Int32) ≤ nI j from nI_le (a := 5) (by omega) (by omega))]
    exact ⟨_, _, _, rfl, fun i hi => h i (by omega)⟩
  | q + 1, j, fu + 1, l, s, r, hj, hf, h => by
    have e1 : (4 + nI j * 4) + 1 = nI (4 + 4 * j + 1) := by rw [mul4, show (4 : Int32) + nI (4 * j) = nI (4 + 4 * j) from nI_add 4 _]; exact nI_1 _
    rw [L_X6_begin_2, if_neg (show ¬ (5 : Int32) ≤ nI j from nI_ge (a := j) (b := 5) (by omega) (by omega)), q_put l _ (by omega) (by omega), ob, c_has _ (by omega), ob, nI_toInt (by omega)]
    unfold J_X6_begin_47
    by_cases hjm : j < m
    · rw [iv_t (by omega), if_neg one0, e1, c_figureAt L (by omega), ob, q_put s _ (by omega) (by omega), ob, q_put r _ (by omega) (by omega), ob, nI_1]
      refine c_begin_loop dn st hm q (j + 1) fu _ _ _ (by omega) (by omega) (fun i hi => ?_)
      by_cases e : i = j
      · subst e; exact ⟨q_us, fun _ => q_us, q_us⟩
      · rw [q_un e, q_un e, q_un e]; exact h i (by omega)
    · rw [iv_f (by omega), if_pos z00, q_put s _ (by omega) (by omega), ob, q_put r _ (by omega) (by omega), ob, nI_1]
      refine c_begin_loop dn st hm q (j + 1) fu _ _ _ (by omega) (by omega) (fun i hi => ?_)
      by_cases e : i = j
      · subst e; exact ⟨q_us, fun hx => absurd hx hjm, q_us⟩
      · rw [q_un e, q_un e, q_un e]; exact h i (by omega)
theorem c_begin {m : Nat} {L l s r : Nat → Int32} (dn st : Int32) (hm : m ≤ 5) : ∃ l' s' r', f_X6_begin dn st l (nI m) L s r = some (0, 0, l', s', r') ∧ ∀ i, i < 5 → l' i = nI i ∧ (i < m → s' i = L (4 + 4 * i + 1) - 48) ∧ r' i = 0 := by
  have h := c_begin_loop (L := L) dn st hm 5 0 fuelC l s r (by omega) (fuel_lt (by omega)) (fun i hi => absurd hi (Nat.not_lt_zero _))
  rw [nI_0] at h
  exact h
theorem m_zero_loop (th pl d n b w rw_ ac : Int32) (sn wk bt kd iz : Nat → Int32) : ∀ (q j fu : Nat) (p : Nat → Int32), j + q = 17 → q < fu → (∀ i, i < j → p i = 0) →
    ∃ p', (∀ i, i < 17 → p' i = 0) ∧ L_X8_party_57 th pl d n b w rw_ ac sn wk bt kd iz fu (nI j) p = L_X8_party_78 th pl d n b w rw_ ac sn wk iz fuelC 0 p' bt kd
  | q, j, 0, _, _, h, _ => absurd h (Nat.not_lt_zero _)
  | 0, j, fu + 1, p, hj, _, h => by
    rw [L_X8_party_57, if_pos (show (17 : Int32) ≤ nI j from nI_le (a := 17) (by omega) (by omega))]
    exact ⟨p, fun i hi => h i (by omega), rfl⟩
  | q + 1, j, fu + 1, p, hj, hf, h => by
    rw [L_X8_party_57, if_neg (show ¬ (17 : Int32) ≤ nI j from nI_ge (a := j) (b := 17) (by omega) (by omega)), q_wr p _ (by omega) (by omega), ob, nI_1]
    refine m_zero_loop th pl d n b w rw_ ac sn wk bt kd iz q (j + 1) fu _ (by omega) (by omega) (fun i hi => ?_)
    by_cases e : i = j
    · subst e; exact q_us
    · rw [q_un e]; exact h i (by omega)
theorem m_set_loop {m : Nat} (th pl d n b rw_ ac : Int32) (sn wk iz : Nat → Int32) (hm : m ≤ 5) : ∀ (q j fu : Nat) (p bt kd : Nat → Int32), j + q = m → q < fu →
    (∀ i, i < j → p i = nI i ∧ p (5 + i) = wk (3 * i) ∧ bt i = wk (3 * i + 1) ∧ kd i = wk (3 * i + 2)) → (∀ i, 10 ≤ i → i < 17 → p i = 0) →
    ∃ p' bt' kd' iz', L_X8_party_78 th pl d n b (nI m) rw_ ac sn wk iz fu (nI j) p bt kd = some (nI m, th, pl, d, n, b, nI m, rw_, 0, sn, wk, p', bt', kd', iz') ∧ (iz' 0 = 0 ∧ iz' 1 = 0) ∧ (∀ i, i < m → p' i = nI i ∧ p' (5 + i) = wk (3 * i) ∧ bt' i = wk (3 * i + 1) ∧ kd' i = wk (3 * i + 2)) ∧ ∀ i, 10 ≤ i → i < 17 → p' i = 0
  | q, j, 0, _, _, _, _, h, _, _ => absurd h (Nat.not_lt_zero _)
  | 0, j, fu + 1, p, bt, kd, hj, _, h, h' => by
    have hz : ∀ (f : Nat → Int32) (i : Nat), i < 2 → wrZ f 2 (nI i) 0 = some (upd f i (vp_nar .boolean 0)) := fun f i hi => by
      unfold wrZ; rw [if_neg (nI_in (by omega) (by omega)), nI_clamp (by omega)]
    rw [L_X8_party_78, if_pos (nI_le (by omega) (by omega)), show wrZ iz 2 0 0 = _ from hz iz 0 (by omega), ob, show wrZ _ 2 1 0 = _ from hz _ 1 (by omega), ob]
    have e : j = m := by omega
    subst e
    refine ⟨_, _, _, _, rfl, ⟨?_, ?_⟩, h, h'⟩
    · rw [q_un (by omega), q_us]; rfl
    · rw [q_us]; rfl
  | q + 1, j, fu + 1, p, bt, kd, hj, hf, h, h' => by
    rw [L_X8_party_78, if_neg (nI_ge (by omega) (by omega)), q_0add, q_wr p _ (by omega) (by omega), ob, show (3 : Int32) * nI j = nI (3 * j) from pk_mul 3 j, q_rd wk (by omega) (by omega), ob,
      show (5 : Int32) + nI j = nI (5 + j) from nI_add 5 j, q_wr _ _ (by omega) (by omega), ob, nI_1, q_rd wk (by omega) (by omega), ob, q_wr bt _ (by omega) (by omega), ob, show nI (3 * j) + 2 = nI (3 * j + 2) from nI_add _ 2, q_rd wk (by omega) (by omega), ob, q_wr kd _ (by omega) (by omega), ob, nI_1]
    refine m_set_loop th pl d n b rw_ ac sn wk iz hm q (j + 1) fu _ _ _ (by omega) (by omega) (fun i hi => ?_) (fun i h1 h2 => ?_)
    · by_cases e : i = j
      · subst e
        rw [q_un (by omega), q_us, q_us, q_us, q_us]
        exact ⟨rfl, rfl, rfl, rfl⟩
      · rw [q_un (by omega), q_un e, q_un (by omega), q_un (by omega), q_un e, q_un e]
        exact h i (by omega)
    · rw [q_un (by omega), q_un (by omega)]; exact h' i h1 h2
theorem op_party (th pl rw0 : Int32) {n T : Nat} {fa ac sk tl ts tc dC nC lC wM dM nM lM td tst acts : Int32} {L tx kC bC kM bM lnC sC srC P cells book isK kept : Nat → Int32} (sn wk : Nat → Int32) (hT : RT tl L ts tx) (hP : PTY n tc dC nC lC kC bC wM dM nM lM kM bM) (hY : RY n lnC sC srC td tst P) (hG : GP n T P) (hA : RA n T fa ac cells acts book) (hS : RS n T sk cells isK kept) :
    ∃ r fa' ac' sk' tc' dC' nC' lC' bC' kC' td' tst' lnC' sC' srC' th' pl' dM' nM' lM' wM' rw_ acts' sn' wk' P' bM' kM' isK' n',
      f_X7_party fa ac sk tl L tc dC nC lC bC kC td tst lnC sC srC = some (r, fa', ac', sk', tc', dC', nC', lC', bC', kC', td', tst', lnC', sC', srC') ∧
      f_X8_party th ts pl dM nM lM wM rw0 acts tx sn wk P bM kM isK = some (r, th', pl', dM', nM', lM', wM', rw_, acts', sn', wk', P', bM', kM', isK') ∧
      PTY n' tc' dC' nC' lC' kC' bC' wM' dM' nM' lM' kM' bM' ∧ RY n' lnC' sC' srC' td' tst' P' ∧ GP n' T P' ∧ RA n' T fa' ac' cells acts' book ∧ RS n' T sk' cells isK' kept := by
  obtain ⟨k, hk, rfl, rfl, hL⟩ := hT
  obtain ⟨r, r1, r2⟩ := c_fault hk hL
  obtain ⟨r', pl', rw_, sn', wk', s1, s2, s3⟩ := m_readParty pl rw0 sn wk hk (tx := tx)
  have e := FP_one r2 s2
  subst e
  unfold f_X7_party f_X8_party
  rw [r1, ob, s1, ob]
  dsimp only
  by_cases h9 : r = -9
  · subst h9
    rw [if_pos rfl, if_pos rfl]
    have hfit := FP_fit hk r2
    obtain ⟨m, hm, rfl, rfl, ⟨t1, t2, t3⟩, hw⟩ := s3 rfl
    obtain ⟨bt', kd', c1, c2⟩ := c_readFrom (L := L) (bt := bC) (kd := kC) tc dC nC lC hm
    obtain ⟨l', s', q', d1, d2⟩ := c_begin (L := L) (l := lnC) (s := sC) (r := srC) td tst hm
    obtain ⟨p1, z1, z2⟩ := m_zero_loop 0 pl' (sn' 0) (sn' 1) (sn' 2) (nI m) (nI m) acts sn' wk' bM kM isK 17 0 fuelC P (by omega) (fuel_lt (by omega)) (fun i hi => absurd hi (Nat.not_lt_zero _))
    obtain ⟨p', bt2, kd2, iz', w1, ⟨w2, w2'⟩, w3, w4⟩ := m_set_loop 0 pl' (sn' 0) (sn' 1) (sn' 2) (nI m) acts sn' wk' isK hm m 0 fuelC p1 bM kM (by omega) (fuel_lt (by omega)) (fun i hi => absurd hi (Nat.not_lt_zero _)) (fun i _ h2 => z1 i h2)
    rw [nI_0] at z2 w1
    rw [c1, ob]
    dsimp only
    rw [d1, ob]
    dsimp only
    unfold f_X7_forgetActs f_X3_size
    rw [ob]
    dsimp only
    rw [ob, show rdI sn' 3 0 = some (sn' 0) from q_rd sn' (j := 0) (by omega) (by omega), ob, show rdI sn' 3 1 = some (sn' 1) from q_rd sn' (j := 1) (by omega) (by omega), ob, show rdI sn' 3 2 = some (sn' 2) from q_rd sn' (j := 2) (by omega) (by omega), ob, z2, w1]
    have hLt : ∀ i, i < 4 + 4 * m → L i = tx i := hL
    refine ⟨_, _, _, _, _, _, _, _, _, _, _, _, _, _, _, _, _, _, _, _, _, _, _, _, _, _, _, _, _, m, rfl, rfl, ⟨rfl, rfl, ?_, ?_, ?_, fun i hi => ?_, fun i hi => ?_, hm, fun i hi => ?_, fun i hi => ?_⟩, ⟨fun i hi => ?_, fun i hi => ?_, fun i hi => ?_, ?_, ?_⟩, ⟨⟨fun i => i, fun i hi => ⟨hi, ?_⟩, fun i j _ _ h => h⟩, fun i hi => ?_, fun i hi => ?_, ⟨0, Nat.zero_le _, ?_⟩, 0, ?_, ?_⟩, RA_0, fun i hi => ⟨?_, fun h => ?_⟩⟩
    · rw [t1, hLt 1 (by omega)]
    · rw [t2, hLt 2 (by omega)]
    · rw [t3, hLt 3 (by omega)]
    · rw [(c2 i hi).2, (w3 i hi).2.2.2, (hw i hi).2.2, hLt _ (by omega)]
    · rw [(c2 i hi).1, (w3 i hi).2.2.1, (hw i hi).2.1, hLt _ (by omega)]
    · rw [(w3 i hi).2.2.1, (hw i hi).2.1]
      have f2 := hfit (4 + 4 * i + 2) (by omega)
      rw [(fit_w (j := i) (by omega)).2.2.1] at f2
      obtain ⟨j, j1, j2, j3⟩ := i_of (a := 1) (b := 4) f2.1 f2.2 (by omega)
      exact ⟨j, j1, j2, j3⟩
    · rw [(w3 i hi).2.2.2, (hw i hi).2.2]
      have f2 := hfit (4 + 4 * i + 3) (by omega)
      rw [(fit_w (j := i) (by omega)).2.2.2] at f2
      obtain ⟨j, j1, j2, j3⟩ := i_of (a := 0) (b := 3) f2.1 f2.2 (by omega)
      exact ⟨j, j2, j3⟩
    · rw [(d2 i (by omega)).1, (w3 i hi).1]
    · dsimp only
      rw [(d2 i (by omega)).2.1 hi, (w3 i hi).2.1, (hw i hi).1, hLt _ (by omega)]
    · dsimp only
      rw [(d2 i (by omega)).2.2, w4 (10 + i) (by omega) (by omega)]
    · rw [w4 15 (by omega) (by omega)]
    · rw [w4 16 (by omega) (by omega)]
    · exact (w3 i hi).1
    · rw [(w3 i hi).2.1, (hw i hi).1]
      have f2 := hfit (4 + 4 * i + 1) (by omega)
      rw [(fit_w (j := i) (by omega)).2.1] at f2
      obtain ⟨j, j1, j2, j3⟩ := i_of (a := 1) (b := 9) f2.1 f2.2 (by omega)
      exact ⟨j, j1, j2, j3⟩
    · exact ⟨0, by omega, by rw [w4 (10 + i) (by omega) (by omega)]; rfl⟩
    · rw [w4 16 (by omega) (by omega)]; rfl
    · exact Nat.pos_of_ne_zero (fun h => by have := Nat.two_pow_pos m; omega)
    · rw [w4 15 (by omega) (by omega)]; rfl
    · rw [db0 i (by omega)]
      rcases (show i = 0 ∨ i = 1 by omega) with e | e
      · subst e; exact w2
      · subst e; exact w2'
    · rw [db0 i (by omega)] at h
      exact absurd h (by decide)
  · rw [if_neg h9, if_neg h9]
    exact ⟨_, _, _, _, _, _, _, _, _, _, _, _, _, _, _, _, _, _, _, _, _, _, _, _, _, _, _, _, _, n, rfl, rfl, hP, hY, hG, hA, hS⟩
