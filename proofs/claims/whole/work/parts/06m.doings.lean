/-! ===== keep, again; doings ===== -/
theorem c_isSlot (x : Int32) : f_X7_isSlot x = some (if 0 ≤ x.toInt ∧ x.toInt < 2 then 1 else 0) := by
  unfold f_X7_isSlot J_X7_isSlot_13
  have h2 : (2 : Int32) ≤ x ↔ ((2 : Nat) : Int) ≤ x.toInt := i_ge (k := 2) (by omega)
  by_cases h1 : x.toInt < 0
  · rw [if_pos (i_lt0.mpr h1), if_neg (by omega)]
  · rw [if_neg (fun h => h1 (i_lt0.mp h))]
    by_cases h3 : ((2 : Nat) : Int) ≤ x.toInt
    · rw [if_pos (h2.mpr h3), if_neg (by omega)]
    · rw [if_neg (fun h => h3 (h2.mp h)), if_pos (by omega)]
theorem m_keep_loop (k0 : Nat) (hk : k0 < 2) (th : Int32) (P K c : Nat → Int32) : ∀ (k j fu : Nat), j + k = 17 → k < fu → L_X8_keep_26 (nI k0) th K P fu (nI j) (brow (17 * k0) j P c) = some (P 16, th, K, brow (17 * k0) 17 P c)
  | k, j, 0, _, h => absurd h (Nat.not_lt_zero _)
  | 0, j, fu + 1, hj, _ => by
    have : j = 17 := by omega
    subst this
    rw [L_X8_keep_26, if_pos (by decide), show (16 : Int32) = nI 16 from rfl, rdp 16 (by omega), ob]
  | k + 1, j, fu + 1, hj, hf => by
    have ih := m_keep_loop k0 hk th P K c k (j + 1) fu (by omega) (by omega)
    rw [L_X8_keep_26, if_neg (show ¬ (17 : Int32) ≤ nI j from nI_ge (b := 17) (by omega) (by omega)), rdp j (by omega), ob, show (17 : Int32) = nI 17 from rfl, pk_mul, nI_add, q_wr _ _ (by omega) (by omega), ob, brow_s, nI_1]
    exact ih
theorem m_again_loop (k0 : Nat) (hk : k0 < 2) (th ac : Int32) (P c : Nat → Int32) : ∀ (k j fu : Nat), j + k = 17 → k < fu → L_X8_again_31 (nI k0) th ac c fu (nI j) (cpy j (row c k0) P) = some (row c k0 16, th, 0, cpy 17 (row c k0) P)
  | k, j, 0, _, h => absurd h (Nat.not_lt_zero _)
  | 0, j, fu + 1, hj, _ => by
    have : j = 17 := by omega
    subst this
    rw [L_X8_again_31, if_pos (by decide), show (16 : Int32) = nI 16 from rfl, rdp 16 (by omega), ob, cpy_in (by omega)]
  | k + 1, j, fu + 1, hj, hf => by
    have ih := m_again_loop k0 hk th ac P c k (j + 1) fu (by omega) (by omega)
    rw [L_X8_again_31, if_neg (show ¬ (17 : Int32) ≤ nI j from nI_ge (b := 17) (by omega) (by omega)), show (17 : Int32) = nI 17 from rfl, pk_mul, nI_add, q_rd c (by omega) (by omega), ob, show c (17 * k0 + j) = row c k0 j from rfl, q_wr _ _ (by omega) (by omega), ob, cpy_s, nI_1]
    exact ih
theorem m_in01 (x : Int32) : f_X8_in x.toInt64 (0 : Int64) (1 : Int64) = some (if 0 ≤ x.toInt ∧ x.toInt < 2 then 1 else 0) := by
  rw [show (0 : Int64) = lN 0 from rfl, show (1 : Int64) = lN 1 from rfl, m_in32 x 0 1 (by omega) (by omega)]
  by_cases h : 0 ≤ x.toInt ∧ x.toInt < 2
  · rw [iv_t h, iv_t (by omega)]
  · rw [iv_f h, iv_f (by omega)]
theorem op_keep (x th : Int32) {n T : Nat} {td tst sk : Int32} {lnC sC srC P cells isK kept : Nat → Int32} (hn : n ≤ 5) (hY : RY n lnC sC srC td tst P) (hG : GP n T P) (hS : RS n T sk cells isK kept) :
    ∃ r sk' cells' th' isK' kept', f_X7_keep x sk td tst lnC cells sC srC = some (r, sk', cells') ∧ f_X8_keep x th isK P kept = some (r, th', isK', kept') ∧ RS n T sk' cells' isK' kept' := by
  unfold f_X7_keep f_X8_keep
  rw [c_isSlot, m_in01, ob, ob]
  by_cases h : 0 ≤ x.toInt ∧ x.toInt < 2
  · rw [iv_t h, if_neg one0, if_neg one0]
    obtain ⟨j, -, hj, rfl⟩ := i_of (x := x) (a := 0) (b := 1) (by omega) (by omega) (by omega)
    obtain ⟨c', s1, s2, s3⟩ := c_save j 34 td tst lnC sC srC cells (by omega) (by omega)
    have hM := m_keep_loop j (by omega) 0 P (upd isK j (vp_nar .boolean 1)) kept 17 0 fuelC rfl (fuel_lt (by omega))
    rw [nI_0, brow_0] at hM
    have hz : wrZ isK 2 (nI j) 1 = some (upd isK j (vp_nar .boolean 1)) := by
      unfold wrZ; rw [if_neg (nI_in (by omega) (by omega)), nI_clamp (by omega)]
    rw [s1, ob, show f_X6_stepNumber tst = some tst from rfl, ob, hz]
    refine ⟨tst, sk ||| (1 <<< (nI j &&& 31)), c', 0, upd isK j (vp_nar .boolean 1), brow (17 * j) 17 P kept, rfl, ?_, ?_⟩
    · refine (ob _ _).trans ?_
      rw [hY.2.2.2.2]
      exact hM
    · intro k hk
      rw [db_or sk (by omega) (by omega)]
      by_cases e : k = j
      · subst e
        rw [if_pos rfl, q_us]
        refine ⟨by decide, fun _ => ⟨RX_cong hn (RX_of hn hY s2) (fun _ _ => rfl) (fun i hi => row_brow_in hi), GP_cong hn hG (fun i hi => row_brow_in hi)⟩⟩
      · obtain ⟨k1, k2⟩ := hS k hk
        rw [if_neg e, q_un e]
        refine ⟨k1, fun h => ⟨RX_cong hn (k2 h).1 (row_eq e s3) (fun i hi => row_brow_out e hi), GP_cong hn (k2 h).2 (fun i hi => row_brow_out e hi)⟩⟩
  · rw [iv_f h, if_pos z00, if_pos z00]
    exact ⟨_, _, _, _, _, _, rfl, rfl, hS⟩
theorem op_again (x th : Int32) {n T : Nat} {td tst sk first cnt acts : Int32} {lnC sC srC P cells isK kept ac book : Nat → Int32} (hn : n ≤ 5) (hY : RY n lnC sC srC td tst P) (hG : GP n T P) (hS : RS n T sk cells isK kept) (hA : RA n T first cnt ac acts book) :
    ∃ r first' cnt' td' tst' lnC' sC' srC' th' acts' P', f_X7_again x first cnt sk td tst cells lnC sC srC = some (r, first', cnt', td', tst', lnC', sC', srC') ∧ f_X8_again x th acts isK kept P = some (r, th', acts', P') ∧ RY n lnC' sC' srC' td' tst' P' ∧ GP n T P' ∧ RA n T first' cnt' ac acts' book := by
  unfold f_X7_again f_X8_again
  rw [c_isSlot, m_in01, ob, ob]
  by_cases h : 0 ≤ x.toInt ∧ x.toInt < 2
  · rw [iv_t h, if_neg one0, if_neg one0]
    obtain ⟨j, -, hj, rfl⟩ := i_of (x := x) (a := 0) (b := 1) (by omega) (by omega) (by omega)
    obtain ⟨k1, k2⟩ := hS j (by omega)
    rw [q_rd isK (by omega) (by omega), ob, k1, show ((sk >>> (nI j &&& 31)) &&& 1) = db sk j from rfl]
    by_cases hd : db sk j = 0
    · rw [if_pos hd, if_pos hd]
      exact ⟨_, _, _, _, _, _, _, _, _, _, _, rfl, rfl, hY, hG, hA⟩
    · rw [if_neg hd, if_neg hd]
      obtain ⟨g1, g2⟩ := k2 (db_n0.mp hd)
      obtain ⟨l', s', z', r1, r2, r3, r4⟩ := c_restore j 34 td tst lnC sC srC cells (by omega) (by omega)
      have hM := m_again_loop j (by omega) 0 acts P kept 17 0 fuelC rfl (fuel_lt (by omega))
      rw [nI_0, cpy_0] at hM
      have hb := RY_back hn g1 r2 r3 r4
      rw [r1, ob]
      dsimp only
      rw [show f_X7_forgetActs first cnt = some (0, 0) from rfl, ob]
      dsimp only
      rw [show f_X6_stepNumber (row cells j 16) = some (row cells j 16) from rfl, ob, g1.2.2.2.2]
      refine ⟨row kept j 16, _, _, _, _, l', s', z', _, _, _, rfl, hM, ?_, GP_cong hn g2 (fun i hi => cpy_in hi), RA_0⟩
      rw [← g1.2.2.2.2]
      exact RY_pg hn hb (fun i hi => cpy_in hi)
  · rw [iv_f h, if_pos z00, if_pos z00]
    exact ⟨_, _, _, _, _, _, _, _, _, _, _, rfl, rfl, hY, hG, hA⟩
theorem gl_cnt {K al : Nat → Int32} {ln : Nat → Nat} {snow : Int32} : ∀ (r j : Nat) (ah : Option Int32) (D : Int32) (c : Nat), ∃ m, m ≤ r ∧ (gl K al ln snow r j ah D (nI c)).1 = nI (c + m)
  | 0, _, _, _, c => ⟨0, by omega, rfl⟩
  | r + 1, j, ah, D, c => by
    have i0 : ∀ ah D, ∃ m, m ≤ r + 1 ∧ (gl K al ln snow r (j + 1) ah D (nI c)).1 = nI (c + m) := fun ah D => by
      obtain ⟨m, h1, h2⟩ := gl_cnt (K := K) (al := al) (ln := ln) (snow := snow) r (j + 1) ah D c
      exact ⟨m, by omega, h2⟩
    have i1 : ∀ ah D, ∃ m, m ≤ r + 1 ∧ (gl K al ln snow r (j + 1) ah D (nI c + 1)).1 = nI (c + m) := fun ah D => by
      obtain ⟨m, h1, h2⟩ := gl_cnt (K := K) (al := al) (ln := ln) (snow := snow) r (j + 1) ah D (c + 1)
      rw [nI_1]
      exact ⟨m + 1, by omega, by rw [h2, show c + 1 + m = c + (m + 1) by omega]⟩
    by_cases h : db D (ln j) = 0
    · cases ah with
      | none =>
        rw [gl_none h]
        split
        · exact i0 _ _
        · exact i1 _ _
      | some a =>
        rw [gl_some h]
        split
        · exact i0 _ _
        · exact i1 _ _
    · rw [gl_down h]
      exact i0 _ _
theorem takeStep_nn {n t : Nat} {l s kC bC : Nat → Int32} {D dep noo lat r D' t' : Int32} (hn : n ≤ 5) (ht : t < 2 ^ 20) {ln : Nat → Nat} (hl : ∀ j, j < n → ln j < n ∧ l j = nI (ln j)) (hB : ∀ w, w < n → ∃ b, 1 ≤ b ∧ b ≤ 4 ∧ bC w = nI b) (h : f_X6_takeStep 0 D (nI t) (nI n) dep noo lat l kC s bC = some (r, D', t')) : ¬ r < 0 := by
  rw [c_takeStep kC s bC l ln 0 D dep noo lat hn (by omega) hl hB] at h
  have h2 := (Prod.mk.inj (Option.some.inj h)).1
  obtain ⟨m, h3, h4⟩ := gl_cnt (K := kC) (al := alv kC s bC (nI t) 0) (ln := ln) (snow := snw dep noo lat (nI t)) n 0 none D 0
  rw [nI_0] at h4
  rw [← h2, h4]
  exact nI_nlt (a := 0 + m) (b := 0) (by omega) (by omega)
/-- the figures of a doing -/
theorem fig (f : Nat) (hf : f < 1000) : nI f / 100 = nI (f / 100) ∧ (nI f - nI f / 10 * 10) = nI (f % 10) ∧ ((nI f / 10) - (nI f / 10) / 10 * 10) = nI (f / 10 % 10) := by
  refine ⟨?_, ?_, ?_⟩
  · exact pk_div (a := f) (d := 100) (by omega) (by omega) (by omega)
  · exact pk_rem (a := f) (d := 10) (by omega) (by omega) (by omega)
  · rw [show nI f / 10 = nI (f / 10) from pk_div (a := f) (d := 10) (by omega) (by omega) (by omega)]
    exact pk_rem (a := f / 10) (d := 10) (by omega) (by omega) (by omega)
theorem nI_e {a b : Nat} (ha : a < 2 ^ 31) (hb : b < 2 ^ 31) (h : a = b) : nI a = nI b := by rw [h]
theorem nI_n {a b : Nat} (ha : a < 2 ^ 31) (hb : b < 2 ^ 31) (h : a ≠ b) : ¬ nI a = nI b := fun e => h ((nI_eq ha hb).mp e)
/-- the reference's doing, by its three figures -/
def dz (w a b : Nat) (n : Nat) (p : Nat → Int32) : Option (Int32 × (Nat → Int32)) :=
  if w = 1 ∧ a = 0 ∧ b + 1 < n then some (1, sw p b)
  else if w = 2 ∧ a < n ∧ b < 2 then (f_X8_canDrill (nI a) ((2 * nI b) - 1) 17 p).bind fun r => if r = 0 then some (0, p) else some (1, drl p a ((2 * nI b) - 1))
  else if w = 3 ∧ a = 0 ∧ b < n ∧ ¬ db (p 15) b = 0 then (f_X8_goRescue (nI b) 17 p (nI n)).bind fun q => some (1, q)
  else if w = 4 ∧ a = 0 ∧ b < n ∧ db (p 15) b = 0 then some (1, p) else some (0, p)
theorem m_nw (b : Nat) {n : Nat} (hb : b < 2 ^ 31) (hn : n ≤ 5) : f_X8_noWalker (nI b) (nI n) = some (if b < n then 0 else 1) := by
  rw [m_noWalker _ hn, nI_toInt hb]
  by_cases h : b < n
  · rw [if_pos (by omega), if_pos h]
  · rw [if_neg (by omega), if_neg h]
theorem m_does {n f : Nat} (hn : n ≤ 5) (h0 : f ≠ 0) (hf : f < 1000) (dep noo lat stm : Int32) (p K B : Nat → Int32) : f_X8_does (nI f) dep noo lat (nI n) stm p K B = dz (f / 100) (f / 10 % 10) (f % 10) n p := by
  obtain ⟨e1, e2, e3⟩ := fig f hf
  have hw : f / 100 < 10 := by omega
  have ha : f / 10 % 10 < 10 := Nat.mod_lt _ (by omega)
  have hb : f % 10 < 10 := Nat.mod_lt _ (by omega)
  unfold f_X8_does
  rw [if_neg (q_ne0 (b := f) (by omega) (by omega)), e1, e2, e3]
  generalize f / 100 = w at hw ⊢
  generalize f / 10 % 10 = a at ha ⊢
  generalize f % 10 = b at hb ⊢
  have i1 : nI w = (1 : Int32) ↔ w = 1 := nI_eq (a := w) (b := 1) (by omega) (by omega)
  have i2 : nI w = (2 : Int32) ↔ w = 2 := nI_eq (a := w) (b := 2) (by omega) (by omega)
  have i3 : nI w = (3 : Int32) ↔ w = 3 := nI_eq (a := w) (b := 3) (by omega) (by omega)
  have i4 : nI w = (4 : Int32) ↔ w = 4 := nI_eq (a := w) (b := 4) (by omega) (by omega)
  have ia : nI a = (0 : Int32) ↔ a = 0 := nI_eq (a := a) (b := 0) (by omega) (by omega)
  have ib : (2 : Int32) ≤ nI b ↔ 2 ≤ b := nI_leI (a := 2) (b := b) (by omega) (by omega)
  have hin : f_X8_in (nI b).toInt64 (0 : Int64) ((nI n - 2).toInt64) = some (if b + 1 < n then 1 else 0) := by
    rw [m_in_n2 _ hn, nI_toInt (by omega)]
    by_cases h : b + 1 < n
    · rw [iv_t h, iv_t (by omega)]
    · rw [iv_f h, iv_f (by omega)]
  have r15 : rdI p 17 15 = some (p 15) := rdp 15 (by omega)
  have k168 : J_X8_does_168 (nI w) (nI a) (nI b) (nI n) p = if w = 4 ∧ a = 0 ∧ b < n ∧ db (p 15) b = 0 then some (1, p) else some (0, p) := by
    unfold J_X8_does_168 J_X8_does_205
    simp only [i4, ia, m_nw b (by omega : b < 2 ^ 31) hn, ob, r15, m_has]
    by_cases h1 : w = 4 <;> by_cases h2 : a = 0 <;> by_cases h3 : b < n <;> by_cases h4 : db (p 15) b = 0 <;> simp [h1, h2, h3, h4]
  have k123 : J_X8_does_123 (nI w) (nI a) (nI b) (nI n) p = if w = 3 ∧ a = 0 ∧ b < n ∧ ¬ db (p 15) b = 0 then (f_X8_goRescue (nI b) 17 p (nI n)).bind fun q => some (1, q) else if w = 4 ∧ a = 0 ∧ b < n ∧ db (p 15) b = 0 then some (1, p) else some (0, p) := by
    unfold J_X8_does_123
    simp only [i3, ia, m_nw b (by omega : b < 2 ^ 31) hn, ob, r15, m_has, k168]
    by_cases h1 : w = 3 <;> by_cases h2 : a = 0 <;> by_cases h3 : b < n <;> by_cases h4 : db (p 15) b = 0 <;> simp [h1, h2, h3, h4]
  have k71 : J_X8_does_71 (nI w) (nI a) (nI b) (nI n) p = if w = 2 ∧ a < n ∧ b < 2 then (f_X8_canDrill (nI a) ((2 * nI b) - 1) 17 p).bind fun r => if r = 0 then some (0, p) else some (1, drl p a ((2 * nI b) - 1)) else if w = 3 ∧ a = 0 ∧ b < n ∧ ¬ db (p 15) b = 0 then (f_X8_goRescue (nI b) 17 p (nI n)).bind fun q => some (1, q) else if w = 4 ∧ a = 0 ∧ b < n ∧ db (p 15) b = 0 then some (1, p) else some (0, p) := by
    unfold J_X8_does_71
    simp only [i2, m_nw a (by omega : a < 2 ^ 31) hn, ob, k123, ib]
    by_cases h1 : w = 2
    · by_cases h2 : a < n
      · by_cases h3 : b < 2
        · have h3' : ¬ 2 ≤ b := by omega
          simp only [h1, h2, h3, h3', if_true, if_false, and_self]
          rw [m_goDrill (p := p) (w := a) (N := 17) _ (by omega) (by omega) (by omega)]
          simp [ob]
        · have h3' : 2 ≤ b := by omega
          simp [h1, h2, h3, h3']
      · simp [h1, h2]
    · simp [h1]
  unfold dz
  simp only [i1, ia, hin, ob, k71]
  by_cases h1 : w = 1
  · by_cases h2 : a = 0
    · by_cases h3 : b + 1 < n
      · rw [if_pos h1, if_pos h2, iv_t h3, if_neg one0, m_goChange (by omega) (by omega), ob, if_pos ⟨h1, h2, h3⟩]
      · rw [if_pos h1, if_pos h2, iv_f h3, if_pos z00, if_neg (show ¬ (w = 1 ∧ a = 0 ∧ b + 1 < n) from fun h => h3 h.2.2)]
    · rw [if_pos h1, if_neg h2, if_neg (show ¬ (w = 1 ∧ a = 0 ∧ b + 1 < n) from fun h => h2 h.2.1)]
  · rw [if_neg h1, if_neg (show ¬ (w = 1 ∧ a = 0 ∧ b + 1 < n) from fun h => h1 h.1)]
