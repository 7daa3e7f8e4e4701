/-! ===== winters ===== -/
theorem wb_tb (n : Nat) : (lN n).toBitVec = BitVec.ofNat 64 n := rfl
theorem wb_inj {a b : Int64} (h : a.toBitVec = b.toBitVec) : a = b := Int64.toBitVec_inj.mp h
theorem wb_tn {n : Nat} (h : n < 2 ^ 64) : (lN n).toBitVec.toNat = n := by rw [wb_tb, BitVec.toNat_ofNat, Nat.mod_eq_of_lt h]
theorem wb_of (x : Int64) : ∃ n, n < 2 ^ 64 ∧ x = lN n := ⟨x.toBitVec.toNat, x.toBitVec.isLt, wb_inj (by rw [wb_tb]; simp)⟩
theorem wb_cu : ∀ k, k < 64 → ((nI k).toInt64.toUInt64 &&& Int64.toUInt64 63) = UInt64.ofNat k := by decide +kernel
theorem wb_shr {n k : Nat} (hn : n < 2 ^ 64) (hk : k < 64) : ((lN n).toUInt64 >>> ((nI k).toInt64.toUInt64 &&& Int64.toUInt64 63)).toInt64 = lN (n / 2 ^ k) := by
  rw [wb_cu k hk]
  apply wb_inj
  apply BitVec.eq_of_toNat_eq
  show ((lN n).toUInt64 >>> UInt64.ofNat k).toNat = (BitVec.ofNat 64 _).toNat
  have h1 : (UInt64.ofNat k).toNat = k := by
    show (BitVec.ofNat 64 k).toNat = k
    rw [BitVec.toNat_ofNat, Nat.mod_eq_of_lt (by omega)]
  have h2 : (lN n).toUInt64.toNat = n := wb_tn hn
  rw [UInt64.toNat_shiftRight, h1, h2, Nat.mod_eq_of_lt hk, Nat.shiftRight_eq_div_pow, BitVec.toNat_ofNat, Nat.mod_eq_of_lt (Nat.lt_of_le_of_lt (Nat.div_le_self _ _) hn)]
theorem lcg (S : Int64) : ∃ k, k < 20 ∧ ((S.toUInt64 >>> ((33 : Int32).toInt64.toUInt64 &&& Int64.toUInt64 63)).toInt64 - (S.toUInt64 >>> ((33 : Int32).toInt64.toUInt64 &&& Int64.toUInt64 63)).toInt64 / (20 : Int64) * (20 : Int64)).toInt32 = nI k := by
  obtain ⟨N, hN, rfl⟩ := wb_of S
  refine ⟨N / 2 ^ 33 % 20, Nat.mod_lt _ (by omega), ?_⟩
  rw [show (33 : Int32) = nI 33 from rfl, wb_shr hN (by omega), show (20 : Int64) = lN 20 from rfl, pk_lRem (by omega) (by omega) (by omega), lN_i]
/-- the code of a time of a winter -/
def wcode (x : Nat) : Nat := if 14 ≤ x then 0 else if 9 ≤ x then 291 + x else if 5 ≤ x then 95 + x else 201 + 10 * x
theorem winter_ok {n T x : Nat} {tc dC nC lC wM dM nM lM D t : Int32} {kC bC kM bM l s z p : Nat → Int32} (hn : n ≤ 5) (hP : PTY n tc dC nC lC kC bC wM dM nM lM kM bM) (hx : x < 20) (h : RY n l s z D t p) (hG : GP n T p) (hT : T < 2 ^ 19) :
    ∃ r D' t' z' s' l' p', f_X0_winter (nI x) D t tc dC nC lC z s l kC bC = some (pc (sb n D'), D', t', z', s', l') ∧ f_X8_does (nI (wcode x)) dM nM lM wM 0 p kM bM = some (r, p') ∧ RY n l' s' z' D' t' p' ∧ GP n (T + 1) p' := by
  obtain ⟨rfl, rfl, rfl, rfl, rfl, hk, hb, hR⟩ := hP
  have hG1 := GP_mono hG (Nat.le_succ T)
  have i5 : (5 : Int32) ≤ nI x ↔ 5 ≤ x := nI_leI (a := 5) (b := x) (by omega) (by omega)
  have i9 : (9 : Int32) ≤ nI x ↔ 9 ≤ x := nI_leI (a := 9) (b := x) (by omega) (by omega)
  have i14 : (14 : Int32) ≤ nI x ↔ 14 ≤ x := nI_leI (a := 14) (b := x) (by omega) (by omega)
  have fin : ∀ (D t : Int32) (z s l : Nat → Int32), J_X0_winter_68 D t (nI n) z s l = some (pc (sb n D), D, t, z, s, l) := fun D t z s l => by
    unfold J_X0_winter_68
    rw [c_standing D hn, ob]
  unfold f_X0_winter wcode
  by_cases h5 : 5 ≤ x
  · rw [if_pos (i5.mpr h5)]
    by_cases h9 : 9 ≤ x
    · rw [if_pos (i9.mpr h9)]
      by_cases h14 : 14 ≤ x
      · rw [if_pos (i14.mpr h14), if_pos h14]
        obtain ⟨r, D', t', p', k1, k2, k3, k4, k5⟩ := step_ok0 (dep := dC) (noo := nC) (lat := lC) hn hR hk hb h hG hT
        refine ⟨1, D', t', z, s, l, p', ?_, ?_, k4, k5⟩
        · rw [k1, ob]; exact fin _ _ _ _ _
        · rw [nI_0]; exact m_does0 _ _ _ _ _ _ _ _ k3
      · rw [if_neg (fun e => h14 (i14.mp e)), if_neg h14, if_pos h9, m_does hn (by omega) (by omega), show (291 + x) / 100 = 3 by omega, show (291 + x) / 10 % 10 = 0 by omega, show (291 + x) % 10 = x - 9 by omega]
        obtain ⟨r, D', l', p', k1, k2, k3, k4, k5⟩ := a_resc (b := x - 9) hn (by omega) h hG1
        refine ⟨r, D', t, z, s, l', p', ?_, k2, k3, k4⟩
        rw [show nI x - 9 = nI (x - 9) from pk_sub (b := 9) (by omega), k1, ob]; exact fin _ _ _ _ _
    · rw [if_neg (fun e => h9 (i9.mp e)), if_neg (by omega), if_neg h9, if_pos h5, m_does hn (by omega) (by omega), show (95 + x) / 100 = 1 by omega, show (95 + x) / 10 % 10 = 0 by omega, show (95 + x) % 10 = x - 5 by omega]
      obtain ⟨r, l', p', k1, k2, k3, k4, k5⟩ := a_swap (b := x - 5) hn (by omega) h hG1
      refine ⟨r, D, t, z, s, l', p', ?_, k2, k3, k4⟩
      rw [show nI x - 5 = nI (x - 5) from pk_sub (b := 5) (by omega), k1, ob]; exact fin _ _ _ _ _
  · rw [if_neg (fun e => h5 (i5.mp e)), if_neg (by omega), if_neg (by omega), if_neg h5, m_does hn (by omega) (by omega), show (201 + 10 * x) / 100 = 2 by omega, show (201 + 10 * x) / 10 % 10 = x by omega, show (201 + 10 * x) % 10 = 1 by omega]
    obtain ⟨r, s', z', p', k1, k2, k3, k4, k5⟩ := a_drill (a := x) (b := 1) hn (by omega) (by omega) h hG1
    refine ⟨r, D, t, z', s', l, p', ?_, k2, k3, k4⟩
    rw [show (1 : Int32) = nI 1 from rfl, k1, ob]; exact fin _ _ _ _ _
theorem winters_loop (m : Nat) (hm : m ≤ 30) (th : Int32) {n : Nat} {tc dC nC lC wM dM nM lM : Int32} {kC bC kM bM : Nat → Int32} (hn : n ≤ 5) (hP : PTY n tc dC nC lC kC bC wM dM nM lM kM bM) : ∀ (k i fu fu' T : Nat) (acc : Int32) (S : Int64) (D t : Int32) (l s z p : Nat → Int32), i + k = m → k < fu → k < fu' → RY n l s z D t p → GP n T p → T + k < 2 ^ 19 →
    ∃ r S' fd' fs' fl' fst' fsr' Q', L_X7_winters_25 (nI m) tc dC nC lC kC bC fu acc (nI i) S D t l s z = some (r, S', fd', fs', fl', fst', fsr') ∧ L_X8_winters_28 (nI m) th dM nM lM wM 0 kM bM fu' acc (nI i) S p = some (r, th, S', 0, Q')
  | k, i, 0, _, _, _, _, _, _, _, _, _, _, _, h, _, _, _, _ => absurd h (Nat.not_lt_zero _)
  | k, i, _, 0, _, _, _, _, _, _, _, _, _, _, _, h, _, _, _ => absurd h (Nat.not_lt_zero _)
  | 0, i, fu + 1, fu' + 1, T, acc, S, D, t, l, s, z, p, hj, _, _, _, _, _ => by
    have : i = m := by omega
    subst this
    rw [L_X7_winters_25, L_X8_winters_28, if_pos (nI_leI (by omega) (by omega) |>.mpr (Nat.le_refl _)), if_pos (nI_leI (by omega) (by omega) |>.mpr (Nat.le_refl _))]
    exact ⟨_, _, _, _, _, _, _, _, rfl, rfl⟩
  | k + 1, i, fu + 1, fu' + 1, T, acc, S, D, t, l, s, z, p, hj, hf, hf', hY, hG, hT => by
    obtain ⟨x, hx, ex⟩ := lcg (S * (6364136223846793005 : Int64) + (1442695040888963407 : Int64))
    obtain ⟨r, D', t', z', s', l', p', k1, k2, k3, k4⟩ := winter_ok hn hP hx hY hG (by omega)
    have ih := winters_loop m hm th hn hP k (i + 1) fu fu' (T + 1) (acc + pc (sb n D')) (S * (6364136223846793005 : Int64) + (1442695040888963407 : Int64)) D' t' l' s' z' p' (by omega) (by omega) (by omega) k3 k4 (by omega)
    have i5 : (5 : Int32) ≤ nI x ↔ 5 ≤ x := nI_leI (a := 5) (b := x) (by omega) (by omega)
    have i9 : (9 : Int32) ≤ nI x ↔ 9 ≤ x := nI_leI (a := 9) (b := x) (by omega) (by omega)
    have i14 : (14 : Int32) ≤ nI x ↔ 14 ≤ x := nI_leI (a := 14) (b := x) (by omega) (by omega)
    have ew : wM = nI n := hP.2.1
    have mid : ∀ c, c = wcode x → J_X8_winters_114 (L_X8_winters_28 (nI m) th dM nM lM wM 0 kM bM fu') acc (nI i) (nI c) dM nM lM wM (S * (6364136223846793005 : Int64) + (1442695040888963407 : Int64)) 0 p kM bM = L_X8_winters_28 (nI m) th dM nM lM wM 0 kM bM fu' (acc + pc (sb n D')) (nI (i + 1)) (S * (6364136223846793005 : Int64) + (1442695040888963407 : Int64)) p' := by
      intro c hc
      subst hc
      unfold J_X8_winters_114
      rw [k2, ob]
      dsimp only
      rw [ew, m_up, ob, m_many, ob, nI_1, k3.2.2.2.1]
    rw [L_X7_winters_25, L_X8_winters_28, if_neg (nI_ge (by omega) (by omega)), if_neg (nI_ge (by omega) (by omega)), ex, k1, ob]
    dsimp only
    rw [nI_1]
    obtain ⟨r', S', fd', fs', fl', fst', fsr', Q', j1, j2⟩ := ih
    refine ⟨r', S', fd', fs', fl', fst', fsr', Q', j1, ?_⟩
    rw [← j2]
    by_cases h5 : 5 ≤ x
    · rw [if_pos (i5.mpr h5)]
      by_cases h9 : 9 ≤ x
      · rw [if_pos (i9.mpr h9)]
        by_cases h14 : 14 ≤ x
        · rw [if_pos (i14.mpr h14)]
          have := mid 0 (by unfold wcode; rw [if_pos h14])
          rw [nI_0] at this
          exact this
        · rw [if_neg (fun e => h14 (i14.mp e)), show (291 : Int32) = nI 291 from rfl, nI_add]
          exact mid _ (by unfold wcode; rw [if_neg h14, if_pos h9])
      · rw [if_neg (fun e => h9 (i9.mp e)), show (95 : Int32) = nI 95 from rfl, nI_add]
        exact mid _ (by unfold wcode; rw [if_neg (by omega), if_neg h9, if_pos h5])
    · rw [if_neg (fun e => h5 (i5.mp e)), show (201 : Int32) = nI 201 from rfl, show (10 : Int32) = nI 10 from rfl, pk_mul, nI_add]
      exact mid _ (by unfold wcode; rw [if_neg (by omega), if_neg (by omega), if_neg h5])
theorem op_winters (x : Int32) (S : Int64) (th stm : Int32) {n T : Nat} {tc dC nC lC wM dM nM lM td tst : Int32} {kC bC kM bM lnC sC srC P : Nat → Int32} (fd fs : Int32) (fl fst fsr Q : Nat → Int32) (hn : n ≤ 5) (hP : PTY n tc dC nC lC kC bC wM dM nM lM kM bM) (hY : RY n lnC sC srC td tst P) (hG : GP n T P) (hT : T < 2 ^ 18) :
    ∃ r S' fd' fs' fl' fst' fsr' th' stm' Q', f_X7_winters x S fd fs td tst lnC fl sC fst srC fsr tc dC nC lC kC bC = some (r, S', fd', fs', fl', fst', fsr') ∧ f_X8_winters x th dM nM lM wM S stm P Q kM bM = some (r, th', S', stm', Q') := by
  unfold f_X7_winters f_X8_winters
  rw [show (1 : Int64) = lN 1 from rfl, show (30 : Int64) = lN 30 from rfl, m_in32 x 1 30 (by omega) (by omega), ob]
  have i1 : x < 1 ↔ x.toInt < (1 : Nat) := i_lt (k := 1) (by omega)
  have i4 : x ≤ (30 : Int32) ↔ x.toInt ≤ (30 : Nat) := i_le (k := 30) (by omega)
  by_cases h1 : x.toInt < (1 : Nat)
  · rw [if_pos (i1.mpr h1), iv_f (by omega), if_pos z00]
    exact ⟨_, _, _, _, _, _, _, _, _, _, rfl, rfl⟩
  · rw [if_neg (fun e => h1 (i1.mp e))]
    by_cases h4 : x.toInt ≤ (30 : Nat)
    · rw [if_pos (i4.mpr h4), iv_t (by omega), if_neg one0]
      obtain ⟨m, hm1, hm, rfl⟩ := i_of (x := x) (a := 1) (b := 30) (by omega) (by omega) (by omega)
      unfold f_X0_beginWinters
      rw [c_copyFrom, ob, ob, m_begin, ob]
      dsimp only
      obtain ⟨b1, b2⟩ := beg_ok hn hY hG fl fst fsr Q
      obtain ⟨r', S', fd', fs', fl', fst', fsr', Q', j1, j2⟩ := winters_loop m hm 0 hn hP m 0 fuelC fuelC T 0 S td tst _ _ _ _ (by omega) (fuel_lt (by omega)) (fuel_lt (by omega)) b1 b2 (by omega)
      rw [nI_0] at j1 j2
      exact ⟨_, _, _, _, _, _, _, _, _, _, j1, j2⟩
    · rw [if_neg (fun e => h4 (i4.mp e)), iv_f (by omega), if_pos z00]
      exact ⟨_, _, _, _, _, _, _, _, _, _, rfl, rfl⟩
