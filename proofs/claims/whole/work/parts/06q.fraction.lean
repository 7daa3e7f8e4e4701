/-! ===== fractions ===== -/
theorem gcd_both : ∀ (k A B c fu fu' : Nat), B < 2 ^ k → c + 2 * k ≤ 63 → 2 * k + 1 < fu → 2 * k + 1 < fu' → A < 2 ^ 31 → B < 2 ^ 31 → (0 < A ∨ 0 < B) → ∃ g, 0 < g ∧ g < 2 ^ 31 ∧ L_X7_commonDivisor_7 fu (nI A) (nI B) (nI c) = some (nI g) ∧ L_X8_divisor_13 fu' (nI A) (nI B) = some (nI g) := by
  have zero : ∀ (A c fu fu' : Nat), c ≤ 63 → 0 < fu → 0 < fu' → 0 < A → A < 2 ^ 31 → ∃ g, 0 < g ∧ g < 2 ^ 31 ∧ L_X7_commonDivisor_7 fu (nI A) (nI 0) (nI c) = some (nI g) ∧ L_X8_divisor_13 fu' (nI A) (nI 0) = some (nI g) := by
    intro A c fu fu' hc h1 h2 hA hA2
    obtain ⟨f, rfl⟩ : ∃ f, fu = f + 1 := ⟨fu - 1, by omega⟩
    obtain ⟨f', rfl⟩ : ∃ f, fu' = f + 1 := ⟨fu' - 1, by omega⟩
    refine ⟨A, hA, hA2, ?_, ?_⟩
    · rw [L_X7_commonDivisor_7, if_neg (show ¬ (64 : Int32) ≤ nI c from nI_ge (a := c) (b := 64) (by omega) (by omega)), nI_0, if_pos (by decide)]
    · rw [L_X8_divisor_13, nI_0, if_pos rfl]
  intro k
  induction k with
  | zero =>
    intro A B c fu fu' hB hc h1 h2 hA hB2 hp
    have : B = 0 := by omega
    subst this
    exact zero A c fu fu' (by omega) (by omega) (by omega) (by omega) hA
  | succ k ih =>
    intro A B c fu fu' hB hc h1 h2 hA hB2 hp
    by_cases b0 : B = 0
    · subst b0
      exact zero A c fu fu' (by omega) (by omega) (by omega) (by omega) hA
    · obtain ⟨f, rfl⟩ : ∃ f, fu = f + 1 := ⟨fu - 1, by omega⟩
      obtain ⟨f', rfl⟩ : ∃ f, fu' = f + 1 := ⟨fu' - 1, by omega⟩
      have s1 : ∀ (A B c f : Nat), 0 < B → A < 2 ^ 31 → B < 2 ^ 31 → c ≤ 63 → L_X7_commonDivisor_7 (f + 1) (nI A) (nI B) (nI c) = L_X7_commonDivisor_7 f (nI B) (nI (A % B)) (nI (c + 1)) := by
        intro A B c f h0 h1 h2 h3
        rw [L_X7_commonDivisor_7, if_neg (show ¬ (64 : Int32) ≤ nI c from nI_ge (a := c) (b := 64) (by omega) (by omega)), if_neg (show ¬ nI B ≤ (0 : Int32) from q_nle.mpr ((i_gt (x := nI B) (k := 0) (by omega)).mpr (by rw [nI_toInt h2]; omega))), if_neg (q_ne0 (by omega) h2), pk_rem h1 h0 h2, nI_1]
      have s2 : ∀ (A B f : Nat), 0 < B → A < 2 ^ 31 → B < 2 ^ 31 → L_X8_divisor_13 (f + 1) (nI A) (nI B) = L_X8_divisor_13 f (nI B) (nI (A % B)) := by
        intro A B f h0 h1 h2
        rw [L_X8_divisor_13, if_neg (q_ne0 (by omega) h2), if_neg (q_ne0 (by omega) h2), pk_rem h1 h0 h2]
      have hr : A % B < B := Nat.mod_lt _ (by omega)
      rw [s1 A B c f (by omega) hA hB2 (by omega), s2 A B f' (by omega) hA hB2]
      by_cases r0 : A % B = 0
      · rw [r0]
        exact zero B (c + 1) f f' (by omega) (by omega) (by omega) (by omega) hB2
      · obtain ⟨f2, rfl⟩ : ∃ g, f = g + 1 := ⟨f - 1, by omega⟩
        obtain ⟨f2', rfl⟩ : ∃ g, f' = g + 1 := ⟨f' - 1, by omega⟩
        rw [s1 B (A % B) (c + 1) f2 (by omega) hB2 (by omega) (by omega), s2 B (A % B) f2' (by omega) hB2 (by omega)]
        have hm := Nat.mod_lt B (show 0 < A % B by omega)
        have hd := Nat.div_add_mod B (A % B)
        have hq : 1 ≤ B / (A % B) := Nat.div_pos (by omega) (by omega)
        have hmul : A % B ≤ A % B * (B / (A % B)) := Nat.le_mul_of_pos_right _ hq
        have h2k : (2 : Nat) ^ (k + 1) = 2 * 2 ^ k := by rw [Nat.pow_succ, Nat.mul_comm]
        exact ih (A % B) (B % (A % B)) (c + 1 + 1) f2 f2' (by omega) (by omega) (by omega) (by omega) (by omega) (by omega) (by omega)
theorem neg_nat {x : Int32} (h : x.toInt < 0) (h2 : -2 ^ 31 < x.toInt) : ∃ A, A < 2 ^ 31 ∧ 0 - x = nI A ∧ -x = nI A := by
  refine ⟨(-x.toInt).toNat, by omega, ?_, ?_⟩
  · apply Int32.toInt_inj.mp
    rw [nI_toInt (by omega), Int32.toInt_sub]
    show (0 - x.toInt).bmod (2 ^ 32) = _
    rw [Int.bmod_eq_of_le (by omega) (by omega)]
    omega
  · apply Int32.toInt_inj.mp
    rw [nI_toInt (by omega), Int32.toInt_neg, Int.bmod_eq_of_le (by omega) (by omega)]
    omega
theorem frac_both (a u : Int32) (B : Nat) (ha : -2 ^ 31 < a.toInt) (h0 : 0 < B) (hB : B < 2 ^ 20) : ∃ r, f_X7_partOf a (nI B) u = some r ∧ f_X8_fraction a (nI B) u = some r := by
  have hA : ∃ A, A < 2 ^ 31 ∧ (if 0 ≤ a then a else 0 - a) = nI A ∧ f_X8_divisor a (nI B) = L_X8_divisor_13 fuelC (nI A) (nI B) := by
    unfold f_X8_divisor J_X8_divisor_10
    by_cases h : 0 ≤ a
    · have h' : 0 ≤ a.toInt := (q_le 0 a).mp h
      obtain ⟨A, -, hA, e⟩ := i_of (x := a) (a := 0) (b := 2 ^ 31 - 1) (by omega) (by have := Int32.toInt_lt a; omega) (by omega)
      exact ⟨A, by omega, by rw [if_pos h, e], by rw [if_pos h, e]⟩
    · have h' : a.toInt < 0 := by
        have : ¬ (0 : Int32).toInt ≤ a.toInt := fun e => h ((q_le 0 a).mpr e)
        have h3 : (0 : Int32).toInt = 0 := rfl
        omega
      obtain ⟨A, k1, k2, k3⟩ := neg_nat h' ha
      exact ⟨A, k1, by rw [if_neg h, k2], by rw [if_neg h, k3]⟩
  obtain ⟨A, a1, a2, a3⟩ := hA
  obtain ⟨g, g0, g1, g2, g3⟩ := gcd_both 20 A B 0 fuelC fuelC hB (by omega) (fuel_lt (by omega)) (fuel_lt (by omega)) a1 (by omega) (Or.inr h0)
  rw [nI_0] at g2
  unfold f_X7_partOf f_X8_fraction f_X7_commonDivisor
  rw [a2, a3, g2, g3, ob, ob, if_pos (show (0 : Int32) < nI g from (i_gt (x := nI g) (k := 0) (by omega)).mpr (by rw [nI_toInt g1]; omega))]
  by_cases hu : u = 0
  · rw [if_pos hu, if_neg (q_ne0 g0 g1)]
    exact ⟨_, rfl, rfl⟩
  · rw [if_neg hu, if_neg (q_ne0 g0 g1)]
    exact ⟨_, rfl, rfl⟩
/-! powers -/
def pwr (x : Int32) : Nat → Int32 → Int32
  | 0, a => a
  | k + 1, a => pwr x k (a * x)
theorem m_pow_loop (x : Int32) (m : Nat) (hm : m < 1000) : ∀ (k j fu : Nat) (a : Int32), j + k = m → k < fu → L_X8_power_4 x (nI m) fu a (nI j) = some (pwr x k a)
  | k, j, 0, _, _, h => absurd h (Nat.not_lt_zero _)
  | 0, j, fu + 1, a, hj, _ => by rw [L_X8_power_4, if_pos (nI_le (by omega) (by omega))]; rfl
  | k + 1, j, fu + 1, a, hj, hf => by
    have ih := m_pow_loop x m hm k (j + 1) fu (a * x) (by omega) (by omega)
    rw [L_X8_power_4, if_neg (nI_ge (by omega) (by omega)), nI_1, ih]; rfl
theorem m_power (x : Int32) {m : Nat} (hm : m < 1000) : f_X8_power x (nI m) = some (pwr x m 1) := by
  have h := m_pow_loop x m hm m 0 fuelC 1 (by omega) (fuel_lt (by omega))
  rw [nI_0] at h
  exact h
theorem c_below_loop (n : Nat) (hn : n < 1000) : ∀ (k j fu : Nat) (a : Int32), j + k = n → k < fu → L_X0_stumblesBelow_4 (nI n) fu a (nI j) = some (pwr 10 k a)
  | k, j, 0, _, _, h => absurd h (Nat.not_lt_zero _)
  | 0, j, fu + 1, a, hj, _ => by rw [L_X0_stumblesBelow_4, c_size, ob, if_pos (nI_le (by omega) (by omega))]; rfl
  | k + 1, j, fu + 1, a, hj, hf => by
    have ih := c_below_loop n hn k (j + 1) fu (a * 10) (by omega) (by omega)
    rw [L_X0_stumblesBelow_4, c_size, ob, if_neg (nI_ge (by omega) (by omega)), nI_1, ih]; rfl
theorem c_below {n : Nat} (hn : n < 1000) : f_X0_stumblesBelow (nI n) = some (pwr 10 n 1) := by
  have h := c_below_loop n hn n 0 fuelC 1 (by omega) (fuel_lt (by omega))
  rw [nI_0] at h
  exact h
theorem pwr10 : ∀ n, n < 6 → pwr 10 n 1 = nI (10 ^ n) := by decide +kernel
def lkf (S x : Int32) : Nat → Nat → Int32 → Int32
  | 0, _, a => a
  | k + 1, j, a => lkf S x k (j + 1) (a * (if db S j = 0 then 10 - x else x))
theorem c_lk_loop (S x : Int32) (n : Nat) (hn : n < 1000) : ∀ (k j fu : Nat) (a : Int32), j + k = n → k < fu → L_X0_likelihood_5 S x (nI n) fu a (nI j) = some (lkf S x k j a)
  | k, j, 0, _, _, h => absurd h (Nat.not_lt_zero _)
  | 0, j, fu + 1, a, hj, _ => by rw [L_X0_likelihood_5, c_size, ob, if_pos (nI_le (by omega) (by omega))]; rfl
  | k + 1, j, fu + 1, a, hj, hf => by
    have ih := fun a => c_lk_loop S x n hn k (j + 1) fu a (by omega) (by omega)
    rw [L_X0_likelihood_5, c_size, ob, if_neg (nI_ge (by omega) (by omega)), lkf]
    unfold J_X0_likelihood_35
    rw [nI_1, ih, ih]
    by_cases h : ((S >>> (nI j &&& 31)) &&& 1) = 0
    · rw [if_pos h, if_pos (show db S j = 0 from h)]
    · rw [if_neg h, if_neg (show ¬ db S j = 0 from h)]
theorem c_lk (S x : Int32) {n : Nat} (hn : n < 1000) : f_X0_likelihood S x (nI n) = some (lkf S x n 0 1) := by
  have h := c_lk_loop S x n hn n 0 fuelC 1 (by omega) (fuel_lt (by omega))
  rw [nI_0] at h
  exact h
theorem lk_all : ∀ n, n < 6 → ∀ S, S < 2 ^ n → ∀ x, x < 11 → pc (nI S) = nI (pc (nI S)).toNatClampNeg ∧ (pc (nI S)).toNatClampNeg ≤ n ∧ (lkf (nI S) (nI x) n 0 1 = pwr (nI x) (pc (nI S)).toNatClampNeg 1 * pwr (10 - nI x) (n - (pc (nI S)).toNatClampNeg) 1) ∧ lkf (nI S) (nI x) n 0 1 = nI (lkf (nI S) (nI x) n 0 1).toNatClampNeg ∧ (lkf (nI S) (nI x) n 0 1).toNatClampNeg ≤ 100000 := by decide +kernel
