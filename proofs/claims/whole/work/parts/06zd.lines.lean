/-! ===== lines ===== -/
def fg (o : Nat → Int32) : Nat → Nat → Int32 → Int32
  | 0, _, a => a
  | k + 1, j, a => fg o k (j + 1) (a * 10 + o j + 1)
theorem fg_cong {n : Nat} {o o' : Nat → Int32} (h : AG n o o') : ∀ (k j : Nat) (a : Int32), j + k = n → fg o k j a = fg o' k j a
  | 0, _, _, _ => rfl
  | k + 1, j, a, hj => by rw [fg, fg, h j (by omega), fg_cong h k (j + 1) _ (by omega)]
theorem c_fig_loop {n : Nat} (hn : n ≤ 5) (o : Nat → Int32) : ∀ (k j fu : Nat) (a : Int32), j + k = n → k < fu → L_X6_lineAsFigures_4 (nI n) o fu a (nI j) = some (fg o k j a)
  | k, j, 0, _, _, h => absurd h (Nat.not_lt_zero _)
  | 0, j, fu + 1, a, hj, _ => by rw [L_X6_lineAsFigures_4, c_size, ob, if_pos (nI_le (by omega) (by omega))]; rfl
  | k + 1, j, fu + 1, a, hj, hf => by
    rw [L_X6_lineAsFigures_4, c_size, ob, if_neg (nI_ge (by omega) (by omega)), c_walkerAt _ (by omega), ob, nI_1]
    exact c_fig_loop hn o k (j + 1) fu _ (by omega) (by omega)
theorem c_figures {n : Nat} (hn : n ≤ 5) (o : Nat → Int32) : f_X6_lineAsFigures (nI n) o = some (fg o n 0 0) := by
  have h := c_fig_loop hn o n 0 fuelC 0 (by omega) (fuel_lt (by omega))
  rw [nI_0] at h
  exact h
theorem m_70 (k58 : Int32 → Int32 → Int32 → Int32 → (Nat → Int32) → (Nat → Int32) → Option (Int32 × Int32 × Int32 × (Nat → Int32) × (Nat → Int32))) {n : Nat} (hn : n ≤ 5) (dep noo lat stm lm lo : Int32) (o P K B q : Nat → Int32) : ∀ (k j fu : Nat) (a : Int32), j + k = n → k < fu → L_X8_findLines_70 k58 dep noo lat (nI n) stm lm lo o P K B fu a (nI j) (cpy j o q) = L_X8_findLines_70 k58 dep noo lat (nI n) stm lm lo o P K B 1 (fg o k j a) (nI n) (cpy n o q)
  | k, j, 0, _, _, h => absurd h (Nat.not_lt_zero _)
  | 0, j, fu + 1, a, hj, _ => by
    have : j = n := by omega
    subst this
    rw [L_X8_findLines_70, L_X8_findLines_70, if_pos (nI_le (Nat.le_refl _) (by omega)), if_pos (nI_le (Nat.le_refl _) (by omega))]; rfl
  | k + 1, j, fu + 1, a, hj, hf => by
    have ih := m_70 k58 hn dep noo lat stm lm lo o P K B q k (j + 1) fu (a * 10 + o j + 1) (by omega) (by omega)
    rw [fg, ← ih]
    conv => lhs; rw [L_X8_findLines_70]
    rw [if_neg (nI_ge (by omega) (by omega)), q_rd _ (by omega) (by omega), ob, q_0add, q_wr _ _ (by omega) (by omega), ob, ob, nI_1, cpy_s, Int32.mul_comm 10 a]
