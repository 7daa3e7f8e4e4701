theorem no_107 {n : Nat} (hn : n ≤ 5) : ∀ (fu a b : Nat) (o o' w : Nat → Int32) (x : Int32), AG n o o' → a ≤ 10 → b < n → L_X8_nextOrder_107 fu (nI a) (nI b) o = some (x, w) → ∃ w', L_X8_nextOrder_107 fu (nI a) (nI b) o' = some (x, w') ∧ AG n w w'
  | 0, _, _, _, _, _, _, _, _, _, h => by rw [L_X8_nextOrder_107] at h; exact absurd h (by simp)
  | fu + 1, a, b, o, o', w, x, ho, ha, hb, h => by
    by_cases hab : b ≤ a
    · have hle : nI b ≤ nI a := nI_le hab (by omega)
      rw [L_X8_nextOrder_107, if_pos hle] at h ⊢
      cases h
      exact ⟨o', rfl, ho⟩
    · have hgt : ¬ nI b ≤ nI a := nI_ge (by omega) (by omega)
      have e : nI b + (-1) = nI (b - 1) := by
        rw [show b = (b - 1) + 1 by omega, ← nI_1, Int32.add_assoc]
        show nI (b - 1) + 0 = _
        rw [q_add0]; rfl
      rw [L_X8_nextOrder_107, if_neg hgt, q_rd _ (by omega) (by omega), ob, q_rd _ (by omega) (by omega), ob, q_wr _ _ (by omega) (by omega), ob, q_wr _ _ (by omega) (by omega), ob, nI_1, e] at h ⊢
      exact no_107 hn fu (a + 1) (b - 1) _ _ w x (fun i hi => by
        by_cases e1 : i = b
        · subst e1; rw [q_us, q_us]; exact ho a (by omega)
        · rw [q_un e1, q_un e1]
          by_cases e2 : i = a
          · subst e2; rw [q_us, q_us]; exact ho b hb
          · rw [q_un e2, q_un e2]; exact ho i hi) (by omega) (by omega) h
theorem m1_in : ¬ ¬ ((-1 : Int32) < 0 ∨ (5 : Nat) ≤ (-1 : Int32).toNatClampNeg) := by decide
theorem no_47 {n : Nat} (hn : n ≤ 5) : ∀ (fu a b : Nat) (o o' w : Nat → Int32) (x : Int32), AG n o o' → a < n → b < n → L_X8_nextOrder_47 (nI a) (nI n) o fu (nI b) = some (x, w) → ∃ w', L_X8_nextOrder_47 (nI a) (nI n) o' fu (nI b) = some (x, w') ∧ AG n w w'
  | 0, _, _, _, _, _, _, _, _, _, h => by rw [L_X8_nextOrder_47] at h; exact absurd h (by simp)
  | fu + 1, a, b, o, o', w, x, ho, ha, hb, h => by
    rw [L_X8_nextOrder_47, q_rd _ (by omega) (by omega), ob, q_rd _ (by omega) (by omega), ob] at h ⊢
    rw [← ho a ha, ← ho b hb]
    by_cases hv : o a ≤ o b
    · rw [if_pos hv, ob, ob, q_wr _ _ (by omega) (by omega), ob, q_wr _ _ (by omega) (by omega), ob, nI_1, show nI n - 1 = nI (n - 1) from pk_sub (b := 1) (by omega)] at h ⊢
      exact no_107 hn fuelC (a + 1) (n - 1) _ _ w x (fun i hi => by
        by_cases e1 : i = b
        · subst e1; rw [q_us, q_us]
        · rw [q_un e1, q_un e1]
          by_cases e2 : i = a
          · subst e2; rw [q_us, q_us]
          · rw [q_un e2, q_un e2]; exact ho i hi) (by omega) (by omega) h
    · rw [if_neg hv] at h ⊢
      by_cases b0 : b = 0
      · subst b0
        rw [show nI 0 + (-1) = (-1 : Int32) by decide] at h
        cases fu with
        | zero => rw [L_X8_nextOrder_47] at h; exact absurd h (by simp)
        | succ fu =>
          rw [L_X8_nextOrder_47, show rdI o 5 (-1) = none by unfold rdI; rw [if_pos (Classical.not_not.mp m1_in)]] at h
          exact absurd h (by simp)
      · have e : nI b + (-1) = nI (b - 1) := by
          rw [show b = (b - 1) + 1 by omega, ← nI_1, Int32.add_assoc]
          show nI (b - 1) + 0 = _
          rw [q_add0]; rfl
        rw [e] at h ⊢
        exact no_47 hn fu a (b - 1) o o' w x ho ha (by omega) h
theorem no_34 {n : Nat} (hn : n ≤ 5) (a : Nat) (o o' w : Nat → Int32) (x : Int32) (ho : AG n o o') (ha : a < n) (h : J_X8_nextOrder_34 (nI a) (nI n) o = some (x, w)) : ∃ w', J_X8_nextOrder_34 (nI a) (nI n) o' = some (x, w') ∧ AG n w w' := by
  have hp : (0 : Int32) ≤ nI a := nI_pos' (by omega)
  unfold J_X8_nextOrder_34 at h ⊢
  rw [if_pos hp, show nI n - 1 = nI (n - 1) from pk_sub (b := 1) (by omega)] at h ⊢
  exact no_47 hn fuelC a (n - 1) o o' w x ho ha (by omega) h
theorem no_34m {n : Nat} (o o' w : Nat → Int32) (x : Int32) (ho : AG n o o') (h : J_X8_nextOrder_34 (-1) (nI n) o = some (x, w)) : ∃ w', J_X8_nextOrder_34 (-1) (nI n) o' = some (x, w') ∧ AG n w w' := by
  unfold J_X8_nextOrder_34 at h ⊢
  rw [if_neg (by decide)] at h ⊢
  cases h
  exact ⟨o', rfl, ho⟩
theorem no_7m {n : Nat} (fu : Nat) (o o' w : Nat → Int32) (x : Int32) (ho : AG n o o') (h : L_X8_nextOrder_7 (nI n) o fu (-1) = some (x, w)) : ∃ w', L_X8_nextOrder_7 (nI n) o' fu (-1) = some (x, w') ∧ AG n w w' := by
  cases fu with
  | zero => rw [L_X8_nextOrder_7] at h; exact absurd h (by simp)
  | succ fu =>
    rw [L_X8_nextOrder_7, if_pos (by decide)] at h ⊢
    exact no_34m o o' w x ho h
theorem no_7 {n : Nat} (hn : n ≤ 5) : ∀ (fu a : Nat) (o o' w : Nat → Int32) (x : Int32), AG n o o' → a + 1 < n → L_X8_nextOrder_7 (nI n) o fu (nI a) = some (x, w) → ∃ w', L_X8_nextOrder_7 (nI n) o' fu (nI a) = some (x, w') ∧ AG n w w'
  | 0, _, _, _, _, _, _, _, h => by rw [L_X8_nextOrder_7] at h; exact absurd h (by simp)
  | fu + 1, a, o, o', w, x, ho, ha, h => by
    rw [L_X8_nextOrder_7, if_neg (nI_pos (by omega)), q_rd _ (by omega) (by omega), ob, nI_1, q_rd _ (by omega) (by omega), ob] at h ⊢
    rw [← ho a (by omega), ← ho (a + 1) ha]
    by_cases hv : o a ≤ o (a + 1)
    · rw [if_pos hv] at h ⊢
      exact no_34 hn a o o' w x ho (by omega) h
    · rw [if_neg hv] at h ⊢
      by_cases b0 : a = 0
      · subst b0
        rw [show nI 0 + (-1) = (-1 : Int32) by decide] at h ⊢
        exact no_7m fu o o' w x ho h
      · have e : nI a + (-1) = nI (a - 1) := by
          rw [show a = (a - 1) + 1 by omega, ← nI_1, Int32.add_assoc]
          show nI (a - 1) + 0 = _
          rw [q_add0]; rfl
        rw [e] at h ⊢
        exact no_7 hn fu (a - 1) o o' w x ho (by omega) h
theorem m_nextOrder {n r : Nat} (hn : n ≤ 5) (h0 : 0 < n) (hr : r < fn n) (o : Nat → Int32) (ho : AG n o (pfn (ord n r))) : ∃ w, f_X8_nextOrder (nI n) o = some (if r + 1 < fn n then 1 else 0, w) ∧ (r + 1 < fn n → AG n w (pfn (ord n (r + 1)))) := by
  have h := chkM_all n (by omega) h0 r hr
  unfold chkM at h
  cases hA : f_X8_nextOrder (nI n) (pfn (ord n r)) with
  | none => rw [hA] at h; exact absurd h (by simp)
  | some p =>
    obtain ⟨b, w0⟩ := p
    rw [hA] at h
    rw [Bool.and_eq_true, Bool.or_eq_true] at h
    obtain ⟨hb, hw⟩ := h
    have eb := eq_of_beq hb
    rw [← eb]
    have key : ∃ w, f_X8_nextOrder (nI n) o = some (b, w) ∧ AG n w0 w := by
      unfold f_X8_nextOrder at hA ⊢
      by_cases n1 : n = 1
      · subst n1
        rw [show nI 1 - 2 = (-1 : Int32) by decide] at hA ⊢
        exact no_7m fuelC _ _ w0 b ho.sy hA
      · rw [show nI n - 2 = nI (n - 2) from pk_sub (b := 2) (by omega)] at hA ⊢
        exact no_7 hn fuelC (n - 2) _ _ w0 b ho.sy (by omega) hA
    obtain ⟨w, k1, k2⟩ := key
    refine ⟨w, k1, fun hlt i hi => ?_⟩
    rw [← k2 i hi]
    rcases hw with hw | hw
    · exact absurd (of_decide_eq_true hw) (by omega)
    · exact eq_of_beq (List.all_eq_true.mp hw i (List.mem_range.mpr hi))
