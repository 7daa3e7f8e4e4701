/-! ===== orders: only what lies before n matters ===== -/
theorem so_cong {n : Nat} (hn : n ≤ 5) : ∀ (k j fu : Nat) (x2 x3 : Int32) (l l' w : Nat → Int32), j + k = n → (∀ i, i < j → l i = l' i) → L_X6_setOrder_17 (nI n) fu x2 x3 (nI j) l = some w → ∃ w', L_X6_setOrder_17 (nI n) fu x2 x3 (nI j) l' = some w' ∧ AG n w w'
  | k, j, 0, x2, x3, l, l', w, _, _, h => by rw [L_X6_setOrder_17] at h; exact absurd h (by simp)
  | 0, j, fu + 1, x2, x3, l, l', w, hj, hl, h => by
    have hle : nI n ≤ nI j := nI_le (by omega) (by omega)
    rw [L_X6_setOrder_17, c_size, ob, if_pos hle] at h ⊢
    cases h
    exact ⟨l', rfl, fun i hi => hl i (by omega)⟩
  | k + 1, j, fu + 1, x2, x3, l, l', w, hj, hl, h => by
    have hgt : ¬ nI n ≤ nI j := nI_ge (by omega) (by omega)
    rw [L_X6_setOrder_17, c_size, ob, if_neg hgt, ob] at h ⊢
    cases hA : f_X7_at (nI n - 1 - nI j) 6 fF with
    | none => rw [hA] at h; exact absurd h (by simp)
    | some r7 =>
      rw [hA, ob] at h
      rw [ob]
      by_cases hz : (if 1 < r7 then r7 else 1) = 0
      · rw [if_pos hz] at h; exact absurd h (by simp)
      · rw [if_neg hz] at h ⊢
        cases hB : f_X6_lowestBut x2 (x3 / (if 1 < r7 then r7 else 1)) with
        | none => rw [hB] at h; exact absurd h (by simp)
        | some r10 =>
          rw [hB, ob, if_neg hz, q_put _ _ (by omega) (by omega), ob, nI_1] at h
          rw [ob, if_neg hz, q_put _ _ (by omega) (by omega), ob, nI_1]
          exact so_cong hn k (j + 1) fu _ _ _ _ w (by omega) (fun i hi => by
            by_cases e : i = j
            · subst e; rw [q_us, q_us]
            · rw [q_un e, q_un e]; exact hl i (by omega)) h
theorem c_setOrder {n r : Nat} (hn : n ≤ 5) (hr : r < fn n) (l : Nat → Int32) : ∃ w, f_X6_setOrder (nI r) (nI n) l = some w ∧ AG n w (pfn (ord n r)) := by
  have h := chkC_all n (by omega) r hr
  unfold chkC at h
  cases hA : f_X6_setOrder (nI r) (nI n) (fun _ => 0) with
  | none => rw [hA] at h; exact absurd h (by simp)
  | some w0 =>
    rw [hA] at h
    unfold f_X6_setOrder at hA ⊢
    rw [c_size, ob] at hA ⊢
    rw [← nI_0] at hA ⊢
    obtain ⟨w, h1, h2⟩ := so_cong hn n 0 fuelC _ _ _ l w0 (by omega) (fun i hi => absurd hi (Nat.not_lt_zero _)) hA
    exact ⟨w, h1, fun i hi => by rw [← h2 i hi]; exact eq_of_beq (List.all_eq_true.mp h i (List.mem_range.mpr hi))⟩
