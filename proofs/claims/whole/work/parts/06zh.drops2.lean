theorem gok_some {K al : Nat → Int32} {ln : Nat → Nat} {snow D a : Int32} : ∀ (r j : Nat), (gok K al ln snow D r j (some a) ↔ ∀ i, j ≤ i → i < j + r → db D (ln i) = 0 → K (ln i) = 2 ∨ al (ln i) = a)
  | 0, j => ⟨fun _ i h1 h2 => absurd h2 (by omega), fun _ => trivial⟩
  | r + 1, j => by
    have ih := gok_some (K := K) (al := al) (ln := ln) (snow := snow) (D := D) (a := a) r (j + 1)
    rw [gok]
    by_cases h : db D (ln j) = 0
    · rw [if_pos h, ih]
      constructor
      · intro e i h1 h2 h3
        by_cases ij : i = j
        · subst ij; exact e.1
        · exact e.2 i (by omega) (by omega) h3
      · intro e
        exact ⟨e j (by omega) (by omega) h, fun i h1 h2 h3 => e i (by omega) (by omega) h3⟩
    · rw [if_neg h, ih]
      constructor
      · intro e i h1 h2 h3
        by_cases ij : i = j
        · subst ij; exact absurd h3 h
        · exact e i (by omega) (by omega) h3
      · intro e i h1 h2 h3
        exact e i (by omega) (by omega) h3
theorem gok_none {K al : Nat → Int32} {ln : Nat → Nat} {snow D : Int32} : ∀ (r j : Nat), (∀ i, j ≤ i → i < j + r → ¬ db D (ln i) = 0) → gok K al ln snow D r j none
  | 0, j, _ => trivial
  | r + 1, j, h => by
    rw [gok, if_neg (h j (by omega) (by omega))]
    exact gok_none r (j + 1) (fun i h1 h2 => h i (by omega) (by omega))
theorem gok_first {K al : Nat → Int32} {ln : Nat → Nat} {snow D : Int32} {jf : Nat} (hd : db D (ln jf) = 0) : ∀ (r j : Nat), j ≤ jf → jf < j + r → (∀ i, j ≤ i → i < jf → ¬ db D (ln i) = 0) → (gok K al ln snow D r j none ↔ (1 ≤ al (ln jf) ∧ al (ln jf) ≤ snow) ∧ ∀ i, jf < i → i < j + r → db D (ln i) = 0 → K (ln i) = 2 ∨ al (ln i) = al (ln jf))
  | 0, j, h1, h2, _ => absurd h2 (by omega)
  | r + 1, j, h1, h2, h3 => by
    rw [gok]
    by_cases ij : j = jf
    · subst ij
      rw [if_pos hd, gok_some]
      exact ⟨fun e => ⟨e.1, fun i a b => e.2 i (by omega) (by omega)⟩, fun e => ⟨e.1, fun i a b => e.2 i (by omega) (by omega)⟩⟩
    · rw [if_neg (h3 j (Nat.le_refl _) (by omega)), gok_first hd r (j + 1) (by omega) (by omega) (fun i a b => h3 i (by omega) b)]
      exact ⟨fun e => ⟨e.1, fun i a b => e.2 i a (by omega)⟩, fun e => ⟨e.1, fun i a b => e.2 i a (by omega)⟩⟩
theorem m_first_loop {n : Nat} {ln : Nat → Nat} {line : Nat → Int32} (hn : n ≤ 5) (D : Int32) (hl : ∀ j, j < n → ln j < n ∧ line j = nI (ln j)) : ∀ (k j fu : Nat), j + k = n → k < fu → (∀ i, i < j → ¬ db D (ln i) = 0) →
    (L_X6_firstStanding_2 D (nI n) line fu (nI j) = some (-9) ∧ ∀ i, i < n → ¬ db D (ln i) = 0) ∨ ∃ jf, jf < n ∧ L_X6_firstStanding_2 D (nI n) line fu (nI j) = some (nI (ln jf)) ∧ db D (ln jf) = 0 ∧ ∀ i, i < jf → ¬ db D (ln i) = 0
  | k, j, 0, _, h, _ => absurd h (Nat.not_lt_zero _)
  | 0, j, fu + 1, hj, _, hb => by
    left
    rw [L_X6_firstStanding_2, c_size, ob, if_pos (nI_le (by omega) (by omega))]
    exact ⟨rfl, fun i hi => hb i (by omega)⟩
  | k + 1, j, fu + 1, hj, hf, hb => by
    rw [L_X6_firstStanding_2, c_size, ob, if_neg (nI_ge (by omega) (by omega)), c_walkerAt _ (by omega), ob, (hl j (by omega)).2, c_isDown, ob]
    by_cases h : db D (ln j) = 0
    · right
      rw [if_pos h]
      exact ⟨j, by omega, rfl, h, hb⟩
    · rw [if_neg h, nI_1]
      exact m_first_loop hn D hl k (j + 1) fu (by omega) (by omega) (fun i hi => by
        by_cases e : i = j
        · subst e; exact h
        · exact hb i (by omega))
theorem c_first {n : Nat} {ln : Nat → Nat} {line : Nat → Int32} (hn : n ≤ 5) (D : Int32) (hl : ∀ j, j < n → ln j < n ∧ line j = nI (ln j)) : (f_X6_firstStanding D (nI n) line = some (-9) ∧ ∀ i, i < n → ¬ db D (ln i) = 0) ∨ ∃ jf, jf < n ∧ f_X6_firstStanding D (nI n) line = some (nI (ln jf)) ∧ db D (ln jf) = 0 ∧ ∀ i, i < jf → ¬ db D (ln i) = 0 := by
  have h := m_first_loop hn D hl n 0 fuelC (by omega) (fuel_lt (by omega)) (fun i hi => absurd hi (Nat.not_lt_zero _))
  rw [nI_0] at h
  exact h
