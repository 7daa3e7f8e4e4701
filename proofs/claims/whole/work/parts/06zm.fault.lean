/-! ===== the text: where the fault is ===== -/
def inI (v : Int32) (a b : Nat) : Prop := (a : Int) ≤ v.toInt ∧ v.toInt ≤ (b : Int)
theorem inI_iff (v : Int32) {a b : Nat} (ha : a < 2 ^ 31) (hb : b < 2 ^ 31) : (nI a ≤ v ∧ v ≤ nI b) ↔ inI v a b := by
  unfold inI; rw [i_ge ha, i_le hb]
def fgr (tx : Nat → Int32) (i a b : Nat) : Prop := inI (tx i - 48) a b
/-- a byte that may stand in a place of a PARTY -/
def fit (tx : Nat → Int32) (i : Nat) : Prop :=
  if i = 0 then tx 0 = 80 else if i = 2 then fgr tx i 0 9 else if i < 4 then fgr tx i 1 9 else if 24 ≤ i then False
  else if (i - 4) % 4 = 0 then tx i = 87 else if (i - 4) % 4 = 1 then fgr tx i 1 9 else if (i - 4) % 4 = 2 then fgr tx i 1 4 else fgr tx i 0 3
theorem fit_0 (tx : Nat → Int32) : fit tx 0 = (tx 0 = 80) := by unfold fit; rw [if_pos rfl]
theorem fit_1 (tx : Nat → Int32) : fit tx 1 = fgr tx 1 1 9 := by unfold fit; rw [if_neg (by decide), if_neg (by decide), if_pos (by decide)]
theorem fit_2 (tx : Nat → Int32) : fit tx 2 = fgr tx 2 0 9 := by unfold fit; rw [if_neg (by decide), if_pos (by decide)]
theorem fit_3 (tx : Nat → Int32) : fit tx 3 = fgr tx 3 1 9 := by unfold fit; rw [if_neg (by decide), if_neg (by decide), if_pos (by decide)]
theorem fit_far {tx : Nat → Int32} {i : Nat} (h : 24 ≤ i) : ¬ fit tx i := by
  unfold fit; rw [if_neg (by omega), if_neg (by omega), if_neg (by omega), if_pos h]; exact fun h => h
theorem fit_w {tx : Nat → Int32} {j : Nat} (h : j < 5) : (fit tx (4 + 4 * j) = (tx (4 + 4 * j) = 87)) ∧ (fit tx (4 + 4 * j + 1) = fgr tx (4 + 4 * j + 1) 1 9) ∧ (fit tx (4 + 4 * j + 2) = fgr tx (4 + 4 * j + 2) 1 4) ∧ (fit tx (4 + 4 * j + 3) = fgr tx (4 + 4 * j + 3) 0 3) := by
  unfold fit
  refine ⟨?_, ?_, ?_, ?_⟩
  · rw [if_neg (by omega), if_neg (by omega), if_neg (by omega), if_neg (by omega), if_pos (by omega)]
  · rw [if_neg (by omega), if_neg (by omega), if_neg (by omega), if_neg (by omega), if_neg (by omega), if_pos (by omega)]
  · rw [if_neg (by omega), if_neg (by omega), if_neg (by omega), if_neg (by omega), if_neg (by omega), if_neg (by omega), if_pos (by omega)]
  · rw [if_neg (by omega), if_neg (by omega), if_neg (by omega), if_neg (by omega), if_neg (by omega), if_neg (by omega), if_neg (by omega)]
/-- what fault says of a text of k bytes -/
def FP (k : Nat) (tx : Nat → Int32) (r : Int32) : Prop := (∃ i, i < k ∧ (∀ j, j < i → fit tx j) ∧ ¬ fit tx i ∧ r = nI i) ∨ ((∀ j, j < k → fit tx j) ∧ r = if 4 ≤ k ∧ (k - 4) % 4 = 0 then -9 else nI k)
theorem FP_one {k : Nat} {tx : Nat → Int32} {r r' : Int32} (h : FP k tx r) (h' : FP k tx r') : r = r' := by
  rcases h with ⟨i, h1, h2, h3, h4⟩ | ⟨h1, h2⟩
  · rcases h' with ⟨i', k1, k2, k3, k4⟩ | ⟨k1, k2⟩
    · have e : i = i' := by
        rcases Nat.lt_trichotomy i i' with q | q | q
        · exact absurd (k2 i q) h3
        · exact q
        · exact absurd (h2 i' q) k3
      rw [h4, k4, e]
    · exact absurd (k1 i h1) h3
  · rcases h' with ⟨i', k1, k2, k3, k4⟩ | ⟨k1, k2⟩
    · exact absurd (h1 i' k1) k3
    · rw [h2, k2]
theorem c_figureAt (L : Nat → Int32) {i : Nat} (hi : i < 48) : f_X5_figureAt (nI i) L = some (L i - 48) := by
  unfold f_X5_figureAt; rw [q_at L hi (by omega), ob]
/-- a figure between two, as the class asks for it -/
theorem c_fgr (L tx : Nat → Int32) {i a b : Nat} (hi : i < 48) (e : L i = tx i) (ha : a < 2 ^ 31) (hb : b < 2 ^ 31) : ∃ r, ((f_X5_figureAt (nI i) L).bind fun r4 => (f_X7_isBetween r4 (nI a) (nI b)).bind fun r7 => (zr r7).bind fun _ => some r7) = some r ∧ (r = 1 ∧ fgr tx i a b ∨ r = 0 ∧ ¬ fgr tx i a b) := by
  rw [c_figureAt L hi, ob, c_isBetween, ob, e]
  by_cases h : nI a ≤ tx i - 48 ∧ tx i - 48 ≤ nI b
  · rw [iv_t h]
    exact ⟨1, rfl, Or.inl ⟨rfl, (inI_iff _ ha hb).mp h⟩⟩
  · rw [iv_f h]
    exact ⟨0, rfl, Or.inr ⟨rfl, fun q => h ((inI_iff _ ha hb).mpr q)⟩⟩
theorem c_byte (L tx : Nat → Int32) {i : Nat} (c : Int32) (hi : i < 48) (e : L i = tx i) : ∃ r, ((f_X7_at (nI i) 48 L).bind fun r1 => if r1 = c then some (1 : Int32) else some 0) = some r ∧ (r = 1 ∧ tx i = c ∨ r = 0 ∧ ¬ tx i = c) := by
  rw [q_at L hi (by omega), ob, e]
  by_cases h : tx i = c
  · rw [if_pos h]; exact ⟨1, rfl, Or.inl ⟨rfl, h⟩⟩
  · rw [if_neg h]; exact ⟨0, rfl, Or.inr ⟨rfl, h⟩⟩
theorem c_fits (L tx : Nat → Int32) {i : Nat} (hi : i < 48) (e : L i = tx i) : ∃ r, f_X5_fits (nI i) L = some r ∧ (r = 1 ∧ fit tx i ∨ r = 0 ∧ ¬ fit tx i) := by
  unfold f_X5_fits J_X5_fits_34
  by_cases h4 : 4 ≤ i
  · rw [if_pos (show (4 : Int32) ≤ nI i from nI_le (a := 4) h4 (by omega))]
    by_cases h24 : 24 ≤ i
    · rw [if_pos (show (24 : Int32) ≤ nI i from nI_le (a := 24) h24 (by omega))]
      exact ⟨0, rfl, Or.inr ⟨rfl, fit_far h24⟩⟩
    · rw [if_neg (show ¬ (24 : Int32) ≤ nI i from nI_ge (a := i) (b := 24) (by omega) (by omega)), show nI i - 4 = nI (i - 4) from pk_sub (b := 4) h4, show nI (i - 4) - nI (i - 4) / 4 * 4 = nI ((i - 4) % 4) from pk_rem (d := 4) (by omega) (by omega) (by omega)]
      obtain ⟨j, hj⟩ : ∃ j, i = 4 + 4 * j + (i - 4) % 4 := ⟨(i - 4) / 4, by omega⟩
      have hj5 : j < 5 := by omega
      obtain ⟨w0, w1, w2, w3⟩ := fit_w (tx := tx) hj5
      have key : ∃ r, f_X5_fitsWalker (nI i) (nI ((i - 4) % 4)) L = some r ∧ (r = 1 ∧ fit tx i ∨ r = 0 ∧ ¬ fit tx i) := by
        unfold f_X5_fitsWalker
        rcases (show (i - 4) % 4 = 0 ∨ (i - 4) % 4 = 1 ∨ (i - 4) % 4 = 2 ∨ (i - 4) % 4 = 3 by omega) with q | q | q | q
        · rw [q]
          rw [q] at hj
          subst hj
          rw [if_pos (by decide), Nat.add_zero, w0]
          exact c_byte L tx 87 (by omega) e
        · rw [q]
          rw [q] at hj
          subst hj
          rw [if_neg (by decide), if_pos (by decide), w1]
          exact c_fgr L tx (a := 1) (b := 9) (by omega) e (by omega) (by omega)
        · rw [q]
          rw [q] at hj
          subst hj
          rw [if_neg (by decide), if_neg (by decide), if_pos (by decide), w2]
          exact c_fgr L tx (a := 1) (b := 4) (by omega) e (by omega) (by omega)
        · rw [q]
          rw [q] at hj
          subst hj
          rw [if_neg (by decide), if_neg (by decide), if_neg (by decide), w3]
          exact c_fgr L tx (a := 0) (b := 3) (by omega) e (by omega) (by omega)
      obtain ⟨r, r1, r2⟩ := key
      rw [r1, ob]
      rcases r2 with ⟨rfl, r2⟩ | ⟨rfl, r2⟩
      · rw [if_neg one0]; exact ⟨1, rfl, Or.inl ⟨rfl, r2⟩⟩
      · rw [if_pos z00]; exact ⟨0, rfl, Or.inr ⟨rfl, r2⟩⟩
  · rw [if_neg (show ¬ (4 : Int32) ≤ nI i from nI_ge (a := i) (b := 4) (by omega) (by omega))]
    have key : ∃ r, f_X5_fitsHead (nI i) L = some r ∧ (r = 1 ∧ fit tx i ∨ r = 0 ∧ ¬ fit tx i) := by
      unfold f_X5_fitsHead
      rcases (show i = 0 ∨ i = 1 ∨ i = 2 ∨ i = 3 by omega) with q | q | q | q
      · subst q
        rw [if_pos (by decide), fit_0]
        exact c_byte L tx 80 (by omega) e
      · subst q
        rw [if_neg (by decide), if_neg (by decide), fit_1]
        exact c_fgr L tx (a := 1) (b := 9) (by omega) e (by omega) (by omega)
      · subst q
        rw [if_neg (by decide), if_pos (by decide), fit_2]
        exact c_fgr L tx (a := 0) (b := 9) (by omega) e (by omega) (by omega)
      · subst q
        rw [if_neg (by decide), if_neg (by decide), fit_3]
        exact c_fgr L tx (a := 1) (b := 9) (by omega) e (by omega) (by omega)
    obtain ⟨r, r1, r2⟩ := key
    rw [r1, ob]
    rcases r2 with ⟨rfl, r2⟩ | ⟨rfl, r2⟩
    · exact ⟨1, rfl, Or.inl ⟨rfl, r2⟩⟩
    · exact ⟨0, rfl, Or.inr ⟨rfl, r2⟩⟩
theorem c_fault_loop {k : Nat} {L tx : Nat → Int32} (hk : k ≤ 48) (hL : AG k L tx) : ∀ (q i fu : Nat), i + q = k → q < fu → (∀ j, j < i → fit tx j) → ∃ r, L_X5_faultPlace_2 (nI k) L fu (nI i) = some r ∧ FP k tx r
  | q, i, 0, _, h, _ => absurd h (Nat.not_lt_zero _)
  | 0, i, fu + 1, hi, _, hb => by
    have e : i = k := by omega
    subst e
    rw [L_X5_faultPlace_2, if_pos (nI_le (by omega) (by omega))]
    unfold J_X5_faultPlace_50
    by_cases h4 : i < 4
    · rw [if_pos (show nI i < (4 : Int32) from nI_lt (b := 4) h4 (by omega))]
      exact ⟨_, rfl, Or.inr ⟨hb, by rw [if_neg (by omega)]⟩⟩
    · rw [if_neg (show ¬ nI i < (4 : Int32) from nI_nlt (b := 4) (by omega) (by omega)), show nI i - 4 = nI (i - 4) from pk_sub (b := 4) (by omega), show nI (i - 4) - nI (i - 4) / 4 * 4 = nI ((i - 4) % 4) from pk_rem (d := 4) (by omega) (by omega) (by omega)]
      by_cases h0 : (i - 4) % 4 = 0
      · rw [if_pos (by rw [h0]; rfl)]
        exact ⟨_, rfl, Or.inr ⟨hb, by rw [if_pos ⟨by omega, h0⟩]⟩⟩
      · rw [if_neg (q_ne0 (by omega) (by omega))]
        exact ⟨_, rfl, Or.inr ⟨hb, by rw [if_neg (fun h => h0 h.2)]⟩⟩
  | q + 1, i, fu + 1, hi, hf, hb => by
    obtain ⟨r, r1, r2⟩ := c_fits L tx (i := i) (by omega) (hL i (by omega))
    rw [L_X5_faultPlace_2, if_neg (nI_ge (by omega) (by omega)), r1, ob]
    rcases r2 with ⟨rfl, r2⟩ | ⟨rfl, r2⟩
    · rw [if_neg one0, nI_1]
      exact c_fault_loop hk hL q (i + 1) fu (by omega) (by omega) (fun j hj => by
        by_cases e : j = i
        · subst e; exact r2
        · exact hb j (by omega))
    · rw [if_pos z00]
      exact ⟨_, rfl, Or.inl ⟨i, by omega, hb, r2, rfl⟩⟩
theorem c_fault {k : Nat} {L tx : Nat → Int32} (hk : k ≤ 48) (hL : AG k L tx) : ∃ r, f_X5_faultPlace (nI k) L = some r ∧ FP k tx r := by
  have h := c_fault_loop hk hL k 0 fuelC (by omega) (fuel_lt (by omega)) (fun j hj => absurd hj (Nat.not_lt_zero _))
  rw [nI_0] at h
  exact h
/-! the reference reads -/
theorem m_figure {k i a b : Nat} {tx : Nat → Int32} (hk : k ≤ 48) (hi : i ≤ k) (ha : a < 2 ^ 31) (hb : b < 2 ^ 31) : (i < k ∧ fgr tx i a b ∧ f_X8_figure (nI a) (nI b) (nI k) (nI i) tx = some (tx i - 48, nI (i + 1))) ∨ ((i = k ∨ i < k ∧ ¬ fgr tx i a b) ∧ f_X8_figure (nI a) (nI b) (nI k) (nI i) tx = some (-9, nI i)) := by
  unfold f_X8_figure
  by_cases e : i = k
  · subst e
    rw [if_pos rfl]
    exact Or.inr ⟨Or.inl rfl, rfl⟩
  · rw [if_neg (fun h => e ((nI_eq (by omega) (by omega)).mp h)), q_rd tx (by omega) (by omega), ob]
    have ea : (nI a).toInt64 = lN a := by
      rw [← Int64.toInt_inj, Int32.toInt_toInt64, nI_toInt ha, lN_toInt (by omega)]
    have eb : (nI b).toInt64 = lN b := by
      rw [← Int64.toInt_inj, Int32.toInt_toInt64, nI_toInt hb, lN_toInt (by omega)]
    rw [ea, eb, m_in32 _ a b ha hb, ob]
    by_cases h : (a : Int) ≤ (tx i - 48).toInt ∧ (tx i - 48).toInt ≤ b
    · rw [iv_t h, if_neg one0]
      refine Or.inl ⟨by omega, h, ?_⟩
      have e1 : nI i + 1 - 1 = nI i := by rw [nI_1]; exact pk_sub (a := i + 1) (b := 1) (by omega)
      rw [e1, q_rd tx (by omega) (by omega), ob, nI_1]
    · rw [iv_f h, if_pos z00]
      exact Or.inr ⟨Or.inr ⟨by omega, h⟩, rfl⟩
theorem fgr_9 {tx : Nat → Int32} {i a b : Nat} (h : fgr tx i a b) : ¬ tx i - 48 = -9 := fun e => by
  have h1 : (a : Int) ≤ (tx i - 48).toInt := h.1
  rw [e] at h1
  have : (-9 : Int32).toInt = -9 := rfl
  omega
/-- what a read party holds -/
def RD (k : Nat) (tx : Nat → Int32) (rw_ : Int32) (sn wk : Nat → Int32) : Prop := ∃ m, m ≤ 5 ∧ k = 4 + 4 * m ∧ rw_ = nI m ∧ (sn 0 = tx 1 - 48 ∧ sn 1 = tx 2 - 48 ∧ sn 2 = tx 3 - 48) ∧ ∀ j, j < m → wk (3 * j) = tx (4 + 4 * j + 1) - 48 ∧ wk (3 * j + 1) = tx (4 + 4 * j + 2) - 48 ∧ wk (3 * j + 2) = tx (4 + 4 * j + 3) - 48
theorem m_one {k j : Nat} {tx wk : Nat → Int32} (hk : k ≤ 48) (hj : 4 + 4 * j < k) (h5 : j ≤ 5) : (∃ wk', f_X8_readOneWalker (nI k) (nI (4 + 4 * j)) (nI j) tx wk = some (1, nI (4 + 4 * (j + 1)), nI (j + 1), wk') ∧ j < 5 ∧ 4 + 4 * (j + 1) ≤ k ∧ (fit tx (4 + 4 * j) ∧ fit tx (4 + 4 * j + 1) ∧ fit tx (4 + 4 * j + 2) ∧ fit tx (4 + 4 * j + 3)) ∧ (wk' (3 * j) = tx (4 + 4 * j + 1) - 48 ∧ wk' (3 * j + 1) = tx (4 + 4 * j + 2) - 48 ∧ wk' (3 * j + 2) = tx (4 + 4 * j + 3) - 48) ∧ ∀ i, i < 3 * j → wk' i = wk i) ∨
    (∃ i rw_ wk', f_X8_readOneWalker (nI k) (nI (4 + 4 * j)) (nI j) tx wk = some (0, nI i, rw_, wk') ∧ 4 + 4 * j ≤ i ∧ i ≤ k ∧ i < 4 + 4 * (j + 1) ∧ (∀ q, 4 + 4 * j ≤ q → q < i → fit tx q) ∧ (i < k → ¬ fit tx i)) := by
  have hall : ∀ a : Nat, (∀ q, a ≤ q → q < a → fit tx q) := fun a q h1 h2 => by omega
  unfold f_X8_readOneWalker
  rw [q_rd tx (by omega) (by omega), ob]
  by_cases h87 : tx (4 + 4 * j) = 87
  · rw [if_pos h87]
    by_cases hj5 : j = 5
    · subst hj5
      rw [if_pos (show nI 5 = 5 from rfl)]
      exact Or.inr ⟨_, _, _, rfl, Nat.le_refl _, by omega, by omega, hall _, fun _ => fit_far (by omega)⟩
    · rw [if_neg (show ¬ nI j = (5 : Int32) from fun h => hj5 ((nI_eq (a := j) (b := 5) (by omega) (by omega)).mp h)), nI_1]
      obtain ⟨w0, w1, w2, w3⟩ := fit_w (tx := tx) (show j < 5 by omega)
      have f0 : fit tx (4 + 4 * j) := by rw [w0]; exact h87
      unfold J_X8_readOneWalker_59 J_X8_readOneWalker_77
      rcases m_figure (i := 4 + 4 * j + 1) (a := 1) (b := 9) (tx := tx) hk (by omega) (by omega) (by omega) with ⟨a1, a2, a3⟩ | ⟨a1, a3⟩
      · rw [show f_X8_figure 1 9 (nI k) (nI (4 + 4 * j + 1)) tx = _ from a3, ob]
        dsimp only
        rw [if_neg (fgr_9 a2)]
        rcases m_figure (i := 4 + 4 * j + 2) (a := 1) (b := 4) (tx := tx) hk (by omega) (by omega) (by omega) with ⟨b1, b2, b3⟩ | ⟨b1, b3⟩
        · rw [show f_X8_figure 1 4 (nI k) (nI (4 + 4 * j + 1 + 1)) tx = _ from b3, ob]
          dsimp only
          rw [if_neg (fgr_9 b2)]
          rcases m_figure (i := 4 + 4 * j + 3) (a := 0) (b := 3) (tx := tx) hk (by omega) (by omega) (by omega) with ⟨c1, c2, c3⟩ | ⟨c1, c3⟩
          · rw [show f_X8_figure 0 3 (nI k) (nI (4 + 4 * j + 2 + 1)) tx = _ from c3, ob]
            dsimp only
            rw [if_neg (fgr_9 c2), show (3 : Int32) * nI j = nI (3 * j) from pk_mul 3 j, q_wr wk _ (by omega) (by omega), ob, nI_1, q_wr _ _ (by omega) (by omega), ob, show nI (3 * j) + 2 = nI (3 * j + 2) from nI_add (3 * j) 2, q_wr _ _ (by omega) (by omega), ob, nI_1]
            refine Or.inl ⟨_, rfl, by omega, by omega, ⟨f0, by rw [w1]; exact a2, by rw [w2]; exact b2, by rw [w3]; exact c2⟩, ⟨?_, ?_, ?_⟩, fun i hi => ?_⟩
            · rw [q_un (by omega), q_un (by omega), q_us]
            · rw [q_un (by omega), q_us]
            · rw [q_us]
            · rw [q_un (by omega), q_un (by omega), q_un (by omega)]
          · rw [show f_X8_figure 0 3 (nI k) (nI (4 + 4 * j + 2 + 1)) tx = _ from c3, ob]
            dsimp only
            rw [if_pos rfl]
            refine Or.inr ⟨4 + 4 * j + 3, _, _, rfl, by omega, by omega, by omega, fun q q1 q2 => ?_, fun hlt => ?_⟩
            · rcases (show q = 4 + 4 * j ∨ q = 4 + 4 * j + 1 ∨ q = 4 + 4 * j + 2 by omega) with e | e | e
              · subst e; exact f0
              · subst e; rw [w1]; exact a2
              · subst e; rw [w2]; exact b2
            · rw [w3]
              rcases c1 with c1 | c1
              · omega
              · exact c1.2
        · rw [show f_X8_figure 1 4 (nI k) (nI (4 + 4 * j + 1 + 1)) tx = _ from b3, ob]
          dsimp only
          rw [if_pos rfl, if_pos rfl]
          refine Or.inr ⟨4 + 4 * j + 2, _, _, rfl, by omega, by omega, by omega, fun q q1 q2 => ?_, fun hlt => ?_⟩
          · rcases (show q = 4 + 4 * j ∨ q = 4 + 4 * j + 1 by omega) with e | e
            · subst e; exact f0
            · subst e; rw [w1]; exact a2
          · rw [w2]
            rcases b1 with b1 | b1
            · omega
            · exact b1.2
      · rw [show f_X8_figure 1 9 (nI k) (nI (4 + 4 * j + 1)) tx = _ from a3, ob]
        dsimp only
        rw [if_pos rfl, if_pos rfl, if_pos rfl]
        refine Or.inr ⟨4 + 4 * j + 1, _, _, rfl, by omega, by omega, by omega, fun q q1 q2 => ?_, fun hlt => ?_⟩
        · rcases (show q = 4 + 4 * j by omega) with e
          subst e; exact f0
        · rw [w1]
          rcases a1 with a1 | a1
          · omega
          · exact a1.2
  · rw [if_neg h87]
    refine Or.inr ⟨_, _, _, rfl, Nat.le_refl _, by omega, by omega, hall _, fun _ hf => ?_⟩
    by_cases hj5 : j < 5
    · rw [(fit_w (tx := tx) hj5).1] at hf
      exact h87 hf
    · exact fit_far (by omega) hf
theorem m_walkers_loop {k : Nat} {tx sn : Nat → Int32} (hk : k ≤ 48) (hs : sn 0 = tx 1 - 48 ∧ sn 1 = tx 2 - 48 ∧ sn 2 = tx 3 - 48) : ∀ (q j fu : Nat) (wk : Nat → Int32), j + q = 6 → q < fu → j ≤ 5 → 4 + 4 * j ≤ k → (∀ i, i < 4 + 4 * j → fit tx i) →
    (∀ i, i < j → wk (3 * i) = tx (4 + 4 * i + 1) - 48 ∧ wk (3 * i + 1) = tx (4 + 4 * i + 2) - 48 ∧ wk (3 * i + 2) = tx (4 + 4 * i + 3) - 48) →
    ∃ r pl rw_ wk', L_X8_readParty_86 (nI k) tx sn fu (nI (4 + 4 * j)) (nI j) wk = some (r, pl, rw_, sn, wk') ∧ FP k tx r ∧ (r = -9 → RD k tx rw_ sn wk')
  | q, j, 0, _, _, h, _, _, _, _ => absurd h (Nat.not_lt_zero _)
  | 0, j, fu + 1, wk, hj, _, h5, hjk, hb, hw => by omega
  | q + 1, j, fu + 1, wk, hj, hf, h5, hjk, hb, hw => by
    rw [L_X8_readParty_86]
    by_cases he : k = 4 + 4 * j
    · rw [if_pos (nI_le (by omega) (by omega))]
      exact ⟨_, _, _, _, rfl, Or.inr ⟨fun i hi => hb i (by omega), by rw [if_pos ⟨by omega, by omega⟩]⟩, fun _ => ⟨j, h5, he, rfl, hs, hw⟩⟩
    · rw [if_neg (nI_ge (by omega) (by omega))]
      rcases m_one (j := j) (wk := wk) (tx := tx) hk (by omega) h5 with ⟨wk', a1, a2, a3, ⟨f0, f1, f2, f3⟩, a5, a6⟩ | ⟨i, rw_, wk', a1, a2, a3, a4, a5, a6⟩
      · rw [a1, ob]
        dsimp only
        rw [if_neg one0]
        refine m_walkers_loop hk hs q (j + 1) fu wk' (by omega) (by omega) (by omega) a3 (fun i hi => ?_) (fun i hi => ?_)
        · by_cases g : i < 4 + 4 * j
          · exact hb i g
          · rcases (show i = 4 + 4 * j ∨ i = 4 + 4 * j + 1 ∨ i = 4 + 4 * j + 2 ∨ i = 4 + 4 * j + 3 by omega) with e | e | e | e
            · subst e; exact f0
            · subst e; exact f1
            · subst e; exact f2
            · subst e; exact f3
        · by_cases g : i = j
          · subst g; exact a5
          · have h := hw i (by omega)
            rw [a6 (3 * i) (by omega), a6 (3 * i + 1) (by omega), a6 (3 * i + 2) (by omega)]
            exact h
      · rw [a1, ob]
        dsimp only
        rw [if_pos z00]
        have hbi : ∀ q, q < i → fit tx q := fun q hq => by
          by_cases g : q < 4 + 4 * j
          · exact hb q g
          · exact a5 q (by omega) hq
        have hn9 : ¬ nI i = -9 := fun e => by
          rw [q_eq, nI_toInt (by omega)] at e
          have : (-9 : Int32).toInt = -9 := rfl
          omega
        refine ⟨_, _, _, _, rfl, ?_, fun h => absurd h hn9⟩
        by_cases g : i < k
        · exact Or.inl ⟨i, g, hbi, a6 g, rfl⟩
        · have ek : i = k := by omega
          subst ek
          exact Or.inr ⟨hbi, by rw [if_neg (by omega)]⟩
theorem m_readParty {k : Nat} {tx : Nat → Int32} (pl rw0 : Int32) (sn wk : Nat → Int32) (hk : k ≤ 48) : ∃ r pl' rw_ sn' wk', f_X8_readParty (nI k) pl rw0 tx sn wk = some (r, pl', rw_, sn', wk') ∧ FP k tx r ∧ (r = -9 → RD k tx rw_ sn' wk') := by
  unfold f_X8_readParty
  have hn9 : ∀ i, i ≤ 48 → ¬ nI i = -9 := fun i hi e => by
    rw [q_eq, nI_toInt (by omega)] at e
    have : (-9 : Int32).toInt = -9 := rfl
    omega
  by_cases h0 : k = 0
  · subst h0
    rw [if_pos (show nI 0 = 0 from rfl)]
    exact ⟨_, _, _, _, _, rfl, Or.inr ⟨fun j hj => absurd hj (Nat.not_lt_zero _), by rw [if_neg (by omega)]; rfl⟩, fun h => absurd h (by decide)⟩
  · rw [if_neg (q_ne0 (by omega) (by omega)), show (0 : Int32) = nI 0 from rfl, q_rd tx (by omega) (by omega), ob]
    by_cases h80 : tx 0 = 80
    · rw [if_pos h80]
      have f0 : fit tx 0 := by rw [fit_0]; exact h80
      -- one figure of the head
      have stepJ : ∀ (x a : Nat) (kk : Int32 → Int32 → (Nat → Int32) → Option (Int32 × Int32 × Int32 × (Nat → Int32) × (Nat → Int32))) (sn : Nat → Int32), x < 3 → x + 1 ≤ k → fit tx (x + 1) = fgr tx (x + 1) a 9 → a < 2 ^ 31 → (∀ i, i < x + 1 → fit tx i) →
          (x + 1 < k ∧ fit tx (x + 1) ∧ J_X8_readParty_58 kk (nI x) (nI a) (nI x) (nI k) (nI (x + 1)) (nI 0) tx sn wk = kk (nI (x + 1)) (nI (x + 1 + 1)) (upd sn x (tx (x + 1) - 48))) ∨ ∃ r pl' rw_ sn' wk', J_X8_readParty_58 kk (nI x) (nI a) (nI x) (nI k) (nI (x + 1)) (nI 0) tx sn wk = some (r, pl', rw_, sn', wk') ∧ FP k tx r ∧ ¬ r = -9 := by
        intro x a kk sn hx hxk hfit ha hb
        unfold J_X8_readParty_58
        rcases m_figure (i := x + 1) (a := a) (b := 9) (tx := tx) hk hxk ha (by omega) with ⟨a1, a2, a3⟩ | ⟨a1, a3⟩
        · left
          rw [show f_X8_figure (nI a) 9 (nI k) (nI (x + 1)) tx = _ from a3, ob]
          dsimp only
          rw [q_wr sn _ (by omega) (by omega), ob, q_rd _ (by omega) (by omega), q_us, ob, if_neg (fgr_9 a2), nI_1]
          exact ⟨a1, by rw [hfit]; exact a2, rfl⟩
        · right
          rw [show f_X8_figure (nI a) 9 (nI k) (nI (x + 1)) tx = _ from a3, ob]
          dsimp only
          rw [q_wr sn _ (by omega) (by omega), ob, q_rd _ (by omega) (by omega), q_us, ob, if_pos rfl]
          refine ⟨_, _, _, _, _, rfl, ?_, hn9 _ (by omega)⟩
          rcases a1 with a1 | ⟨a1, a2⟩
          · refine Or.inr ⟨fun j hj => hb j (by omega), by rw [if_neg (by omega), a1]⟩
          · exact Or.inl ⟨x + 1, a1, hb, by rw [hfit]; exact a2, rfl⟩
      have out : ∀ {o : Option (Int32 × Int32 × Int32 × (Nat → Int32) × (Nat → Int32))}, (∃ r pl' rw_ sn' wk', o = some (r, pl', rw_, sn', wk') ∧ FP k tx r ∧ ¬ r = -9) → ∃ r pl' rw_ sn' wk', o = some (r, pl', rw_, sn', wk') ∧ FP k tx r ∧ (r = -9 → RD k tx rw_ sn' wk') := fun ⟨r, a, b, c, d, e, f, g⟩ => ⟨r, a, b, c, d, e, f, fun h => absurd h g⟩
      show ∃ r pl' rw_ sn' wk', L_X8_readParty_37 (nI k) (nI 0) tx wk (3999 + 1) (nI 0) (nI 1) sn = some (r, pl', rw_, sn', wk') ∧ FP k tx r ∧ (r = -9 → RD k tx rw_ sn' wk')
      rw [L_X8_readParty_37, if_neg (by decide), if_neg (by decide)]
      rcases stepJ 0 1 (L_X8_readParty_37 (nI k) (nI 0) tx wk 3999) sn (by omega) (by omega) (fit_1 tx) (by omega) (fun i hi => by
        have : i = 0 := by omega
        subst this; exact f0) with ⟨a1, a2, a3⟩ | h
      · rw [show J_X8_readParty_58 (L_X8_readParty_37 (nI k) (nI 0) tx wk 3999) (nI 0) 1 (nI 0) (nI k) (nI 1) (nI 0) tx sn wk = _ from a3, L_X8_readParty_37, if_neg (by decide), if_pos (by decide)]
        rcases stepJ 1 0 (L_X8_readParty_37 (nI k) (nI 0) tx wk 3998) (upd sn 0 (tx (0 + 1) - 48)) (by omega) (by omega) (fit_2 tx) (by omega) (fun i hi => by
          rcases (show i = 0 ∨ i = 1 by omega) with e | e
          · subst e; exact f0
          · subst e; exact a2) with ⟨b1, b2, b3⟩ | h
        · rw [show J_X8_readParty_58 (L_X8_readParty_37 (nI k) (nI 0) tx wk 3998) (nI (0 + 1)) 0 (nI (0 + 1)) (nI k) (nI (0 + 1 + 1)) (nI 0) tx (upd sn 0 (tx (0 + 1) - 48)) wk = _ from b3, L_X8_readParty_37, if_neg (by decide), if_neg (by decide)]
          rcases stepJ 2 1 (L_X8_readParty_37 (nI k) (nI 0) tx wk 3997) (upd (upd sn 0 (tx (0 + 1) - 48)) 1 (tx (1 + 1) - 48)) (by omega) (by omega) (fit_3 tx) (by omega) (fun i hi => by
            rcases (show i = 0 ∨ i = 1 ∨ i = 2 by omega) with e | e | e
            · subst e; exact f0
            · subst e; exact a2
            · subst e; exact b2) with ⟨c1, c2, c3⟩ | h
          · rw [show J_X8_readParty_58 (L_X8_readParty_37 (nI k) (nI 0) tx wk 3997) (nI (1 + 1)) 1 (nI (1 + 1)) (nI k) (nI (1 + 1 + 1)) (nI 0) tx (upd (upd sn 0 (tx (0 + 1) - 48)) 1 (tx (1 + 1) - 48)) wk = _ from c3, L_X8_readParty_37, if_pos (by decide)]
            obtain ⟨r, pl', rw_, wk', o1, o2, o3⟩ := m_walkers_loop (k := k) (tx := tx) (sn := upd (upd (upd sn 0 (tx (0 + 1) - 48)) 1 (tx (1 + 1) - 48)) 2 (tx (2 + 1) - 48)) hk ⟨by rw [q_un (by omega), q_un (by omega), q_us], by rw [q_un (by omega), q_us], by rw [q_us]⟩ 6 0 fuelC wk (by omega) (fuel_lt (by omega)) (by omega) (by omega) (fun i hi => by
              rcases (show i = 0 ∨ i = 1 ∨ i = 2 ∨ i = 3 by omega) with e | e | e | e
              · subst e; exact f0
              · subst e; exact a2
              · subst e; exact b2
              · subst e; exact c2) (fun i hi => absurd hi (Nat.not_lt_zero _))
            exact ⟨r, pl', rw_, _, wk', o1, o2, o3⟩
          · exact out h
        · exact out h
      · exact out h
    · rw [if_neg h80]
      refine ⟨_, _, _, _, _, rfl, Or.inl ⟨0, by omega, fun j hj => absurd hj (Nat.not_lt_zero _), by rw [fit_0]; exact h80, rfl⟩, fun h => absurd h (by decide)⟩
theorem op_fault (th pl rw0 : Int32) {tl ts : Int32} {L tx : Nat → Int32} (sn wk : Nat → Int32) (hT : RT tl L ts tx) : ∃ r th' pl' rw_ sn' wk', f_X7_fault tl L = some r ∧ f_X8_fault th ts pl rw0 tx sn wk = some (r, th', pl', rw_, sn', wk') := by
  obtain ⟨k, hk, rfl, rfl, hL⟩ := hT
  obtain ⟨r, r1, r2⟩ := c_fault hk hL
  obtain ⟨r', pl', rw_, sn', wk', s1, s2, _⟩ := m_readParty pl rw0 sn wk hk (tx := tx)
  have e := FP_one r2 s2
  subst e
  refine ⟨r, 0, pl', rw_, sn', wk', ?_, ?_⟩
  · unfold f_X7_fault; rw [r1, ob]
  · unfold f_X8_fault; rw [s1, ob]
