/-! ===== rows of stored yards, the acts ===== -/
def row (c : Nat → Int32) (r : Nat) : Nat → Int32 := fun i => c (17 * r + i)
/-- a stored yard as one row -/
def yrow (l s r : Nat → Int32) (D t : Int32) : Nat → Int32 := fun i => if i < 5 then l i else if i < 10 then s (i - 5) else if i < 15 then r (i - 10) else if i = 15 then D else t
def RX (n : Nat) (x y : Nat → Int32) : Prop := RY n x (fun w => x (5 + w)) (fun w => x (10 + w)) (x 15) (x 16) y
theorem RX_of {n : Nat} (hn : n ≤ 5) {l s r x p : Nat → Int32} {D t : Int32} (h : RY n l s r D t p) (hx : ∀ i, i < 17 → x i = yrow l s r D t i) : RX n x p := by
  obtain ⟨h1, h2, h3, h4, h5⟩ := h
  refine ⟨fun j hj => ?_, fun j hj => ?_, fun j hj => ?_, ?_, ?_⟩
  · rw [hx j (by omega)]; unfold yrow; rw [if_pos (by omega)]; exact h1 j hj
  · dsimp only; rw [hx (5 + j) (by omega)]; unfold yrow; rw [if_neg (by omega), if_pos (by omega), show 5 + j - 5 = j by omega]; exact h2 j hj
  · dsimp only; rw [hx (10 + j) (by omega)]; unfold yrow; rw [if_neg (by omega), if_neg (by omega), if_pos (by omega), show 10 + j - 10 = j by omega]; exact h3 j hj
  · rw [hx 15 (by omega)]; exact h4
  · rw [hx 16 (by omega)]; exact h5
theorem RX_cong {n : Nat} (hn : n ≤ 5) {x y x' y' : Nat → Int32} (h : RX n x y) (hx : ∀ i, i < 17 → x' i = x i) (hy : ∀ i, i < 17 → y' i = y i) : RX n x' y' := by
  obtain ⟨h1, h2, h3, h4, h5⟩ := h
  refine ⟨fun j hj => ?_, fun j hj => ?_, fun j hj => ?_, ?_, ?_⟩
  · rw [hx j (by omega), hy j (by omega)]; exact h1 j hj
  · dsimp only; rw [hx _ (by omega), hy _ (by omega)]; exact h2 j hj
  · dsimp only; rw [hx _ (by omega), hy _ (by omega)]; exact h3 j hj
  · rw [hx 15 (by omega), hy 15 (by omega)]; exact h4
  · rw [hx 16 (by omega), hy 16 (by omega)]; exact h5
theorem GP_cong {n T : Nat} (hn : n ≤ 5) {p p' : Nat → Int32} (h : GP n T p) (hp : ∀ i, i < 17 → p' i = p i) : GP n T p' := by
  obtain ⟨⟨ln, h1, h1'⟩, h2, h3, h4, h5⟩ := h
  refine ⟨⟨ln, fun j hj => ⟨(h1 j hj).1, by rw [hp j (by omega)]; exact (h1 j hj).2⟩, h1'⟩, fun w hw => ?_, fun w hw => ?_, ?_, ?_⟩
  · rw [hp (5 + w) (by omega)]; exact h2 w hw
  · rw [hp (10 + w) (by omega)]; exact h3 w hw
  · rw [hp 16 (by omega)]; exact h4
  · rw [hp 15 (by omega)]; exact h5
theorem GP_mono {n T T' : Nat} {p : Nat → Int32} (h : GP n T p) (hT : T ≤ T') : GP n T' p := by
  obtain ⟨h1, h2, h3, ⟨t, h4, h5⟩, h6⟩ := h
  exact ⟨h1, h2, h3, ⟨t, by omega, h5⟩, h6⟩
/-- the first k places of each of the three parts of row b are written -/
def wrow (b k : Nat) (l s r c : Nat → Int32) : Nat → Int32 := fun i => if b ≤ i ∧ i < b + k then l (i - b) else if b + 5 ≤ i ∧ i < b + 5 + k then s (i - b - 5) else if b + 10 ≤ i ∧ i < b + 10 + k then r (i - b - 10) else c i
theorem wrow_0 (b : Nat) (l s r c : Nat → Int32) : wrow b 0 l s r c = c := by
  funext i; unfold wrow
  rw [if_neg (by omega), if_neg (by omega), if_neg (by omega)]
theorem wrow_s (b k : Nat) (hk : k < 5) (l s r c : Nat → Int32) : upd (upd (upd (wrow b k l s r c) (b + k) (l k)) (b + 5 + k) (s k)) (b + 10 + k) (r k) = wrow b (k + 1) l s r c := by
  funext i
  unfold upd wrow
  by_cases h1 : i = b + 10 + k
  · rw [if_pos h1, if_neg (by omega), if_neg (by omega), if_pos (by omega)]
    rw [show i - b - 10 = k by omega]
  · rw [if_neg h1]
    by_cases h2 : i = b + 5 + k
    · rw [if_pos h2, if_neg (by omega), if_pos (by omega), show i - b - 5 = k by omega]
    · rw [if_neg h2]
      by_cases h3 : i = b + k
      · rw [if_pos h3, if_pos (by omega), show i - b = k by omega]
      · rw [if_neg h3]
        by_cases h4 : b ≤ i ∧ i < b + k
        · rw [if_pos h4, if_pos (by omega)]
        · rw [if_neg h4, if_neg (show ¬ (b ≤ i ∧ i < b + (k + 1)) by omega)]
          by_cases h5 : b + 5 ≤ i ∧ i < b + 5 + k
          · rw [if_pos h5, if_pos (by omega)]
          · rw [if_neg h5, if_neg (show ¬ (b + 5 ≤ i ∧ i < b + 5 + (k + 1)) by omega)]
            by_cases h6 : b + 10 ≤ i ∧ i < b + 10 + k
            · rw [if_pos h6, if_pos (by omega)]
            · rw [if_neg h6, if_neg (by omega)]
theorem c_write_loop (b N : Nat) (D t : Int32) (l s r c : Nat → Int32) (hb : b + 17 ≤ N) (hN : N < 2 ^ 20) : ∀ (k j fu : Nat), j + k = 5 → k < fu → L_X6_writeTo_2 (nI b) N D t l s r fu (nI j) (wrow b j l s r c) = some (upd (upd (wrow b 5 l s r c) (b + 15) D) (b + 16) t)
  | k, j, 0, _, h => absurd h (Nat.not_lt_zero _)
  | 0, j, fu + 1, hj, _ => by
    have : j = 5 := by omega
    subst this
    rw [L_X6_writeTo_2, if_pos (by decide), show (15 : Int32) = nI 15 from rfl, nI_add, q_put _ _ (by omega) (by omega), ob, nI_1, q_put _ _ (by omega) (by omega), ob]
  | k + 1, j, fu + 1, hj, hf => by
    have ih := c_write_loop b N D t l s r c hb hN k (j + 1) fu (by omega) (by omega)
    rw [L_X6_writeTo_2, if_neg (show ¬ (5 : Int32) ≤ nI j from nI_ge (b := 5) (by omega) (by omega))]
    rw [q_at l (by omega) (by omega), ob, nI_add, q_put _ _ (by omega) (by omega), ob, q_at s (by omega) (by omega), ob, show (5 : Int32) = nI 5 from rfl, nI_add, nI_add, q_put _ _ (by omega) (by omega), ob, q_at r (by omega) (by omega), ob, show (10 : Int32) = nI 10 from rfl, nI_add, nI_add, q_put _ _ (by omega) (by omega), ob, wrow_s b j (by omega), nI_1]
    exact ih
theorem c_save (r N : Nat) (D t : Int32) (l s z c : Nat → Int32) (hb : 17 * r + 17 ≤ N) (hN : N < 2 ^ 20) : ∃ c', f_X4_save (nI r) N D t l c s z = some c' ∧ (∀ i, i < 17 → row c' r i = yrow l s z D t i) ∧ ∀ i, (i < 17 * r ∨ 17 * r + 17 ≤ i) → c' i = c i := by
  refine ⟨upd (upd (wrow (17 * r) 5 l s z c) (17 * r + 15) D) (17 * r + 16) t, ?_, fun i hi => ?_, fun i hi => ?_⟩
  · have hw : f_X6_writeTo (nI (17 * r)) N D t l c s z = some (upd (upd (wrow (17 * r) 5 l s z c) (17 * r + 15) D) (17 * r + 16) t) := by
      have h := c_write_loop (17 * r) N D t l s z c hb hN 5 0 fuelC rfl (fuel_lt (by omega))
      rw [nI_0, wrow_0] at h
      unfold f_X6_writeTo
      exact h
    unfold f_X4_save
    rw [show (17 : Int32) = nI 17 from rfl, pk_mul, Nat.mul_comm r 17, hw, ob]
  · unfold row yrow
    by_cases h16 : i = 16
    · subst h16; rw [q_us, if_neg (by omega), if_neg (by omega), if_neg (by omega), if_neg (by omega)]
    · rw [q_un (by omega)]
      by_cases h15 : i = 15
      · subst h15; rw [q_us, if_neg (by omega), if_neg (by omega), if_neg (by omega), if_pos rfl]
      · rw [q_un (by omega)]
        unfold wrow
        by_cases h5 : i < 5
        · rw [if_pos (by omega), if_pos h5, show 17 * r + i - 17 * r = i by omega]
        · rw [if_neg (by omega), if_neg h5]
          by_cases h10 : i < 10
          · rw [if_pos (by omega), if_pos h10, show 17 * r + i - 17 * r - 5 = i - 5 by omega]
          · rw [if_neg (by omega), if_neg h10, if_pos (by omega), if_pos (by omega), show 17 * r + i - 17 * r - 10 = i - 10 by omega]
  · rw [q_un (by omega), q_un (by omega)]
    unfold wrow
    rw [if_neg (by omega), if_neg (by omega), if_neg (by omega)]
theorem c_read_loop (b N : Nat) (D t : Int32) (c l s r : Nat → Int32) (hb : b + 17 ≤ N) (hN : N < 2 ^ 20) : ∀ (k j fu : Nat), j + k = 5 → k < fu → L_X6_readFrom_2 (nI b) N D t c fu (nI j) (cpy j (fun i => c (b + i)) l) (cpy j (fun i => c (b + 5 + i)) s) (cpy j (fun i => c (b + 10 + i)) r) = some (c (b + 15), c (b + 16), cpy 5 (fun i => c (b + i)) l, cpy 5 (fun i => c (b + 5 + i)) s, cpy 5 (fun i => c (b + 10 + i)) r)
  | k, j, 0, _, h => absurd h (Nat.not_lt_zero _)
  | 0, j, fu + 1, hj, _ => by
    have : j = 5 := by omega
    subst this
    rw [L_X6_readFrom_2, if_pos (by decide), show (15 : Int32) = nI 15 from rfl, nI_add, q_at c (by omega) (by omega), ob, nI_1, q_at c (by omega) (by omega), ob]
  | k + 1, j, fu + 1, hj, hf => by
    have ih := c_read_loop b N D t c l s r hb hN k (j + 1) fu (by omega) (by omega)
    rw [L_X6_readFrom_2, if_neg (show ¬ (5 : Int32) ≤ nI j from nI_ge (b := 5) (by omega) (by omega))]
    rw [nI_add, q_at c (by omega) (by omega), ob, q_put _ _ (by omega) (by omega), ob, show (5 : Int32) = nI 5 from rfl, nI_add, nI_add, q_at c (by omega) (by omega), ob, q_put _ _ (by omega) (by omega), ob, show (10 : Int32) = nI 10 from rfl, nI_add, nI_add, q_at c (by omega) (by omega), ob, q_put _ _ (by omega) (by omega), ob, nI_1]
    rw [cpy_s j (fun i => c (b + i)) l, cpy_s j (fun i => c (b + 5 + i)) s, cpy_s j (fun i => c (b + 10 + i)) r]
    exact ih
theorem c_restore (r N : Nat) (D t : Int32) (l s z c : Nat → Int32) (hb : 17 * r + 17 ≤ N) (hN : N < 2 ^ 20) : ∃ l' s' z', f_X4_restore (nI r) N D t c l s z = some (row c r 15, row c r 16, l', s', z') ∧ (∀ i, i < 5 → l' i = row c r i) ∧ (∀ i, i < 5 → s' i = row c r (5 + i)) ∧ ∀ i, i < 5 → z' i = row c r (10 + i) := by
  refine ⟨cpy 5 (fun i => c (17 * r + i)) l, cpy 5 (fun i => c (17 * r + 5 + i)) s, cpy 5 (fun i => c (17 * r + 10 + i)) z, ?_, fun i hi => cpy_in hi, fun i hi => ?_, fun i hi => ?_⟩
  · have hw : f_X6_readFrom (nI (17 * r)) N D t c l s z = some (c (17 * r + 15), c (17 * r + 16), cpy 5 (fun i => c (17 * r + i)) l, cpy 5 (fun i => c (17 * r + 5 + i)) s, cpy 5 (fun i => c (17 * r + 10 + i)) z) := by
      have h := c_read_loop (17 * r) N D t c l s z hb hN 5 0 fuelC rfl (fuel_lt (by omega))
      rw [nI_0, cpy_0, cpy_0, cpy_0] at h
      unfold f_X6_readFrom
      exact h
    unfold f_X4_restore
    rw [show (17 : Int32) = nI 17 from rfl, pk_mul, Nat.mul_comm r 17, hw, ob]
    rfl
  · rw [cpy_in hi]; unfold row; rw [show 17 * r + (5 + i) = 17 * r + 5 + i by omega]
  · rw [cpy_in hi]; unfold row; rw [show 17 * r + (10 + i) = 17 * r + 10 + i by omega]
/-- the yard that comes out of a row that is like the page's row -/
theorem RY_back {n : Nat} (hn : n ≤ 5) {x y l s z : Nat → Int32} (h : RX n x y) (hl : ∀ i, i < 5 → l i = x i) (hs : ∀ i, i < 5 → s i = x (5 + i)) (hz : ∀ i, i < 5 → z i = x (10 + i)) : RY n l s z (x 15) (x 16) y := by
  obtain ⟨h1, h2, h3, h4, h5⟩ := h
  exact ⟨fun j hj => by rw [hl j (by omega)]; exact h1 j hj, fun j hj => by rw [hs j (by omega)]; exact h2 j hj, fun j hj => by rw [hz j (by omega)]; exact h3 j hj, h4, h5⟩
theorem RY_pg {n : Nat} (hn : n ≤ 5) {l s z p p' : Nat → Int32} {D t : Int32} (h : RY n l s z D t p) (hp : ∀ i, i < 17 → p' i = p i) : RY n l s z D t p' := by
  obtain ⟨h1, h2, h3, h4, h5⟩ := h
  exact ⟨fun j hj => by rw [hp j (by omega)]; exact h1 j hj, fun j hj => by dsimp only; rw [hp _ (by omega)]; exact h2 j hj, fun j hj => by dsimp only; rw [hp _ (by omega)]; exact h3 j hj, by rw [hp 15 (by omega)]; exact h4, by rw [hp 16 (by omega)]; exact h5⟩
/-- the first k places of a row of the book are the page's -/
def brow (b k : Nat) (P c : Nat → Int32) : Nat → Int32 := fun i => if b ≤ i ∧ i < b + k then P (i - b) else c i
theorem brow_0 (b : Nat) (P c : Nat → Int32) : brow b 0 P c = c := by funext i; unfold brow; rw [if_neg (by omega)]
theorem brow_s (b k : Nat) (P c : Nat → Int32) : upd (brow b k P c) (b + k) (P k) = brow b (k + 1) P c := by
  funext i; unfold upd brow
  by_cases h : i = b + k
  · rw [if_pos h, if_pos (by omega), show i - b = k by omega]
  · rw [if_neg h]
    by_cases h2 : b ≤ i ∧ i < b + k
    · rw [if_pos h2, if_pos (by omega)]
    · rw [if_neg h2, if_neg (by omega)]
theorem m_note_loop (a : Nat) (ha : a < 14) (P c : Nat → Int32) : ∀ (k j fu : Nat), j + k = 17 → k < fu → L_X8_note_51 (nI a) P fu (nI j) (brow (17 * a) j P c) = some (nI (a + 1), brow (17 * a) 17 P c)
  | k, j, 0, _, h => absurd h (Nat.not_lt_zero _)
  | 0, j, fu + 1, hj, _ => by
    have : j = 17 := by omega
    subst this
    rw [L_X8_note_51, if_pos (by decide), nI_1]
  | k + 1, j, fu + 1, hj, hf => by
    have ih := m_note_loop a ha P c k (j + 1) fu (by omega) (by omega)
    rw [L_X8_note_51, if_neg (show ¬ (17 : Int32) ≤ nI j from nI_ge (b := 17) (by omega) (by omega)), rdp j (by omega), ob, show (17 : Int32) = nI 17 from rfl, pk_mul, nI_add, q_wr _ _ (by omega) (by omega), ob, brow_s, nI_1]
    exact ih
theorem m_shift_loop (a : Int32) (P c : Nat → Int32) : ∀ (k j fu : Nat), j + k = 221 → k < fu → L_X8_note_11 a P fu (nI j) (brow 0 j (fun i => c (i + 17)) c) = J_X8_note_49 (a - 1) (brow 0 221 (fun i => c (i + 17)) c) P
  | k, j, 0, _, h => absurd h (Nat.not_lt_zero _)
  | 0, j, fu + 1, hj, _ => by
    have : j = 221 := by omega
    subst this
    rw [L_X8_note_11, if_pos (by decide)]
  | k + 1, j, fu + 1, hj, hf => by
    have ih := m_shift_loop a P c k (j + 1) fu (by omega) (by omega)
    have e : brow 0 j (fun i => c (i + 17)) c (j + 17) = c (j + 17) := by unfold brow; rw [if_neg (by omega)]
    have e2 := brow_s 0 j (fun i => c (i + 17)) c
    rw [Nat.zero_add] at e2
    rw [L_X8_note_11, if_neg (show ¬ (221 : Int32) ≤ nI j from nI_ge (b := 221) (by omega) (by omega)), show (17 : Int32) = nI 17 from rfl, nI_add, q_rd _ (by omega) (by omega), ob, q_wr _ _ (by omega) (by omega), ob, e, e2, nI_1]
    exact ih
theorem m_note49 (a : Nat) (ha : a < 14) (P c : Nat → Int32) : J_X8_note_49 (nI a) c P = some (nI (a + 1), brow (17 * a) 17 P c) := by
  have h := m_note_loop a ha P c 17 0 fuelC rfl (fuel_lt (by omega))
  rw [nI_0, brow_0] at h
  unfold J_X8_note_49
  exact h
/-- the book behind one more act -/
def noted (a : Nat) (P c : Nat → Int32) : Nat → Int32 := if a < 14 then brow (17 * a) 17 P c else brow 221 17 P (brow 0 221 (fun i => c (i + 17)) c)
theorem m_note (a : Nat) (ha : a ≤ 14) (P c : Nat → Int32) : f_X8_note (nI a) c P = some (nI (if a < 14 then a + 1 else 14), noted a P c) := by
  unfold f_X8_note noted
  by_cases h : a < 14
  · rw [if_neg (show ¬ nI a = (14 : Int32) from fun e => by have := (nI_eq (a := a) (b := 14) (by omega) (by omega)).mp e; omega), m_note49 a h, if_pos h, if_pos h]
  · have : a = 14 := by omega
    subst this
    have hs := m_shift_loop (nI 14) P c 221 0 fuelC rfl (fuel_lt (by omega))
    rw [nI_0, brow_0] at hs
    rw [if_pos (show nI 14 = (14 : Int32) from rfl), if_neg h, if_neg h]
    refine hs.trans ?_
    rw [show (nI 14 - 1 : Int32) = nI 13 from by decide, m_note49 13 (by omega)]
theorem row_brow_in {b : Nat} {P c : Nat → Int32} {i : Nat} (hi : i < 17) : row (brow (17 * b) 17 P c) b i = P i := by
  unfold row brow
  rw [if_pos (by omega), show 17 * b + i - 17 * b = i by omega]
theorem row_brow_out {b k : Nat} {P c : Nat → Int32} {i : Nat} (hk : k ≠ b) (hi : i < 17) : row (brow (17 * b) 17 P c) k i = row c k i := by
  unfold row brow
  rw [if_neg]
  intro h
  rcases Nat.lt_or_gt_of_ne hk with q | q <;> omega
