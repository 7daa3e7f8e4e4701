/-! ===== the calls that read ===== -/
theorem fb_holes : ∀ (m n : Nat) (f : Nat → Nat), (∀ i, i < n → f i < m) → (∀ i j, i < j → j < n → f i ≠ f j) → n ≤ m := by
  intro m
  induction m with
  | zero =>
    intro n f h1 _
    rcases Nat.eq_zero_or_pos n with h | h
    · omega
    · exact absurd (h1 0 h) (Nat.not_lt_zero _)
  | succ m ih =>
    intro n f h1 h2
    by_cases hx : ∃ i, i < n ∧ f i = m
    · obtain ⟨a, ha, hfa⟩ := hx
      have hg := ih (n - 1) (fun i => if i < a then f i else f (i + 1)) (by
        intro i hi
        by_cases q : i < a
        · simp only [if_pos q]
          have b1 := h1 i (by omega)
          have b2 := h2 i a q ha
          omega
        · simp only [if_neg q]
          have b1 := h1 (i + 1) (by omega)
          have b2 := h2 a (i + 1) (by omega) (by omega)
          omega) (by
        intro i j hij hj
        by_cases q : i < a
        · by_cases r : j < a
          · simp only [if_pos q, if_pos r]
            exact h2 i j hij (by omega)
          · simp only [if_pos q, if_neg r]
            exact h2 i (j + 1) (by omega) (by omega)
        · have r : ¬ j < a := by omega
          simp only [if_neg q, if_neg r]
          exact h2 (i + 1) (j + 1) (by omega) (by omega))
      omega
    · have hg := ih n f (fun i hi => by
        have b1 := h1 i hi
        have b2 : f i ≠ m := fun e => hx ⟨i, hi, e⟩
        omega) h2
      omega
/-- two of them in one place -/
theorem fb_twice {m n : Nat} {f : Nat → Nat} (h : ∀ i, i < n → f i < m) (hm : m < n) : ∃ i j, i < j ∧ j < n ∧ f i = f j := by
  refine Classical.byContradiction fun hx => ?_
  have := fb_holes m n f h (fun i j hij hj e => hx ⟨i, j, hij, hj, e⟩)
  omega
/-- as many as places, none twice: each place is taken -/
theorem fb_onto {n : Nat} {f : Nat → Nat} (h : ∀ i, i < n → f i < n) (h2 : ∀ i j, i < j → j < n → f i ≠ f j) {y : Nat} (hy : y < n) : ∃ i, i < n ∧ f i = y := by
  refine Classical.byContradiction fun hx => ?_
  have hne : ∀ i, i < n → f i ≠ y := fun i hi e => hx ⟨i, hi, e⟩
  have := fb_holes (n - 1) n (fun i => if f i < y then f i else f i - 1) (by
    intro i hi
    have b1 := h i hi
    have b2 := hne i hi
    by_cases q : f i < y
    · simp only [if_pos q]; omega
    · simp only [if_neg q]; omega) (by
    intro i j hij hj
    have b1 := hne i (by omega)
    have b2 := hne j hj
    have b3 := h2 i j hij hj
    by_cases q : f i < y
    · by_cases r : f j < y
      · simp only [if_pos q, if_pos r]; exact b3
      · simp only [if_pos q, if_neg r]; omega
    · by_cases r : f j < y
      · simp only [if_neg q, if_pos r]; omega
      · simp only [if_neg q, if_neg r]; omega)
  omega
/-! ===== how many places have a property ===== -/

def GP (n T : Nat) (p : Nat → Int32) : Prop := (∃ ln : Nat → Nat, LN n ln p) ∧ (∀ w, w < n → ∃ s, 1 ≤ s ∧ s ≤ 9 ∧ p (5 + w) = nI s) ∧ (∀ w, w < n → ∃ s, s ≤ 5 ∧ p (10 + w) = nI s) ∧ (∃ t, t ≤ T ∧ p 16 = nI t) ∧ ∃ d, d < 2 ^ n ∧ p 15 = nI d
def RY (n : Nat) (line strides strains : Nat → Int32) (down steps : Int32) (p : Nat → Int32) : Prop := AG n line p ∧ AG n strides (fun w => p (5 + w)) ∧ AG n strains (fun w => p (10 + w)) ∧ down = p 15 ∧ steps = p 16
def PTY (n : Nat) (cC dC nC lC : Int32) (kC bC : Nat → Int32) (wM dM nM lM : Int32) (kM bM : Nat → Int32) : Prop := cC = nI n ∧ wM = nI n ∧ dC = dM ∧ nC = nM ∧ lC = lM ∧ AG n kC kM ∧ AG n bC bM ∧ RP n kM bM
theorem GP.sok {n T : Nat} {p : Nat → Int32} (h : GP n T p) : SOK n (fun w => p (5 + w)) := fun w hw => by
  obtain ⟨s, h1, h2, h3⟩ := h.2.1 w hw
  exact ⟨s, h1, by omega, h3⟩
theorem rdp {P : Nat → Int32} (j : Nat) (hj : j < 17) : rdI P 17 (nI j) = some (P j) := q_rd P hj (by omega)
theorem strain_loop {n : Nat} (hn : n ≤ 5) {str P : Nat → Int32} (h : AG n str (fun w => P (10 + w))) : ∀ (k j fu fu' : Nat) (x : Int32), j + k = n → k < fu → k < fu' → ∃ r, L_X6_strainOfAll_4 (nI n) str fu x (nI j) = some r ∧ L_X8_strains_4 (nI n) P fu' x (nI j) = some r
  | k, j, 0, _, _, _, h, _ => absurd h (Nat.not_lt_zero _)
  | k, j, _, 0, _, _, _, h => absurd h (Nat.not_lt_zero _)
  | 0, j, fu + 1, fu' + 1, x, hj, _, _ => by
    rw [L_X6_strainOfAll_4, L_X8_strains_4, c_size, ob, if_pos (nI_le (by omega) (by omega)), if_pos (nI_le (by omega) (by omega))]
    exact ⟨x, rfl, rfl⟩
  | k + 1, j, fu + 1, fu' + 1, x, hj, hf, hf' => by
    have ih := strain_loop hn h k (j + 1) fu fu' (x + P (10 + j)) (by omega) (by omega) (by omega)
    rw [L_X6_strainOfAll_4, L_X8_strains_4, c_size, ob, if_neg (nI_ge (by omega) (by omega)), if_neg (nI_ge (by omega) (by omega)), q_at str (by omega) (by omega), ob]
    rw [show (10 : Int32) + nI j = nI (10 + j) from nI_add 10 j, rdp (10 + j) (by omega), ob, nI_1, h j (by omega)]
    exact ih
theorem strains_eq {n : Nat} (hn : n ≤ 5) {str P : Nat → Int32} (h : AG n str (fun w => P (10 + w))) : ∃ r, f_X6_strainOfAll (nI n) str = some r ∧ f_X8_strains (nI n) P = some r := by
  have e := strain_loop hn h n 0 fuelC fuelC 0 (by omega) (fuel_lt (by omega)) (fuel_lt (by omega))
  rw [nI_0] at e
  exact e
theorem op_about (x th : Int32) {n T : Nat} {ac tl mc td tst tc dC nC lC tsz wM dM nM lM am mm : Int32} {kC bC kM bM lnC sC srC P : Nat → Int32} (hP : PTY n tc dC nC lC kC bC wM dM nM lM kM bM) (hY : RY n lnC sC srC td tst P) (ha : ac = am) (hm : mc = mm) (ht : tl = tsz) :
    ∃ r th', f_X7_about x ac tl mc td tst tc dC nC lC srC = some r ∧ f_X8_about x th tsz dM nM lM wM am mm P = some (r, th') := by
  obtain ⟨rfl, rfl, rfl, rfl, rfl, -, -, hR⟩ := hP
  obtain ⟨-, -, h3, rfl, rfl⟩ := hY
  subst ha; subst hm; subst ht
  obtain ⟨q, q1, q2⟩ := strains_eq hR.1 h3
  unfold f_X7_about f_X8_about
  rw [show (16 : Int32) = nI 16 from rfl, show (15 : Int32) = nI 15 from rfl, rdp 16 (by omega), rdp 15 (by omega), q1, q2]
  simp only [ob, c_size, f_X6_stepNumber, f_X6_downBits, f_X2_size, f_X5_size, c_snowAt, m_snowAt]
  repeat' split
  all_goals exact ⟨_, _, rfl, rfl⟩
theorem op_line (x th : Int32) {n : Nat} {tc wM td tst : Int32} {lnC sC srC P : Nat → Int32} (hn : n ≤ 5) (h1 : tc = nI n) (h2 : wM = nI n) (hY : RY n lnC sC srC td tst P) : ∃ r th', f_X7_line x tc lnC = some r ∧ f_X8_line x th wM P = some (r, th') := by
  subst h1; subst h2
  unfold f_X7_line f_X8_line
  rw [c_has x (by omega), m_in_n x hn, ob, ob]
  by_cases h : 0 ≤ x.toInt ∧ x.toInt < n
  · obtain ⟨j, -, h4, rfl⟩ := i_of (x := x) (a := 0) (b := n - 1) (by omega) (by omega) (by omega)
    rw [iv_t h, if_neg one0, if_neg one0, c_walkerAt lnC (by omega), q_0add, rdp j (by omega), ob, ob, hY.1 j (by omega)]
    exact ⟨_, _, rfl, rfl⟩
  · rw [iv_f h, if_pos z00, if_pos z00]
    exact ⟨_, _, rfl, rfl⟩
theorem onto {n : Nat} {ln : Nat → Nat} {p : Nat → Int32} (h : LN n ln p) {w : Nat} (hw : w < n) : ∃ i, i < n ∧ ln i = w :=
  fb_onto (fun i hi => (h.1 i hi).1) (fun i j hij hj e => by have := h.2 i j (by omega) hj e; omega) hw
theorem c_place_loop {n w i : Nat} {ln : Nat → Nat} {line P : Nat → Int32} (hn : n ≤ 5) (hl : LN n ln P) (hag : AG n line P) (hi : i < n) (hw : ln i = w) : ∀ (k j fu : Nat), j + k = i → k < fu → L_X6_placeOf_2 (nI w) (nI n) line fu (nI j) = some (nI i)
  | k, j, 0, _, h => absurd h (Nat.not_lt_zero _)
  | 0, j, fu + 1, hj, _ => by
    have : j = i := by omega
    subst this
    rw [L_X6_placeOf_2, c_size, ob, if_neg (nI_ge (by omega) (by omega)), c_walkerAt line (by omega), ob, hag j hi, (hl.1 j hi).2, hw, if_pos rfl]
  | k + 1, j, fu + 1, hj, hf => by
    have ih := c_place_loop hn hl hag hi hw k (j + 1) fu (by omega) (by omega)
    have hne : ¬ nI (ln j) = nI w := fun e => by
      have h1 := (hl.1 j (by omega)).1
      have h2 := (nI_eq (by omega) (by rw [← hw]; have := (hl.1 i hi).1; omega)).mp e
      have := hl.2 j i (by omega) hi (by rw [hw, h2])
      omega
    rw [L_X6_placeOf_2, c_size, ob, if_neg (nI_ge (by omega) (by omega)), c_walkerAt line (by omega), ob, hag j (by omega), (hl.1 j (by omega)).2, if_neg hne, nI_1]
    exact ih
theorem m_place_lo {n w i : Nat} {ln : Nat → Nat} {P : Nat → Int32} (hn : n ≤ 5) (hl : LN n ln P) (hi : i < n) (hw : ln i = w) (N : Nat) (hN : 17 ≤ N) (hN2 : N < 2 ^ 31) : ∀ (j fu : Nat), j ≤ i → j < fu → L_X8_placeOf_4 (nI w) N P fu (nI i) (nI j + (-1)) = some (nI i)
  | 0, 0, _, h => absurd h (Nat.not_lt_zero _)
  | 0, fu + 1, _, _ => by
    rw [L_X8_placeOf_4, if_pos (by decide)]
  | j + 1, 0, _, h => absurd h (Nat.not_lt_zero _)
  | j + 1, fu + 1, hj, hf => by
    have ih := m_place_lo hn hl hi hw N hN hN2 j fu (by omega) (by omega)
    have hne : ¬ nI (ln j) = nI w := fun e => by
      have h1 := (hl.1 j (by omega)).1
      have h2 := (nI_eq (by omega) (by rw [← hw]; have := (hl.1 i hi).1; omega)).mp e
      have := hl.2 j i (by omega) hi (by rw [hw, h2])
      omega
    rw [pk_m1, L_X8_placeOf_4, if_neg (nI_pos (by omega)), q_0add, q_rd P (by omega) hN2, ob, (hl.1 j (by omega)).2, if_neg hne]
    unfold J_X8_placeOf_22
    exact ih
theorem m_place_hi {n w i : Nat} {ln : Nat → Nat} {P : Nat → Int32} (hn : n ≤ 5) (hl : LN n ln P) (hi : i < n) (hw : ln i = w) (N : Nat) (hN : 17 ≤ N) (hN2 : N < 2 ^ 31) : ∀ (k j fu : Nat) (x : Int32), i + k = j → j ≤ 4 → j + 1 < fu → L_X8_placeOf_4 (nI w) N P fu x (nI j) = some (nI i)
  | _, _, 0, _, _, _, h => absurd h (Nat.not_lt_zero _)
  | 0, j, fu + 1, x, hj, _, hf => by
    have : j = i := by omega
    subst this
    have ih := m_place_lo hn hl hi hw N hN hN2 j fu (Nat.le_refl _) (by omega)
    rw [L_X8_placeOf_4, if_neg (nI_pos (by omega)), q_0add, q_rd P (by omega) hN2, ob, (hl.1 j hi).2, hw, if_pos rfl]
    unfold J_X8_placeOf_22
    exact ih
  | k + 1, j, fu + 1, x, hj, h4, hf => by
    obtain ⟨j', rfl⟩ : ∃ j', j = j' + 1 := ⟨j - 1, by omega⟩
    have ih := fun x => m_place_hi hn hl hi hw N hN hN2 k j' fu x (by omega) (by omega) (by omega)
    rw [L_X8_placeOf_4, if_neg (nI_pos (by omega)), q_0add, q_rd P (by omega) hN2, ob]
    unfold J_X8_placeOf_22
    rw [pk_m1]
    split <;> exact ih _
theorem place_eq {n w : Nat} {ln : Nat → Nat} {line P : Nat → Int32} (hn : n ≤ 5) (hl : LN n ln P) (hag : AG n line P) (hw : w < n) {N : Nat} (hN : 17 ≤ N) (hN2 : N < 2 ^ 31) : ∃ i, i < n ∧ ln i = w ∧ f_X6_placeOf (nI w) (nI n) line = some (nI i) ∧ f_X8_placeOf (nI w) N P = some (nI i) := by
  obtain ⟨i, hi, hw⟩ := onto hl hw
  refine ⟨i, hi, hw, ?_, ?_⟩
  · have h := c_place_loop hn hl hag hi hw i 0 fuelC (by omega) (fuel_lt (by omega))
    rw [nI_0] at h
    exact h
  · exact m_place_hi hn hl hi hw N hN hN2 (4 - i) 4 fuelC 0 (by omega) (by omega) (fuel_lt (by omega))
/-- the tread in the step that comes now -/
def tnw (K al : Nat → Int32) (ln : Nat → Nat) (D : Int32) (x : Nat) : Nat → Nat → Option Int32 → Int32
  | 0, _, _ => -9
  | r + 1, j, ah =>
    if db D (ln j) = 0 then
      if ln j = x then (match ah with
        | none => al (ln j)
        | some a => if K (ln j) = 2 then a else al (ln j))
      else tnw K al ln D x r (j + 1) (some (match ah with
        | none => al (ln j)
        | some a => if K (ln j) = 2 then a else al (ln j)))
    else tnw K al ln D x r (j + 1) ah
def tnm (K al : Nat → Int32) (ln : Nat → Nat) (D : Int32) (x : Nat) : Nat → Nat → Option Int32 → Int32 → Int32
  | 0, _, _, fo => fo
  | r + 1, j, ah, fo =>
    if db D (ln j) = 0 then
      tnm K al ln D x r (j + 1) (some (match ah with
        | none => al (ln j)
        | some a => if K (ln j) = 2 then a else al (ln j))) (if ln j = x then (match ah with
        | none => al (ln j)
        | some a => if K (ln j) = 2 then a else al (ln j)) else fo)
    else tnm K al ln D x r (j + 1) ah fo
theorem tnm_no (K al : Nat → Int32) (ln : Nat → Nat) (D : Int32) (x : Nat) : ∀ (r j : Nat) (ah : Option Int32) (fo : Int32), (∀ i, j ≤ i → i < j + r → ¬ ln i = x) → tnm K al ln D x r j ah fo = fo
  | 0, _, _, _, _ => rfl
  | r + 1, j, ah, fo, h => by
    have ih := fun ah => tnm_no K al ln D x r (j + 1) ah fo (fun i h1 h2 => h i (by omega) (by omega))
    unfold tnm
    rw [if_neg (h j (Nat.le_refl _) (by omega)), ih, ih]
    split <;> rfl
theorem tnm_tnw {n : Nat} (K al : Nat → Int32) (ln : Nat → Nat) (D : Int32) (x : Nat) (inj : ∀ i j, i < n → j < n → ln i = ln j → i = j) : ∀ (r j : Nat) (ah : Option Int32), j + r ≤ n → tnm K al ln D x r j ah (-9) = tnw K al ln D x r j ah
  | 0, _, _, _ => rfl
  | r + 1, j, ah, h => by
    have ih := fun ah => tnm_tnw K al ln D x inj r (j + 1) ah (by omega)
    unfold tnm tnw
    by_cases hd : db D (ln j) = 0
    · rw [if_pos hd, if_pos hd]
      by_cases hx : ln j = x
      · rw [if_pos hx, if_pos hx]
        exact tnm_no K al ln D x r (j + 1) _ _ (fun i h1 h2 e => by have := inj i j (by omega) (by omega) (by rw [e, hx]); omega)
      · rw [if_neg hx, if_neg hx, ih]
    · rw [if_neg hd, if_neg hd, ih]
