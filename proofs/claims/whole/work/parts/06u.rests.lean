/-! ===== rests ===== -/
def cdr (q : Int32) : Int32 := ((q / 2) * 10) + (q - q / 2 * 2)
def cnd (hO hT : Nat → Int32) (q q2 q1 : Nat) : Prop := ¬ hO q < hO q2 ∧ ¬ hT q < hT q1
theorem c_scan_step (hO hT : Nat → Int32) (x3 fd fs x4 x5 : Int32) (fl fst fsr : Nat → Int32) (q q2 q1 fu : Nat) (hq : q < 4) (h2 : nI q ^^^ 2 = nI q2) (h1 : nI q ^^^ 1 = nI q1) (h2' : q2 < 4) (h1' : q1 < 4) :
    (cnd hO hT q q2 q1 → L_X0_restingPairs_33 x3 fd fs fl fst fsr hO hT (fu + 1) x4 x5 (nI q) = L_X0_restingPairs_33 x3 fd fs fl fst fsr hO hT fu (x4 + 1) (cdr (nI q)) (nI q + (-1))) ∧ (¬ cnd hO hT q q2 q1 → L_X0_restingPairs_33 x3 fd fs fl fst fsr hO hT (fu + 1) x4 x5 (nI q) = L_X0_restingPairs_33 x3 fd fs fl fst fsr hO hT fu x4 x5 (nI q + (-1))) := by
  have base : L_X0_restingPairs_33 x3 fd fs fl fst fsr hO hT (fu + 1) x4 x5 (nI q) = if hO q < hO q2 then L_X0_restingPairs_33 x3 fd fs fl fst fsr hO hT fu x4 x5 (nI q + (-1)) else if hT q < hT q1 then L_X0_restingPairs_33 x3 fd fs fl fst fsr hO hT fu x4 x5 (nI q + (-1)) else L_X0_restingPairs_33 x3 fd fs fl fst fsr hO hT fu (x4 + 1) (cdr (nI q)) (nI q + (-1)) := by
    rw [L_X0_restingPairs_33, if_neg (nI_pos (by omega)), h2, h1, q_at _ h2' (by omega), q_at _ hq (by omega), q_at _ h1' (by omega), q_at _ hq (by omega), ob, ob, ob, ob]
    unfold J_X0_restingPairs_88 J_X0_restingPairs_89 J_X0_restingPairs_113
    rw [if_pos z00, if_neg one0]
    rfl
  rw [base]
  constructor
  · intro h; rw [if_neg h.1, if_neg h.2]
  · intro h
    by_cases k : hO q < hO q2
    · rw [if_pos k]
    · rw [if_neg k, if_pos (Classical.byContradiction fun e => h ⟨k, e⟩)]
theorem m_scan_step (g hO hT : Nat → Int32) (hg : ∀ j, j < 4 → g (2 * j) = hO j ∧ g (2 * j + 1) = hT j) (x3 th stm m f : Int32) (Q : Nat → Int32) (q q2 q1 fu : Nat) (hq : q < 4) (h2 : nI q ^^^ 2 = nI q2) (h1 : nI q ^^^ 1 = nI q1) (h2' : q2 < 4) (h1' : q1 < 4) :
    (cnd hO hT q q2 q1 → L_X8_rests_109 x3 th stm Q g (fu + 1) (nI q) m f = L_X8_rests_109 x3 th stm Q g fu (nI (q + 1)) (m + 1) (if m = 0 then cdr (nI q) else f)) ∧ (¬ cnd hO hT q q2 q1 → L_X8_rests_109 x3 th stm Q g (fu + 1) (nI q) m f = L_X8_rests_109 x3 th stm Q g fu (nI (q + 1)) m f) := by
  have base : L_X8_rests_109 x3 th stm Q g (fu + 1) (nI q) m f = if hO q < hO q2 then L_X8_rests_109 x3 th stm Q g fu (nI (q + 1)) m f else if hT q < hT q1 then L_X8_rests_109 x3 th stm Q g fu (nI (q + 1)) m f else L_X8_rests_109 x3 th stm Q g fu (nI (q + 1)) (m + 1) (if m = 0 then cdr (nI q) else f) := by
    rw [L_X8_rests_109, if_neg (show ¬ (4 : Int32) ≤ nI q from nI_ge (a := q) (b := 4) (by omega) (by omega)), h2, h1, show (2 : Int32) = nI 2 from rfl, pk_mul, pk_mul, pk_mul, nI_1, nI_1, q_rd g (by omega) (by omega), q_rd g (by omega) (by omega), q_rd g (by omega) (by omega), q_rd g (by omega) (by omega), ob, ob, ob, ob, (hg q hq).1, (hg q hq).2, (hg q2 h2').1, (hg q1 h1').2]
    unfold J_X8_rests_169 J_X8_rests_170 J_X8_rests_200 J_X8_rests_204 J_X8_rests_222
    rw [if_pos z00, if_pos z00, if_neg one0, if_neg one0, nI_1, q_add0]
    by_cases hm : m = 0
    · rw [if_pos hm, if_pos hm, show (10 * (nI q / 2)) + (nI q - nI q / 2 * 2) = cdr (nI q) by unfold cdr; rw [Int32.mul_comm]]
    · rw [if_neg hm, if_neg hm, if_neg one0]
  rw [base]
  constructor
  · intro h; rw [if_neg h.1, if_neg h.2]
  · intro h
    by_cases k : hO q < hO q2
    · rw [if_pos k]
    · rw [if_neg k, if_pos (Classical.byContradiction fun e => h ⟨k, e⟩)]
theorem scan_both (g hO hT : Nat → Int32) (hg : ∀ j, j < 4 → g (2 * j) = hO j ∧ g (2 * j + 1) = hT j) (x3 fd fs th stm : Int32) (fl fst fsr Q : Nat → Int32) : ∃ r m f, L_X0_restingPairs_33 x3 fd fs fl fst fsr hO hT fuelC 0 (-9) 3 = some (r, fd, fs, fl, fst, fsr, hO, hT) ∧ L_X8_rests_109 x3 th stm Q g fuelC 0 0 (-9) = some (r, th, stm, m, f, Q, g) := by
  obtain ⟨fu, hfu⟩ : ∃ f, fuelC = f + 1 + 1 + 1 + 1 + 1 := ⟨3995, rfl⟩
  have cz : ∀ x4 x5, L_X0_restingPairs_33 x3 fd fs fl fst fsr hO hT (fu + 1) x4 x5 (nI 0 + (-1)) = some (if x3 = 0 then x4 else x5, fd, fs, fl, fst, fsr, hO, hT) := fun x4 x5 => by
    rw [L_X0_restingPairs_33, if_pos (by decide)]
    by_cases h : x3 = 0
    · rw [if_pos h, if_pos h]
    · rw [if_neg h, if_neg h]
  have mz : ∀ m f, L_X8_rests_109 x3 th stm Q g (fu + 1) (nI (3 + 1)) m f = some (if x3 = 0 then m else f, th, stm, m, f, Q, g) := fun m f => by
    rw [L_X8_rests_109, if_pos (by decide)]
    by_cases h : x3 = 0
    · rw [if_pos h, if_pos h]
    · rw [if_neg h, if_neg h]
  have c3 := fun x4 x5 => c_scan_step hO hT x3 fd fs x4 x5 fl fst fsr 3 1 2 (fu + 1 + 1 + 1 + 1) (by omega) (by decide) (by decide) (by omega) (by omega)
  have c2 := fun x4 x5 => c_scan_step hO hT x3 fd fs x4 x5 fl fst fsr 2 0 3 (fu + 1 + 1 + 1) (by omega) (by decide) (by decide) (by omega) (by omega)
  have c1 := fun x4 x5 => c_scan_step hO hT x3 fd fs x4 x5 fl fst fsr 1 3 0 (fu + 1 + 1) (by omega) (by decide) (by decide) (by omega) (by omega)
  have c0 := fun x4 x5 => c_scan_step hO hT x3 fd fs x4 x5 fl fst fsr 0 2 1 (fu + 1) (by omega) (by decide) (by decide) (by omega) (by omega)
  have m0 := fun m f => m_scan_step g hO hT hg x3 th stm m f Q 0 2 1 (fu + 1 + 1 + 1 + 1) (by omega) (by decide) (by decide) (by omega) (by omega)
  have m1 := fun m f => m_scan_step g hO hT hg x3 th stm m f Q 1 3 0 (fu + 1 + 1 + 1) (by omega) (by decide) (by decide) (by omega) (by omega)
  have m2 := fun m f => m_scan_step g hO hT hg x3 th stm m f Q 2 0 3 (fu + 1 + 1) (by omega) (by decide) (by decide) (by omega) (by omega)
  have m3 := fun m f => m_scan_step g hO hT hg x3 th stm m f Q 3 1 2 (fu + 1) (by omega) (by decide) (by decide) (by omega) (by omega)
  rw [hfu, show (3 : Int32) = nI 3 from rfl, ← nI_0]
  have n3 : nI 3 + (-1) = nI 2 := by decide
  have n2 : nI 2 + (-1) = nI 1 := by decide
  have n1 : nI 1 + (-1) = nI 0 := by decide
  by_cases h3 : cnd hO hT 3 1 2 <;> by_cases h2 : cnd hO hT 2 0 3 <;> by_cases h1 : cnd hO hT 1 3 0 <;> by_cases h0 : cnd hO hT 0 2 1 <;>
    (first | rw [(c3 _ _).1 h3] | rw [(c3 _ _).2 h3]) <;> rw [n3] <;>
    (first | rw [(c2 _ _).1 h2] | rw [(c2 _ _).2 h2]) <;> rw [n2] <;>
    (first | rw [(c1 _ _).1 h1] | rw [(c1 _ _).2 h1]) <;> rw [n1] <;>
    (first | rw [(c0 _ _).1 h0] | rw [(c0 _ _).2 h0]) <;> rw [cz] <;>
    (first | rw [(m0 _ _).1 h0] | rw [(m0 _ _).2 h0]) <;>
    (first | rw [(m1 _ _).1 h1] | rw [(m1 _ _).2 h1]) <;>
    (first | rw [(m2 _ _).1 h2] | rw [(m2 _ _).2 h2]) <;>
    (first | rw [(m3 _ _).1 h3] | rw [(m3 _ _).2 h3]) <;> rw [mz] <;>
    exact ⟨_, _, _, rfl, rfl⟩
