/-! ===== a step: one function that both sides' steps are ===== -/
/-- a walker's own tread in a step t, a stumble with it (wolves' not) -/
def alv (K S B : Nat → Int32) (t stm : Int32) (w : Nat) : Int32 := trv (K w) (S w) (B w) t + (if K w = 2 then 0 else db stm w)
def gl (K : Nat → Int32) (al : Nat → Int32) (ln : Nat → Nat) (snow : Int32) : Nat → Nat → Option Int32 → Int32 → Int32 → Int32 × Int32
  | 0, _, _, D, c => (c, D)
  | r + 1, j, ah, D, c =>
    if db D (ln j) = 0 then
      match ah with
      | none => if 1 ≤ al (ln j) ∧ al (ln j) ≤ snow then gl K al ln snow r (j + 1) (some (al (ln j))) D c
          else gl K al ln snow r (j + 1) none (D ||| ((1 : Int32) <<< (nI (ln j) &&& 31))) (c + 1)
      | some a => if K (ln j) = 2 ∨ al (ln j) = a then gl K al ln snow r (j + 1) (some a) D c
          else gl K al ln snow r (j + 1) (some a) (D ||| ((1 : Int32) <<< (nI (ln j) &&& 31))) (c + 1)
    else gl K al ln snow r (j + 1) ah D c
theorem gl_down {K al : Nat → Int32} {ln : Nat → Nat} {snow : Int32} {r j : Nat} {ah : Option Int32} {D c : Int32} (h : ¬ db D (ln j) = 0) : gl K al ln snow (r + 1) j ah D c = gl K al ln snow r (j + 1) ah D c := by
  conv => lhs; unfold gl
  rw [if_neg h]
theorem gl_none {K al : Nat → Int32} {ln : Nat → Nat} {snow : Int32} {r j : Nat} {D c : Int32} (h : db D (ln j) = 0) : gl K al ln snow (r + 1) j none D c = if 1 ≤ al (ln j) ∧ al (ln j) ≤ snow then gl K al ln snow r (j + 1) (some (al (ln j))) D c else gl K al ln snow r (j + 1) none (D ||| ((1 : Int32) <<< (nI (ln j) &&& 31))) (c + 1) := by
  conv => lhs; unfold gl
  rw [if_pos h]
theorem gl_some {K al : Nat → Int32} {ln : Nat → Nat} {snow : Int32} {r j : Nat} {a D c : Int32} (h : db D (ln j) = 0) : gl K al ln snow (r + 1) j (some a) D c = if K (ln j) = 2 ∨ al (ln j) = a then gl K al ln snow r (j + 1) (some a) D c else gl K al ln snow r (j + 1) (some a) (D ||| ((1 : Int32) <<< (nI (ln j) &&& 31))) (c + 1) := by
  conv => lhs; unfold gl
  rw [if_pos h]
theorem gl_congr {K K' al al' : Nat → Int32} {ln ln' : Nat → Nat} {snow : Int32} {n : Nat} (hl : ∀ j, j < n → ln j = ln' j ∧ ln j < n) (hK : ∀ w, w < n → K w = K' w ∧ al w = al' w) :
    ∀ (r j : Nat) (ah : Option Int32) (D c : Int32), j + r ≤ n → gl K al ln snow r j ah D c = gl K' al' ln' snow r j ah D c
  | 0, _, _, _, _, _ => rfl
  | r + 1, j, ah, D, c, h => by
    obtain ⟨e1, e2⟩ := hl j (by omega)
    obtain ⟨e3, e4⟩ := hK (ln j) e2
    have ih := fun ah D c => gl_congr (snow := snow) hl hK r (j + 1) ah D c (by omega)
    unfold gl
    rw [← e1, ← e3, ← e4]
    cases ah <;> simp only [ih]
/-- what the class's walk through the line holds as 'somebody ahead, whose tread' -/
def ahC (ah : Option Int32) (som tre : Int32) : Prop := match ah with
  | none => som = 0
  | some a => som = 1 ∧ tre = a
theorem c_isBetween (x a b : Int32) : f_X7_isBetween x a b = some (if a ≤ x ∧ x ≤ b then 1 else 0) := by
  unfold f_X7_isBetween J_X7_isBetween_14
  by_cases h1 : x < a
  · rw [if_pos h1, if_neg (fun h => (q_nle.mpr h1) h.1)]
  · by_cases h2 : b < x
    · rw [if_neg h1, if_pos h2, if_neg (fun h => (q_nle.mpr h2) h.2)]
    · rw [if_neg h1, if_neg h2, if_pos ⟨q_nlt.mp h1, q_nlt.mp h2⟩]
theorem c_treadOfOne (K S B : Nat → Int32) {w t : Nat} (hw : w < 5) (hB : ∃ b, 1 ≤ b ∧ b ≤ 4 ∧ B w = nI b) (ht : t < 2 ^ 31) : f_X6_treadOfOne (nI w) (nI t) K S B = some (trv (K w) (S w) (B w) (nI t)) := by
  obtain ⟨b, h1, h2, h3⟩ := hB
  unfold f_X6_treadOfOne
  rw [c_kindOf K hw, c_strideOf S hw, c_beatOf B hw, h3]
  simp only [Option.bind_some]
  rw [c_treadAlone _ _ h1 (by omega) ht]; rfl
theorem c_treadBehind (K S B : Nat → Int32) {w t : Nat} (som tre stm : Int32) (ah : Option Int32) (hah : ahC ah som tre) (hw : w < 5) (hB : ∃ b, 1 ≤ b ∧ b ≤ 4 ∧ B w = nI b) (ht : t < 2 ^ 31) :
    f_X6_treadBehind (nI w) som tre stm (nI t) K S B = some (match ah with
      | none => alv K S B (nI t) stm w
      | some a => if K w = 2 then a else alv K S B (nI t) stm w) := by
  obtain ⟨b, b1, b2, b3⟩ := hB
  have base : ∀ x : Int32, J_X6_treadBehind_38 (nI w) (K w) x (nI t) S B = some (trv (K w) (S w) (B w) (nI t) + x) := by
    intro x
    unfold J_X6_treadBehind_38
    rw [c_strideOf S hw, c_beatOf B hw, b3]
    simp only [Option.bind_some]
    rw [c_treadAlone _ _ b1 (by omega) ht]; rfl
  unfold f_X6_treadBehind
  rw [c_kindOf K hw]
  simp only [Option.bind_some]
  unfold J_X6_treadBehind_22
  have hdb : (stm >>> (nI w &&& 31)) &&& 1 = db stm w := rfl
  rw [base, base, hdb]
  cases ah with
  | none =>
    have hs : som = 0 := hah
    subst hs
    by_cases hk : K w = 2
    · simp [hk, alv]
    · simp [hk, alv]
  | some a =>
    obtain ⟨rfl, rfl⟩ := hah
    by_cases hk : K w = 2
    · simp [hk]
    · simp [hk, alv]
theorem c_step_loop (K S B : Nat → Int32) (line : Nat → Int32) (ln : Nat → Nat) {n t : Nat} (stm snow : Int32) (hn : n ≤ 5) (ht : t < 2 ^ 31) (hl : ∀ j, j < n → ln j < n ∧ line j = nI (ln j)) (hB : ∀ w, w < n → ∃ b, 1 ≤ b ∧ b ≤ 4 ∧ B w = nI b) :
    ∀ (r j fu : Nat) (ah : Option Int32) (c som tre D : Int32), j + r = n → r < fu → ahC ah som tre →
      L_X6_takeStep_23 stm snow (nI t) (nI n) line K S B fu c som tre (nI j) D = some ((gl K (alv K S B (nI t) stm) ln snow r j ah D c).1, (gl K (alv K S B (nI t) stm) ln snow r j ah D c).2, nI (t + 1))
  | r, j, 0, _, _, _, _, _, _, hf, _ => absurd hf (Nat.not_lt_zero _)
  | 0, j, fu + 1, ah, c, som, tre, D, hj, hf, hah => by
    rw [L_X6_takeStep_23, c_size]
    simp only [Option.bind_some]
    rw [if_pos (nI_le (by omega) (by omega)), nI_1]
    rfl
  | r + 1, j, fu + 1, ah, c, som, tre, D, hj, hf, hah => by
    obtain ⟨h1, h2⟩ := hl j (by omega)
    have ih := fun ah c som tre D h => c_step_loop K S B line ln stm snow hn ht hl hB r (j + 1) fu ah c som tre D (by omega) (by omega) h
    rw [L_X6_takeStep_23, c_size]
    simp only [Option.bind_some]
    rw [if_neg (nI_ge (by omega) (by omega)), c_walkerAt line (by omega)]
    simp only [Option.bind_some]
    rw [h2, c_isDown]
    simp only [Option.bind_some]
    rw [c_treadBehind K S B som tre stm ah hah (by omega) (hB _ h1) ht]
    simp only [Option.bind_some]
    unfold J_X6_takeStep_93 J_X6_takeStep_103 J_X6_takeStep_119
    simp only [nI_1]
    by_cases hd : db D (ln j) = 0
    · rw [if_pos hd]
      cases ah with
      | none =>
        have hs : som = 0 := hah
        subst hs
        rw [if_pos rfl, c_isBetween, gl_none hd]
        simp only [Option.bind_some]
        by_cases hc : 1 ≤ alv K S B (nI t) stm (ln j) ∧ alv K S B (nI t) stm (ln j) ≤ snow
        · rw [if_pos hc, if_pos hc, if_neg (by decide)]
          exact ih (some _) c 1 _ D ⟨rfl, rfl⟩
        · rw [if_neg hc, if_neg hc, if_pos rfl]
          exact ih none (c + 1) 0 tre _ rfl
      | some a =>
        obtain ⟨rfl, rfl⟩ := hah
        rw [if_neg (by decide), gl_some hd]
        dsimp only
        by_cases hk : K (ln j) = 2
        · simp only [hk, if_true, true_or]
          exact ih (some tre) c 1 tre D ⟨rfl, rfl⟩
        · simp only [hk, if_false, false_or]
          by_cases hc : alv K S B (nI t) stm (ln j) = tre
          · rw [if_pos hc, if_pos hc, hc]
            exact ih (some tre) c 1 tre D ⟨rfl, rfl⟩
          · rw [if_neg hc, if_neg hc]
            exact ih (some tre) (c + 1) 1 tre _ ⟨rfl, rfl⟩
    · rw [if_neg hd, gl_down hd]
      exact ih ah c som tre D hah
theorem c_takeStep (K S B : Nat → Int32) (line : Nat → Int32) (ln : Nat → Nat) {n t : Nat} (stm D dep noo lat : Int32) (hn : n ≤ 5) (ht : t < 2 ^ 31) (hl : ∀ j, j < n → ln j < n ∧ line j = nI (ln j)) (hB : ∀ w, w < n → ∃ b, 1 ≤ b ∧ b ≤ 4 ∧ B w = nI b) :
    f_X6_takeStep stm D (nI t) (nI n) dep noo lat line K S B = some ((gl K (alv K S B (nI t) stm) ln (snw dep noo lat (nI t)) n 0 none D 0).1, (gl K (alv K S B (nI t) stm) ln (snw dep noo lat (nI t)) n 0 none D 0).2, nI (t + 1)) := by
  unfold f_X6_takeStep
  rw [c_snowAt, Option.bind_some]
  have h := c_step_loop K S B line ln stm (snw dep noo lat (nI t)) hn ht hl hB n 0 fuelC none 0 0 0 D (by omega) (fuel_lt (by omega)) rfl
  rw [nI_0] at h
  exact h
