/-! ===== whose ===== -/
def mt (K S B : Nat) (st tt : Nat → Int32) : Nat → Nat → Bool
  | 0, _ => true
  | r + 1, j => if trv (nI K) (nI S) (nI B) (st j) = tt j then mt K S B st tt r (j + 1) else false
def okb (k : Nat) (st tt : Nat → Int32) (c : Nat) : Bool := decide (c / 100 ≠ 2 ∧ 1 ≤ c / 10 % 10 ∧ 1 ≤ c % 10 ∧ c % 10 ≤ 4) && mt (c / 100) (c / 10 % 10) (c % 10) st tt k 0
def wsx (ok : Nat → Bool) (c : Nat) (s : Int32 × Int32) : Int32 × Int32 := if ok c = true then (s.1 + 1, if s.1 = 0 then nI c else s.2) else s
def wf (ok : Nat → Bool) : Nat → Nat → Int32 × Int32 → Int32 × Int32
  | 0, _, s => s
  | r + 1, c, s => wf ok r (c + 1) (wsx ok c s)
theorem wf_add (ok : Nat → Bool) : ∀ (r r' c : Nat) (s : Int32 × Int32), wf ok (r + r') c s = wf ok r' (c + r) (wf ok r c s)
  | 0, r', c, s => by rw [Nat.zero_add]; rfl
  | r + 1, r', c, s => by
    rw [show r + 1 + r' = (r + r') + 1 by omega, wf, wf_add ok r r' (c + 1), wf, show c + 1 + r = c + (r + 1) by omega]
theorem wf_skip (ok : Nat → Bool) : ∀ (r c : Nat) (s : Int32 × Int32), (∀ i, i < r → ok (c + i) = false) → wf ok r c s = s
  | 0, _, _, _ => rfl
  | r + 1, c, s, h => by
    have h0 : ok c = false := h 0 (by omega)
    rw [wf, wsx, h0, if_neg (by decide)]
    exact wf_skip ok r (c + 1) s (fun i hi => by rw [show c + 1 + i = c + (i + 1) by omega]; exact h (i + 1) (by omega))
theorem wf_first (ok : Nat → Bool) (f : Int32) : ∀ (r c m : Nat), 1 ≤ m → m + r < 2 ^ 31 → (wf ok r c (nI m, f)).2 = f
  | 0, _, _, _, _ => rfl
  | r + 1, c, m, h1, h2 => by
    rw [wf, wsx]
    by_cases h : ok c = true
    · rw [if_pos h]
      dsimp only
      rw [if_neg (q_ne0 h1 (by omega)), nI_1]
      exact wf_first ok f r (c + 1) (m + 1) (by omega) (by omega)
    · rw [if_neg h]
      exact wf_first ok f r (c + 1) m h1 (by omega)
theorem c_fitsAll_loop (c k : Nat) (hc : c < 400) (hb : 1 ≤ c % 10) (hk : k ≤ 6) {tm tr st tt : Nat → Int32} (h1 : AG k tm st) (h2 : AG k tr tt) (h3 : ∀ j, j < k → ∃ t, t ≤ 20 ∧ st j = nI t) : ∀ (r j fu : Nat), j + r = k → r < fu → L_X2_fitsAll_2 (nI c) (nI k) tm tr fu (nI j) = some (if mt (c / 100) (c / 10 % 10) (c % 10) st tt r j = true then 1 else 0)
  | r, j, 0, _, h => absurd h (Nat.not_lt_zero _)
  | 0, j, fu + 1, hj, _ => by rw [L_X2_fitsAll_2, if_pos (nI_le (by omega) (by omega))]; rfl
  | r + 1, j, fu + 1, hj, hf => by
    have ih := c_fitsAll_loop c k hc hb hk h1 h2 h3 r (j + 1) fu (by omega) (by omega)
    obtain ⟨e1, e2, e3⟩ := fig c (by omega)
    obtain ⟨t, ht, et⟩ := h3 j (by omega)
    rw [L_X2_fitsAll_2, if_neg (nI_ge (by omega) (by omega)), q_at _ (by omega) (by omega), q_at _ (by omega) (by omega), ob, e1, e2, e3, h1 j (by omega), h2 j (by omega), et, c_treadAlone _ _ hb (by omega) (by omega), ob, ob, nI_1, ih, mt, et]
    by_cases h : trv (nI (c / 100)) (nI (c / 10 % 10)) (nI (c % 10)) (nI t) = tt j
    · rw [if_pos h, if_pos h]
    · rw [if_neg h, if_neg h]; rfl
theorem c_some (c : Nat) (hc : c < 400) : f_X2_isSomebody (nI c) = some (if (c / 100 ≠ 2 ∧ 1 ≤ c / 10 % 10 ∧ 1 ≤ c % 10 ∧ c % 10 ≤ 4) then 1 else 0) := by
  obtain ⟨e1, e2, e3⟩ := fig c (by omega)
  have hw : c / 100 < 10 := by omega
  have ha : c / 10 % 10 < 10 := Nat.mod_lt _ (by omega)
  have hb' : c % 10 < 10 := Nat.mod_lt _ (by omega)
  unfold f_X2_isSomebody J_X2_isSomebody_35
  rw [e1, e2, e3, c_isBetween, ob]
  generalize c / 100 = w at *
  generalize c / 10 % 10 = a at *
  generalize c % 10 = b at *
  have i2 : nI w = (2 : Int32) ↔ w = 2 := nI_eq (a := w) (b := 2) (by omega) (by omega)
  have ia : nI a < (1 : Int32) ↔ a < 1 := (i_lt (x := nI a) (k := 1) (by omega)).trans (by rw [nI_toInt (by omega)]; omega)
  have ib : (1 : Int32) ≤ nI b ↔ 1 ≤ b := nI_leI (a := 1) (b := b) (by omega) (by omega)
  have ib4 : nI b ≤ (4 : Int32) ↔ b ≤ 4 := nI_leI (a := b) (b := 4) (by omega) (by omega)
  by_cases h1 : w = 2
  · rw [if_pos (i2.mpr h1), iv_f (fun h => h.1 h1)]
  · rw [if_neg (fun e => h1 (i2.mp e))]
    by_cases h2 : a < 1
    · rw [if_pos (ia.mpr h2), iv_f (by omega)]
    · rw [if_neg (fun e => h2 (ia.mp e))]
      by_cases h3 : 1 ≤ b ∧ b ≤ 4
      · rw [iv_t (c := 1 ≤ nI b ∧ nI b ≤ 4) ⟨ib.mpr h3.1, ib4.mpr h3.2⟩, if_neg one0, iv_t ⟨h1, by omega, h3⟩]
      · rw [iv_f (c := 1 ≤ nI b ∧ nI b ≤ 4) (fun h => h3 ⟨ib.mp h.1, ib4.mp h.2⟩), if_pos z00, iv_f (fun h => h3 ⟨h.2.2.1, h.2.2.2⟩)]
theorem c_ok (c k : Nat) (hc : c < 400) (hk : k ≤ 6) {tm tr st tt : Nat → Int32} (h1 : AG k tm st) (h2 : AG k tr tt) (h3 : ∀ j, j < k → ∃ t, t ≤ 20 ∧ st j = nI t) {α : Type} (x y : Option α) : ((f_X2_isSomebody (nI c)).bind fun r1 => if r1 = 0 then y else (f_X2_fitsAll (nI c) (nI k) tm tr).bind fun r4 => if r4 = 0 then y else x) = if okb k st tt c = true then x else y := by
  rw [c_some c hc, ob]
  by_cases h : c / 100 ≠ 2 ∧ 1 ≤ c / 10 % 10 ∧ 1 ≤ c % 10 ∧ c % 10 ≤ 4
  · have hL := c_fitsAll_loop c k hc h.2.2.1 hk h1 h2 h3 k 0 fuelC (by omega) (fuel_lt (by omega))
    rw [nI_0] at hL
    rw [iv_t h, if_neg one0, show f_X2_fitsAll (nI c) (nI k) tm tr = _ from hL, ob, okb, decide_eq_true h, Bool.true_and]
    cases mt (c / 100) (c / 10 % 10) (c % 10) st tt k 0
    · rfl
    · rfl
  · rw [iv_f h, if_pos z00, okb, decide_eq_false h, Bool.false_and, if_neg (by decide)]
theorem c_fit_loop (k : Nat) (hk : k ≤ 6) {tm tr st tt : Nat → Int32} (h1 : AG k tm st) (h2 : AG k tr tt) (h3 : ∀ j, j < k → ∃ t, t ≤ 20 ∧ st j = nI t) : ∀ (r c fu : Nat) (m f : Int32), c + r = 400 → r < fu → L_X2_fitting_4 (nI k) tm tr fu m (nI c) = some (wf (okb k st tt) r c (m, f)).1
  | r, j, 0, _, _, _, h => absurd h (Nat.not_lt_zero _)
  | 0, c, fu + 1, m, f, hj, _ => by
    have : c = 400 := by omega
    subst this
    rw [L_X2_fitting_4, if_pos (by decide)]; rfl
  | r + 1, c, fu + 1, m, f, hj, hf => by
    have ih := fun m f => c_fit_loop k hk h1 h2 h3 r (c + 1) fu m f (by omega) (by omega)
    have hc := c_ok c k (by omega) hk h1 h2 h3 (L_X2_fitting_4 (nI k) tm tr fu (m + 1) (nI c + 1)) (L_X2_fitting_4 (nI k) tm tr fu (m + 0) (nI c + 1))
    rw [L_X2_fitting_4, if_neg (show ¬ (400 : Int32) ≤ nI c from nI_ge (a := c) (b := 400) (by omega) (by omega))]
    unfold J_X2_fitting_31 J_X2_fitting_32
    rw [hc, nI_1, q_add0, wf, wsx]
    by_cases h : okb k st tt c = true
    · rw [if_pos h, if_pos h]; exact ih _ _
    · rw [if_neg h, if_neg h]; exact ih _ _
theorem c_first_loop (k : Nat) (hk : k ≤ 6) {tm tr st tt : Nat → Int32} (h1 : AG k tm st) (h2 : AG k tr tt) (h3 : ∀ j, j < k → ∃ t, t ≤ 20 ∧ st j = nI t) : ∀ (r c fu : Nat), c + r = 400 → r < fu → L_X2_firstFitting_2 (nI k) tm tr fu (nI c) = some (wf (okb k st tt) r c (0, -9)).2
  | r, j, 0, _, h => absurd h (Nat.not_lt_zero _)
  | 0, c, fu + 1, hj, _ => by
    have : c = 400 := by omega
    subst this
    rw [L_X2_firstFitting_2, if_pos (by decide)]; rfl
  | r + 1, c, fu + 1, hj, hf => by
    have ih := c_first_loop k hk h1 h2 h3 r (c + 1) fu (by omega) (by omega)
    have hc := c_ok c k (by omega) hk h1 h2 h3 (some (nI c)) (L_X2_firstFitting_2 (nI k) tm tr fu (nI c + 1))
    rw [L_X2_firstFitting_2, if_neg (show ¬ (400 : Int32) ≤ nI c from nI_ge (a := c) (b := 400) (by omega) (by omega))]
    unfold J_X2_firstFitting_26
    rw [hc, nI_1, wf, wsx]
    by_cases h : okb k st tt c = true
    · rw [if_pos h, if_pos h]
      dsimp only
      rw [if_pos z00, show (0 : Int32) + 1 = nI 1 from rfl, wf_first _ _ _ _ _ (by omega) (by omega)]
    · rw [if_neg h, if_neg h]; exact ih
