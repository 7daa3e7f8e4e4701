/-! ===== copies, steps to come ===== -/
theorem ob {α β : Type} (a : α) (k : α → Option β) : (some a).bind k = k a := Eq.trans (Option.bind_some a k) rfl
def cpy (k : Nat) (f g : Nat → Int32) : Nat → Int32 := fun j => if j < k then f j else g j
theorem cpy_in {k j : Nat} {f g : Nat → Int32} (h : j < k) : cpy k f g j = f j := if_pos h
theorem cpy_0 (f g : Nat → Int32) : cpy 0 f g = g := by funext j; unfold cpy; rw [if_neg (Nat.not_lt_zero _)]
theorem cpy_s (k : Nat) (f g : Nat → Int32) : upd (cpy k f g) k (f k) = cpy (k + 1) f g := by
  funext j; unfold upd cpy
  by_cases h : j = k
  · subst h; rw [if_pos rfl, if_pos (by omega)]
  · rw [if_neg h]
    by_cases h2 : j < k
    · rw [if_pos h2, if_pos (by omega)]
    · rw [if_neg h2, if_neg (by omega)]
theorem c_copy_loop (td ts D T : Int32) (l s r l0 s0 r0 : Nat → Int32) : ∀ (k j fu : Nat), j + k = 5 → k < fu →
    L_X6_copyFrom_2 td ts D T l s r fu (nI j) (cpy j l l0) (cpy j s s0) (cpy j r r0) = some (D, T, cpy 5 l l0, cpy 5 s s0, cpy 5 r r0)
  | k, j, 0, _, h => absurd h (Nat.not_lt_zero _)
  | 0, j, fu + 1, hj, hf => by
    have : j = 5 := by omega
    subst this
    rw [L_X6_copyFrom_2, if_pos (show (5 : Int32) ≤ nI 5 from nI_le (a := 5) (Nat.le_refl 5) (by omega))]
  | k + 1, j, fu + 1, hj, hf => by
    have ih := c_copy_loop td ts D T l s r l0 s0 r0 k (j + 1) fu (by omega) (by omega)
    rw [L_X6_copyFrom_2, if_neg (show ¬ (5 : Int32) ≤ nI j from nI_ge (b := 5) (by omega) (by omega))]
    rw [q_at l (by omega) (by omega), ob, q_put _ _ (by omega) (by omega), ob, q_at s (by omega) (by omega), ob, q_put _ _ (by omega) (by omega), ob, q_at r (by omega) (by omega), ob, q_put _ _ (by omega) (by omega), ob]
    rw [cpy_s, cpy_s, cpy_s, nI_1]
    exact ih
theorem c_copyFrom (td ts D T : Int32) (l s r l0 s0 r0 : Nat → Int32) : f_X6_copyFrom td ts D T l l0 s s0 r r0 = some (D, T, cpy 5 l l0, cpy 5 s s0, cpy 5 r r0) := by
  unfold f_X6_copyFrom
  have h := c_copy_loop td ts D T l s r l0 s0 r0 5 0 fuelC rfl (fuel_lt (by omega))
  rw [nI_0, cpy_0, cpy_0, cpy_0] at h
  exact h
theorem m_begin_loop (st : Int32) (P Q : Nat → Int32) : ∀ (k j fu : Nat), j + k = 17 → k < fu → L_X8_begin_7 st P fu (nI j) (cpy j P Q) = some (st, cpy 17 P Q)
  | k, j, 0, _, h => absurd h (Nat.not_lt_zero _)
  | 0, j, fu + 1, hj, hf => by
    have : j = 17 := by omega
    subst this
    rw [L_X8_begin_7, if_pos (show (17 : Int32) ≤ nI 17 from nI_le (a := 17) (Nat.le_refl 17) (by omega))]
  | k + 1, j, fu + 1, hj, hf => by
    have ih := m_begin_loop st P Q k (j + 1) fu (by omega) (by omega)
    rw [L_X8_begin_7, if_neg (show ¬ (17 : Int32) ≤ nI j from nI_ge (b := 17) (by omega) (by omega))]
    rw [q_rd P (by omega) (by omega), ob, q_wr _ _ (by omega) (by omega), ob, cpy_s, nI_1]
    exact ih
theorem m_begin (st : Int32) (P Q : Nat → Int32) : f_X8_begin st P Q = some (0, cpy 17 P Q) := by
  unfold f_X8_begin
  have h := m_begin_loop 0 P Q 17 0 fuelC rfl (fuel_lt (by omega))
  rw [nI_0, cpy_0] at h
  exact h
/-- the party, both sides' -/
def RP (n : Nat) (K B : Nat → Int32) : Prop := n ≤ 5 ∧ (∀ w, w < n → ∃ b, 1 ≤ b ∧ b ≤ 4 ∧ B w = nI b) ∧ ∀ w, w < n → ∃ k, k ≤ 3 ∧ K w = nI k
def AG (n : Nat) (f g : Nat → Int32) : Prop := ∀ j, j < n → f j = g j
def LN (n : Nat) (ln : Nat → Nat) (p : Nat → Int32) : Prop := (∀ j, j < n → ln j < n ∧ p j = nI (ln j)) ∧ ∀ i j, i < n → j < n → ln i = ln j → i = j
def SOK (n : Nat) (S : Nat → Int32) : Prop := ∀ w, w < n → ∃ s, 1 ≤ s ∧ s < 2 ^ 20 ∧ S w = nI s
/-- who is down behind a step; behind k steps -/
def sD (n : Nat) (ln : Nat → Nat) (K S B : Nat → Int32) (stm dep noo lat D : Int32) (t : Nat) : Int32 := (gl K (alv K S B (nI t) stm) ln (snw dep noo lat (nI t)) n 0 none D 0).2
def sC (n : Nat) (ln : Nat → Nat) (K S B : Nat → Int32) (stm dep noo lat D : Int32) (t : Nat) : Int32 := (gl K (alv K S B (nI t) stm) ln (snw dep noo lat (nI t)) n 0 none D 0).1
def gs (n : Nat) (ln : Nat → Nat) (K S B : Nat → Int32) (stm dep noo lat : Int32) : Nat → Int32 → Nat → Int32
  | 0, D, _ => D
  | k + 1, D, t => gs n ln K S B stm dep noo lat k (sD n ln K S B stm dep noo lat D t) (t + 1)
theorem alv_congr {n : Nat} {K S B K' S' B' : Nat → Int32} {t stm : Int32} (hK : AG n K K') (hS : AG n S S') (hB : AG n B B') : ∀ w, w < n → K w = K' w ∧ alv K S B t stm w = alv K' S' B' t stm w := by
  intro w hw
  refine ⟨hK w hw, ?_⟩
  unfold alv
  rw [hK w hw, hS w hw, hB w hw]
theorem sDC_congr {n : Nat} {ln : Nat → Nat} {K S B K' S' B' : Nat → Int32} (stm dep noo lat D : Int32) (t : Nat) (hl : ∀ j, j < n → ln j < n) (hK : AG n K K') (hS : AG n S S') (hB : AG n B B') : sD n ln K S B stm dep noo lat D t = sD n ln K' S' B' stm dep noo lat D t ∧ sC n ln K S B stm dep noo lat D t = sC n ln K' S' B' stm dep noo lat D t := by
  unfold sD sC
  rw [gl_congr (ln' := ln) (fun j hj => ⟨rfl, hl j hj⟩) (alv_congr hK hS hB) n 0 none D 0 (by omega)]
  exact ⟨rfl, rfl⟩
theorem gs_congr {n : Nat} {ln : Nat → Nat} {K S B K' S' B' : Nat → Int32} (stm dep noo lat : Int32) (hl : ∀ j, j < n → ln j < n) (hK : AG n K K') (hS : AG n S S') (hB : AG n B B') : ∀ (k : Nat) (D : Int32) (t : Nat), gs n ln K S B stm dep noo lat k D t = gs n ln K' S' B' stm dep noo lat k D t
  | 0, _, _ => rfl
  | k + 1, D, t => by
    unfold gs
    rw [(sDC_congr stm dep noo lat D t hl hK hS hB).1]
    exact gs_congr stm dep noo lat hl hK hS hB k _ _
theorem gs_add (n : Nat) (ln : Nat → Nat) (K S B : Nat → Int32) (stm dep noo lat : Int32) : ∀ (k : Nat) (D : Int32) (t : Nat), gs n ln K S B stm dep noo lat (k + 1) D t = sD n ln K S B stm dep noo lat (gs n ln K S B stm dep noo lat k D t) (t + k)
  | 0, D, t => rfl
  | k + 1, D, t => by
    rw [gs, gs_add n ln K S B stm dep noo lat k, gs]
    rw [show t + 1 + k = t + (k + 1) by omega]
/-- the class's step, with arrays that are those of the page up to n -/
theorem c_step (n t : Nat) (ln : Nat → Nat) (K S B Kc Sc Bc line : Nat → Int32) (stm D dep noo lat : Int32) (hR : RP n K B) (ht : t < 2 ^ 31) (hl : ∀ j, j < n → ln j < n ∧ line j = nI (ln j)) (hK : AG n Kc K) (hS : AG n Sc S) (hB : AG n Bc B) :
    f_X6_takeStep stm D (nI t) (nI n) dep noo lat line Kc Sc Bc = some (sC n ln K S B stm dep noo lat D t, sD n ln K S B stm dep noo lat D t, nI (t + 1)) := by
  rw [c_takeStep Kc Sc Bc line ln stm D dep noo lat hR.1 ht hl (fun w hw => by rw [hB w hw]; exact hR.2.1 w hw)]
  obtain ⟨e1, e2⟩ := sDC_congr (ln := ln) stm dep noo lat D t (fun j hj => (hl j hj).1) hK hS hB
  rw [← e1, ← e2]
  rfl
theorem m_step (n t : Nat) (ln : Nat → Nat) (K B P : Nat → Int32) (stm dep noo lat : Int32) (hR : RP n K B) (ht : t < 2 ^ 31) (h16 : P 16 = nI t) (hl : ∀ j, j < n → ln j < n ∧ P j = nI (ln j)) (hS : SOK n (fun w => P (5 + w))) :
    f_X8_goStep 17 dep noo lat (nI n) stm P K B = some (sC n ln K (fun w => P (5 + w)) B stm dep noo lat (P 15) t, upd (upd P 15 (sD n ln K (fun w => P (5 + w)) B stm dep noo lat (P 15) t)) 16 (nI (t + 1))) :=
  m_goStep K B P ln stm dep noo lat (by omega) (by omega) hR.1 ht h16 hl hR.2.1 hR.2.2 hS
theorem c_goOn_loop (n : Nat) (ln : Nat → Nat) (K S B Kc Sc Bc line : Nat → Int32) (dep noo lat : Int32) (hR : RP n K B) (hl : ∀ j, j < n → ln j < n ∧ line j = nI (ln j)) (hK : AG n Kc K) (hS : AG n Sc S) (hB : AG n Bc B) {N : Nat} (hN : N < 2 ^ 20) :
    ∀ (k j fu t : Nat) (D : Int32), j + k = N → k < fu → t + k < 2 ^ 31 → L_X1_goOn_2 (nI N) (nI n) dep noo lat line Kc Sc Bc fu (nI j) D (nI t) = some (gs n ln K S B 0 dep noo lat k D t, nI (t + k))
  | k, j, 0, _, _, _, h, _ => absurd h (Nat.not_lt_zero _)
  | 0, j, fu + 1, t, D, hj, hf, ht => by
    rw [L_X1_goOn_2, if_pos (nI_le (by omega) (by omega))]
    rfl
  | k + 1, j, fu + 1, t, D, hj, hf, ht => by
    have ih := c_goOn_loop n ln K S B Kc Sc Bc line dep noo lat hR hl hK hS hB hN k (j + 1) fu (t + 1) (sD n ln K S B 0 dep noo lat D t) (by omega) (by omega) (by omega)
    rw [L_X1_goOn_2, if_neg (nI_ge (by omega) (by omega)), c_step n t ln K S B Kc Sc Bc line 0 D dep noo lat hR (by omega) hl hK hS hB, ob]
    dsimp only
    rw [nI_1, ih, gs, show t + 1 + k = t + (k + 1) by omega]
theorem c_goOn (n N t : Nat) (ln : Nat → Nat) (K S B Kc Sc Bc line : Nat → Int32) (dep noo lat D : Int32) (hR : RP n K B) (hl : ∀ j, j < n → ln j < n ∧ line j = nI (ln j)) (hK : AG n Kc K) (hS : AG n Sc S) (hB : AG n Bc B) (hN : N < 100) (ht : t < 2 ^ 20) :
    f_X1_goOn (nI N) D (nI t) (nI n) dep noo lat line Kc Sc Bc = some (gs n ln K S B 0 dep noo lat N D t, nI (t + N)) := by
  unfold f_X1_goOn
  have h := c_goOn_loop n ln K S B Kc Sc Bc line dep noo lat hR hl hK hS hB (by omega : N < 2 ^ 20) N 0 fuelC t D (by omega) (fuel_lt (by omega)) (by omega)
  rw [nI_0] at h
  exact h
theorem upd_c (P : Nat → Int32) (i j : Nat) (x y : Int32) (h : i ≠ j) : upd (upd P i x) j y = upd (upd P j y) i x := by
  funext k; unfold upd
  by_cases h1 : k = i
  · subst h1; rw [if_neg h, if_pos rfl, if_pos rfl]
  · rw [if_neg h1, if_neg h1]
/-- a page with who is down, and the step, anew -/
def pg (P : Nat → Int32) (D : Int32) (t : Nat) : Nat → Int32 := upd (upd P 15 D) 16 (nI t)
theorem pg_pg (P : Nat → Int32) (D D' : Int32) (t t' : Nat) : pg (pg P D t) D' t' = pg P D' t' := by
  unfold pg; rw [upd_c _ 16 15 _ _ (by omega), q_upd2, q_upd2]
theorem pg_lo {P : Nat → Int32} {D : Int32} {t j : Nat} (h : j < 15) : pg P D t j = P j := by unfold pg; rw [q_un (by omega), q_un (by omega)]
theorem pg_15 {P : Nat → Int32} {D : Int32} {t : Nat} : pg P D t 15 = D := by unfold pg; rw [q_un (by omega), q_us]
theorem pg_16 {P : Nat → Int32} {D : Int32} {t : Nat} : pg P D t 16 = nI t := by unfold pg; rw [q_us]
theorem pg_id {P : Nat → Int32} {t : Nat} (h : P 16 = nI t) : pg P (P 15) t = P := by unfold pg; rw [q_upd_same rfl, q_upd_same h]
theorem m_stepP (n t : Nat) (ln : Nat → Nat) (K B P : Nat → Int32) (stm dep noo lat D : Int32) (hR : RP n K B) (ht : t < 2 ^ 31) (hl : ∀ j, j < n → ln j < n ∧ P j = nI (ln j)) (hS : SOK n (fun w => P (5 + w))) :
    f_X8_goStep 17 dep noo lat (nI n) stm (pg P D t) K B = some (sC n ln K (fun w => P (5 + w)) B stm dep noo lat D t, pg P (sD n ln K (fun w => P (5 + w)) B stm dep noo lat D t) (t + 1)) := by
  have hn := hR.1
  have hag : AG n (fun w => pg P D t (5 + w)) (fun w => P (5 + w)) := fun w hw => pg_lo (by omega)
  rw [m_step n t ln K B (pg P D t) stm dep noo lat hR ht pg_16 (fun j hj => ⟨(hl j hj).1, by rw [pg_lo (by omega)]; exact (hl j hj).2⟩) (fun w hw => by rw [hag w hw]; exact hS w hw), pg_15]
  obtain ⟨e1, e2⟩ := sDC_congr (K := K) (B := B) (ln := ln) stm dep noo lat D t (fun j hj => (hl j hj).1) (fun _ _ => rfl) hag (fun _ _ => rfl)
  rw [e1, e2]
  have h2 := pg_pg P D (sD n ln K (fun w => P (5 + w)) B stm dep noo lat D t) t (t + 1)
  rw [← h2]; rfl
theorem m_goSteps_loop (n : Nat) (ln : Nat → Nat) (K B P : Nat → Int32) (stm dep noo lat : Int32) (hR : RP n K B) (hl : ∀ j, j < n → ln j < n ∧ P j = nI (ln j)) (hS : SOK n (fun w => P (5 + w))) {N : Nat} (hN : N < 2 ^ 20) :
    ∀ (k j fu t : Nat) (D : Int32), j + k = N → k < fu → t + k < 2 ^ 31 → L_X8_goSteps_2 (nI N) dep noo lat (nI n) stm K B fu (nI j) (pg P D t) = some (pg P (gs n ln K (fun w => P (5 + w)) B stm dep noo lat k D t) (t + k))
  | k, j, 0, _, _, _, h, _ => absurd h (Nat.not_lt_zero _)
  | 0, j, fu + 1, t, D, hj, hf, ht => by
    rw [L_X8_goSteps_2, if_pos (nI_le (by omega) (by omega))]
    rfl
  | k + 1, j, fu + 1, t, D, hj, hf, ht => by
    have ih := m_goSteps_loop n ln K B P stm dep noo lat hR hl hS hN k (j + 1) fu (t + 1) (sD n ln K (fun w => P (5 + w)) B stm dep noo lat D t) (by omega) (by omega) (by omega)
    rw [L_X8_goSteps_2, if_neg (nI_ge (by omega) (by omega)), m_stepP n t ln K B P stm dep noo lat D hR (by omega) hl hS, ob]
    dsimp only
    rw [nI_1, ih, gs, show t + 1 + k = t + (k + 1) by omega]
theorem m_goSteps (n N t : Nat) (ln : Nat → Nat) (K B P : Nat → Int32) (stm dep noo lat D : Int32) (hR : RP n K B) (hl : ∀ j, j < n → ln j < n ∧ P j = nI (ln j)) (hS : SOK n (fun w => P (5 + w))) (hN : N < 100) (ht : t < 2 ^ 20) :
    f_X8_goSteps (nI N) dep noo lat (nI n) stm (pg P D t) K B = some (pg P (gs n ln K (fun w => P (5 + w)) B stm dep noo lat N D t) (t + N)) := by
  unfold f_X8_goSteps
  have h := m_goSteps_loop n ln K B P stm dep noo lat hR hl hS (by omega : N < 2 ^ 20) N 0 fuelC t D (by omega) (fuel_lt (by omega)) (by omega)
  rw [nI_0] at h
  exact h
