/-! ===== the reference's step ===== -/
theorem m_alone (K P B : Nat → Int32) {N w t : Nat} (hN : 10 ≤ N) (hN2 : N < 2 ^ 31) (hw : w < 5) (hB : ∃ b, 1 ≤ b ∧ b ≤ 4 ∧ B w = nI b) : f_X8_alone (nI w) (nI t) N K P B = some (trv (K w) (P (5 + w)) (B w) (nI t)) := by
  obtain ⟨b, h1, h2, h3⟩ := hB
  unfold f_X8_alone
  rw [q_rd K hw (by omega), show (5 : Int32) + nI w = nI (5 + w) from nI_add 5 w, q_rd P (by omega) hN2, q_rd B hw (by omega), h3]
  simp only [Option.bind_some]
  rw [m_treadBy _ _ h1 (by omega)]; rfl
theorem m_treads (K P B : Nat → Int32) {N w t : Nat} (stm : Int32) (ah : Option Int32) (hN : 17 ≤ N) (hN2 : N < 2 ^ 31) (ht : P 16 = nI t) (hw : w < 5) (hB : ∃ b, 1 ≤ b ∧ b ≤ 4 ∧ B w = nI b) (hne : ∀ a, ah = some a → ¬ a = -9) :
    f_X8_treads (nI w) (ah.getD (-9)) N stm K P B = some (match ah with
      | none => alv K (fun w => P (5 + w)) B (nI t) stm w
      | some a => if K w = 2 then a else alv K (fun w => P (5 + w)) B (nI t) stm w) := by
  have hone := m_alone K P B (t := t) (by omega : 10 ≤ N) hN2 hw hB
  unfold f_X8_treads
  rw [q_rd K hw (by omega), show (16 : Int32) = nI 16 from rfl, q_rd P (by omega) hN2, ht]
  simp only [Option.bind_some]
  rw [hone, m_has]
  simp only [Option.bind_some]
  cases ah with
  | none =>
    by_cases hk : K w = 2
    · simp [hk, alv]
    · rcases db_01 stm w with h | h <;> simp [hk, alv, h]
  | some a =>
    have h9 := hne a rfl
    by_cases hk : K w = 2
    · simp [hk, h9]
    · rcases db_01 stm w with h | h <;> simp [hk, alv, h]
/-- a tread is never the mark for 'nobody' -/
theorem trv_ne {k s b t : Nat} (hk : k ≤ 3) (h1 : 1 ≤ s) (h2 : s < 2 ^ 20) (hb : 1 ≤ b) (hb2 : b < 2 ^ 20) (ht : t < 2 ^ 31) : ∃ v : Nat, v < 2 ^ 22 ∧ trv (nI k) (nI s) (nI b) (nI t) = nI v := by
  unfold trv
  rw [show (2 : Int32) = nI 2 from rfl, show (1 : Int32) = nI 1 from rfl, show (0 : Int32) = nI 0 from rfl, show (3 : Int32) = nI 3 from rfl]
  rw [jr_nI ht (by omega) (by omega), jr_nI ht (by omega) (by omega)]
  have hm : t % b < b := Nat.mod_lt _ (by omega)
  split
  · exact ⟨s - t % 2, by omega, pk_sub (by omega)⟩
  · split
    · split
      · exact ⟨s + 1, by omega, nI_add _ _⟩
      · exact ⟨s, by omega, rfl⟩
    · split
      · exact ⟨s + t % b, by omega, nI_add _ _⟩
      · exact ⟨s, by omega, rfl⟩
theorem nI_ne9 {v : Nat} (hv : v < 2 ^ 31) : ¬ nI v = -9 := by
  intro h
  have h2 := congrArg Int32.toInt h
  rw [nI_toInt hv] at h2
  have h3 : (-9 : Int32).toInt = -9 := by decide
  rw [h3] at h2
  omega
theorem alv_ne {K S B : Nat → Int32} {t w : Nat} {stm : Int32} (hK : ∃ k, k ≤ 3 ∧ K w = nI k) (hS : ∃ s, 1 ≤ s ∧ s < 2 ^ 20 ∧ S w = nI s) (hB : ∃ b, 1 ≤ b ∧ b ≤ 4 ∧ B w = nI b) (ht : t < 2 ^ 31) : ∃ v : Nat, v < 2 ^ 23 ∧ alv K S B (nI t) stm w = nI v := by
  obtain ⟨k, k1, k2⟩ := hK
  obtain ⟨s, s1, s2, s3⟩ := hS
  obtain ⟨b, b1, b2, b3⟩ := hB
  unfold alv
  obtain ⟨v, v1, v2⟩ := trv_ne (t := t) k1 s1 s2 b1 (by omega : b < 2 ^ 20) ht
  rw [k2, s3, b3, v2]
  split
  · exact ⟨v, by omega, by simp⟩
  · rcases db_01 stm w with h | h <;> rw [h]
    · exact ⟨v, by omega, by simp⟩
    · exact ⟨v + 1, by omega, nI_add v 1⟩
theorem m_step_loop (K B P : Nat → Int32) (ln : Nat → Nat) {N n t : Nat} (stm dep noo lat : Int32) (hN : 17 ≤ N) (hN2 : N < 2 ^ 31) (hn : n ≤ 5) (ht : t < 2 ^ 31) (h16 : P 16 = nI t) (hl : ∀ j, j < n → ln j < n ∧ P j = nI (ln j)) (hB : ∀ w, w < n → ∃ b, 1 ≤ b ∧ b ≤ 4 ∧ B w = nI b) (hK : ∀ w, w < n → ∃ k, k ≤ 3 ∧ K w = nI k) (hS : ∀ w, w < n → ∃ s, 1 ≤ s ∧ s < 2 ^ 20 ∧ P (5 + w) = nI s) :
    ∀ (r j fu : Nat) (ah : Option Int32) (c D : Int32), j + r = n → r < fu → (∀ a, ah = some a → ¬ a = -9) →
      L_X8_goStep_8 N dep noo lat (nI n) stm K B fu (ah.getD (-9)) c (nI j) (upd P 15 D) = some ((gl K (alv K (fun w => P (5 + w)) B (nI t) stm) ln (snw dep noo lat (nI t)) r j ah D c).1, upd (upd P 15 (gl K (alv K (fun w => P (5 + w)) B (nI t) stm) ln (snw dep noo lat (nI t)) r j ah D c).2) 16 (nI (t + 1)))
  | r, j, 0, _, _, _, _, hf, _ => absurd hf (Nat.not_lt_zero _)
  | 0, j, fu + 1, ah, c, D, hj, hf, hah => by
    rw [L_X8_goStep_8]
    rw [if_pos (nI_le (by omega) (by omega)), show (16 : Int32) = nI 16 from rfl, q_rd _ (by omega) hN2, q_un (by omega), h16]
    simp only [Option.bind_some]
    rw [q_wr _ _ (by omega) hN2, nI_1]
    rfl
  | r + 1, j, fu + 1, ah, c, D, hj, hf, hah => by
    obtain ⟨h1, h2⟩ := hl j (by omega)
    have ih := fun ah c D h => m_step_loop K B P ln stm dep noo lat hN hN2 hn ht h16 hl hB hK hS r (j + 1) fu ah c D (by omega) (by omega) h
    obtain ⟨v, v1, v2⟩ := alv_ne (K := K) (S := fun w => P (5 + w)) (B := B) (stm := stm) (hK _ h1) (hS _ h1) (hB _ h1) ht
    have hP5 : (upd P 15 D) (5 + ln j) = P (5 + ln j) := q_un (by omega)
    have htr := m_treads K (upd P 15 D) B (t := t) stm ah hN hN2 (by rw [q_un (by omega)]; exact h16) (by omega : ln j < 5) (hB _ h1) hah
    have hal : alv K (fun w => (upd P 15 D) (5 + w)) B (nI t) stm (ln j) = alv K (fun w => P (5 + w)) B (nI t) stm (ln j) := by
      unfold alv; dsimp only; rw [hP5]
    rw [hal] at htr
    rw [L_X8_goStep_8]
    rw [if_neg (nI_ge (by omega) (by omega)), q_0add, q_rd _ (by omega) hN2, q_un (by omega), h2, show (15 : Int32) = nI 15 from rfl, q_rd _ (by omega) hN2, q_us]
    simp only [Option.bind_some]
    rw [m_has]
    simp only [Option.bind_some]
    have e16 : (rdI (upd P 15 D) N 16) = some (nI t) := by rw [show (16 : Int32) = nI 16 from rfl, q_rd _ (by omega) hN2, q_un (by omega), h16]
    have w15 : ∀ x : Int32, wrI (upd P 15 D) N 15 x = some (upd P 15 x) := fun x => by rw [show (15 : Int32) = nI 15 from rfl, q_wr _ _ (by omega) hN2, q_upd2]
    have r15 : rdI (upd P 15 D) N 15 = some D := by rw [show (15 : Int32) = nI 15 from rfl, q_rd _ (by omega) hN2, q_us]
    have hor0 : D ||| 0 = D := by simp
    by_cases hd : db D (ln j) = 0
    · rw [if_pos hd, htr]
      simp only [Option.bind_some]
      unfold J_X8_goStep_72 J_X8_goStep_91 J_X8_goStep_111 J_X8_goStep_124 J_X8_goStep_137 J_X8_goStep_138
      simp only [nI_1]
      cases ah with
      | none =>
        dsimp only [Option.getD_none]
        rw [if_pos rfl, e16, gl_none hd]
        simp only [Option.bind_some]
        rw [m_snowAt]
        simp only [Option.bind_some, r15, w15, hor0, if_pos, show ((1 : Int32) = 0) = False by simp, if_false, q_add0]
        by_cases hc1 : snw dep noo lat (nI t) < alv K (fun w => P (5 + w)) B (nI t) stm (ln j)
        · rw [if_pos hc1, if_neg (fun h => (q_nle.mpr hc1) h.2)]
          exact ih none (c + 1) _ (fun _ h => by cases h)
        · rw [if_neg hc1]
          by_cases hc2 : 1 ≤ alv K (fun w => P (5 + w)) B (nI t) stm (ln j)
          · rw [if_pos hc2, if_pos ⟨hc2, q_nlt.mp hc1⟩]
            exact ih (some (alv K (fun w => P (5 + w)) B (nI t) stm (ln j))) c D (fun a h => by rw [← Option.some.inj h, v2]; exact nI_ne9 (by omega))
          · rw [if_neg hc2, if_neg (fun h => hc2 h.1)]
            exact ih none (c + 1) _ (fun _ h => by cases h)
      | some a =>
        have h9 := hah a rfl
        dsimp only [Option.getD_some]
        rw [if_neg h9, gl_some hd]
        simp only [Option.bind_some, r15, w15, hor0, if_pos, show ((1 : Int32) = 0) = False by simp, if_false, q_add0]
        by_cases hk : K (ln j) = 2
        · simp only [hk, if_true, true_or]
          exact ih (some a) c D hah
        · simp only [hk, if_false, false_or]
          by_cases hc : alv K (fun w => P (5 + w)) B (nI t) stm (ln j) = a
          · rw [if_pos hc, if_pos hc, hc]
            exact ih (some a) c D hah
          · rw [if_neg hc, if_neg hc]
            exact ih (some a) (c + 1) _ hah
    · rw [if_neg hd, gl_down hd]
      unfold J_X8_goStep_138
      simp only [nI_1]
      exact ih ah c D hah
theorem m_goStep (K B P : Nat → Int32) (ln : Nat → Nat) {N n t : Nat} (stm dep noo lat : Int32) (hN : 17 ≤ N) (hN2 : N < 2 ^ 31) (hn : n ≤ 5) (ht : t < 2 ^ 31) (h16 : P 16 = nI t) (hl : ∀ j, j < n → ln j < n ∧ P j = nI (ln j)) (hB : ∀ w, w < n → ∃ b, 1 ≤ b ∧ b ≤ 4 ∧ B w = nI b) (hK : ∀ w, w < n → ∃ k, k ≤ 3 ∧ K w = nI k) (hS : ∀ w, w < n → ∃ s, 1 ≤ s ∧ s < 2 ^ 20 ∧ P (5 + w) = nI s) :
    f_X8_goStep N dep noo lat (nI n) stm P K B = some ((gl K (alv K (fun w => P (5 + w)) B (nI t) stm) ln (snw dep noo lat (nI t)) n 0 none (P 15) 0).1, upd (upd P 15 (gl K (alv K (fun w => P (5 + w)) B (nI t) stm) ln (snw dep noo lat (nI t)) n 0 none (P 15) 0).2) 16 (nI (t + 1))) := by
  unfold f_X8_goStep
  have h := m_step_loop K B P ln stm dep noo lat hN hN2 hn ht h16 hl hB hK hS n 0 fuelC none 0 (P 15) (by omega) (fuel_lt (by omega)) (fun _ h => by cases h)
  rw [nI_0, q_upd_same rfl] at h
  exact h
