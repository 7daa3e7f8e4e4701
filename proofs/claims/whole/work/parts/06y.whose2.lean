theorem m44 (k13 k20 k33 : Int32 → Int32 → Int32 → Option (Int32 × Int32)) (K S B k : Nat) (hk : k ≤ 6) (hB : 1 ≤ B) (hB2 : B < 2 ^ 31) (many first : Int32) {st tt : Nat → Int32} (h3 : ∀ j, j < k → ∃ t, t ≤ 20 ∧ st j = nI t) : ∀ (r j fu : Nat), j + r = k → r < fu →
    (L_X8_findWhose_44 k13 k20 k33 (nI K) (nI S) (nI B) (nI k) many first st tt fu 0 (nI j) = k33 (nI (B + 1)) many first) ∧ (L_X8_findWhose_44 k13 k20 k33 (nI K) (nI S) (nI B) (nI k) many first st tt fu 1 (nI j) = if mt K S B st tt r j = true then k33 (nI (B + 1)) (many + 1) (if many = 0 then ((100 * nI K) + (10 * nI S)) + nI B else first) else k33 (nI (B + 1)) many first)
  | r, j, 0, _, h => absurd h (Nat.not_lt_zero _)
  | 0, j, fu + 1, hj, _ => by
    constructor
    · rw [L_X8_findWhose_44, if_pos (nI_le (by omega) (by omega)), if_pos z00]
      unfold J_X8_findWhose_121 J_X8_findWhose_125 J_X8_findWhose_143
      rw [if_pos z00, q_add0, nI_1]
    · rw [L_X8_findWhose_44, if_pos (nI_le (by omega) (by omega)), if_neg one0, mt, if_pos rfl]
      unfold J_X8_findWhose_121 J_X8_findWhose_125 J_X8_findWhose_143
      by_cases hm : many = 0
      · rw [if_pos hm, if_neg one0, if_pos hm, nI_1]
      · rw [if_neg hm, if_neg one0, if_neg hm, nI_1]
  | r + 1, j, fu + 1, hj, hf => by
    obtain ⟨i0, i1⟩ := m44 k13 k20 k33 K S B k hk hB hB2 many first h3 r (j + 1) fu (by omega) (by omega)
    obtain ⟨t, ht, et⟩ := h3 j (by omega)
    constructor
    · rw [L_X8_findWhose_44, if_neg (nI_ge (by omega) (by omega)), if_pos z00]
      unfold J_X8_findWhose_85 J_X8_findWhose_86
      rw [nI_1]; exact i0
    · rw [L_X8_findWhose_44, if_neg (nI_ge (by omega) (by omega)), if_neg one0, q_rd _ (by omega) (by omega), q_rd _ (by omega) (by omega), ob, et, m_treadBy _ _ hB hB2, ob, ob]
      unfold J_X8_findWhose_85 J_X8_findWhose_86
      rw [nI_1, i0, i1, mt, et]
      by_cases h : trv (nI K) (nI S) (nI B) (nI t) = tt j
      · rw [if_pos h, if_pos h]
      · rw [if_neg h, if_neg h, if_neg (by decide)]
theorem m33 (k13 k20 : Int32 → Int32 → Int32 → Option (Int32 × Int32)) (K S k : Nat) (hK : K < 4) (hK2 : K ≠ 2) (hS : 1 ≤ S) (hS2 : S ≤ 9) (hk : k ≤ 6) {st tt : Nat → Int32} (h3 : ∀ j, j < k → ∃ t, t ≤ 20 ∧ st j = nI t) : ∀ (r B fu : Nat) (s : Int32 × Int32), 1 ≤ B → B + r = 5 → r < fu →
    L_X8_findWhose_33 k13 k20 (nI K) (nI S) (nI k) st tt fu (nI B) s.1 s.2 = k20 (nI (S + 1)) (wf (okb k st tt) r (100 * K + 10 * S + B) s).1 (wf (okb k st tt) r (100 * K + 10 * S + B) s).2
  | r, j, 0, _, _, _, h => absurd h (Nat.not_lt_zero _)
  | 0, B, fu + 1, s, _, hj, _ => by
    have : B = 5 := by omega
    subst this
    rw [L_X8_findWhose_33, if_pos (by decide), nI_1]; rfl
  | r + 1, B, fu + 1, s, h1, hj, hf => by
    have ih := fun s => m33 (tt := tt) k13 k20 K S k hK hK2 hS hS2 hk h3 r (B + 1) fu s (by omega) (by omega) (by omega)
    have hL := (m44 (tt := tt) k13 k20 (L_X8_findWhose_33 k13 k20 (nI K) (nI S) (nI k) st tt fu) K S B k hk h1 (by omega) s.1 s.2 h3 k 0 fuelC (by omega) (fuel_lt (by omega))).2
    rw [nI_0] at hL
    have hok : okb k st tt (100 * K + 10 * S + B) = mt K S B st tt k 0 := by
      rw [okb, show (100 * K + 10 * S + B) / 100 = K by omega, show (100 * K + 10 * S + B) / 10 % 10 = S by omega, show (100 * K + 10 * S + B) % 10 = B by omega, decide_eq_true ⟨hK2, hS, h1, by omega⟩, Bool.true_and]
    rw [L_X8_findWhose_33, if_neg (show ¬ (4 : Int32) < nI B from nI_nlt (a := 4) (b := B) (by omega) (by omega)), wf, wsx, hok, show 100 * K + 10 * S + B + 1 = 100 * K + 10 * S + (B + 1) by omega]
    refine hL.trans ?_
    by_cases h : mt K S B st tt k 0 = true
    · rw [if_pos h, if_pos h]
      have := ih (s.1 + 1, if s.1 = 0 then nI (100 * K + 10 * S + B) else s.2)
      rw [show (100 * nI K) + (10 * nI S) + nI B = nI (100 * K + 10 * S + B) by rw [show (100 : Int32) = nI 100 from rfl, show (10 : Int32) = nI 10 from rfl, pk_mul, pk_mul, nI_add, nI_add]]
      exact this
    · rw [if_neg h, if_neg h]
      exact ih s
theorem m20 (k13 : Int32 → Int32 → Int32 → Option (Int32 × Int32)) (K k : Nat) (hK : K < 4) (hk : k ≤ 6) {st tt : Nat → Int32} (h3 : ∀ j, j < k → ∃ t, t ≤ 20 ∧ st j = nI t) : ∀ (r S fu : Nat) (s : Int32 × Int32), 1 ≤ S → S + r = 10 → r < fu →
    L_X8_findWhose_20 k13 (nI K) (nI k) st tt fu (nI S) s.1 s.2 = k13 (nI (K + 1)) (wf (okb k st tt) (10 * r) (100 * K + 10 * S) s).1 (wf (okb k st tt) (10 * r) (100 * K + 10 * S) s).2
  | r, j, 0, _, _, _, h => absurd h (Nat.not_lt_zero _)
  | 0, S, fu + 1, s, _, hj, _ => by
    have : S = 10 := by omega
    subst this
    rw [L_X8_findWhose_20, if_pos (by decide)]
    unfold J_X8_findWhose_159
    rw [nI_1]; rfl
  | r + 1, S, fu + 1, s, h1, hj, hf => by
    have ih := fun s => m20 (tt := tt) k13 K k hK hk h3 r (S + 1) fu s (by omega) (by omega) (by omega)
    rw [L_X8_findWhose_20, if_neg (show ¬ (9 : Int32) < nI S from nI_nlt (a := 9) (b := S) (by omega) (by omega))]
    by_cases h2 : K = 2
    · rw [if_pos (show nI K = (2 : Int32) by rw [h2]; rfl)]
      unfold J_X8_findWhose_159
      rw [wf_skip _ _ _ _ (fun i hi => by rw [okb, decide_eq_false (fun e => e.1 (by omega)), Bool.false_and]), nI_1]
    · rw [if_neg (show ¬ nI K = (2 : Int32) from fun e => h2 ((nI_eq (a := K) (b := 2) (by omega) (by omega)).mp e))]
      have hL := m33 (tt := tt) k13 (L_X8_findWhose_20 k13 (nI K) (nI k) st tt fu) K S k hK h2 h1 (by omega) hk h3 4 1 fuelC s (by omega) (by omega) (fuel_lt (by omega))
      refine hL.trans ?_
      have e1 : wf (okb k st tt) (10 * (r + 1)) (100 * K + 10 * S) s = wf (okb k st tt) (10 * r) (100 * K + 10 * (S + 1)) (wf (okb k st tt) 4 (100 * K + 10 * S + 1) s) := by
        rw [show 10 * (r + 1) = 1 + (4 + (5 + 10 * r)) by omega, wf_add, wf_add, wf_add, wf_skip _ 1 _ _ (fun i hi => by rw [okb, decide_eq_false (fun e => by have := e.2.2.1; omega), Bool.false_and]), wf_skip _ 5 _ _ (fun i hi => by rw [okb, decide_eq_false (fun e => by have := e.2.2.2; omega), Bool.false_and]), show 100 * K + 10 * S + 1 + 4 + 5 = 100 * K + 10 * (S + 1) by omega]
      rw [e1]
      exact ih _
theorem m13 (k : Nat) (hk : k ≤ 6) {st tt : Nat → Int32} (h3 : ∀ j, j < k → ∃ t, t ≤ 20 ∧ st j = nI t) : ∀ (r K fu : Nat) (s : Int32 × Int32), K + r = 4 → r < fu →
    L_X8_findWhose_13 (nI k) st tt fu (nI K) s.1 s.2 = some (wf (okb k st tt) (100 * r) (100 * K) s)
  | r, j, 0, _, _, h => absurd h (Nat.not_lt_zero _)
  | 0, K, fu + 1, s, hj, _ => by
    have : K = 4 := by omega
    subst this
    rw [L_X8_findWhose_13, if_pos (by decide)]; rfl
  | r + 1, K, fu + 1, s, hj, hf => by
    have ih := fun s => m13 (tt := tt) k hk h3 r (K + 1) fu s (by omega) (by omega)
    rw [L_X8_findWhose_13, if_neg (show ¬ (4 : Int32) ≤ nI K from nI_ge (a := K) (b := 4) (by omega) (by omega))]
    have hL := m20 (tt := tt) (L_X8_findWhose_13 (nI k) st tt fu) K k (by omega) hk h3 9 1 fuelC s (by omega) (by omega) (fuel_lt (by omega))
    refine hL.trans ?_
    have e1 : wf (okb k st tt) (100 * (r + 1)) (100 * K) s = wf (okb k st tt) (100 * r) (100 * (K + 1)) (wf (okb k st tt) (10 * 9) (100 * K + 10 * 1) s) := by
      rw [show 100 * (r + 1) = 10 + (10 * 9 + 100 * r) by omega, wf_add, wf_add, wf_skip _ 10 _ _ (fun i hi => by rw [okb, decide_eq_false (fun e => by have := e.2.1; omega), Bool.false_and]), show 100 * K + 10 + 10 * 9 = 100 * (K + 1) by omega]
    rw [e1]
    exact ih _
theorem pr_ex {α β : Type} (p : α × β) : ∃ a b, p = (a, b) := ⟨p.1, p.2, rfl⟩
theorem op_whose (x th wm wf' : Int32) {cnt ms : Int32} {tm tr st tt : Nat → Int32} (hM : RM cnt tm tr ms st tt) : ∃ r th' wm' wf2, f_X7_whose x cnt tm tr = some r ∧ f_X8_whose x th ms wm wf' st tt = some (r, th', wm', wf2) := by
  obtain ⟨k, hk, rfl, rfl, h1, h2, h3⟩ := hM
  unfold f_X7_whose f_X8_whose
  rw [m_in01, ob]
  have i0 : x = 0 ↔ x.toInt = 0 := q_eq x 0
  have i1 : x = 1 ↔ x.toInt = 1 := q_eq x 1
  have hF := m13 (tt := tt) k hk h3 4 0 fuelC (0, -9) (by omega) (fuel_lt (by omega))
  rw [nI_0] at hF
  have hF' : f_X8_findWhose (nI k) wm wf' st tt = some (wf (okb k st tt) 400 0 (0, -9)) := hF
  obtain ⟨wa, wb, hw⟩ : ∃ a b, wf (okb k st tt) 400 0 (0, -9) = (a, b) := pr_ex _
  rw [hw] at hF'
  by_cases c0 : x = 0
  · have hC := c_fit_loop k hk h1 h2 h3 400 0 fuelC 0 (-9) (by omega) (fuel_lt (by omega))
    rw [nI_0, hw] at hC
    rw [if_pos c0, iv_t (by have := i0.mp c0; omega), if_neg one0, hF', ob]
    dsimp only
    rw [if_pos c0]
    refine ⟨_, _, _, _, ?_, rfl⟩
    unfold f_X2_fitting
    exact (congrArg (fun o => Option.bind o fun r => some r) hC).trans (ob _ _)
  · by_cases c1 : x = 1
    · have hC := c_first_loop k hk h1 h2 h3 400 0 fuelC (by omega) (fuel_lt (by omega))
      rw [nI_0, hw] at hC
      rw [if_neg c0, if_pos c1, iv_t (by have := i1.mp c1; omega), if_neg one0, hF', ob]
      dsimp only
      rw [if_neg c0]
      refine ⟨_, _, _, _, ?_, rfl⟩
      unfold f_X2_firstFitting
      exact (congrArg (fun o => Option.bind o fun r => some r) hC).trans (ob _ _)
    · rw [if_neg c0, if_neg c1, iv_f (by have h0 : ¬ x.toInt = 0 := fun e => c0 (i0.mpr e); have h1' : ¬ x.toInt = 1 := fun e => c1 (i1.mpr e); omega), if_pos z00]
      exact ⟨_, _, _, _, rfl, rfl⟩
