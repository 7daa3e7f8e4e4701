/-! ===== doings of both sides ===== -/
theorem tryDrill_no {n : Nat} (hn : n ≤ 5) (x y D : Int32) (z s : Nat → Int32) (h : ¬ (0 ≤ x.toInt ∧ x.toInt < n)) : f_X6_tryDrill x y D (nI n) z s = some (0, z, s) := by
  have hc : f_X6_canDrill x y D (nI n) z s = some 0 := by
    unfold f_X6_canDrill
    rw [c_has _ (by omega), ob, iv_f h, if_pos z00]
    rfl
  unfold f_X6_tryDrill
  rw [hc, ob, if_pos z00]
theorem tryRescue_no {n : Nat} (hn : n ≤ 5) (x D : Int32) (l : Nat → Int32) (h : ¬ (0 ≤ x.toInt ∧ x.toInt < n)) : f_X6_tryRescue x D (nI n) l = some (0, D, l) := by
  unfold f_X6_tryRescue
  rw [c_has _ (by omega), ob, iv_f h, if_pos z00]
theorem nI_lt_n {b n : Nat} (hb : b < 2 ^ 31) : (0 ≤ (nI b).toInt ∧ (nI b).toInt < n) ↔ b < n := by rw [nI_toInt hb]; omega
theorem zr_01 {x : Int32} (h : x = 0 ∨ x = 1) : zr x = some x := if_pos h
theorem a_swap {n T b : Nat} {l s z p : Nat → Int32} {D t : Int32} (hn : n ≤ 5) (hb : b < 1000) (h : RY n l s z D t p) (hG : GP n T p) :
    ∃ r l' p', f_X6_trySwap (nI b) (nI n) l = some (r, l') ∧ dz 1 0 b n p = some (r, p') ∧ RY n l' s z D t p' ∧ GP n T p' ∧ (r = 0 ∨ r = 1) := by
  by_cases hc : b + 1 < n
  · exact ⟨1, _, _, c_trySwap hn hc l, by simp [dz, hc], sw_RY hn h hc, sw_GP hn hG hc, Or.inr rfl⟩
  · exact ⟨0, _, _, c_trySwap_no (nI b) hn (by rw [nI_toInt (by omega)]; omega) l, by simp [dz, hc], h, hG, Or.inl rfl⟩
theorem a_drill {n T a b : Nat} {l s z p : Nat → Int32} {D t : Int32} (hn : n ≤ 5) (ha : a < 1000) (hb : b < 2) (h : RY n l s z D t p) (hG : GP n T p) :
    ∃ r s' z' p', f_X6_tryDrill (nI a) (nI b) D (nI n) z s = some (r, z', s') ∧ dz 2 a b n p = some (r, p') ∧ RY n l s' z' D t p' ∧ GP n T p' ∧ (r = 0 ∨ r = 1) := by
  have hd : (2 * nI b) - 1 = dby (nI b) := by
    have : b = 0 ∨ b = 1 := by omega
    rcases this with rfl | rfl <;> decide
  have h' := h
  obtain ⟨h1, h2, h3, h4, h5⟩ := h'
  by_cases hc : a < n
  · obtain ⟨c1, c2⟩ := c_tryDrill (p := p) (nI b) hn hc h2 h3 h4
    obtain ⟨m1, m2⟩ := m_canDrill (p := p) (N := 17) (dby (nI b)) hn hc (by omega) (by omega)
    by_cases hk : canD n p a (dby (nI b))
    · exact ⟨1, _, _, _, c1 hk, by simp [dz, hc, hb, hd, m1 hk], drl_RY hn hc h, drl_GP hn hc hG hk, Or.inr rfl⟩
    · exact ⟨0, _, _, _, c2 hk, by simp [dz, hc, hb, hd, m2 hk], h, hG, Or.inl rfl⟩
  · exact ⟨0, _, _, _, tryDrill_no hn _ _ _ _ _ (by rw [nI_lt_n (by omega)]; exact hc), by simp [dz, hc], h, hG, Or.inl rfl⟩
theorem a_resc {n T b : Nat} {l s z p : Nat → Int32} {D t : Int32} (hn : n ≤ 5) (hb : b < 1000) (h : RY n l s z D t p) (hG : GP n T p) :
    ∃ r D' l' p', f_X6_tryRescue (nI b) D (nI n) l = some (r, D', l') ∧ dz 3 0 b n p = some (r, p') ∧ RY n l' s z D' t p' ∧ GP n T p' ∧ (r = 0 ∨ r = 1) := by
  by_cases hc : b < n
  · by_cases hd : db D b = 0
    · exact ⟨0, _, _, _, rescue_no hn hc hd, by rw [h.2.2.2.1] at hd; simp [dz, hd], h, hG, Or.inl rfl⟩
    · obtain ⟨l', p', r1, r2, r3, r4⟩ := rescue_ok hn hc h hG hd
      exact ⟨1, _, _, _, r1, by rw [h.2.2.2.1] at hd; simp [dz, hd, hc, r2], r3, r4, Or.inr rfl⟩
  · exact ⟨0, _, _, _, tryRescue_no hn _ _ _ (by rw [nI_lt_n (by omega)]; exact hc), by simp [dz, hc], h, hG, Or.inl rfl⟩
theorem step_ok0 {n T : Nat} {l s z p kC bC kM bM : Nat → Int32} {D t dep noo lat : Int32} (hn : n ≤ 5) (hR : RP n kM bM) (hk : AG n kC kM) (hb : AG n bC bM) (h : RY n l s z D t p) (hG : GP n T p) (hT : T < 2 ^ 19) : ∃ r D' t' p', f_X6_takeStep 0 D t (nI n) dep noo lat l kC s bC = some (r, D', t') ∧ ¬ r < 0 ∧ f_X8_goStep 17 dep noo lat (nI n) 0 p kM bM = some (r, p') ∧ RY n l s z D' t' p' ∧ GP n (T + 1) p' := by
  obtain ⟨t0, ht, e⟩ := hG.2.2.2.1
  obtain ⟨ln, g1, g1'⟩ := hG.1
  have e2 : t = nI t0 := h.2.2.2.2.trans e
  subst e2
  obtain ⟨r, D', p', k1, k2, k3, k4⟩ := step_ok (dep := dep) (noo := noo) (lat := lat) hn hR hk hb h (GP_mono hG (Nat.le_succ T)) (by omega)
  refine ⟨r, D', _, p', k1, takeStep_nn hn (by omega) (ln := ln) (fun j hj => ⟨(g1 j hj).1, by rw [h.1 j hj]; exact (g1 j hj).2⟩) (fun w hw => by rw [hb w hw]; exact hR.2.1 w hw) k1, k2, k3, k4 (by omega)⟩
theorem m_does0 (dep noo lat n stm : Int32) (p K B : Nat → Int32) {r : Int32} {p' : Nat → Int32} (h : f_X8_goStep 17 dep noo lat n stm p K B = some (r, p')) : f_X8_does 0 dep noo lat n stm p K B = some (1, p') := by
  unfold f_X8_does
  rw [if_pos rfl, h, ob]
/-- a doing by its three figures, on both sides -/
theorem doing_ok {n T f : Nat} {tc dC nC lC wM dM nM lM D t : Int32} {kC bC kM bM l s z p : Nat → Int32} (hn : n ≤ 5) (hP : PTY n tc dC nC lC kC bC wM dM nM lM kM bM) (hf : f < 1000) (h : RY n l s z D t p) (hG : GP n T p) (hT : T < 2 ^ 19) :
    ∃ r D' t' z' s' l' p', f_X1_tryDoing (nI f) tc dC nC lC D t l z s kC bC = some (r, D', t', l', z', s') ∧ f_X8_does (nI f) dM nM lM wM 0 p kM bM = some (r, p') ∧ RY n l' s' z' D' t' p' ∧ GP n (T + 1) p' ∧ (r = 0 ∨ r = 1) := by
  obtain ⟨rfl, rfl, rfl, rfl, rfl, hk, hb, hR⟩ := hP
  have hG1 := GP_mono hG (Nat.le_succ T)
  by_cases h0 : f = 0
  · subst h0
    obtain ⟨r, D', t', p', k1, k2, k3, k4, k5⟩ := step_ok0 (dep := dC) (noo := nC) (lat := lC) hn hR hk hb h hG hT
    refine ⟨1, D', t', z, s, l, p', ?_, ?_, k4, k5, Or.inr rfl⟩
    · unfold f_X1_tryDoing
      rw [nI_0, if_neg (by decide), if_pos (by decide)]
      unfold J_X1_tryDoing_30
      rw [if_pos (by decide), if_pos (by decide), k1, ob]
      dsimp only
      rw [if_neg k2]
    · rw [nI_0]; exact m_does0 _ _ _ _ _ _ _ _ k3
  · rw [m_does hn h0 hf]
    obtain ⟨e1, e2, e3⟩ := fig f hf
    have hw : f / 100 < 10 := by omega
    have ha : f / 10 % 10 < 10 := Nat.mod_lt _ (by omega)
    have hb' : f % 10 < 10 := Nat.mod_lt _ (by omega)
    have hne : ¬ (f / 100 = 0 ∧ f / 10 % 10 = 0 ∧ f % 10 = 0) := by omega
    unfold f_X1_tryDoing
    rw [e1, e2, e3]
    generalize f / 100 = w at hw hne ⊢
    generalize f / 10 % 10 = a at ha hne ⊢
    generalize f % 10 = b at hb' hne ⊢
    have i0 : nI w = (0 : Int32) ↔ w = 0 := nI_eq (a := w) (b := 0) (by omega) (by omega)
    have i1 : nI w = (1 : Int32) ↔ w = 1 := nI_eq (a := w) (b := 1) (by omega) (by omega)
    have i2 : nI w = (2 : Int32) ↔ w = 2 := nI_eq (a := w) (b := 2) (by omega) (by omega)
    have i3 : nI w = (3 : Int32) ↔ w = 3 := nI_eq (a := w) (b := 3) (by omega) (by omega)
    have i4 : nI w = (4 : Int32) ↔ w = 4 := nI_eq (a := w) (b := 4) (by omega) (by omega)
    have ia : nI a = (0 : Int32) ↔ a = 0 := nI_eq (a := a) (b := 0) (by omega) (by omega)
    have ib0 : nI b = (0 : Int32) ↔ b = 0 := nI_eq (a := b) (b := 0) (by omega) (by omega)
    have ib : (1 : Int32) < nI b ↔ 1 < b := (i_gt (x := nI b) (k := 1) (by omega)).trans (by rw [nI_toInt (by omega)]; omega)
    have ib1 : nI b = (1 : Int32) ↔ b = 1 := nI_eq (a := b) (b := 1) (by omega) (by omega)
    -- what the class does once the middle figure is as it must be
    have main : (w = 2 ∨ a = 0) → ∃ r D' t' z' s' l' p', J_X1_tryDoing_30 (nI w) (nI a) (nI b) (nI n) dC nC lC D t l z s kC bC = some (r, D', t', l', z', s') ∧ dz w a b n p = some (r, p') ∧ RY n l' s' z' D' t' p' ∧ GP n (T + 1) p' ∧ (r = 0 ∨ r = 1) := by
      intro hwa
      unfold J_X1_tryDoing_30
      by_cases c0 : w = 0
      · subst c0
        have ha0 : a = 0 := by omega
        subst ha0
        have hb0 : b ≠ 0 := by omega
        rw [if_pos (i0.mpr rfl), if_neg (fun e => hb0 (ib0.mp e))]
        exact ⟨0, D, t, z, s, l, p, rfl, by simp [dz], h, hG1, Or.inl rfl⟩
      · rw [if_neg (fun e => c0 (i0.mp e))]
        by_cases c1 : w = 1
        · subst c1
          have ha0 : a = 0 := by omega
          subst ha0
          obtain ⟨r, l', p', k1, k2, k3, k4, k5⟩ := a_swap (b := b) hn (by omega) h hG1
          refine ⟨r, D, t, z, s, l', p', ?_, k2, k3, k4, k5⟩
          rw [if_pos (i1.mpr rfl), k1, ob]
          dsimp only
          rw [zr_01 k5]
          exact ob _ _
        · rw [if_neg (fun e => c1 (i1.mp e))]
          by_cases h2 : w = 2
          · rw [if_pos (i2.mpr h2)]
            by_cases hb2 : 1 < b
            · rw [if_pos (ib.mpr hb2)]
              exact ⟨0, D, t, z, s, l, p, rfl, by subst h2; simp [dz]; omega, h, hG1, Or.inl rfl⟩
            · rw [if_neg (fun e => hb2 (ib.mp e))]
              obtain ⟨r, s', z', p', k1, k2, k3, k4, k5⟩ := a_drill (a := a) (b := b) hn (by omega) (by omega) h hG1
              have kk : J_X1_tryDoing_118 (nI b) (nI a) (nI n) D t l z s = some (r, D, t, l, z', s') := by
                unfold J_X1_tryDoing_118
                rw [k1, ob]
                dsimp only
                rcases k5 with rfl | rfl
                · rw [if_pos z00]; rfl
                · rw [if_neg one0]
              subst h2
              refine ⟨r, D, t, z', s', l, p', ?_, k2, k3, k4, k5⟩
              by_cases h1 : b = 1
              · subst h1
                rw [if_pos (ib1.mpr rfl)]
                exact kk
              · have : b = 0 := by omega
                subst this
                rw [if_neg (fun e => h1 (ib1.mp e))]
                exact kk
          · rw [if_neg (fun e => h2 (i2.mp e))]
            have ha0 : a = 0 := by omega
            subst ha0
            by_cases c3 : w = 3
            · subst c3
              obtain ⟨r, D', l', p', k1, k2, k3, k4, k5⟩ := a_resc (b := b) hn (by omega) h hG1
              refine ⟨r, D', t, z, s, l', p', ?_, k2, k3, k4, k5⟩
              rw [if_pos (i3.mpr rfl), k1, ob]
              dsimp only
              rw [zr_01 k5]
              exact ob _ _
            · rw [if_neg (fun e => c3 (i3.mp e))]
              by_cases c4 : w = 4
              · subst c4
                rw [if_pos (i4.mpr rfl), c_has _ (by omega), ob]
                by_cases cb : b < n
                · rw [iv_t ((nI_lt_n (by omega)).mpr cb), if_neg one0, c_isDown, ob]
                  by_cases cd : db D b = 0
                  · rw [if_pos cd]
                    exact ⟨1, D, t, z, s, l, p, rfl, by rw [h.2.2.2.1] at cd; simp [dz, cb, cd], h, hG1, Or.inr rfl⟩
                  · rw [if_neg cd]
                    exact ⟨0, D, t, z, s, l, p, rfl, by rw [h.2.2.2.1] at cd; simp [dz, cb, cd], h, hG1, Or.inl rfl⟩
                · rw [iv_f (fun e => cb ((nI_lt_n (by omega)).mp e)), if_pos z00]
                  exact ⟨0, D, t, z, s, l, p, rfl, by simp [dz, cb], h, hG1, Or.inl rfl⟩
              · rw [if_neg (fun e => c4 (i4.mp e))]
                exact ⟨0, D, t, z, s, l, p, rfl, by simp [dz, c1, h2, c3, c4], h, hG1, Or.inl rfl⟩
    by_cases h2 : w = 2
    · rw [if_pos (i2.mpr h2)]
      exact main (Or.inl h2)
    · rw [if_neg (fun e => h2 (i2.mp e))]
      by_cases ha0 : a = 0
      · rw [if_pos (ia.mpr ha0)]
        exact main (Or.inr ha0)
      · rw [if_neg (fun e => ha0 (ia.mp e))]
        exact ⟨0, D, t, z, s, l, p, rfl, by simp [dz, ha0, h2], h, hG1, Or.inl rfl⟩
