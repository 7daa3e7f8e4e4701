def rz (a e : Nat) : Nat := if a + e < 9 then a + e else 9
theorem pair_ok {n T q w1 w2 : Nat} (hq : q < 4) {dC nC lC td tst : Int32} {kC bC kM bM lnC sC srC P : Nat → Int32} (hn : n ≤ 5) (hw1 : w1 < n) (hw2 : w2 < n) (hne : w1 ≠ w2) (hk : AG n kC kM) (hb : AG n bC bM) (hR : RP n kM bM) (hY : RY n lnC sC srC td tst P) (hG : GP n T P) (hT : T < 2 ^ 18) (fd fs stm : Int32) (fl fst fsr Q hO hT' g : Nat → Int32) :
    ∃ fd' fs' fl' fst' fsr' v1 v2 Q' g', f_X0_tryRest (nI w1) (nI w2) (nI q) fd fs td tst lnC fl sC fst srC fsr (nI n) dC nC lC kC bC hO hT' = some (fd', fs', fl', fst', fsr', upd hO q v1, upd hT' q v2) ∧ f_X8_layGains (nI w1) (nI w2) (nI q) dC nC lC (nI n) stm P Q g kM bM = some (0, Q', g') ∧ g' (2 * q) = v1 ∧ g' (2 * q + 1) = v2 ∧ ∀ j, j ≠ 2 * q → j ≠ 2 * q + 1 → g' j = g j := by
  obtain ⟨a, a1, a9, ea⟩ := hG.2.1 w1 hw1
  obtain ⟨b, b1, b9, eb⟩ := hG.2.1 w2 hw2
  have sa : sC w1 = nI a := (hY.2.1 w1 hw1).trans ea
  have sb' : sC w2 = nI b := (hY.2.1 w2 hw2).trans eb
  have hd : nI q / 2 = nI (q / 2) := pk_div (a := q) (d := 2) (by omega) (by omega) (by omega)
  have hm : nI q - nI q / 2 * 2 = nI (q % 2) := pk_rem (a := q) (d := 2) (by omega) (by omega) (by omega)
  obtain ⟨B1, B2⟩ := beg_ok hn hY hG fl fst fsr Q
  obtain ⟨C1, C2⟩ := raise_ok (e := rz a (q / 2)) hn hw1 B1 B2 (by unfold rz; split <;> omega) (by unfold rz; split <;> omega)
  obtain ⟨D1, D2⟩ := raise_ok (e := rz b (q % 2)) hn hw2 C1 C2 (by unfold rz; split <;> omega) (by unfold rz; split <;> omega)
  obtain ⟨fd', fs', v1, v2, p', g', m1, m2, m3, m4, m5⟩ := rest_loop hq hn hw1 hw2 hk hb hR _ _ _ (dC := dC) (nC := nC) (lC := lC) (hO := hO) (hT := hT') 8 0 fuelC fuelC T (-(nI (q / 2))) (-(nI (q % 2))) td tst _ (upd (upd g (2 * q) (-(nI (q / 2)))) (2 * q + 1) (-(nI (q % 2)))) (by omega) (fuel_lt (by omega)) (fuel_lt (by omega)) D1 D2 (by omega) (by rw [q_un (by omega), q_us]) q_us
  rw [nI_0] at m1 m2
  have hz : ∀ x e, x ≤ 9 → e ≤ 1 → (if (nI x + nI e) < 9 then (nI x + nI e) else 9) = nI (rz x e) := fun x e hx he => by
    have h9 : nI (x + e) < 9 ↔ x + e < 9 := (i_lt (x := nI (x + e)) (k := 9) (by omega)).trans (by rw [nI_toInt (by omega)]; omega)
    rw [nI_add]
    unfold rz
    by_cases h : x + e < 9
    · rw [if_pos h, if_pos (h9.mpr h)]
    · rw [if_neg h, if_neg (fun e => h (h9.mp e))]; rfl
  refine ⟨fd', fs', cpy 5 lnC fl, upd (upd (cpy 5 sC fst) w1 (nI (rz a (q / 2)))) w2 (nI (rz b (q % 2))), cpy 5 srC fsr, v1, v2, p', g', ?_, ?_, m3, m4, fun j j1 j2 => by rw [m5 j j1 j2, q_un j2, q_un j1]⟩
  · unfold f_X0_tryRest f_X6_setStride
    rw [c_copyFrom, ob]
    dsimp only
    rw [c_strideOf sC (by omega), ob, c_strideOf sC (by omega), sa, sb', hm, hd, hz a _ a9 (by omega), q_put _ _ (by omega) (by omega), ob, ob, ob, hz b _ b9 (by omega), q_put _ _ (by omega) (by omega), ob, ob]
    exact m1
  · have q2 : (2 : Int32) * nI q = nI (2 * q) := pk_mul 2 q
    have k72 : ∀ (s0 : Int32) (p2 : Nat → Int32), s0 + 0 = s0 → nI b + s0 = nI (rz b (q % 2)) → p2 = upd (cpy 17 P Q) (5 + w1) (nI (rz a (q / 2))) → J_X8_layGains_72 (nI w1) (nI w2) (nI q) s0 (nI b) (nI (5 + w2)) dC nC lC (nI n) 0 p2 g kM bM = some (0, p', g') := by
      intro s0 p2 _ e1 e2
      unfold J_X8_layGains_72
      rw [e1, e2, q_wr _ _ (by omega) (by omega), ob, q2, nI_1, hm, hd, q_wr _ _ (by omega) (by omega), ob, q_wr _ _ (by omega) (by omega), ob]
      exact m2
    have k36 : ∀ (s0 : Int32), nI a + s0 = nI (rz a (q / 2)) → J_X8_layGains_36 (nI w1) (nI w2) (nI q) s0 (nI a) (nI (5 + w1)) dC nC lC (nI n) 0 (cpy 17 P Q) g kM bM = some (0, p', g') := by
      intro s0 e1
      have rb : upd (cpy 17 P Q) (5 + w1) (nI (rz a (q / 2))) (5 + w2) = nI b := by rw [q_un (by omega), cpy_in (by omega)]; exact eb
      unfold J_X8_layGains_36 J_X8_layGains_71
      rw [e1, q_wr _ _ (by omega) (by omega), ob, show (5 : Int32) = nI 5 from rfl, nI_add, q_rd _ (by omega) (by omega), ob, rb, hm]
      by_cases h1 : q % 2 = 1
      · rw [if_pos (show nI (q % 2) = 1 by rw [h1]; rfl), ob]
        have h9 : (9 : Int32) ≤ nI b ↔ 9 ≤ b := nI_leI (a := 9) (b := b) (by omega) (by omega)
        by_cases hb9 : 9 ≤ b
        · rw [if_pos (h9.mpr hb9)]
          exact k72 0 _ rfl (by rw [q_add0]; unfold rz; rw [if_neg (by omega), show b = 9 by omega]) rfl
        · rw [if_neg (fun e => hb9 (h9.mp e))]
          exact k72 1 _ rfl (by rw [nI_1]; unfold rz; rw [h1]; congr 1; split <;> omega) rfl
      · rw [if_neg (show ¬ nI (q % 2) = 1 from fun e => h1 ((nI_eq (a := q % 2) (b := 1) (by omega) (by omega)).mp e))]
        exact k72 0 _ rfl (by rw [q_add0]; unfold rz; rw [show q % 2 = 0 by omega]; congr 1; split <;> omega) rfl
    unfold f_X8_layGains J_X8_layGains_35
    rw [m_begin, ob]
    dsimp only
    rw [show (5 : Int32) = nI 5 from rfl, nI_add, q_rd _ (by omega) (by omega), ob, cpy_in (by omega), ea, ob]
    have hq1 : nI q ≤ 1 ↔ q ≤ 1 := nI_leI (a := q) (b := 1) (by omega) (by omega)
    by_cases h1 : q ≤ 1
    · rw [if_pos (hq1.mpr h1)]
      exact k36 0 (by rw [q_add0]; unfold rz; rw [show q / 2 = 0 by omega]; congr 1; split <;> omega)
    · rw [if_neg (fun e => h1 (hq1.mp e))]
      have h9 : (9 : Int32) ≤ nI a ↔ 9 ≤ a := nI_leI (a := 9) (b := a) (by omega) (by omega)
      by_cases ha9 : 9 ≤ a
      · rw [if_pos (h9.mpr ha9)]
        exact k36 0 (by rw [q_add0]; unfold rz; rw [if_neg (by omega), show a = 9 by omega])
      · rw [if_neg (fun e => ha9 (h9.mp e))]
        exact k36 1 (by rw [nI_1]; unfold rz; rw [show q / 2 = 1 by omega]; congr 1; split <;> omega)
theorem pairs_loop (x3 th rm rf : Int32) {n T w1 w2 : Nat} {dC nC lC td tst : Int32} {kC bC kM bM lnC sC srC P : Nat → Int32} (hn : n ≤ 5) (hw1 : w1 < n) (hw2 : w2 < n) (hne : w1 ≠ w2) (hk : AG n kC kM) (hb : AG n bC bM) (hR : RP n kM bM) (hY : RY n lnC sC srC td tst P) (hG : GP n T P) (hT : T < 2 ^ 18) :
    ∀ (k q fu fu' : Nat) (fd fs stm : Int32) (fl fst fsr Q hO hT' g : Nat → Int32), q + k = 4 → k < fu → k < fu' → (∀ j, j < q → g (2 * j) = hO j ∧ g (2 * j + 1) = hT' j) →
    ∃ r fd' fs' fl' fst' fsr' hO' hT2 th' stm' m' f' Q' g', L_X0_restingPairs_3 (nI w1) (nI w2) x3 td tst lnC sC srC (nI n) dC nC lC kC bC fu (nI q) fd fs fl fst fsr hO hT' = some (r, fd', fs', fl', fst', fsr', hO', hT2) ∧ L_X8_rests_75 (nI w1) (nI w2) x3 th dC nC lC (nI n) rm rf P kM bM fu' (nI q) stm Q g = some (r, th', stm', m', f', Q', g')
  | k, q, 0, _, _, _, _, _, _, _, _, _, _, _, _, h, _, _ => absurd h (Nat.not_lt_zero _)
  | k, q, _, 0, _, _, _, _, _, _, _, _, _, _, _, _, h, _ => absurd h (Nat.not_lt_zero _)
  | 0, q, fu + 1, fu' + 1, fd, fs, stm, fl, fst, fsr, Q, hO, hT', g, hj, _, _, hg => by
    have : q = 4 := by omega
    subst this
    rw [L_X0_restingPairs_3, L_X8_rests_75, if_pos (by decide), if_pos (by decide)]
    obtain ⟨r, m, f, s1, s2⟩ := scan_both g hO hT' hg x3 fd fs th stm fl fst fsr Q
    exact ⟨_, _, _, _, _, _, _, _, _, _, _, _, _, _, s1, s2⟩
  | k + 1, q, fu + 1, fu' + 1, fd, fs, stm, fl, fst, fsr, Q, hO, hT', g, hj, hf, hf', hg => by
    obtain ⟨fd', fs', fl', fst', fsr', v1, v2, Q', g', k1, k2, k3, k4, k5⟩ := pair_ok (q := q) (by omega) hn hw1 hw2 hne hk hb hR hY hG hT (dC := dC) (nC := nC) (lC := lC) fd fs stm fl fst fsr Q hO hT' g
    have ih := pairs_loop x3 th rm rf hn hw1 hw2 hne hk hb hR hY hG hT (dC := dC) (nC := nC) (lC := lC) k (q + 1) fu fu' fd' fs' 0 fl' fst' fsr' Q' (upd hO q v1) (upd hT' q v2) g' (by omega) (by omega) (by omega) (fun j hj => by
      by_cases e : j = q
      · subst e; rw [q_us, q_us]; exact ⟨k3, k4⟩
      · rw [q_un e, q_un e, k5 _ (by omega) (by omega), k5 _ (by omega) (by omega)]; exact hg j (by omega))
    rw [L_X0_restingPairs_3, L_X8_rests_75, if_neg (show ¬ (4 : Int32) ≤ nI q from nI_ge (a := q) (b := 4) (by omega) (by omega)), if_neg (show ¬ (4 : Int32) ≤ nI q from nI_ge (a := q) (b := 4) (by omega) (by omega)), k1, k2, ob, ob]
    dsimp only
    rw [nI_1]
    exact ih
theorem op_rests (x1 x2 x3 th stm rm rf : Int32) {n T : Nat} {tc dC nC lC wM dM nM lM td tst : Int32} {kC bC kM bM lnC sC srC P : Nat → Int32} (fd fs : Int32) (fl fst fsr Q hO hT' g : Nat → Int32) (hP : PTY n tc dC nC lC kC bC wM dM nM lM kM bM) (hY : RY n lnC sC srC td tst P) (hG : GP n T P) (hT : T < 2 ^ 18) :
    ∃ r fd' fs' fl' fst' fsr' hO' hT2 th' stm' m' f' Q' g', f_X7_rests x1 x2 x3 tc dC nC lC td tst fd fs lnC fl sC fst srC fsr kC bC hO hT' = some (r, fd', fs', fl', fst', fsr', hO', hT2) ∧ f_X8_rests x1 x2 x3 th dM nM lM wM stm rm rf P Q g kM bM = some (r, th', stm', m', f', Q', g') := by
  obtain ⟨rfl, rfl, rfl, rfl, rfl, hk, hb, hR⟩ := hP
  have hn := hR.1
  have e15 : P 15 = td := hY.2.2.2.1.symm
  unfold f_X7_rests f_X8_rests
  rw [c_has _ (by omega), c_has _ (by omega), m_noWalker _ hn, m_noWalker _ hn, show (0 : Int64) = lN 0 from rfl, show (1 : Int64) = lN 1 from rfl, m_in32 x3 0 1 (by omega) (by omega), ob, ob]
  by_cases h1 : 0 ≤ x1.toInt ∧ x1.toInt < n
  · rw [iv_t h1, if_neg one0, if_pos h1, ob, if_pos z00, ob]
    by_cases h2 : 0 ≤ x2.toInt ∧ x2.toInt < n
    · rw [iv_t h2, if_neg one0, if_pos h2, if_pos z00]
      by_cases he : x1 = x2
      · rw [if_pos he, if_pos he]
        exact ⟨_, _, _, _, _, _, _, _, _, _, _, _, _, _, rfl, rfl⟩
      · rw [if_neg he, if_neg he, ob]
        have i3 : x3 < 0 ↔ x3.toInt < 0 := i_lt0
        have i4 : x3 ≤ (1 : Int32) ↔ x3.toInt ≤ (1 : Nat) := i_le (k := 1) (by omega)
        by_cases h3 : x3.toInt < 0
        · rw [if_pos (i3.mpr h3), iv_f (by omega), if_pos z00]
          exact ⟨_, _, _, _, _, _, _, _, _, _, _, _, _, _, rfl, rfl⟩
        · rw [if_neg (fun e => h3 (i3.mp e))]
          by_cases h4 : x3.toInt ≤ (1 : Nat)
          · rw [if_pos (i4.mpr h4), iv_t (by omega), if_neg one0, show (15 : Int32) = nI 15 from rfl, rdp 15 (by omega), ob, e15]
            obtain ⟨w1, -, hw1, rfl⟩ := i_of (x := x1) (a := 0) (b := n - 1) (by omega) (by omega) (by omega)
            obtain ⟨w2, -, hw2, rfl⟩ := i_of (x := x2) (a := 0) (b := n - 1) (by omega) (by omega) (by omega)
            have hn1 : 0 < n := by
              have := h1.1; have := h1.2; omega
            rw [c_isDown, ob, m_has, ob]
            by_cases d1 : db td w1 = 0
            · rw [if_pos d1, if_pos d1, c_isDown, ob, ob, m_has, ob]
              by_cases d2 : db td w2 = 0
              · rw [if_pos d2, if_pos d2]
                obtain ⟨y, hy⟩ : ∃ y, x3 = y ∧ (y = 0 ∨ y = 1) := ⟨x3, rfl, by
                  obtain ⟨v, -, hv, rfl⟩ := i_of (x := x3) (a := 0) (b := 1) (by omega) (by omega) (by omega)
                  have : v = 0 ∨ v = 1 := by omega
                  rcases this with rfl | rfl
                  · exact Or.inl rfl
                  · exact Or.inr rfl⟩
                obtain ⟨rfl, hy⟩ := hy
                obtain ⟨r, fd', fs', fl', fst', fsr', hO', hT2, th', stm', m', f', Q', g', k1, k2⟩ := pairs_loop x3 0 rm rf hn (by omega) (by omega) (fun e => he (by rw [e])) hk hb hR hY hG hT (w1 := w1) (w2 := w2) (dC := dC) (nC := nC) (lC := lC) 4 0 fuelC fuelC fd fs stm fl fst fsr Q hO hT' g (by omega) (fuel_lt (by omega)) (fuel_lt (by omega)) (fun j hj => absurd hj (Nat.not_lt_zero _))
                rw [nI_0] at k1 k2
                refine ⟨r, fd', fs', fl', fst', fsr', hO', hT2, th', stm', m', f', Q', g', ?_, k2⟩
                unfold J_X7_rests_82 f_X0_restingPairs
                rcases hy with rfl | rfl
                · rw [if_neg (by decide), k1, ob]
                · rw [if_pos rfl, k1, ob]
              · rw [if_neg d2, if_neg d2]
                exact ⟨_, _, _, _, _, _, _, _, _, _, _, _, _, _, rfl, rfl⟩
            · rw [if_neg d1, if_neg d1]
              exact ⟨_, _, _, _, _, _, _, _, _, _, _, _, _, _, rfl, rfl⟩
          · rw [if_neg (fun e => h4 (i4.mp e)), iv_f (by omega), if_pos z00]
            exact ⟨_, _, _, _, _, _, _, _, _, _, _, _, _, _, rfl, rfl⟩
    · rw [iv_f h2, if_pos z00, if_neg h2, if_neg one0]
      exact ⟨_, _, _, _, _, _, _, _, _, _, _, _, _, _, rfl, rfl⟩
  · rw [iv_f h1, if_pos z00, if_neg h1, ob, if_neg one0]
    exact ⟨_, _, _, _, _, _, _, _, _, _, _, _, _, _, rfl, rfl⟩
