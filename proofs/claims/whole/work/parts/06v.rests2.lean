theorem raise_ok {n T w e : Nat} {l s z p : Nat → Int32} {D t : Int32} (hn : n ≤ 5) (hw : w < n) (h : RY n l s z D t p) (hG : GP n T p) (h1 : 1 ≤ e) (h9 : e ≤ 9) : RY n l (upd s w (nI e)) z D t (upd p (5 + w) (nI e)) ∧ GP n T (upd p (5 + w) (nI e)) := by
  obtain ⟨y1, y2, y3, y4, y5⟩ := h
  obtain ⟨⟨ln, g1, g1'⟩, g2, g3, g4, g5⟩ := hG
  refine ⟨⟨fun j hj => by rw [q_un (by omega)]; exact y1 j hj, fun j hj => ?_, fun j hj => by dsimp only; rw [q_un (by omega)]; exact y3 j hj, by rw [q_un (by omega)]; exact y4, by rw [q_un (by omega)]; exact y5⟩, ⟨ln, fun j hj => ⟨(g1 j hj).1, by rw [q_un (by omega)]; exact (g1 j hj).2⟩, g1'⟩, fun j hj => ?_, fun j hj => by rw [q_un (by omega)]; exact g3 j hj, by rw [q_un (by omega)]; exact g4, by rw [q_un (by omega)]; exact g5⟩
  · dsimp only
    by_cases hj' : j = w
    · subst hj'; rw [q_us, q_us]
    · rw [q_un hj', q_un (by omega)]; exact y2 j hj
  · by_cases hj' : j = w
    · subst hj'; rw [q_us]; exact ⟨e, h1, h9, rfl⟩
    · rw [q_un (by omega)]; exact g2 j hj
theorem rest_loop {n q w1 w2 : Nat} (hq : q < 4) {dC nC lC : Int32} {kC bC kM bM hO hT : Nat → Int32} (hn : n ≤ 5) (hw1 : w1 < n) (hw2 : w2 < n) (hk : AG n kC kM) (hb : AG n bC bM) (hR : RP n kM bM) (l s z : Nat → Int32) : ∀ (k i fu fu' T : Nat) (c1 c2 D t : Int32) (p g : Nat → Int32), i + k = 8 → k < fu → k < fu' → RY n l s z D t p → GP n T p → T + k < 2 ^ 19 → g (2 * q) = c1 → g (2 * q + 1) = c2 →
    ∃ fd' fs' v1 v2 p' g', L_X0_tryRest_76 (nI w1) (nI w2) (nI q) l s z (nI n) dC nC lC kC bC hO hT fu c1 c2 (nI i) D t = some (fd', fs', l, s, z, upd hO q v1, upd hT q v2) ∧ L_X8_layGains_103 (nI w1) (nI w2) (nI q) dC nC lC (nI n) 0 kM bM fu' (nI i) p g = some (0, p', g') ∧ g' (2 * q) = v1 ∧ g' (2 * q + 1) = v2 ∧ ∀ j, j ≠ 2 * q → j ≠ 2 * q + 1 → g' j = g j
  | k, i, 0, _, _, _, _, _, _, _, _, _, h, _, _, _, _, _, _ => absurd h (Nat.not_lt_zero _)
  | k, i, _, 0, _, _, _, _, _, _, _, _, _, h, _, _, _, _, _ => absurd h (Nat.not_lt_zero _)
  | 0, i, fu + 1, fu' + 1, T, c1, c2, D, t, p, g, hj, _, _, _, _, _, h1, h2 => by
    have : i = 8 := by omega
    subst this
    rw [L_X0_tryRest_76, L_X8_layGains_103, if_pos (by decide), if_pos (by decide), q_put _ _ hq (by omega), q_put _ _ hq (by omega), ob, ob]
    exact ⟨_, _, _, _, _, _, rfl, rfl, h1, h2, fun _ _ _ => rfl⟩
  | k + 1, i, fu + 1, fu' + 1, T, c1, c2, D, t, p, g, hj, hf, hf', hY, hG, hT', h1, h2 => by
    obtain ⟨r, D', t', p', k1, k2, k3, k4, k5⟩ := step_ok0 (dep := dC) (noo := nC) (lat := lC) hn hR hk hb hY hG (by omega)
    have e15 : p' 15 = D' := k4.2.2.2.1.symm
    have key : ∀ (a b : Int32), (a = if db D' w1 = 0 then 1 else 0) → (b = if db D' w2 = 0 then 1 else 0) → ∃ fd' fs' v1 v2 p2 g2, L_X0_tryRest_76 (nI w1) (nI w2) (nI q) l s z (nI n) dC nC lC kC bC hO hT (fu + 1) c1 c2 (nI i) D t = some (fd', fs', l, s, z, upd hO q v1, upd hT q v2) ∧ L_X8_layGains_103 (nI w1) (nI w2) (nI q) dC nC lC (nI n) 0 kM bM (fu' + 1) (nI i) p g = some (0, p2, g2) ∧ g2 (2 * q) = v1 ∧ g2 (2 * q + 1) = v2 ∧ ∀ j, j ≠ 2 * q → j ≠ 2 * q + 1 → g2 j = g j := by
      intro a b ha hb'
      obtain ⟨fd', fs', v1, v2, p2, g2, m1, m2, m3, m4, m5⟩ := rest_loop hq hn hw1 hw2 hk hb hR l s z (dC := dC) (nC := nC) (lC := lC) (hO := hO) (hT := hT) k (i + 1) fu fu' (T + 1) (c1 + a) (c2 + b) D' t' p' (upd (upd g (2 * q) (c1 + a)) (2 * q + 1) (c2 + b)) (by omega) (by omega) (by omega) k4 k5 (by omega) (by rw [q_un (by omega), q_us]) q_us
      refine ⟨fd', fs', v1, v2, p2, g2, ?_, ?_, m3, m4, fun j j1 j2 => by rw [m5 j j1 j2, q_un j2, q_un j1]⟩
      · rw [L_X0_tryRest_76, if_neg (show ¬ (8 : Int32) ≤ nI i from nI_ge (a := i) (b := 8) (by omega) (by omega)), k1, ob]
        dsimp only
        unfold J_X0_tryRest_110 J_X0_tryRest_131
        rw [c_isDown, ob, nI_1, ← m1, ha, hb']
        by_cases d1 : db D' w1 = 0
        · rw [if_pos d1, if_pos d1, c_isDown, ob]
          by_cases d2 : db D' w2 = 0
          · rw [if_pos d2, if_pos d2]
          · rw [if_neg d2, if_neg d2]
        · rw [if_neg d1, if_neg d1, c_isDown, ob]
          by_cases d2 : db D' w2 = 0
          · rw [if_pos d2, if_pos d2]
          · rw [if_neg d2, if_neg d2]
      · have q2 : (2 : Int32) * nI q = nI (2 * q) := pk_mul 2 q
        rw [ha, hb'] at m2
        rw [L_X8_layGains_103, if_neg (show ¬ (8 : Int32) ≤ nI i from nI_ge (a := i) (b := 8) (by omega) (by omega)), k3, ob]
        dsimp only
        unfold J_X8_layGains_147 J_X8_layGains_179
        rw [q2, nI_1, nI_1, q_rd g (by omega) (by omega), ob, h1, show (15 : Int32) = nI 15 from rfl, rdp 15 (by omega), ob, m_has, ob, e15]
        by_cases d1 : db D' w1 = 0
        · rw [if_pos d1] at m2 ⊢
          rw [q_wr _ _ (by omega) (by omega), ob, q_rd _ (by omega) (by omega), ob, ob, m_has, ob, q_un (by omega), h2]
          by_cases d2 : db D' w2 = 0
          · rw [if_pos d2] at m2 ⊢
            rw [q_wr _ _ (by omega) (by omega), ob]
            exact m2
          · rw [if_neg d2] at m2 ⊢
            rw [q_wr _ _ (by omega) (by omega), ob]
            exact m2
        · rw [if_neg d1] at m2 ⊢
          rw [q_wr _ _ (by omega) (by omega), ob, q_rd _ (by omega) (by omega), ob, ob, m_has, ob, q_un (by omega), h2]
          by_cases d2 : db D' w2 = 0
          · rw [if_pos d2] at m2 ⊢
            rw [q_wr _ _ (by omega) (by omega), ob]
            exact m2
          · rw [if_neg d2] at m2 ⊢
            rw [q_wr _ _ (by omega) (by omega), ob]
            exact m2
    exact key _ _ rfl rfl
