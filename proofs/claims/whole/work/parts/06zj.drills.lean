/-! ===== drills: the reference's tries ===== -/
theorem pwr5 : ∀ n, n < 6 → pwr 5 n 1 = nI (5 ^ n) := by decide +kernel
theorem p5_lt : ∀ n, n < 6 → 5 ^ n < 4000 ∧ 0 < 5 ^ n := by decide +kernel
/-- a digit as drills -/
def ev (d : Nat) : Int32 := nI d - 2
def ns (f : Nat → Nat) : Nat → Nat
  | 0 => 0
  | k + 1 => ns f k + f k
/-- what a walker may be drilled by -/
def may (S : Nat → Int32) (D : Int32) (d : Nat → Nat) (w : Nat) : Prop := (1 ≤ (S w + ev (d w)).toInt ∧ (S w + ev (d w)).toInt ≤ 9) ∧ (d w = 2 ∨ db D w = 0)
theorem ns_le {f : Nat → Nat} {m : Nat} (h : ∀ w, f w ≤ m) : ∀ k, ns f k ≤ m * k
  | 0 => Nat.le_refl _
  | k + 1 => by
    have := ns_le h k
    have := h k
    rw [ns, Nat.mul_add]
    omega
theorem dgt_lt (c w : Nat) : dgt c w < 5 := Nat.mod_lt _ (by omega)
theorem m_by_loop {n c : Nat} {D dep noo lat : Int32} {P Q K B : Nat → Int32} (hn : n ≤ 5) (hc : c < 4000) (hD : P 15 = D) :
    ∀ (k j fu : Nat) (x3 : Int32) (T : Nat → Int32), j + k = n → k < fu → (x3 = 1 ∧ (∀ w, w < j → may (fun w => P (5 + w)) D (dgt c) w) ∨ x3 = 0 ∧ ¬ ∀ w, w < j → may (fun w => P (5 + w)) D (dgt c) w) →
      T = brow 5 j (fun w => P (5 + w) + ev (dgt c w)) (cpy 17 P Q) →
      (∃ fu', (∀ w, w < n → may (fun w => P (5 + w)) D (dgt c) w) ∧ L_X8_drillsBy_11 (nI c) dep noo lat (nI n) 0 P K B fu (nI (ns (fun w => ad (dgt c w)) j)) x3 (nI j) T = L_X8_drillsBy_11 (nI c) dep noo lat (nI n) 0 P K B (fu' + 1) (nI (ns (fun w => ad (dgt c w)) n)) 1 (nI n) (brow 5 n (fun w => P (5 + w) + ev (dgt c w)) (cpy 17 P Q))) ∨
      (¬ (∀ w, w < n → may (fun w => P (5 + w)) D (dgt c) w) ∧ L_X8_drillsBy_11 (nI c) dep noo lat (nI n) 0 P K B fu (nI (ns (fun w => ad (dgt c w)) j)) x3 (nI j) T = some (-9, 0, brow 5 n (fun w => P (5 + w) + ev (dgt c w)) (cpy 17 P Q)))
  | k, j, 0, _, _, _, h, _, _ => absurd h (Nat.not_lt_zero _)
  | 0, j, fu + 1, x3, T, hj, hf, hx, hT => by
    have e : j = n := by omega
    subst e
    subst hT
    rcases hx with ⟨rfl, hx⟩ | ⟨rfl, hx⟩
    · exact Or.inl ⟨fu, hx, rfl⟩
    · right
      refine ⟨hx, ?_⟩
      rw [L_X8_drillsBy_11, if_pos (nI_le (by omega) (by omega)), if_pos rfl]
      unfold J_X8_drillsBy_130 J_X8_drillsBy_155
      rw [if_pos rfl]
  | k + 1, j, fu + 1, x3, T, hj, hf, hx, hT => by
    have hp := p5_lt j (by omega)
    have hd := dgt_lt c j
    obtain ⟨a1, a2, a3, a4⟩ := ad_all (dgt c j) hd
    have ecost : nI (ns (fun w => ad (dgt c w)) j) + nI (ad (dgt c j)) = nI (ns (fun w => ad (dgt c w)) (j + 1)) := by rw [nI_add]; rfl
    have e5 : (5 : Int32) + nI j = nI (5 + j) := nI_add 5 j
    have eT : T (5 + j) = P (5 + j) := by
      rw [hT]; unfold brow; rw [if_neg (by omega), cpy_in (by omega)]
    have eW : upd T (5 + j) (P (5 + j) + ev (dgt c j)) = brow 5 (j + 1) (fun w => P (5 + w) + ev (dgt c w)) (cpy 17 P Q) := by
      rw [hT]; exact brow_s 5 j (fun w => P (5 + w) + ev (dgt c w)) (cpy 17 P Q)
    have ih := fun x3 h => m_by_loop (D := D) (dep := dep) (noo := noo) (lat := lat) (K := K) (B := B) (Q := Q) hn hc hD k (j + 1) fu x3 _ (by omega) (by omega) h eW
    have hdiv : nI c / nI (5 ^ j) - nI c / nI (5 ^ j) / 5 * 5 = nI (dgt c j) := by
      rw [pk_div (by omega) hp.2 (by omega)]
      exact pk_rem (d := 5) (Nat.lt_of_le_of_lt (Nat.div_le_self _ _) (by omega)) (by omega) (by omega)
    rw [L_X8_drillsBy_11, if_neg (nI_ge (by omega) (by omega)), m_power 5 (by omega), ob, pwr5 j (by omega), if_neg (q_ne0 hp.2 (by omega)), hdiv]
    have key : ∀ s0, s0 = nI (ad (dgt c j)) → J_X8_drillsBy_48 (L_X8_drillsBy_11 (nI c) dep noo lat (nI n) 0 P K B fu) x3 (nI j) (nI (dgt c j) - 2) s0 (nI (ns (fun w => ad (dgt c w)) j)) P T =
        L_X8_drillsBy_11 (nI c) dep noo lat (nI n) 0 P K B fu (nI (ns (fun w => ad (dgt c w)) (j + 1))) (if x3 = 1 ∧ ((1 ≤ (P (5 + j) + ev (dgt c j)).toInt ∧ (P (5 + j) + ev (dgt c j)).toInt ≤ 9) ∧ (dgt c j = 2 ∨ db D j = 0)) then 1 else 0) (nI (j + 1)) (upd T (5 + j) (P (5 + j) + ev (dgt c j))) := by
      intro s0 hs
      subst hs
      unfold J_X8_drillsBy_48 J_X8_drillsBy_112 J_X8_drillsBy_108 J_X8_drillsBy_113
      rw [e5, rdp (5 + j) (by omega), ob, q_wr T _ (by omega) (by omega), ob, eT, ecost, nI_1]
      show (if x3 = 0 then _ else _) = _
      by_cases h3 : x3 = 0
      · subst h3
        rw [if_pos rfl, if_neg (fun h => absurd h.1 (by decide))]
        rfl
      · have h31 : x3 = 1 := by
          rcases hx with ⟨h, _⟩ | ⟨h, _⟩
          · exact h
          · exact absurd h h3
        subst h31
        rw [if_neg (by decide), rdp (5 + j) (by omega), q_us, ob]
        have em := m_in32 (P (5 + j) + (nI (dgt c j) - 2)) 1 9 (by omega) (by omega)
        rw [show (1 : Int64) = lN 1 from rfl, show (9 : Int64) = lN 9 from rfl, em, ob]
        by_cases h9 : ((1 : Nat) : Int) ≤ (P (5 + j) + (nI (dgt c j) - 2)).toInt ∧ (P (5 + j) + (nI (dgt c j) - 2)).toInt ≤ ((9 : Nat) : Int)
        · have h9' : 1 ≤ (P (5 + j) + ev (dgt c j)).toInt ∧ (P (5 + j) + ev (dgt c j)).toInt ≤ 9 := h9
          rw [iv_t h9, if_neg one0]
          by_cases h0 : nI (dgt c j) - 2 = 0
          · rw [if_pos h0, if_pos ⟨rfl, h9', Or.inl (a4.mp h0)⟩]
            rfl
          · rw [if_neg h0, show (15 : Int32) = nI 15 from rfl, rdp 15 (by omega), ob, hD, m_has, ob]
            by_cases hdb : db D j = 0
            · rw [if_pos hdb, if_pos ⟨rfl, h9', Or.inr hdb⟩]
              rfl
            · rw [if_neg hdb, if_neg (fun h => by
                rcases h.2.2 with h | h
                · exact h0 (a4.mpr h)
                · exact hdb h)]
              rfl
        · rw [iv_f h9, if_pos z00, if_neg (fun h => h9 h.2.1)]
          rfl
    have fin : ∀ s0, s0 = nI (ad (dgt c j)) → (∃ fu', (∀ w, w < n → may (fun w => P (5 + w)) D (dgt c) w) ∧ J_X8_drillsBy_48 (L_X8_drillsBy_11 (nI c) dep noo lat (nI n) 0 P K B fu) x3 (nI j) (nI (dgt c j) - 2) s0 (nI (ns (fun w => ad (dgt c w)) j)) P T = L_X8_drillsBy_11 (nI c) dep noo lat (nI n) 0 P K B (fu' + 1) (nI (ns (fun w => ad (dgt c w)) n)) 1 (nI n) (brow 5 n (fun w => P (5 + w) + ev (dgt c w)) (cpy 17 P Q))) ∨
      (¬ (∀ w, w < n → may (fun w => P (5 + w)) D (dgt c) w) ∧ J_X8_drillsBy_48 (L_X8_drillsBy_11 (nI c) dep noo lat (nI n) 0 P K B fu) x3 (nI j) (nI (dgt c j) - 2) s0 (nI (ns (fun w => ad (dgt c w)) j)) P T = some (-9, 0, brow 5 n (fun w => P (5 + w) + ev (dgt c w)) (cpy 17 P Q))) := by
      intro s0 hs
      rw [key s0 hs]
      by_cases hm : may (fun w => P (5 + w)) D (dgt c) j
      · rcases hx with ⟨rfl, hx⟩ | ⟨rfl, hx⟩
        · rw [if_pos ⟨rfl, hm⟩]
          refine ih 1 (Or.inl ⟨rfl, fun w hw => ?_⟩)
          by_cases e : w = j
          · subst e; exact hm
          · exact hx w (by omega)
        · rw [if_neg (fun h => absurd h.1 (by decide))]
          exact ih 0 (Or.inr ⟨rfl, fun h => hx (fun w hw => h w (by omega))⟩)
      · rw [if_neg (fun h => hm h.2)]
        exact ih 0 (Or.inr ⟨rfl, fun h => hm (h j (by omega))⟩)
    split
    · refine fin _ ?_
      rename_i h
      rw [if_pos h] at a1; exact a1
    · refine fin _ ?_
      rename_i h
      rw [if_neg h] at a2; exact a2
/-- a try of drills: good or not -/
def good (n : Nat) (ln : Nat → Nat) (K B P : Nat → Int32) (dep noo lat : Int32) (t : Nat) (d : Nat → Nat) : Prop :=
  (∀ w, w < n → may (fun w => P (5 + w)) (P 15) d w) ∧ gs n ln K (fun w => P (5 + w) + ev (d w)) B 0 dep noo lat 6 (P 15) t = P 15
theorem m_drillsBy {n c t : Nat} {ln : Nat → Nat} {P K B : Nat → Int32} (dep noo lat stm : Int32) (Q : Nat → Int32) (hR : RP n K B) (hl : LN n ln P) (ht : t < 2 ^ 20) (h16 : P 16 = nI t) (hc : c < 4000) :
    ∃ Q', (good n ln K B P dep noo lat t (dgt c) ∧ f_X8_drillsBy (nI c) dep noo lat (nI n) stm P Q K B = some (nI (ns (fun w => ad (dgt c w)) n), 0, Q')) ∨ (¬ good n ln K B P dep noo lat t (dgt c) ∧ f_X8_drillsBy (nI c) dep noo lat (nI n) stm P Q K B = some (-9, 0, Q')) := by
  have hn := hR.1
  unfold f_X8_drillsBy
  rw [m_begin, ob]
  dsimp only
  have h := m_by_loop (n := n) (c := c) (D := P 15) (dep := dep) (noo := noo) (lat := lat) (P := P) (Q := Q) (K := K) (B := B) hn hc rfl n 0 fuelC 1 _ (by omega) (fuel_lt (by omega)) (Or.inl ⟨rfl, fun w hw => absurd hw (Nat.not_lt_zero _)⟩) rfl
  rw [brow_0] at h
  change ((∃ fu', _ ∧ L_X8_drillsBy_11 (nI c) dep noo lat (nI n) 0 P K B fuelC 0 1 0 (cpy 17 P Q) = _) ∨ (_ ∧ L_X8_drillsBy_11 (nI c) dep noo lat (nI n) 0 P K B fuelC 0 1 0 (cpy 17 P Q) = _)) at h
  rcases h with ⟨fu, hm, e⟩ | ⟨hm, e⟩
  · rw [e, L_X8_drillsBy_11, if_pos (nI_le (by omega) (by omega)), if_neg (by decide)]
    have b1 : ∀ i, i < 17 → ¬ (5 ≤ i ∧ i < 5 + n) → brow 5 n (fun w => P (5 + w) + ev (dgt c w)) (cpy 17 P Q) i = P i := fun i hi hx => by
      unfold brow; rw [if_neg hx, cpy_in hi]
    have b2 : ∀ w, w < n → brow 5 n (fun w => P (5 + w) + ev (dgt c w)) (cpy 17 P Q) (5 + w) = P (5 + w) + ev (dgt c w) := fun w hw => by
      unfold brow; rw [if_pos (by omega), show 5 + w - 5 = w by omega]
    have e15 := b1 15 (by omega) (by omega)
    have e16 := (b1 16 (by omega) (by omega)).trans h16
    generalize brow 5 n (fun w => P (5 + w) + ev (dgt c w)) (cpy 17 P Q) = Z at *
    have hg := m_goSteps n 6 t ln K B Z 0 dep noo lat (P 15) hR (fun j hj => ⟨(hl.1 j hj).1, by rw [b1 j (by omega) (by omega)]; exact (hl.1 j hj).2⟩) (fun w hw => by
      have := (hm w hw).1
      obtain ⟨s, h1, h2, h3⟩ := i_of (x := P (5 + w) + ev (dgt c w)) (a := 1) (b := 9) this.1 this.2 (by omega)
      exact ⟨s, h1, by omega, (b2 w hw).trans h3⟩) (by omega) ht
    rw [← e15, pg_id e16] at hg
    rw [show (6 : Int32) = nI 6 from rfl, hg, ob]
    have ecg := gs_congr (n := n) (ln := ln) (K := K) (B := B) (K' := K) (B' := B) (S := fun w => Z (5 + w)) (S' := fun w => P (5 + w) + ev (dgt c w)) 0 dep noo lat (fun j hj => (hl.1 j hj).1) (fun _ _ => rfl) (fun w hw => b2 w hw) (fun _ _ => rfl) 6 (Z 15) t
    unfold J_X8_drillsBy_130 J_X8_drillsBy_155
    rw [if_neg (by decide), show (15 : Int32) = nI 15 from rfl, rdp 15 (by omega), ob, rdp 15 (by omega), ob, pg_15, ecg, e15]
    by_cases hg : gs n ln K (fun w => P (5 + w) + ev (dgt c w)) B 0 dep noo lat 6 (P 15) t = P 15
    · rw [if_pos hg]
      exact ⟨_, Or.inl ⟨⟨hm, hg⟩, rfl⟩⟩
    · rw [if_neg hg]
      exact ⟨_, Or.inr ⟨fun h => hg h.2, rfl⟩⟩
  · rw [e]
    exact ⟨_, Or.inr ⟨fun h => hm h.1, rfl⟩⟩
/-- the least of the good ones -/
def least (M : Int32) (Gd : Nat → Prop) (C : Nat → Nat) (k : Nat) : Prop := (∃ c, c < k ∧ Gd c ∧ M = nI (C c) ∧ ∀ c', c' < k → Gd c' → C c ≤ C c') ∨ (M = -9 ∧ ∀ c', c' < k → ¬ Gd c')
theorem least_no {M : Int32} {Gd : Nat → Prop} {C : Nat → Nat} {k : Nat} (h : least M Gd C k) (g : ¬ Gd k) : least M Gd C (k + 1) := by
  rcases h with ⟨c, h1, h2, h3, h4⟩ | ⟨h1, h2⟩
  · refine Or.inl ⟨c, by omega, h2, h3, fun c' hc hg => ?_⟩
    by_cases e : c' = k
    · subst e; exact absurd hg g
    · exact h4 c' (by omega) hg
  · refine Or.inr ⟨h1, fun c' hc => ?_⟩
    by_cases e : c' = k
    · subst e; exact g
    · exact h2 c' (by omega)
theorem least_new {M : Int32} {Gd : Nat → Prop} {C : Nat → Nat} {k : Nat} (h : least M Gd C k) (g : Gd k) (hM : ∀ c, c < k → Gd c → M = nI (C c) → C k ≤ C c) : least (nI (C k)) Gd C (k + 1) := by
  refine Or.inl ⟨k, by omega, g, rfl, fun c' hc hg => ?_⟩
  by_cases e : c' = k
  · subst e; exact Nat.le_refl _
  · rcases h with ⟨c, h1, h2, h3, h4⟩ | ⟨h1, h2⟩
    · exact Nat.le_trans (hM c h1 h2 h3) (h4 c' (by omega) hg)
    · exact absurd hg (h2 c' (by omega))
theorem m_drills {n t : Nat} {ln : Nat → Nat} {P K B : Nat → Int32} (th dep noo lat stm : Int32) (Q : Nat → Int32) (hR : RP n K B) (hl : LN n ln P) (ht : t < 2 ^ 20) (h16 : P 16 = nI t) :
    ∃ M stm' Q', f_X8_drills th dep noo lat (nI n) stm P Q K B = some (M, 0, stm', Q') ∧ least M (fun c => good n ln K B P dep noo lat t (dgt c)) (fun c => ns (fun w => ad (dgt c w)) n) (5 ^ n) := by
  have hn := hR.1
  have h5 := p5_lt n (by omega)
  have cle : ∀ c, ns (fun w => ad (dgt c w)) n ≤ 10 := fun c => by
    have h1 := ns_le (f := fun w => ad (dgt c w)) (m := 2) (fun w => (ad_all _ (dgt_lt c w)).2.2.1) n
    omega
  have loop : ∀ (k c fu : Nat) (M stm : Int32) (Q : Nat → Int32), c + k = 5 ^ n → k < fu → least M (fun c => good n ln K B P dep noo lat t (dgt c)) (fun c => ns (fun w => ad (dgt c w)) n) c →
      ∃ M' stm' Q', L_X8_drills_10 0 dep noo lat (nI n) P K B fu M (nI c) stm Q = some (M', 0, stm', Q') ∧ least M' (fun c => good n ln K B P dep noo lat t (dgt c)) (fun c => ns (fun w => ad (dgt c w)) n) (5 ^ n) := by
    intro k
    induction k with
    | zero =>
      intro c fu M stm Q hc hf hM
      obtain ⟨fu, rfl⟩ : ∃ x, fu = x + 1 := ⟨fu - 1, by omega⟩
      have e : c = 5 ^ n := by omega
      subst e
      refine ⟨M, stm, Q, ?_, hM⟩
      rw [L_X8_drills_10, m_power 5 (by omega), ob, pwr5 n (by omega), if_pos (nI_le (by omega) (by omega))]
    | succ k ih =>
      intro c fu M stm Q hc hf hM
      obtain ⟨fu, rfl⟩ : ∃ x, fu = x + 1 := ⟨fu - 1, by omega⟩
      obtain ⟨Q', hq⟩ := m_drillsBy (n := n) (c := c) (t := t) dep noo lat stm Q hR hl ht h16 (by omega)
      rw [L_X8_drills_10, m_power 5 (by omega), ob, pwr5 n (by omega), if_neg (nI_ge (by omega) (by omega))]
      unfold J_X8_drills_49 J_X8_drills_45 J_X8_drills_50
      rw [nI_1]
      rcases hq with ⟨hg, hq⟩ | ⟨hg, hq⟩
      · have hne : ∀ c, ¬ nI (ns (fun w => ad (dgt c w)) n) = -9 := fun c e => by
          have := cle c
          rw [q_eq, nI_toInt (by omega)] at e
          have : (-9 : Int32).toInt = -9 := rfl
          omega
        rw [hq, ob]
        dsimp only
        rw [if_neg (hne c)]
        by_cases h9 : M = -9
        · rw [if_pos h9]
          refine ih (c + 1) fu _ _ _ (by omega) (by omega) (least_new hM hg (fun c' _ _ h => absurd (h.symm.trans h9) (hne c')))
        · rw [if_neg h9]
          rcases hM with ⟨c0, h1, h2, h3, h4⟩ | ⟨h1, _⟩
          · dsimp only at h3 h4
            subst h3
            have l1 := cle c0
            have l2 := cle c
            by_cases hle : ns (fun w => ad (dgt c0 w)) n ≤ ns (fun w => ad (dgt c w)) n
            · rw [if_pos (nI_le hle (by omega))]
              refine ih (c + 1) fu _ _ _ (by omega) (by omega) (Or.inl ⟨c0, by omega, h2, rfl, fun c' hc' hg' => ?_⟩)
              by_cases e : c' = c
              · subst e; exact hle
              · exact h4 c' (by omega) hg'
            · rw [if_neg (nI_ge (by omega) (by omega))]
              refine ih (c + 1) fu _ _ _ (by omega) (by omega) (Or.inl ⟨c, by omega, hg, rfl, fun c' hc' hg' => ?_⟩)
              by_cases e : c' = c
              · subst e; exact Nat.le_refl _
              · have := h4 c' (by omega) hg'
                have h9 : ns (fun w => ad (dgt c w)) n ≤ ns (fun w => ad (dgt c0 w)) n := by omega
                exact Nat.le_trans h9 this
          · exact absurd h1 h9
      · rw [hq, ob]
        dsimp only
        rw [if_pos rfl]
        exact ih (c + 1) fu _ _ _ (by omega) (by omega) (least_no hM hg)
  unfold f_X8_drills
  have h := loop (5 ^ n) 0 fuelC (-9) stm Q (by omega) (fuel_lt h5.1) (Or.inr ⟨rfl, fun c hc => absurd hc (Nat.not_lt_zero _)⟩)
  rw [nI_0] at h
  exact h
