theorem ord_ok {n r : Nat} (hn : n ≤ 5) (hr : r < fn n) : (∀ j, j < n → (ord n r).getD j 0 < n) := by
  have h := chkO_all n (by omega) r hr
  unfold chkO at h
  rw [Bool.and_eq_true] at h
  exact fun j hj => of_decide_eq_true (List.all_eq_true.mp h.1 j (List.mem_range.mpr hj))
theorem lines_loop (x1 : Int32) {n t : Nat} {kC bC kM bM lnC sC srC P : Nat → Int32} {dC nC lC : Int32} (h0 : 0 < n) (hR : RP n kM bM) (h16 : P 16 = nI t) (ht : t < 2 ^ 20) (y2 : AG n sC (fun w => P (5 + w))) (hk : AG n kC kM) (hb : AG n bC bM) (hS : SOK n (fun w => P (5 + w))) :
    ∀ (k r fu fu' : Nat) (cm mm cf fd fs stm : Int32) (fl fst fsr o Q : Nat → Int32), r + k = fn n → k < fu → k < fu' → (r < fn n → AG n o (pfn (ord n r))) → (cm = mm ∨ (cm = -1 ∧ mm = -9 ∧ r < fn n)) →
    ∃ R F fd' fs' fl' fst' fsr' stm' o' Q', L_X1_bestLine_7 x1 (nI n) dC nC lC (P 15) (nI t) lnC sC srC kC bC fu cm cf (nI r) fd fs fl fst fsr = some (if x1 = 0 then R else F, fd', fs', fl', fst', fsr') ∧ L_X8_findLines_58 dC nC lC (nI n) P kM bM fu' (if r < fn n then 1 else 0) stm mm cf o Q = some (stm', R, F, o', Q')
  | k, r, 0, _, _, _, _, _, _, _, _, _, _, _, _, _, h, _, _, _ => absurd h (Nat.not_lt_zero _)
  | k, r, _, 0, _, _, _, _, _, _, _, _, _, _, _, _, _, h, _, _ => absurd h (Nat.not_lt_zero _)
  | 0, r, fu + 1, fu' + 1, cm, mm, cf, fd, fs, stm, fl, fst, fsr, o, Q, hj, _, _, _, hm => by
    have hn := hR.1
    have hf := fn_le n
    have hcm : cm = mm := by
      rcases hm with h | h
      · exact h
      · exact absurd h.2.2 (by omega)
    subst hcm
    rw [L_X1_bestLine_7, L_X8_findLines_58, c_size, ob, (ways_at n (by omega)).2, ob, if_pos (show nI (fn n) ≤ nI r from nI_le (by omega) (by omega)), if_neg (show ¬ r < fn n by omega), if_pos z00]
    refine ⟨cm, cf, fd, fs, fl, fst, fsr, stm, o, Q, ?_, rfl⟩
    by_cases h : x1 = 0
    · rw [if_pos h, if_pos h]
    · rw [if_neg h, if_neg h]
  | k + 1, r, fu + 1, fu' + 1, cm, mm, cf, fd, fs, stm, fl, fst, fsr, o, Q, hj, hfu, hfu', ho, hm => by
    have hn := hR.1
    have hf := fn_le n
    have hr : r < fn n := by omega
    have ho := ho hr
    have hln := ord_ok hn hr
    obtain ⟨w, ew, hw⟩ := c_setOrder hn hr (cpy 5 lnC fl)
    obtain ⟨o2, eo, ho2⟩ := m_nextOrder hn h0 hr o ho
    have hC := c_goOn n 6 t (fun j => (ord n r).getD j 0) kM (fun w => P (5 + w)) bM kC (cpy 5 sC fst) bC w dC nC lC (P 15) hR (fun j hj => ⟨hln j hj, hw j hj⟩) hk ((AG_cpy hn sC fst).tr y2) hb (by omega) ht
    have hi : ∀ i, n ≤ i → i < 17 → cpy n o (cpy 17 P Q) i = P i := fun i h1 h2 => by
      unfold cpy
      rw [if_neg (by omega), if_pos h2]
    have hid := pg_id (P := cpy n o (cpy 17 P Q)) (t := t) (by rw [hi 16 (by omega) (by omega)]; exact h16)
    rw [hi 15 (by omega) (by omega)] at hid
    have ag5 : AG n (fun w => cpy n o (cpy 17 P Q) (5 + w)) (fun w => P (5 + w)) := fun w hw => hi _ (by omega) (by omega)
    have hM := m_goSteps n 6 t (fun j => (ord n r).getD j 0) kM bM (cpy n o (cpy 17 P Q)) 0 dC nC lC (P 15) hR (fun j hj => ⟨hln j hj, by rw [cpy_in hj]; exact ho j hj⟩) (fun w hw => by rw [ag5 w hw]; exact hS w hw) (by omega) ht
    rw [hid, gs_congr 0 dC nC lC hln AG.rf ag5 AG.rf] at hM
    obtain ⟨v, hv, ev⟩ := pc_nat hn (gs n (fun j => (ord n r).getD j 0) kM (fun w => P (5 + w)) bM 0 dC nC lC 6 (P 15) t)
    have hfig : fg w n 0 0 = fg o n 0 0 := fg_cong (hw.tr ho.sy) n 0 0 (by omega)
    have h70 := m_70 (L_X8_findLines_58 dC nC lC (nI n) P kM bM fu') hn dC nC lC 0 mm cf o P kM bM (cpy 17 P Q) n 0 fuelC 0 (by omega) (fuel_lt (by omega))
    rw [cpy_0, nI_0] at h70
    have hle : (nI v ≤ cm ↔ nI v ≤ mm) := by
      rcases hm with h | ⟨h1, h2, -⟩
      · rw [h]
      · subst h1; subst h2
        have hx : ∀ u : Int32, u < 0 → ¬ nI v ≤ u := fun u hu h => absurd ((q_le _ _).mp h) (by
          have h3 := i_lt0.mp hu
          rw [nI_toInt (by omega)]; omega)
        exact ⟨fun h => absurd h (hx _ (by decide)), fun h => absurd h (hx _ (by decide))⟩
    rw [L_X1_bestLine_7, L_X8_findLines_58, c_size, ob, (ways_at n (by omega)).2, ob, if_neg (show ¬ nI (fn n) ≤ nI r from nI_ge (by omega) (by omega)), if_pos hr, if_neg one0, c_copyFrom, ob, m_begin, ob]
    dsimp only
    rw [ew, ob, show (6 : Int32) = nI 6 from rfl, hC, ob]
    dsimp only
    rw [c_standing _ hn, ob, ob, c_figures hn, ob, h70]
    rw [L_X8_findLines_70, if_pos (nI_le (Nat.le_refl _) (by omega)), show (6 : Int32) = nI 6 from rfl, hM, ob, m_up, ob, pg_15, m_many, ob, ev]
    unfold J_X1_bestLine_78 J_X8_findLines_148
    rw [eo, ob, nI_1, hfig]
    dsimp only
    by_cases hc : nI v ≤ cm
    · rw [if_pos hc, if_pos (hle.mp hc)]
      have hcm : cm = mm := by
        rcases hm with h | ⟨h1, h2, -⟩
        · exact h
        · subst h1
          exact absurd ((q_le _ _).mp hc) (by rw [nI_toInt (by omega)]; have : (-1 : Int32).toInt = -1 := by decide
                                              omega)
      exact lines_loop x1 h0 hR h16 ht y2 hk hb hS k (r + 1) fu fu' cm mm cf _ _ 0 _ _ _ o2 _ (by omega) (by omega) (by omega) ho2 (Or.inl hcm)
    · rw [if_neg hc, if_neg (fun h => hc (hle.mpr h)), ob]
      exact lines_loop x1 h0 hR h16 ht y2 hk hb hS k (r + 1) fu fu' (nI v) (nI v) (fg o n 0 0) _ _ 0 _ _ _ o2 _ (by omega) (by omega) (by omega) ho2 (Or.inl rfl)
