/-! ===== drills: both say the same ===== -/
theorem ns_split {g : Nat → Nat} {f : Nat} : ∀ n, ns g n = (if f < n then g f else 0) + ns (fun w => if w = f then 0 else g w) n
  | 0 => rfl
  | n + 1 => by
    have ih := ns_split (g := g) (f := f) n
    rw [ns, ns, ih]
    by_cases h : n = f
    · subst h
      rw [if_neg (by omega), if_pos (by omega), if_pos rfl]
      omega
    · rw [if_neg h]
      by_cases h2 : f < n
      · rw [if_pos h2, if_pos (by omega)]; omega
      · rw [if_neg h2, if_neg (by omega)]; omega
theorem ns_mono {f g : Nat → Nat} : ∀ n, (∀ w, w < n → f w ≤ g w) → ns f n ≤ ns g n
  | 0, _ => Nat.le_refl _
  | n + 1, h => by
    have ih := ns_mono n (fun w hw => h w (by omega))
    have := h n (by omega)
    rw [ns, ns]; omega
theorem ns_cong {f g : Nat → Nat} (n : Nat) (h : ∀ w, w < n → f w = g w) : ns f n = ns g n :=
  Nat.le_antisymm (ns_mono n (fun w hw => Nat.le_of_eq (h w hw))) (ns_mono n (fun w hw => Nat.le_of_eq (h w hw).symm))
theorem ns_at {f : Nat → Nat} {w : Nat} : ∀ n, w < n → f w ≤ ns f n
  | 0, h => absurd h (Nat.not_lt_zero _)
  | n + 1, h => by
    rw [ns]
    by_cases e : w = n
    · subst e; omega
    · have := ns_at (f := f) (w := w) n (by omega)
      omega
theorem ev_2 {d : Nat} (h : d = 2) : ev d = 0 := by subst h; rfl
/-- (A) what a good try costs is no less than the class's figure for its first one -/
theorem low_A {n t jf : Nat} {ln : Nat → Nat} {K B P : Nat → Int32} {dep noo lat : Int32} {oc : Nat → Nat → Nat} (hn : n ≤ 5) (hl : LN n ln P) (hjf : jf < n) (hd : db (P 15) (ln jf) = 0) (hb : ∀ i, i < jf → ¬ db (P 15) (ln i) = 0)
    (ho : ∀ a w, Oc (tv K (fun w => P (5 + w)) B t) K (fun w => P (5 + w)) (P 15) (ln jf) a w (oc a w)) (d : Nat → Nat) (h4 : ∀ w, d w ≤ 4) (hg : good n ln K B P dep noo lat t d) :
    V1 (tv K (fun w => P (5 + w)) B t) (fun w => P (5 + w)) dep noo lat t (ln jf) (d (ln jf)) ∧ ad (d (ln jf)) + ns (oc (d (ln jf))) n ≤ ns (fun w => ad (d w)) n := by
  obtain ⟨g1, g2⟩ := hg
  have hf := (hl.1 jf hjf).1
  have h6 := (six_ok (S := fun w => P (5 + w)) (E := fun w => ev (d w)) hn hl hjf hd hb).mp g2
  refine ⟨⟨(g1 _ hf).1, fun i hi => (h6 i hi).1⟩, ?_⟩
  rw [ns_split (g := fun w => ad (d w)) (f := ln jf) n, if_pos hf]
  refine Nat.add_le_add_left (ns_mono n (fun w hw => ?_)) _
  rcases ho (d (ln jf)) w with ⟨_, h⟩ | ⟨⟨k1, k2, k3⟩, h⟩
  · rw [h]; exact Nat.zero_le _
  · rw [if_neg k1]
    have hfit : fits (tv K (fun w => P (5 + w)) B t) (fun w => P (5 + w)) (ln jf) (d (ln jf)) w (d w) := ⟨fun i hi => by
      rcases (h6 i hi).2 w hw k1 k2 with h | h
      · exact absurd h k3
      · exact h, (g1 w hw).1⟩
    rcases h with ⟨g, e1, e2, e3⟩ | ⟨_, h⟩
    · have e4 : ev g = ev (d w) := by
        have a1 := (ap_iff _ _ _ _).mpr (e3.1 0 (by omega))
        have a2 := (ap_iff _ _ _ _).mpr (hfit.1 0 (by omega))
        exact a1.symm.trans a2
      have e5 : nI (ad g) = nI (ad (d w)) := by
        rw [← ev_abs e1, ← ev_abs (h4 w), e4]
      have b1 := (ad_all g (by omega)).2.2.1
      have b2 := (ad_all (d w) (by have := h4 w; omega)).2.2.1
      have := (nI_eq (by omega) (by omega)).mp e5
      omega
    · exact absurd hfit (h _ (h4 w))
/-- (B) the class's figure is what some good try costs -/
theorem low_B {n t jf a : Nat} {ln : Nat → Nat} {K B P : Nat → Int32} {dep noo lat : Int32} {oc : Nat → Nat} (hn : n ≤ 5) (hl : LN n ln P) (hS : ∀ w, w < n → inS (P (5 + w))) (hjf : jf < n) (hd : db (P 15) (ln jf) = 0) (hb : ∀ i, i < jf → ¬ db (P 15) (ln i) = 0) (ha : a ≤ 4)
    (ho : ∀ w, Oc (tv K (fun w => P (5 + w)) B t) K (fun w => P (5 + w)) (P 15) (ln jf) a w (oc w)) (hV : V1 (tv K (fun w => P (5 + w)) B t) (fun w => P (5 + w)) dep noo lat t (ln jf) a) (h11 : ad a + ns oc n < 11) :
    ∃ c, c < 5 ^ n ∧ good n ln K B P dep noo lat t (dgt c) ∧ ns (fun w => ad (dgt c w)) n = ad a + ns oc n := by
  have hf := (hl.1 jf hjf).1
  have hex : ∀ w, ∃ g, g ≤ 4 ∧ (w < n → (w = ln jf → g = a) ∧ (¬ w = ln jf → ad g = oc w ∧ ((db (P 15) w = 0 ∧ ¬ K w = 2 ∧ fits (tv K (fun w => P (5 + w)) B t) (fun w => P (5 + w)) (ln jf) a w g) ∨ ((¬ db (P 15) w = 0 ∨ K w = 2) ∧ g = 2)))) := by
    intro w
    by_cases hw : w < n
    · by_cases e : w = ln jf
      · exact ⟨a, ha, fun _ => ⟨fun _ => rfl, fun h => absurd e h⟩⟩
      · rcases ho w with ⟨h1, h2⟩ | ⟨⟨h1, h2, h3⟩, h⟩
        · refine ⟨2, by omega, fun _ => ⟨fun h => absurd h e, fun _ => ⟨by rw [h2]; rfl, Or.inr ⟨?_, rfl⟩⟩⟩⟩
          rcases h1 with h1 | h1
          · exact absurd h1 e
          · exact h1
        · rcases h with ⟨g, e1, e2, e3⟩ | ⟨h, _⟩
          · exact ⟨g, e1, fun _ => ⟨fun h => absurd h e, fun _ => ⟨e2.symm, Or.inl ⟨h2, h3, e3⟩⟩⟩⟩
          · have := ns_at (f := oc) (w := w) n hw
            omega
    · exact ⟨2, by omega, fun h => absurd h hw⟩
  obtain ⟨d, hdd⟩ := Classical.axiomOfChoice hex
  have h4 : ∀ w, d w ≤ 4 := fun w => (hdd w).1
  have hdg : ∀ w, w < n → dgt (enc d n 0) w = d w := fun w hw => by
    rw [enc_dgt d h4 w n 0 hw, Nat.zero_add]
  have hdf : d (ln jf) = a := ((hdd _).2 hf).1 rfl
  refine ⟨enc d n 0, enc_lt d h4 n 0, ?_, ?_⟩
  · constructor
    · intro w hw
      unfold may
      rw [hdg w hw]
      by_cases e : w = ln jf
      · rw [e, hdf]
        exact ⟨hV.1, Or.inr hd⟩
      · rcases (((hdd w).2 hw).2 e).2 with ⟨k1, k2, k3⟩ | ⟨k1, k2⟩
        · exact ⟨k3.2, Or.inr k1⟩
        · rw [k2]
          refine ⟨?_, Or.inl rfl⟩
          rw [ev_2 rfl, q_add0]
          exact hS w hw
    · have ecg := gs_congr (n := n) (ln := ln) (K := K) (B := B) (K' := K) (B' := B) (S := fun w => P (5 + w) + ev (dgt (enc d n 0) w)) (S' := fun w => P (5 + w) + ev (d w)) 0 dep noo lat (fun j hj => (hl.1 j hj).1) (fun _ _ => rfl) (fun w hw => by show P (5 + w) + ev (dgt (enc d n 0) w) = P (5 + w) + ev (d w); rw [hdg w hw]) (fun _ _ => rfl) 6 (P 15) t
      rw [ecg]
      refine (six_ok (S := fun w => P (5 + w)) (E := fun w => ev (d w)) hn hl hjf hd hb).mpr (fun i hi => ⟨?_, fun w hw hne hdw => ?_⟩)
      · rw [hdf]; exact hV.2 i hi
      · rcases (((hdd w).2 hw).2 hne).2 with ⟨k1, k2, k3⟩ | ⟨k1, k2⟩
        · right
          rw [hdf]; exact k3.1 i hi
        · rcases k1 with k1 | k1
          · exact absurd hdw k1
          · exact Or.inl k1
  · rw [ns_cong (g := fun w => ad (d w)) n (fun w hw => by show ad (dgt (enc d n 0) w) = ad (d w); rw [hdg w hw]), ns_split (f := ln jf) n, if_pos hf]
    rw [hdf]
    congr 1
    refine ns_cong n (fun w hw => ?_)
    by_cases e : w = ln jf
    · rw [if_pos e]
      rcases ho w with ⟨_, h⟩ | ⟨⟨h, _⟩, _⟩
      · exact h.symm
      · exact absurd e h
    · rw [if_neg e]
      exact (((hdd w).2 hw).2 e).1
theorem Oc_all (T : Nat → Nat → Int32) (K S : Nat → Int32) (D : Int32) (f : Nat) : ∃ oc : Nat → Nat → Nat, ∀ a w, Oc T K S D f a w (oc a w) := by
  have h1 : ∀ a, ∃ g : Nat → Nat, ∀ w, Oc T K S D f a w (g w) := fun a => Classical.axiomOfChoice (r := fun w v => Oc T K S D f a w v) (Oc_ex T K S D f a)
  exact Classical.axiomOfChoice (r := fun (a : Nat) (g : Nat → Nat) => ∀ w, Oc T K S D f a w (g w)) h1
theorem op_drills (th stm : Int32) {n T : Nat} {tc dC nC lC wM dM nM lM td tst : Int32} {kC bC kM bM lnC sC srC P : Nat → Int32} (Q : Nat → Int32) (hP : PTY n tc dC nC lC kC bC wM dM nM lM kM bM) (hY : RY n lnC sC srC td tst P) (hG : GP n T P) (hT : T < 2 ^ 18) :
    ∃ r th' stm' Q', f_X7_drills td tst tc dC nC lC lnC sC kC bC = some r ∧ f_X8_drills th dM nM lM wM stm P Q kM bM = some (r, th', stm', Q') := by
  obtain ⟨rfl, rfl, rfl, rfl, rfl, hk, hb, hR⟩ := hP
  obtain ⟨y1, y2, y3, rfl, rfl⟩ := hY
  obtain ⟨⟨ln, hl⟩, gS, -, ⟨t, ht, h16⟩, -⟩ := id hG
  have hn := hR.1
  have h5 := p5_lt n (by omega)
  have hS : ∀ w, w < n → inS (P (5 + w)) := fun w hw => by
    obtain ⟨s, s1, s2, s3⟩ := gS w hw
    rw [s3]; unfold inS; rw [nI_toInt (by omega)]; omega
  obtain ⟨M, stm', Q', hm, hM⟩ := m_drills (n := n) (t := t) th dC nC lC stm Q hR hl (by omega) h16
  have cle : ∀ c, ns (fun w => ad (dgt c w)) n ≤ 10 := fun c => by
    have h1 := ns_le (f := fun w => ad (dgt c w)) (m := 2) (fun w => (ad_all _ (dgt_lt c w)).2.2.1) n
    omega
  refine ⟨M, 0, stm', Q', ?_, hm⟩
  unfold f_X7_drills f_X1_fewestDrills
  rcases c_first (ln := ln) (line := lnC) hn (P 15) (fun j hj => ⟨(hl.1 j hj).1, by rw [y1 j hj]; exact (hl.1 j hj).2⟩) with ⟨e, hno⟩ | ⟨jf, hjf, e, hd, hbf⟩
  · rw [e, ob, if_pos rfl, ob]
    have c0 : good n ln kM bM P dC nC lC t (dgt (enc (fun _ => 2) n 0)) := by
      refine ⟨fun w hw => ?_, ?_⟩
      · unfold may
        rw [enc_dgt (fun _ => 2) (fun _ => by omega) w n 0 hw, ev_2 rfl, q_add0]
        exact ⟨hS w hw, Or.inl rfl⟩
      · exact six_none hn (fun j hj => (hl.1 j hj).1) hno
    have cc : ns (fun w => ad (dgt (enc (fun _ => 2) n 0) w)) n = 0 := by
      have h1 := ns_cong (f := fun w => ad (dgt (enc (fun _ => 2) n 0) w)) (g := fun _ => 0) n (fun w hw => by
        show ad (dgt (enc (fun _ => 2) n 0) w) = 0
        rw [enc_dgt (fun _ => 2) (fun _ => by omega) w n 0 hw]; rfl)
      have h2 := ns_le (f := fun _ => 0) (m := 0) (fun _ => Nat.le_refl _) n
      omega
    have ce := enc_lt (fun _ => 2) (fun _ => by omega) n 0
    rcases hM with ⟨c, h1, h2, h3, h4⟩ | ⟨h1, h2⟩
    · have := h4 _ ce c0
      dsimp only at this h3
      rw [h3, show ns (fun w => ad (dgt c w)) n = 0 by omega]; rfl
    · exact absurd c0 (h2 _ ce)
  · have hf := (hl.1 jf hjf).1
    rw [e, ob, if_neg (fun h => by
      rw [q_eq, nI_toInt (by omega)] at h
      have : (-9 : Int32).toInt = -9 := rfl
      omega), h16]
    have hC : CL n t kC sC bC (tv kM (fun w => P (5 + w)) bM t) kM (fun w => P (5 + w)) := ⟨fun i w hi hw => by
        rw [c_treadOfOne kC sC bC (by omega) (by rw [hb w hw]; exact hR.2.1 w hw) (by omega), hk w hw, hb w hw, y2 w hw]; rfl,
      fun w hw => by rw [c_kindOf kC (by omega), hk w hw], fun w hw => by rw [c_strideOf sC (by omega), y2 w hw]⟩
    obtain ⟨oc, ho⟩ : ∃ oc : Nat → Nat → Nat, ∀ a w, Oc (tv kM (fun w => P (5 + w)) bM t) kM (fun w => P (5 + w)) (P 15) (ln jf) a w (oc a w) :=
      Oc_all _ _ _ _ _
    obtain ⟨W, w1, w2⟩ := c_fewest_loop dC nC lC hC hn hf ho 5 0 fuelC (nI 11) (by omega) (fuel_lt (by omega)) (Or.inl ⟨rfl, fun a ha => absurd ha (Nat.not_lt_zero _)⟩)
    have w1' : L_X1_fewestDrills_22 (nI (ln jf)) (P 15) (nI t) (nI n) dC nC lC sC kC bC fuelC 11 (-2) = some (if W < 11 then W else -9) := w1
    rw [w1', ob]
    congr 1
    rcases w2 with ⟨e1, e2⟩ | ⟨a0, a1, a2, a3, a4, a5⟩
    · subst e1
      rw [if_neg (by decide)]
      rcases hM with ⟨c, h1, h2, h3, h4⟩ | ⟨h1, h2⟩
      · obtain ⟨l1, l2⟩ := low_A hn hl hjf hd hbf ho (dgt c) (fun w => by have := dgt_lt c w; omega) h2
        have l3 := e2 _ (dgt_lt c (ln jf)) l1
        have l4 := cle c
        dsimp only at l3
        omega
      · exact h1.symm
    · dsimp only at a3 a4
      subst a4
      rw [if_pos (show nI (ad a0 + ns (oc a0) n) < (11 : Int32) from nI_lt (b := 11) a3 (by omega))]
      obtain ⟨c1, c2, c3, c4⟩ := low_B (dep := dC) (noo := nC) (lat := lC) hn hl hS hjf hd hbf (by omega) (ho a0) a2 a3
      rcases hM with ⟨c, h1, h2, h3, h4⟩ | ⟨h1, h2⟩
      · obtain ⟨l1, l2⟩ := low_A hn hl hjf hd hbf ho (dgt c) (fun w => by have := dgt_lt c w; omega) h2
        have l3 := a5 _ (dgt_lt c (ln jf)) l1
        have l4 := h4 c1 c2 c3
        dsimp only at l3 l4 h3
        rw [h3]
        congr 1
        omega
      · exact absurd c3 (h2 c1 c2)
