/-! ===== drills: the class's search ===== -/
abbrev CL (n t : Nat) (Kc Sc Bc : Nat → Int32) (T : Nat → Nat → Int32) (K S : Nat → Int32) : Prop := (∀ i w, i < 6 → w < n → f_X6_treadOfOne (nI w) (nI (t + i)) Kc Sc Bc = some (T i w)) ∧ (∀ w, w < n → f_X3_kindOf (nI w) Kc = some (K w)) ∧ ∀ w, w < n → f_X6_strideOf (nI w) Sc = some (S w)
theorem CL.tr {n t : Nat} {Kc Sc Bc : Nat → Int32} {T : Nat → Nat → Int32} {K S : Nat → Int32} (h : CL n t Kc Sc Bc T K S) : ∀ i w, i < 6 → w < n → f_X6_treadOfOne (nI w) (nI (t + i)) Kc Sc Bc = some (T i w) := h.1
theorem CL.kd {n t : Nat} {Kc Sc Bc : Nat → Int32} {T : Nat → Nat → Int32} {K S : Nat → Int32} (h : CL n t Kc Sc Bc T K S) : ∀ w, w < n → f_X3_kindOf (nI w) Kc = some (K w) := h.2.1
theorem CL.sr {n t : Nat} {Kc Sc Bc : Nat → Int32} {T : Nat → Nat → Int32} {K S : Nat → Int32} (h : CL n t Kc Sc Bc T K S) : ∀ w, w < n → f_X6_strideOf (nI w) Sc = some (S w) := h.2.2
theorem ev_5 : ∀ a, a < 6 → (ev a + 1 = ev (a + 1) ∧ (2 < ev a ↔ a = 5)) ∧ (a < 5 → -2 ≤ ev a ∧ ev a ≤ 2) := by decide +kernel
theorem ev_of {x : Int32} (h1 : -2 ≤ x) (h2 : x ≤ 2) : ∃ g, g ≤ 4 ∧ x = ev g := by
  rw [q_le] at h1 h2
  have e1 : (-2 : Int32).toInt = -2 := rfl
  have e2 : (2 : Int32).toInt = 2 := rfl
  rw [e1] at h1; rw [e2] at h2
  rcases (show x.toInt = -2 ∨ x.toInt = -1 ∨ x.toInt = 0 ∨ x.toInt = 1 ∨ x.toInt = 2 by omega) with h | h | h | h | h
  · exact ⟨0, by omega, Int32.toInt_inj.mp h⟩
  · exact ⟨1, by omega, Int32.toInt_inj.mp h⟩
  · exact ⟨2, by omega, Int32.toInt_inj.mp h⟩
  · exact ⟨3, by omega, Int32.toInt_inj.mp h⟩
  · exact ⟨4, by omega, Int32.toInt_inj.mp h⟩
theorem ev_abs {g : Nat} (h : g ≤ 4) : (if (0 : Int32) ≤ ev g then ev g else 0 - ev g) = nI (ad g) := (ad_all g (by omega)).1
theorem ap_iff (a b m y : Int32) : a - b + m = y ↔ b + y = a + m := by
  constructor <;> intro h <;> grind
/-- in 1 to 9 -/
def inS (v : Int32) : Prop := 1 ≤ v.toInt ∧ v.toInt ≤ 9
theorem inS_iff (v : Int32) : ((1 : Int32) ≤ v ∧ v ≤ 9) ↔ inS v := by
  rw [q_le, q_le]; exact Iff.rfl
theorem c_can {n t w : Nat} {Kc Sc Bc : Nat → Int32} {T : Nat → Nat → Int32} {K S : Nat → Int32} (hC : CL n t Kc Sc Bc T K S) (hw : w < n) (x : Int32) :
    ∃ r, f_X1_canDrillBy (nI w) x Sc = some r ∧ (r = 1 ∧ ((-2 ≤ x ∧ x ≤ 2) ∧ inS (S w + x)) ∨ r = 0 ∧ ¬ ((-2 ≤ x ∧ x ≤ 2) ∧ inS (S w + x))) := by
  unfold f_X1_canDrillBy J_X1_canDrillBy_33
  rw [c_isBetween, ob]
  by_cases h1 : -2 ≤ x ∧ x ≤ 2
  · rw [iv_t h1, if_neg one0, hC.sr w hw, ob, c_isBetween, ob]
    by_cases h2 : (1 : Int32) ≤ S w + x ∧ S w + x ≤ 9
    · rw [iv_t h2, if_neg one0]
      exact ⟨1, rfl, Or.inl ⟨rfl, h1, (inS_iff _).mp h2⟩⟩
    · rw [iv_f h2, if_pos z00]
      exact ⟨0, rfl, Or.inr ⟨rfl, fun h => h2 ((inS_iff _).mpr h.2)⟩⟩
  · rw [iv_f h1, if_pos z00]
    exact ⟨0, rfl, Or.inr ⟨rfl, fun h => h1 h.1⟩⟩
theorem c_snowHolds_loop {n t w : Nat} {Kc Sc Bc : Nat → Int32} {T : Nat → Nat → Int32} {K S : Nat → Int32} (hC : CL n t Kc Sc Bc T K S) (hw : w < n) (m dep noo lat : Int32) : ∀ (k j fu : Nat), j + k = 6 → k < fu →
    ∃ r, L_X1_snowHolds_2 (nI w) m (nI t) dep noo lat Kc Sc Bc fu (nI j) = some r ∧ (r = 1 ∧ (∀ i, j ≤ i → i < 6 → 1 ≤ T i w + m ∧ T i w + m ≤ snw dep noo lat (nI (t + i))) ∨ r = 0 ∧ ¬ ∀ i, i < 6 → 1 ≤ T i w + m ∧ T i w + m ≤ snw dep noo lat (nI (t + i)))
  | k, j, 0, _, h => absurd h (Nat.not_lt_zero _)
  | 0, j, fu + 1, hj, _ => by
    rw [L_X1_snowHolds_2, if_pos (show (6 : Int32) ≤ nI j from nI_le (a := 6) (by omega) (by omega))]
    exact ⟨1, rfl, Or.inl ⟨rfl, fun i h1 h2 => by omega⟩⟩
  | k + 1, j, fu + 1, hj, hf => by
    obtain ⟨r, ih1, ih2⟩ := c_snowHolds_loop hC hw m dep noo lat k (j + 1) fu (by omega) (by omega)
    rw [L_X1_snowHolds_2, if_neg (show ¬ (6 : Int32) ≤ nI j from nI_ge (a := j) (b := 6) (by omega) (by omega)), show f_X6_stepNumber (nI t) = some (nI t) from rfl, ob, nI_add, hC.tr j w (by omega) hw, ob, c_snowAt, ob, c_isBetween, ob]
    by_cases h : 1 ≤ T j w + m ∧ T j w + m ≤ snw dep noo lat (nI (t + j))
    · rw [iv_t h, if_neg one0, nI_1, ih1]
      refine ⟨r, rfl, ?_⟩
      rcases ih2 with ⟨e, h2⟩ | ⟨e, h2⟩
      · refine Or.inl ⟨e, fun i a b => ?_⟩
        by_cases ij : i = j
        · subst ij; exact h
        · exact h2 i (by omega) b
      · exact Or.inr ⟨e, h2⟩
    · rw [iv_f h, if_pos z00]
      exact ⟨0, rfl, Or.inr ⟨rfl, fun g => h (g j (by omega))⟩⟩
/-- one who must tread as the first one does: a digit that does it -/
def fits (T : Nat → Nat → Int32) (S : Nat → Int32) (f a w g : Nat) : Prop := (∀ i, i < 6 → T i w + ev g = T i f + ev a) ∧ inS (S w + ev g)
def Oc (T : Nat → Nat → Int32) (K S : Nat → Int32) (D : Int32) (f a w v : Nat) : Prop :=
  (w = f ∨ ¬ db D w = 0 ∨ K w = 2) ∧ v = 0 ∨ (¬ w = f ∧ db D w = 0 ∧ ¬ K w = 2) ∧ ((∃ g, g ≤ 4 ∧ v = ad g ∧ fits T S f a w g) ∨ v = 11 ∧ ∀ g, g ≤ 4 → ¬ fits T S f a w g)
theorem Oc_ex (T : Nat → Nat → Int32) (K S : Nat → Int32) (D : Int32) (f a w : Nat) : ∃ v, Oc T K S D f a w v := by
  by_cases h1 : w = f
  · exact ⟨0, Or.inl ⟨Or.inl h1, rfl⟩⟩
  · by_cases h2 : db D w = 0
    · by_cases h3 : K w = 2
      · exact ⟨0, Or.inl ⟨Or.inr (Or.inr h3), rfl⟩⟩
      · by_cases h4 : ∃ g, g ≤ 4 ∧ fits T S f a w g
        · obtain ⟨g, g1, g2⟩ := h4
          exact ⟨ad g, Or.inr ⟨⟨h1, h2, h3⟩, Or.inl ⟨g, g1, rfl, g2⟩⟩⟩
        · exact ⟨11, Or.inr ⟨⟨h1, h2, h3⟩, Or.inr ⟨rfl, fun g g1 g2 => h4 ⟨g, g1, g2⟩⟩⟩⟩
    · exact ⟨0, Or.inl ⟨Or.inr (Or.inl h2), rfl⟩⟩
theorem Oc_le {T : Nat → Nat → Int32} {K S : Nat → Int32} {D : Int32} {f a w v : Nat} (h : Oc T K S D f a w v) : v ≤ 11 := by
  rcases h with ⟨_, h⟩ | ⟨_, ⟨g, g1, h, _⟩ | ⟨h, _⟩⟩
  · omega
  · have := (ad_all g (by omega)).2.2.1
    omega
  · omega
theorem c_apart {n t w f i : Nat} {Kc Sc Bc : Nat → Int32} {T : Nat → Nat → Int32} {K S : Nat → Int32} (hC : CL n t Kc Sc Bc T K S) (hw : w < n) (hf : f < n) (hi : i < 6) : f_X1_apart (nI w) (nI f) (nI i) (nI t) Kc Sc Bc = some (T i f - T i w) := by
  unfold f_X1_apart
  rw [show f_X6_stepNumber (nI t) = some (nI t) from rfl, ob, nI_add, hC.tr i f hi hf, ob, hC.tr i w hi hw, ob]
theorem c_asOne_loop {n t w f a v : Nat} {Kc Sc Bc : Nat → Int32} {T : Nat → Nat → Int32} {K S : Nat → Int32} (hC : CL n t Kc Sc Bc T K S) (hw : w < n) (hf : f < n) (y : Int32)
    (hv : (∃ g, g ≤ 4 ∧ v = ad g ∧ fits T S f a w g) ∨ v = 11 ∧ ∀ g, g ≤ 4 → ¬ fits T S f a w g) (h0 : T 0 f - T 0 w + ev a = y) : ∀ (k j fu : Nat), j + k = 6 → k < fu → (∀ i, i < j → T i f - T i w + ev a = y) →
    L_X1_drillsToTreadAs_14 (nI w) (nI f) (ev a) y (nI t) Kc Sc Bc fu (nI j) = some (nI v)
  | k, j, 0, _, h, _ => absurd h (Nat.not_lt_zero _)
  | 0, j, fu + 1, hj, _, hb => by
    have ej : j = 6 := by omega
    subst ej
    obtain ⟨r, h1, h2⟩ := c_can hC hw y
    rw [L_X1_drillsToTreadAs_14, if_pos (show (6 : Int32) ≤ nI 6 by decide), h1, ob]
    rcases h2 with ⟨e, h2⟩ | ⟨e, h2⟩
    · subst e
      rw [if_neg one0]
      obtain ⟨g, g1, g2⟩ := ev_of h2.1.1 h2.1.2
      have hfit : fits T S f a w g := ⟨fun i hi => (ap_iff _ _ _ _).mp ((hb i hi).trans g2), by rw [← g2]; exact h2.2⟩
      rcases hv with ⟨g', k1, k2, k3⟩ | ⟨_, k3⟩
      · have e2 : y = ev g' := by
          have := (ap_iff _ _ _ _).mpr (k3.1 0 (by omega))
          rw [← h0]; exact this
        rw [e2, ev_abs k1, k2]
      · exact absurd hfit (k3 g g1)
    · subst e
      rw [if_pos z00]
      rcases hv with ⟨g', k1, k2, k3⟩ | ⟨k2, k3⟩
      · have e2 : y = ev g' := by
          have := (ap_iff _ _ _ _).mpr (k3.1 0 (by omega))
          rw [← h0]; exact this
        refine absurd ?_ h2
        rw [e2]
        exact ⟨(ev_5 g' (by omega)).2 (by omega), k3.2⟩
      · rw [k2]; rfl
  | k + 1, j, fu + 1, hj, hfu, hb => by
    have ih := c_asOne_loop hC hw hf y hv h0 k (j + 1) fu (by omega) (by omega)
    rw [L_X1_drillsToTreadAs_14, if_neg (show ¬ (6 : Int32) ≤ nI j from nI_ge (a := j) (b := 6) (by omega) (by omega)), c_apart hC hw hf (by omega), ob]
    by_cases e : T j f - T j w + ev a = y
    · rw [if_pos e, nI_1]
      refine ih (fun i hi => ?_)
      by_cases ij : i = j
      · subst ij; exact e
      · exact hb i (by omega)
    · rw [if_neg e]
      rcases hv with ⟨g', k1, k2, k3⟩ | ⟨k2, k3⟩
      · refine absurd ?_ e
        have e2 : y = ev g' := by
          have := (ap_iff _ _ _ _).mpr (k3.1 0 (by omega))
          rw [← h0]; exact this
        rw [e2]
        exact (ap_iff _ _ _ _).mpr (k3.1 j (by omega))
      · rw [k2]; rfl
theorem c_asOne {n t w f a v : Nat} {Kc Sc Bc : Nat → Int32} {T : Nat → Nat → Int32} {K S : Nat → Int32} (hC : CL n t Kc Sc Bc T K S) (hw : w < n) (hf : f < n)
    (hv : (∃ g, g ≤ 4 ∧ v = ad g ∧ fits T S f a w g) ∨ v = 11 ∧ ∀ g, g ≤ 4 → ¬ fits T S f a w g) : f_X1_drillsToTreadAs (nI w) (nI f) (ev a) (nI t) Kc Sc Bc = some (nI v) := by
  unfold f_X1_drillsToTreadAs
  have h0 := c_apart (i := 0) hC hw hf (by omega)
  rw [nI_0] at h0
  rw [h0, ob]
  exact c_asOne_loop hC hw hf _ hv rfl 5 1 fuelC (by omega) (fuel_lt (by omega)) (fun i hi => by
    have : i = 0 := by omega
    subst this; rfl)
theorem c_others_loop {n t f a : Nat} {Kc Sc Bc : Nat → Int32} {T : Nat → Nat → Int32} {K S : Nat → Int32} {D : Int32} {oc : Nat → Nat} (hC : CL n t Kc Sc Bc T K S) (hn : n ≤ 5) (hf : f < n) (ho : ∀ w, Oc T K S D f a w (oc w)) : ∀ (k j fu : Nat), j + k = n → k < fu →
    L_X1_drillsOfOthers_5 (nI f) (ev a) (nI n) D (nI t) Kc Sc Bc fu (nI (ns oc j)) (nI j) = some (nI (ns oc n))
  | k, j, 0, _, h => absurd h (Nat.not_lt_zero _)
  | 0, j, fu + 1, hj, _ => by
    have e : j = n := by omega
    subst e
    rw [L_X1_drillsOfOthers_5, c_size, ob, if_pos (nI_le (by omega) (by omega))]
  | k + 1, j, fu + 1, hj, hfu => by
    have ih := c_others_loop hC hn hf ho k (j + 1) fu (by omega) (by omega)
    have es : nI (ns oc j) + nI (oc j) = nI (ns oc (j + 1)) := by rw [nI_add]; rfl
    rw [L_X1_drillsOfOthers_5, c_size, ob, if_neg (nI_ge (by omega) (by omega)), c_isDown, hC.kd j (by omega)]
    unfold J_X1_drillsOfOthers_59
    rw [ob, ob, nI_1]
    rcases ho j with ⟨h1, h2⟩ | ⟨⟨h1, h2, h3⟩, h4⟩
    · have e0 : ns oc j = ns oc (j + 1) := by rw [ns, h2]; rfl
      rw [e0]
      by_cases g1 : j = f
      · rw [if_pos (by rw [g1])]; exact ih
      · rw [if_neg (fun e => g1 ((nI_eq (by omega) (by omega)).mp e))]
        by_cases g2 : db D j = 0
        · rw [if_pos g2]
          by_cases g3 : K j = 2
          · rw [if_pos g3]; exact ih
          · rcases h1 with h1 | h1 | h1
            · exact absurd h1 g1
            · exact absurd g2 h1
            · exact absurd h1 g3
        · rw [if_neg g2]; exact ih
    · rw [if_neg (fun e => h1 ((nI_eq (by omega) (by omega)).mp e)), if_pos h2, if_neg h3, c_asOne hC (by omega) hf h4, ob, es]
      exact ih
/-- what the first one's drills are worth -/
def bst (M : Int32) (V : Nat → Prop) (tot : Nat → Nat) (k : Nat) : Prop := (M = nI 11 ∧ ∀ a, a < k → V a → 11 ≤ tot a) ∨ ∃ a0, a0 < k ∧ V a0 ∧ tot a0 < 11 ∧ M = nI (tot a0) ∧ ∀ a, a < k → V a → tot a0 ≤ tot a
theorem bst_no {M : Int32} {V : Nat → Prop} {tot : Nat → Nat} {k : Nat} (h : bst M V tot k) (g : ¬ V k) : bst M V tot (k + 1) := by
  rcases h with ⟨h1, h2⟩ | ⟨a0, h1, h2, h3, h4, h5⟩
  · refine Or.inl ⟨h1, fun a ha hv => ?_⟩
    by_cases e : a = k
    · subst e; exact absurd hv g
    · exact h2 a (by omega) hv
  · refine Or.inr ⟨a0, by omega, h2, h3, h4, fun a ha hv => ?_⟩
    by_cases e : a = k
    · subst e; exact absurd hv g
    · exact h5 a (by omega) hv
/-- a first one's digit that may be -/
def V1 (T : Nat → Nat → Int32) (S : Nat → Int32) (dep noo lat : Int32) (t f a : Nat) : Prop := inS (S f + ev a) ∧ ∀ i, i < 6 → 1 ≤ T i f + ev a ∧ T i f + ev a ≤ snw dep noo lat (nI (t + i))
theorem c_fewest_loop {n t f : Nat} {Kc Sc Bc : Nat → Int32} {T : Nat → Nat → Int32} {K S : Nat → Int32} {D : Int32} {oc : Nat → Nat → Nat} (dep noo lat : Int32) (hC : CL n t Kc Sc Bc T K S) (hn : n ≤ 5) (hf : f < n) (ho : ∀ a w, Oc T K S D f a w (oc a w)) : ∀ (k a fu : Nat) (M : Int32), a + k = 5 → k < fu → bst M (V1 T S dep noo lat t f) (fun a => ad a + ns (oc a) n) a →
    ∃ M', L_X1_fewestDrills_22 (nI f) D (nI t) (nI n) dep noo lat Sc Kc Bc fu M (ev a) = some (if M' < 11 then M' else -9) ∧ bst M' (V1 T S dep noo lat t f) (fun a => ad a + ns (oc a) n) 5
  | k, a, 0, _, _, h, _ => absurd h (Nat.not_lt_zero _)
  | 0, a, fu + 1, M, ha, _, hM => by
    have e : a = 5 := by omega
    subst e
    refine ⟨M, ?_, hM⟩
    rw [L_X1_fewestDrills_22, if_pos (by decide)]
    split <;> rfl
  | k + 1, a, fu + 1, M, ha, hfu, hM => by
    have ih := fun M => c_fewest_loop dep noo lat hC hn hf ho k (a + 1) fu M (by omega) (by omega)
    have hb : ∀ a, a < 5 → ad a + ns (oc a) n < 1000 := fun a ha => by
      have h1 := ns_le (f := oc a) (m := 11) (fun w => Oc_le (ho a w)) n
      have h2 := (ad_all a (by omega)).2.2.1
      omega
    obtain ⟨e1, e2⟩ := ev_5 a (by omega)
    obtain ⟨r, r1, r2⟩ := c_can hC hf (ev a)
    rw [L_X1_fewestDrills_22, if_neg (fun h => by have := e1.2.mp h; omega), r1, ob]
    unfold J_X1_fewestDrills_61
    rw [e1.1]
    rcases r2 with ⟨e, r2⟩ | ⟨e, r2⟩
    · subst e
      rw [if_neg one0]
      obtain ⟨s, s1, s2⟩ := c_snowHolds_loop hC hf (ev a) dep noo lat 6 0 fuelC (by omega) (fuel_lt (by omega))
      rw [nI_0] at s1
      rw [show f_X1_snowHolds (nI f) (ev a) (nI t) dep noo lat Kc Sc Bc = some s from s1, ob]
      rcases s2 with ⟨e, s2⟩ | ⟨e, s2⟩
      · subst e
        have ho2 := c_others_loop hC hn hf (ho a) n 0 fuelC (by omega) (fuel_lt (by omega))
        rw [if_neg one0, show f_X1_drillsOfOthers (nI f) (ev a) (nI n) D (nI t) Kc Sc Bc = some (nI (ns (oc a) n)) from ho2, ob, ev_abs (by omega), nI_add]
        refine ih _ ?_
        have hV : V1 T S dep noo lat t f a := ⟨r2.2, fun i hi => s2 i (by omega) hi⟩
        have hk := hb a (by omega)
        rcases hM with ⟨h1, h2⟩ | ⟨a0, h1, h2, h3, h4, h5⟩
        · subst h1
          by_cases c : ad a + ns (oc a) n < 11
          · rw [if_pos ((i_lt (by omega)).mpr (by rw [nI_toInt (by omega)]; omega))]
            refine Or.inr ⟨a, by omega, hV, c, rfl, fun a' ha' hv => ?_⟩
            by_cases e : a' = a
            · subst e; exact Nat.le_refl _
            · have := h2 a' (by omega) hv
              dsimp only at this ⊢
              omega
          · rw [if_neg (fun h => c (by have := (i_lt (by omega)).mp h; rw [nI_toInt (by omega)] at this; omega))]
            refine Or.inl ⟨rfl, fun a' ha' hv => ?_⟩
            by_cases e : a' = a
            · subst e; dsimp only; omega
            · exact h2 a' (by omega) hv
        · dsimp only at h3 h4
          subst h4
          by_cases c : ad a + ns (oc a) n < ad a0 + ns (oc a0) n
          · rw [if_pos ((i_lt (by omega)).mpr (by rw [nI_toInt (by omega)]; omega))]
            refine Or.inr ⟨a, by omega, hV, by dsimp only; omega, rfl, fun a' ha' hv => ?_⟩
            by_cases e : a' = a
            · subst e; exact Nat.le_refl _
            · have := h5 a' (by omega) hv
              dsimp only at this ⊢
              omega
          · rw [if_neg (fun h => c (by have := (i_lt (by omega)).mp h; rw [nI_toInt (by omega)] at this; omega))]
            refine Or.inr ⟨a0, by omega, h2, h3, rfl, fun a' ha' hv => ?_⟩
            by_cases e : a' = a
            · subst e; dsimp only; omega
            · exact h5 a' (by omega) hv
      · subst e
        rw [if_pos z00]
        exact ih M (bst_no hM (fun h => s2 h.2))
    · subst e
      rw [if_pos z00]
      exact ih M (bst_no hM (fun h => r2 ⟨e2 (by omega), h.1⟩))
