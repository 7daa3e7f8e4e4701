/-! ===== what changes a yard and a page alike: swap, drill, rescue, step ===== -/
theorem c_canSwap (x : Int32) {n : Nat} (hn : n ≤ 5) : f_X6_canSwap x (nI n) = some (if 0 ≤ x.toInt ∧ x.toInt + 1 < n then 1 else 0) := by
  have e : (nI n - 1 : Int32).toInt = (n : Int) - 1 := by
    rw [show (1 : Int32) = nI 1 from rfl, pk_sub_toInt (by omega) (by omega)]; rfl
  unfold f_X6_canSwap J_X6_canSwap_21
  rw [c_size, ob]
  have h2 : nI n - 1 ≤ x ↔ (n : Int) - 1 ≤ x.toInt := by rw [q_le, e]
  by_cases h1 : x.toInt < 0
  · rw [if_pos (i_lt0.mpr h1), if_neg (by omega)]
  · rw [if_neg (fun h => h1 (i_lt0.mp h))]
    by_cases h3 : (n : Int) - 1 ≤ x.toInt
    · rw [if_pos (h2.mpr h3), if_neg (by omega)]
    · rw [if_neg (fun h => h3 (h2.mp h)), if_pos (by omega)]
def sw (f : Nat → Int32) (j : Nat) : Nat → Int32 := upd (upd f j (f (j + 1))) (j + 1) (f j)
theorem c_trySwap {n j : Nat} (hn : n ≤ 5) (hj : j + 1 < n) (l : Nat → Int32) : f_X6_trySwap (nI j) (nI n) l = some (1, sw l j) := by
  unfold f_X6_trySwap
  rw [c_canSwap _ hn, ob, iv_t (by rw [nI_toInt (by omega)]; omega), if_neg one0, c_walkerAt l (by omega), ob, nI_1, c_walkerAt l (by omega), ob, q_put _ _ (by omega) (by omega), ob, q_put _ _ (by omega) (by omega), ob]
  rfl
theorem c_trySwap_no {n : Nat} (x : Int32) (hn : n ≤ 5) (h : ¬ (0 ≤ x.toInt ∧ x.toInt + 1 < n)) (l : Nat → Int32) : f_X6_trySwap x (nI n) l = some (0, l) := by
  unfold f_X6_trySwap
  rw [c_canSwap _ hn, ob, iv_f h, if_pos z00]
theorem m_goChange {N j : Nat} (hj : j + 1 < N) (hN : N < 2 ^ 31) (P : Nat → Int32) : f_X8_goChange (nI j) N P = some (sw P j) := by
  unfold f_X8_goChange
  rw [q_0add, nI_1, q_rd P (by omega) hN, ob, q_rd P (by omega) hN, ob, q_wr _ _ (by omega) hN, ob, q_wr _ _ (by omega) hN, ob]
  rfl
theorem sw_out {f : Nat → Int32} {j i : Nat} (h1 : i ≠ j) (h2 : i ≠ j + 1) : sw f j i = f i := by unfold sw; rw [q_un h2, q_un h1]
theorem sw_AG {n j : Nat} {f g : Nat → Int32} (h : AG n f g) (hj : j + 1 < n) : AG n (sw f j) (sw g j) := by
  intro i hi
  unfold sw
  by_cases h1 : i = j + 1
  · subst h1; rw [q_us, q_us]; exact h j (by omega)
  · rw [q_un h1, q_un h1]
    by_cases h2 : i = j
    · subst h2; rw [q_us, q_us]; exact h (i + 1) hj
    · rw [q_un h2, q_un h2]; exact h i hi
def swp (j i : Nat) : Nat := if i = j then j + 1 else if i = j + 1 then j else i
theorem swp_inj {j i k : Nat} (h : swp j i = swp j k) : i = k := by
  unfold swp at h
  split at h <;> split at h <;> (try split at h) <;> (try split at h) <;> omega
theorem sw_LN {n j : Nat} {ln : Nat → Nat} {p : Nat → Int32} (h : LN n ln p) (hj : j + 1 < n) : LN n (fun i => ln (swp j i)) (sw p j) := by
  obtain ⟨h1, h2⟩ := h
  have hlt : ∀ i, i < n → swp j i < n := fun i hi => by unfold swp; split <;> (try split) <;> omega
  refine ⟨fun i hi => ?_, fun i k hi hk e => swp_inj (h2 _ _ (hlt i hi) (hlt k hk) e)⟩
  dsimp only
  refine ⟨(h1 _ (hlt i hi)).1, ?_⟩
  rw [← (h1 _ (hlt i hi)).2]
  unfold swp
  by_cases a : i = j
  · subst a; rw [if_pos rfl]; unfold sw; rw [q_un (by omega), q_us]
  · rw [if_neg a]
    by_cases b : i = j + 1
    · subst b; rw [if_pos rfl]; unfold sw; rw [q_us]
    · rw [if_neg b, sw_out a b]
theorem sw_GP {n T j : Nat} {p : Nat → Int32} (hn : n ≤ 5) (h : GP n T p) (hj : j + 1 < n) : GP n T (sw p j) := by
  obtain ⟨⟨ln, h1⟩, h2, h3, h4, h5⟩ := h
  refine ⟨⟨_, sw_LN h1 hj⟩, fun w hw => ?_, fun w hw => ?_, ?_, ?_⟩
  · rw [sw_out (by omega) (by omega)]; exact h2 w hw
  · rw [sw_out (by omega) (by omega)]; exact h3 w hw
  · rw [sw_out (by omega) (by omega)]; exact h4
  · rw [sw_out (by omega) (by omega)]; exact h5
theorem sw_RY {n j : Nat} {l s z p : Nat → Int32} {D t : Int32} (hn : n ≤ 5) (h : RY n l s z D t p) (hj : j + 1 < n) : RY n (sw l j) s z D t (sw p j) := by
  obtain ⟨h1, h2, h3, h4, h5⟩ := h
  refine ⟨sw_AG h1 hj, fun w hw => ?_, fun w hw => ?_, ?_, ?_⟩
  · dsimp only; rw [sw_out (by omega) (by omega)]; exact h2 w hw
  · dsimp only; rw [sw_out (by omega) (by omega)]; exact h3 w hw
  · rw [sw_out (by omega) (by omega)]; exact h4
  · rw [sw_out (by omega) (by omega)]; exact h5
/-- by how much one drills: 1 more where asked (not 0), else 1 less -/
def dby (y : Int32) : Int32 := if y = 0 then -1 else 1
def canD (n : Nat) (p : Nat → Int32) (w : Nat) (by_ : Int32) : Prop := 1 ≤ (p (5 + w) + by_) ∧ p (5 + w) + by_ ≤ 9 ∧ ¬ 5 ≤ p (10 + w) ∧ db (p 15) w = 0
theorem c_canDrill {n w : Nat} {s z p : Nat → Int32} {D : Int32} (y : Int32) (hn : n ≤ 5) (hw : w < n) (h2 : AG n s (fun w => p (5 + w))) (h3 : AG n z (fun w => p (10 + w))) (h4 : D = p 15) : (canD n p w (dby y) → f_X6_canDrill (nI w) y D (nI n) z s = some 1) ∧ (¬ canD n p w (dby y) → f_X6_canDrill (nI w) y D (nI n) z s = some 0) := by
  subst h4
  have key : f_X6_canDrill (nI w) y (p 15) (nI n) z s = if db (p 15) w = 0 then (if 5 ≤ p (10 + w) then some 0 else if 1 ≤ p (5 + w) + dby y ∧ p (5 + w) + dby y ≤ 9 then some 1 else some 0) else some 0 := by
    unfold f_X6_canDrill J_X6_canDrill_42 J_X6_canDrill_56
    rw [c_has _ (by omega), ob, iv_t (by rw [nI_toInt (by omega)]; omega), if_neg one0, c_isDown, ob, c_strainOf z (by omega), ob, c_strideOf s (by omega), ob, h3 w hw, h2 w hw]
    dsimp only
    by_cases hd : db (p 15) w = 0
    · rw [if_pos hd, if_pos hd]
      by_cases hs : 5 ≤ p (10 + w)
      · rw [if_pos hs, if_pos hs]
      · rw [if_neg hs, if_neg hs]
        unfold dby
        by_cases hy : y = 0
        · rw [if_pos hy, if_pos hy, c_isBetween, ob]
          by_cases hc : 1 ≤ p (5 + w) + -1 ∧ p (5 + w) + -1 ≤ 9
          · rw [if_pos hc, if_pos hc, if_neg one0]
          · rw [if_neg hc, if_neg hc, if_pos z00]
        · rw [if_neg hy, if_neg hy, c_isBetween, ob]
          by_cases hc : 1 ≤ p (5 + w) + 1 ∧ p (5 + w) + 1 ≤ 9
          · rw [if_pos hc, if_pos hc, if_neg one0]
          · rw [if_neg hc, if_neg hc, if_pos z00]
    · rw [if_neg hd, if_neg hd]
  constructor
  · rintro ⟨a, b, c, d⟩
    rw [key, if_pos d, if_neg c, if_pos ⟨a, b⟩]
  · intro h
    rw [key]
    by_cases d : db (p 15) w = 0
    · rw [if_pos d]
      by_cases c : 5 ≤ p (10 + w)
      · rw [if_pos c]
      · rw [if_neg c, if_neg (fun q => h ⟨q.1, q.2, c, d⟩)]
    · rw [if_neg d]
theorem m_canDrill {n w N : Nat} {p : Nat → Int32} (b : Int32) (hn : n ≤ 5) (hw : w < n) (hN : 17 ≤ N) (hN2 : N < 2 ^ 31) : (canD n p w b → f_X8_canDrill (nI w) b N p = some 1) ∧ (¬ canD n p w b → f_X8_canDrill (nI w) b N p = some 0) := by
  have e1 : (1 : Int32) ≤ p (5 + w) + b ↔ ((1 : Nat) : Int) ≤ (p (5 + w) + b).toInt := i_ge (k := 1) (by omega)
  have e9 : p (5 + w) + b ≤ 9 ↔ (p (5 + w) + b).toInt ≤ ((9 : Nat) : Int) := i_le (k := 9) (by omega)
  have key : f_X8_canDrill (nI w) b N p = if 1 ≤ p (5 + w) + b ∧ p (5 + w) + b ≤ 9 then (if 5 ≤ p (10 + w) then some 0 else if db (p 15) w = 0 then some 1 else some 0) else some 0 := by
    unfold f_X8_canDrill J_X8_canDrill_43
    rw [show (5 : Int32) + nI w = nI (5 + w) from nI_add 5 w, show (10 : Int32) + nI w = nI (10 + w) from nI_add 10 w, show (15 : Int32) = nI 15 from rfl, q_rd p (by omega) hN2, ob, show (1 : Int64) = lN 1 from rfl, show (9 : Int64) = lN 9 from rfl, m_in32 _ 1 9 (by omega) (by omega), ob, q_rd p (by omega) hN2, ob, q_rd p (by omega) hN2, ob, m_has, ob]
    by_cases hc : 1 ≤ p (5 + w) + b ∧ p (5 + w) + b ≤ 9
    · rw [iv_t ⟨e1.mp hc.1, e9.mp hc.2⟩, if_neg one0, if_pos hc]
    · rw [iv_f (fun q => hc ⟨e1.mpr q.1, e9.mpr q.2⟩), if_pos z00, if_neg hc]
  constructor
  · rintro ⟨h1, h2, h3, h4⟩
    rw [key, if_pos ⟨h1, h2⟩, if_neg h3, if_pos h4]
  · intro h
    rw [key]
    by_cases c : 1 ≤ p (5 + w) + b ∧ p (5 + w) + b ≤ 9
    · rw [if_pos c]
      by_cases d : 5 ≤ p (10 + w)
      · rw [if_pos d]
      · rw [if_neg d, if_neg (fun q => h ⟨c.1, c.2, d, q⟩)]
    · rw [if_neg c]
/-- a drilled page -/
def drl (p : Nat → Int32) (w : Nat) (b : Int32) : Nat → Int32 := upd (upd p (5 + w) (p (5 + w) + b)) (10 + w) (p (10 + w) + 1)
theorem m_goDrill {w N : Nat} {p : Nat → Int32} (b : Int32) (hw : w < 5) (hN : 17 ≤ N) (hN2 : N < 2 ^ 31) : f_X8_goDrill (nI w) b N p = some (drl p w b) := by
  unfold f_X8_goDrill
  rw [show (5 : Int32) + nI w = nI (5 + w) from nI_add 5 w, show (10 : Int32) + nI w = nI (10 + w) from nI_add 10 w, q_rd p (by omega) hN2, ob, q_wr _ _ (by omega) hN2, ob, q_rd _ (by omega) hN2, ob, q_wr _ _ (by omega) hN2, ob, q_un (by omega)]
  rfl
theorem c_tryDrill {n w : Nat} {s z p : Nat → Int32} {D : Int32} (y : Int32) (hn : n ≤ 5) (hw : w < n) (h2 : AG n s (fun w => p (5 + w))) (h3 : AG n z (fun w => p (10 + w))) (h4 : D = p 15) :
    (canD n p w (dby y) → f_X6_tryDrill (nI w) y D (nI n) z s = some (1, upd z w (z w + 1), upd s w (s w + dby y))) ∧ (¬ canD n p w (dby y) → f_X6_tryDrill (nI w) y D (nI n) z s = some (0, z, s)) := by
  obtain ⟨k1, k2⟩ := c_canDrill y hn hw h2 h3 h4
  constructor
  · intro h
    unfold f_X6_tryDrill J_X6_tryDrill_27 f_X6_setStride
    rw [k1 h, ob, if_neg one0, c_strideOf s (by omega), ob, q_put _ _ (by omega) (by omega), q_put _ _ (by omega) (by omega), c_strainOf z (by omega)]
    simp only [ob]
    rw [q_put _ _ (by omega) (by omega)]
    simp only [ob]
    unfold dby
    split <;> rfl
  · intro h
    unfold f_X6_tryDrill
    rw [k2 h, ob, if_pos z00]
theorem drl_RY {n w : Nat} {l s z p : Nat → Int32} {D t b : Int32} (hn : n ≤ 5) (hw : w < n) (h : RY n l s z D t p) : RY n l (upd s w (s w + b)) (upd z w (z w + 1)) D t (drl p w b) := by
  obtain ⟨h1, h2, h3, h4, h5⟩ := h
  refine ⟨fun j hj => ?_, fun j hj => ?_, fun j hj => ?_, ?_, ?_⟩
  · unfold drl; rw [q_un (by omega), q_un (by omega)]; exact h1 j hj
  · unfold drl; dsimp only; rw [q_un (f := upd p (5 + w) (p (5 + w) + b)) (show 5 + j ≠ 10 + w by omega)]
    by_cases e : j = w
    · subst e; rw [q_us, q_us, h2 j hj]
    · rw [q_un e, q_un (show 5 + j ≠ 5 + w by omega)]; exact h2 j hj
  · unfold drl; dsimp only
    by_cases e : j = w
    · subst e; rw [q_us, q_us, h3 j hj]
    · rw [q_un e, q_un (by omega), q_un (by omega)]; exact h3 j hj
  · unfold drl; rw [q_un (by omega), q_un (by omega)]; exact h4
  · unfold drl; rw [q_un (by omega), q_un (by omega)]; exact h5
theorem drl_GP {n T w : Nat} {p : Nat → Int32} {b : Int32} (hn : n ≤ 5) (hw : w < n) (h : GP n T p) (hc : canD n p w b) : GP n T (drl p w b) := by
  obtain ⟨⟨ln, h1, h1'⟩, h2, h3, h4, h5⟩ := h
  obtain ⟨c1, c2, c3, -⟩ := hc
  refine ⟨⟨ln, fun j hj => ⟨(h1 j hj).1, ?_⟩, h1'⟩, fun j hj => ?_, fun j hj => ?_, ?_, ?_⟩
  · unfold drl; rw [q_un (by omega), q_un (by omega)]; exact (h1 j hj).2
  · unfold drl; rw [q_un (by omega)]
    by_cases e : j = w
    · subst e; rw [q_us]
      obtain ⟨v, v1, v2, v3⟩ := i_of (x := p (5 + j) + b) (a := 1) (b := 9) ((i_ge (k := 1) (by omega)).mp c1) ((i_le (k := 9) (by omega)).mp c2) (by omega)
      exact ⟨v, v1, v2, v3⟩
    · rw [q_un (by omega)]; exact h2 j hj
  · unfold drl
    by_cases e : j = w
    · subst e; rw [q_us]
      obtain ⟨v, v1, v2⟩ := h3 j hj
      rw [v2] at c3 ⊢
      have : ¬ 5 ≤ v := fun q => c3 (nI_le (a := 5) (b := v) q (by omega))
      exact ⟨v + 1, by omega, nI_1 v⟩
    · rw [q_un (by omega), q_un (by omega)]; exact h3 j hj
  · unfold drl; rw [q_un (by omega), q_un (by omega)]; exact h4
  · unfold drl; rw [q_un (by omega), q_un (by omega)]; exact h5
/-- from a place on, one after the other changes with the next -/
def sws (f : Nat → Int32) : Nat → Nat → Nat → Int32
  | 0, _ => f
  | k + 1, j => sws (sw f j) k (j + 1)
theorem c_rescue_loop {n : Nat} (hn : n ≤ 5) (D : Int32) : ∀ (k j fu : Nat) (l : Nat → Int32), j + k + 1 = n → k < fu → L_X6_tryRescue_41 D (nI n) fu (nI j) l = some (1, D, sws l k j)
  | k, j, 0, _, _, h => absurd h (Nat.not_lt_zero _)
  | 0, j, fu + 1, l, hj, _ => by
    rw [L_X6_tryRescue_41, c_size, ob, show (1 : Int32) = nI 1 from rfl, pk_sub (by omega), if_pos (nI_le (by omega) (by omega))]
    rfl
  | k + 1, j, fu + 1, l, hj, hf => by
    have ih := c_rescue_loop hn D k (j + 1) fu (sw l j) (by omega) (by omega)
    rw [L_X6_tryRescue_41, c_size, ob]
    rw [if_neg (show ¬ nI n - 1 ≤ nI j by rw [show (1 : Int32) = nI 1 from rfl, pk_sub (by omega)]; exact nI_ge (by omega) (by omega)), c_trySwap hn (by omega), ob]
    dsimp only
    rw [nI_1]
    exact ih
theorem m_rescue_loop {n w : Nat} (hn : n ≤ 5) : ∀ (k j fu : Nat) (p : Nat → Int32), j + k + 1 = n → k < fu → L_X8_goRescue_6 (nI w) 17 (nI n) fu (nI j) p = some (upd (sws p k j) 15 ((sws p k j) 15 &&& (((1 : Int32) <<< (nI w &&& 31)) ^^^ (-1))))
  | k, j, 0, _, _, h => absurd h (Nat.not_lt_zero _)
  | 0, j, fu + 1, p, hj, _ => by
    rw [L_X8_goRescue_6, if_pos (show nI n - 1 ≤ nI j by rw [show (1 : Int32) = nI 1 from rfl, pk_sub (by omega)]; exact nI_le (by omega) (by omega)), show (15 : Int32) = nI 15 from rfl, rdp 15 (by omega), ob, q_wr _ _ (by omega) (by omega), ob]
    rfl
  | k + 1, j, fu + 1, p, hj, hf => by
    have ih := m_rescue_loop (w := w) hn k (j + 1) fu (sw p j) (by omega) (by omega)
    rw [L_X8_goRescue_6, if_neg (show ¬ nI n - 1 ≤ nI j by rw [show (1 : Int32) = nI 1 from rfl, pk_sub (by omega)]; exact nI_ge (by omega) (by omega)), m_goChange (by omega) (by omega), ob, nI_1]
    exact ih
theorem sws_ok {n T : Nat} (hn : n ≤ 5) {s z : Nat → Int32} {D t : Int32} : ∀ (k j : Nat) (l p : Nat → Int32), j + k + 1 ≤ n → RY n l s z D t p → GP n T p → RY n (sws l k j) s z D t (sws p k j) ∧ GP n T (sws p k j)
  | 0, _, _, _, _, h1, h2 => ⟨h1, h2⟩
  | k + 1, j, l, p, hj, h1, h2 => sws_ok hn k (j + 1) _ _ (by omega) (sw_RY hn h1 (by omega)) (sw_GP hn h2 (by omega))
theorem dn_RY {n T : Nat} {l s z p : Nat → Int32} {D t x : Int32} (hn : n ≤ 5) (h : RY n l s z D t p) (hG : GP n T p) : RY n l s z (D &&& x) t (upd p 15 (p 15 &&& x)) ∧ GP n T (upd p 15 (p 15 &&& x)) := by
  obtain ⟨h1, h2, h3, h4, h5⟩ := h
  obtain ⟨⟨ln, g1, g1'⟩, g2, g3, g4, ⟨d, g5, g6⟩⟩ := hG
  refine ⟨⟨fun j hj => by rw [q_un (by omega)]; exact h1 j hj, fun j hj => by dsimp only; rw [q_un (by omega)]; exact h2 j hj, fun j hj => by dsimp only; rw [q_un (by omega)]; exact h3 j hj, by rw [q_us, h4], by rw [q_un (by omega)]; exact h5⟩, ⟨ln, fun j hj => ⟨(g1 j hj).1, by rw [q_un (by omega)]; exact (g1 j hj).2⟩, g1'⟩, fun j hj => by rw [q_un (by omega)]; exact g2 j hj, fun j hj => by rw [q_un (by omega)]; exact g3 j hj, by rw [q_un (by omega)]; exact g4, ?_⟩
  rw [q_us, g6]
  exact and_lt g5 x
theorem rescue_ok {n T w : Nat} {l s z p : Nat → Int32} {D t : Int32} (hn : n ≤ 5) (hw : w < n) (h : RY n l s z D t p) (hG : GP n T p) (hd : ¬ db D w = 0) : ∃ l' p', f_X6_tryRescue (nI w) D (nI n) l = some (1, D &&& (((1 : Int32) <<< (nI w &&& 31)) ^^^ (-1)), l') ∧ f_X8_goRescue (nI w) 17 p (nI n) = some p' ∧ RY n l' s z (D &&& (((1 : Int32) <<< (nI w &&& 31)) ^^^ (-1))) t p' ∧ GP n T p' := by
  obtain ⟨ln, hl⟩ := hG.1
  obtain ⟨i, hi, -, p1, p2⟩ := place_eq hn hl h.1 hw (N := 17) (by omega) (by omega)
  obtain ⟨k1, k2⟩ := sws_ok hn (n - i - 1) i l p (by omega) h hG
  obtain ⟨k3, k4⟩ := dn_RY (x := (((1 : Int32) <<< (nI w &&& 31)) ^^^ (-1))) hn k1 k2
  refine ⟨_, _, ?_, ?_, k3, k4⟩
  · unfold f_X6_tryRescue
    rw [c_has _ (by omega), ob, iv_t (by rw [nI_toInt (by omega)]; omega), if_neg one0, c_isDown, ob, if_neg hd, p1]
    exact (ob _ _).trans (c_rescue_loop hn _ (n - i - 1) i fuelC l (by omega) (fuel_lt (by omega)))
  · unfold f_X8_goRescue
    rw [p2]
    exact (ob _ _).trans (m_rescue_loop hn (n - i - 1) i fuelC p (by omega) (fuel_lt (by omega)))
theorem rescue_no {n w : Nat} {l : Nat → Int32} {D : Int32} (hn : n ≤ 5) (hw : w < n) (hd : db D w = 0) : f_X6_tryRescue (nI w) D (nI n) l = some (0, D, l) := by
  unfold f_X6_tryRescue
  rw [c_has _ (by omega), ob, iv_t (by rw [nI_toInt (by omega)]; omega), if_neg one0, c_isDown, ob, if_pos hd]
/-- a step of both -/
theorem step_ok {n T t : Nat} {l s z p kC bC kM bM : Nat → Int32} {D dep noo lat : Int32} (hn : n ≤ 5) (hR : RP n kM bM) (hk : AG n kC kM) (hb : AG n bC bM) (h : RY n l s z D (nI t) p) (hG : GP n T p) (ht : t < 2 ^ 20) : ∃ r D' p', f_X6_takeStep 0 D (nI t) (nI n) dep noo lat l kC s bC = some (r, D', nI (t + 1)) ∧ f_X8_goStep 17 dep noo lat (nI n) 0 p kM bM = some (r, p') ∧ RY n l s z D' (nI (t + 1)) p' ∧ (t + 1 ≤ T → GP n T p') := by
  obtain ⟨h1, h2, h3, h4, h5⟩ := h
  have hS := hG.sok
  obtain ⟨⟨ln, g1, g1'⟩, g2, g3, g4, ⟨d, g5, g6⟩⟩ := hG
  have hid := pg_id (P := p) (t := t) h5.symm
  have hC := c_step n t ln kM (fun w => p (5 + w)) bM kC s bC l 0 D dep noo lat hR (by omega) (fun j hj => ⟨(g1 j hj).1, by rw [h1 j hj]; exact (g1 j hj).2⟩) hk h2 hb
  have hM := m_stepP n t ln kM bM p 0 dep noo lat (p 15) hR (by omega) g1 hS
  rw [hid] at hM
  rw [h4] at hC
  refine ⟨_, _, _, by rw [h4]; exact hC, hM, ⟨fun j hj => by rw [pg_lo (by omega)]; exact h1 j hj, fun j hj => by dsimp only; rw [pg_lo (by omega)]; exact h2 j hj, fun j hj => by dsimp only; rw [pg_lo (by omega)]; exact h3 j hj, by rw [pg_15], by rw [pg_16]⟩, fun hT => ?_⟩
  refine ⟨⟨ln, fun j hj => ⟨(g1 j hj).1, by rw [pg_lo (by omega)]; exact (g1 j hj).2⟩, g1'⟩, fun w hw => by rw [pg_lo (by omega)]; exact g2 w hw, fun w hw => by rw [pg_lo (by omega)]; exact g3 w hw, ⟨t + 1, hT, pg_16⟩, ?_⟩
  rw [pg_15, g6]
  unfold sD
  exact gl_lt (by omega) (fun j hj => (g1 j hj).1) n 0 none d 0 (by omega) g5
