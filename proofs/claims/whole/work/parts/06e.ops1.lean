/-! ===== the relation between both sides' cells; the simple calls ===== -/
theorem L_lt (a b : Int64) : a < b ↔ a.toInt < b.toInt := Int64.lt_iff_toInt_lt
theorem L_le (a b : Int64) : a ≤ b ↔ a.toInt ≤ b.toInt := Int64.le_iff_toInt_le
theorem L_eq (a b : Int64) : a = b ↔ a.toInt = b.toInt := Int64.toInt_inj.symm
theorem lg_neg (x y : Int64) : lg_cmp x y < 0 ↔ x < y := by
  unfold lg_cmp
  by_cases h1 : y < x
  · rw [if_pos h1]; constructor
    · intro h; exact absurd h (by decide)
    · intro h; rw [L_lt] at h h1; omega
  · rw [if_neg h1]
    by_cases h2 : x = y
    · rw [if_pos h2]; constructor
      · intro h; exact absurd h (by decide)
      · intro h; rw [L_lt] at h; rw [L_eq] at h2; omega
    · rw [if_neg h2]; constructor
      · intro _; rw [L_lt] at h1 ⊢; rw [L_eq] at h2; omega
      · intro _; decide
theorem lg_pos (x y : Int64) : 0 < lg_cmp x y ↔ y < x := by
  unfold lg_cmp
  by_cases h1 : y < x
  · rw [if_pos h1]; exact ⟨fun _ => h1, fun _ => by decide⟩
  · rw [if_neg h1]
    by_cases h2 : x = y
    · rw [if_pos h2]; exact ⟨fun h => absurd h (by decide), fun h => absurd h h1⟩
    · rw [if_neg h2]; exact ⟨fun h => absurd h (by decide), fun h => absurd h h1⟩
theorem m_in (x a b : Int64) : f_X8_in x a b = some (if a ≤ x ∧ x ≤ b then 1 else 0) := by
  unfold f_X8_in J_X8_in_17
  by_cases h1 : x < a
  · rw [if_pos ((lg_neg x a).mpr h1), if_neg (fun h => by rw [L_lt] at h1; have := (L_le _ _).mp h.1; omega)]
  · rw [if_neg (fun h => h1 ((lg_neg x a).mp h))]
    by_cases h2 : b < x
    · rw [if_pos ((lg_pos x b).mpr h2), if_neg (fun h => by rw [L_lt] at h2; have := (L_le _ _).mp h.2; omega)]
    · rw [if_neg (fun h => h2 ((lg_pos x b).mp h)), if_pos (by rw [L_lt] at h1 h2; rw [L_le, L_le]; omega)]
theorem one0 : ¬ (1 : Int32) = 0 := by decide
theorem z00 : (0 : Int32) = 0 := rfl
theorem iv_t {c : Prop} [Decidable c] (h : c) : (if c then (1 : Int32) else 0) = 1 := if_pos h
theorem iv_f {c : Prop} [Decidable c] (h : ¬ c) : (if c then (1 : Int32) else 0) = 0 := if_neg h
theorem m_in32 (x : Int32) (a b : Nat) (ha : a < 2 ^ 31) (hb : b < 2 ^ 31) : f_X8_in x.toInt64 (lN a) (lN b) = some (if (a : Int) ≤ x.toInt ∧ x.toInt ≤ b then 1 else 0) := by
  rw [m_in]
  have h1 : lN a ≤ x.toInt64 ↔ (a : Int) ≤ x.toInt := by rw [Int64.le_iff_toInt_le, lN_toInt ha, Int32.toInt_toInt64]
  have h2 : x.toInt64 ≤ lN b ↔ x.toInt ≤ (b : Int) := by rw [Int64.le_iff_toInt_le, lN_toInt hb, Int32.toInt_toInt64]
  simp only [h1, h2]
/-- an int from a to b is one of these numbers -/
theorem i_of {x : Int32} {a b : Nat} (h1 : (a : Int) ≤ x.toInt) (h2 : x.toInt ≤ b) (hb : b < 2 ^ 31) : ∃ j, a ≤ j ∧ j ≤ b ∧ x = nI j := by
  refine ⟨x.toInt.toNat, by omega, by omega, ?_⟩
  rw [q_eq, nI_toInt (by omega)]; omega
theorem i_lt {x : Int32} {k : Nat} (hk : k < 2 ^ 31) : x < nI k ↔ x.toInt < k := by rw [q_lt, nI_toInt hk]
theorem i_le {x : Int32} {k : Nat} (hk : k < 2 ^ 31) : x ≤ nI k ↔ x.toInt ≤ k := by rw [q_le, nI_toInt hk]
theorem i_gt {x : Int32} {k : Nat} (hk : k < 2 ^ 31) : nI k < x ↔ (k : Int) < x.toInt := by rw [q_lt, nI_toInt hk]
theorem i_ge {x : Int32} {k : Nat} (hk : k < 2 ^ 31) : nI k ≤ x ↔ (k : Int) ≤ x.toInt := by rw [q_le, nI_toInt hk]
theorem i_lt0 {x : Int32} : x < 0 ↔ x.toInt < 0 := i_lt (k := 0) (by omega)
theorem c_has (x : Int32) {n : Nat} (hn : n < 2 ^ 31) : f_X3_has x (nI n) = some (if 0 ≤ x.toInt ∧ x.toInt < n then 1 else 0) := by
  unfold f_X3_has J_X3_has_16
  simp only [show (x < 0) ↔ (x.toInt < 0) from i_lt0, show (nI n ≤ x) ↔ ((n : Int) ≤ x.toInt) from i_ge hn]
  by_cases h1 : x.toInt < 0
  · rw [if_pos h1, if_neg (by omega)]
  · by_cases h2 : (n : Int) ≤ x.toInt
    · rw [if_neg h1, if_pos h2, if_neg (by omega)]
    · rw [if_neg h1, if_neg h2, if_pos (by omega)]
theorem m_in_n (x : Int32) {n : Nat} (hn : n ≤ 5) : f_X8_in x.toInt64 (0 : Int64) ((nI n - 1).toInt64) = some (if 0 ≤ x.toInt ∧ x.toInt < n then 1 else 0) := by
  rw [m_in]
  have e : (nI n - 1).toInt64.toInt = (n : Int) - 1 := by
    rw [Int32.toInt_toInt64, show (1 : Int32) = nI 1 from rfl, pk_sub_toInt (by omega) (by omega)]; rfl
  have h1 : (0 : Int64) ≤ x.toInt64 ↔ 0 ≤ x.toInt := by
    rw [Int64.le_iff_toInt_le, Int32.toInt_toInt64]; exact Iff.rfl
  have h2 : x.toInt64 ≤ (nI n - 1).toInt64 ↔ x.toInt < n := by
    rw [Int64.le_iff_toInt_le, e, Int32.toInt_toInt64]; omega
  simp only [h1, h2]
theorem m_noWalker (x : Int32) {n : Nat} (hn : n ≤ 5) : f_X8_noWalker x (nI n) = some (if 0 ≤ x.toInt ∧ x.toInt < n then 0 else 1) := by
  unfold f_X8_noWalker
  rw [m_in_n x hn, ob]
  by_cases h : 0 ≤ x.toInt ∧ x.toInt < n
  · rw [if_pos h, if_pos h, if_neg (by decide)]
  · rw [if_neg h, if_neg h, if_pos rfl]
/-- THE TEXT -/
def RT (len : Int32) (L : Nat → Int32) (ts : Int32) (tx : Nat → Int32) : Prop := ∃ k, k ≤ 48 ∧ len = nI k ∧ ts = nI k ∧ AG k L tx
/-- MARKS -/
def RM (cnt : Int32) (tm tr : Nat → Int32) (ms : Int32) (st tt : Nat → Int32) : Prop := ∃ k, k ≤ 6 ∧ cnt = nI k ∧ ms = nI k ∧ AG k tm st ∧ AG k tr tt ∧ ∀ j, j < k → ∃ t, t ≤ 20 ∧ st j = nI t
theorem AG_upd {k : Nat} {f g : Nat → Int32} (h : AG k f g) (x : Int32) : AG (k + 1) (upd f k x) (upd g k x) := by
  intro j hj
  by_cases e : j = k
  · subst e; rw [q_us, q_us]
  · rw [q_un e, q_un e]; exact h j (by omega)
theorem op_write (x th : Int32) {len ts : Int32} {L tx : Nat → Int32} (h : RT len L ts tx) : ∃ r len' L' th' ts' tx', f_X7_write x len L = some (r, len', L') ∧ f_X8_write x th ts tx = some (r, th', ts', tx') ∧ RT len' L' ts' tx' := by
  obtain ⟨k, hk, rfl, rfl, hag⟩ := h
  unfold f_X7_write f_X8_write
  rw [show (0 : Int64) = lN 0 from rfl, show (255 : Int64) = lN 255 from rfl, m_in32 x 0 255 (by omega) (by omega), ob]
  simp only [show (x < 0) ↔ (x.toInt < 0) from i_lt0, show (x ≤ 255) ↔ (x.toInt ≤ (255 : Nat)) from i_le (k := 255) (by omega)]
  by_cases h1 : x.toInt < 0
  · rw [if_pos h1, if_pos (by rw [if_neg (by omega)])]
    exact ⟨_, _, _, _, _, _, rfl, rfl, k, hk, rfl, rfl, hag⟩
  · by_cases h2 : x.toInt ≤ (255 : Nat)
    · rw [if_neg h1, if_pos h2, if_neg (by rw [if_pos (by omega)]; decide)]
      unfold f_X5_isFull
      by_cases h3 : k < 48
      · rw [if_pos (show nI k < (48 : Int32) from nI_lt (b := 48) h3 (by omega)), ob, if_pos rfl]
        rw [if_neg (show ¬ nI k = (48 : Int32) from fun e => by have := (nI_eq (a := k) (b := 48) (by omega) (by omega)).mp e; omega)]
        unfold f_X5_append
        rw [q_put _ _ h3 (by omega), q_wr _ _ h3 (by omega), ob, ob, ob, nI_1]
        exact ⟨_, _, _, _, _, _, rfl, rfl, k + 1, by omega, rfl, rfl, AG_upd hag x⟩
      · have : k = 48 := by omega
        subst this
        rw [if_neg (show ¬ nI 48 < (48 : Int32) from by decide), ob, if_neg (by decide), if_pos (show nI 48 = (48 : Int32) from rfl)]
        exact ⟨_, _, _, _, _, _, rfl, rfl, 48, by omega, rfl, rfl, hag⟩
    · rw [if_neg h1, if_neg h2, if_pos (by rw [if_neg (by omega)])]
      exact ⟨_, _, _, _, _, _, rfl, rfl, k, hk, rfl, rfl, hag⟩
theorem op_wipe (th : Int32) {len ts : Int32} {L tx : Nat → Int32} (h : RT len L ts tx) : ∃ r len' th' ts', f_X7_wipe len = some (r, len') ∧ f_X8_wipe th ts = some (r, th', ts') ∧ RT len' L ts' tx := by
  obtain ⟨k, hk, rfl, rfl, hag⟩ := h
  exact ⟨_, _, _, _, rfl, rfl, 0, by omega, rfl, rfl, fun j hj => absurd hj (Nat.not_lt_zero _)⟩
theorem op_snowed (th : Int32) {c ms : Int32} {tm tr st tt : Nat → Int32} (h : RM c tm tr ms st tt) : ∃ r c' th' ms', f_X7_snowed c = some (r, c') ∧ f_X8_snowed th ms = some (r, th', ms') ∧ RM c' tm tr ms' st tt := by
  obtain ⟨k, hk, rfl, rfl, h1, h2, h3⟩ := h
  exact ⟨_, _, _, _, rfl, rfl, 0, by omega, rfl, rfl, fun j hj => absurd hj (Nat.not_lt_zero _), fun j hj => absurd hj (Nat.not_lt_zero _), fun j hj => absurd hj (Nat.not_lt_zero _)⟩
theorem op_seed (v : Int64) (th : Int32) (w : Int64) : ∃ r w' th', f_X7_seed v w = some (r, w') ∧ f_X8_seed v th w = some (r, th', w') := ⟨_, _, _, rfl, rfl⟩
theorem op_mark (x y th : Int32) {c ms : Int32} {tm tr st tt : Nat → Int32} (h : RM c tm tr ms st tt) : ∃ r c' tm' tr' th' ms' st' tt', f_X7_mark x y c tm tr = some (r, c', tm', tr') ∧ f_X8_mark x y th ms st tt = some (r, th', ms', st', tt') ∧ RM c' tm' tr' ms' st' tt' := by
  obtain ⟨k, hk, rfl, rfl, g1, g2, g3⟩ := h
  have same : RM (nI k) tm tr (nI k) st tt := ⟨k, hk, rfl, rfl, g1, g2, g3⟩
  unfold f_X7_mark f_X8_mark
  rw [show (0 : Int64) = lN 0 from rfl, show (20 : Int64) = lN 20 from rfl, show (12 : Int64) = lN 12 from rfl, m_in32 x 0 20 (by omega) (by omega), m_in32 y 0 12 (by omega) (by omega), ob, ob]
  simp only [show (x < 0) ↔ (x.toInt < 0) from i_lt0, show (y < 0) ↔ (y.toInt < 0) from i_lt0, show ((20 : Int32) < x) ↔ (((20 : Nat) : Int) < x.toInt) from i_gt (k := 20) (by omega), show (y ≤ 12) ↔ (y.toInt ≤ (12 : Nat)) from i_le (k := 12) (by omega)]
  by_cases h1 : x.toInt < 0
  · rw [if_pos h1, iv_f (c := ((0 : Nat) : Int) ≤ x.toInt ∧ x.toInt ≤ (20 : Nat)) (by omega), if_pos z00]
    exact ⟨_, _, _, _, _, _, _, _, rfl, rfl, same⟩
  · by_cases h2 : ((20 : Nat) : Int) < x.toInt
    · rw [if_neg h1, if_pos h2, iv_f (c := ((0 : Nat) : Int) ≤ x.toInt ∧ x.toInt ≤ (20 : Nat)) (by omega), if_pos z00]
      exact ⟨_, _, _, _, _, _, _, _, rfl, rfl, same⟩
    · rw [if_neg h1, if_neg h2, iv_t (c := ((0 : Nat) : Int) ≤ x.toInt ∧ x.toInt ≤ (20 : Nat)) (by omega), if_neg one0]
      by_cases h3 : y.toInt < 0
      · rw [if_pos h3, iv_f (c := ((0 : Nat) : Int) ≤ y.toInt ∧ y.toInt ≤ (12 : Nat)) (by omega), if_pos z00]
        exact ⟨_, _, _, _, _, _, _, _, rfl, rfl, same⟩
      · by_cases h4 : y.toInt ≤ (12 : Nat)
        · rw [if_neg h3, if_pos h4, iv_t (c := ((0 : Nat) : Int) ≤ y.toInt ∧ y.toInt ≤ (12 : Nat)) (by omega), if_neg one0]
          unfold f_X2_isFull
          by_cases h5 : k < 6
          · rw [if_pos (show nI k < (6 : Int32) from nI_lt (b := 6) h5 (by omega)), ob, if_pos z00]
            rw [if_neg (show ¬ nI k = (6 : Int32) from fun e => by have := (nI_eq (a := k) (b := 6) (by omega) (by omega)).mp e; omega)]
            unfold f_X2_append
            rw [q_put _ _ h5 (by omega), q_put _ _ h5 (by omega), q_wr _ _ h5 (by omega), q_wr _ _ h5 (by omega)]
            simp only [ob, nI_1]
            refine ⟨_, _, _, _, _, _, _, _, rfl, rfl, k + 1, by omega, rfl, rfl, AG_upd g1 x, AG_upd g2 y, fun j hj => ?_⟩
            by_cases e : j = k
            · subst e; rw [q_us]
              obtain ⟨t, -, t1, t2⟩ := i_of (x := x) (a := 0) (b := 20) (by omega) (by omega) (by omega)
              exact ⟨t, t1, t2⟩
            · rw [q_un e]; exact g3 j (by omega)
          · have : k = 6 := by omega
            subst this
            rw [if_neg (show ¬ nI 6 < (6 : Int32) from by decide), ob, if_neg one0, if_pos (show nI 6 = (6 : Int32) from rfl)]
            exact ⟨_, _, _, _, _, _, _, _, rfl, rfl, same⟩
        · rw [if_neg h3, if_neg h4, iv_f (c := ((0 : Nat) : Int) ≤ y.toInt ∧ y.toInt ≤ (12 : Nat)) (by omega), if_pos z00]
          exact ⟨_, _, _, _, _, _, _, _, rfl, rfl, same⟩
