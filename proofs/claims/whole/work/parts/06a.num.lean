/-! ===== numbers: small naturals as ints, arrays, one bit ===== -/
theorem fuel_lt {n : Nat} (h : n < 4000) : n < fuelC := h
theorem q_lit (n : Nat) : (OfNat.ofNat n : Int32) = nI n := rfl
theorem q_lt (a b : Int32) : a < b ↔ a.toInt < b.toInt := Int32.lt_iff_toInt_lt
theorem q_le (a b : Int32) : a ≤ b ↔ a.toInt ≤ b.toInt := Int32.le_iff_toInt_le
theorem q_eq (a b : Int32) : a = b ↔ a.toInt = b.toInt := Int32.toInt_inj.symm
theorem q_nlt {a b : Int32} : ¬ a < b ↔ b ≤ a := by rw [q_lt, q_le]; omega
theorem q_nle {a b : Int32} : ¬ a ≤ b ↔ b < a := by rw [q_lt, q_le]; omega
theorem q_add0 (a : Int32) : a + 0 = a := by simp
theorem q_0add (a : Int32) : 0 + a = a := by simp
theorem q_rd {n j : Nat} (a : Nat → Int32) (hj : j < n) (hn : n < 2 ^ 31) : rdI a n (nI j) = some (a j) := by
  unfold rdI; rw [if_neg (nI_in hj hn), nI_clamp (by omega)]
theorem q_wr {n j : Nat} (a : Nat → Int32) (v : Int32) (hj : j < n) (hn : n < 2 ^ 31) : wrI a n (nI j) v = some (upd a j v) := by
  unfold wrI; rw [if_neg (nI_in hj hn), nI_clamp (by omega)]
theorem q_at {n j : Nat} (a : Nat → Int32) (hj : j < n) (hn : n < 2 ^ 31) : f_X7_at (nI j) n a = some (a j) := by
  unfold f_X7_at
  rw [if_neg (nI_pos (by omega)), if_neg (show ¬ Int32.ofNat n ≤ nI j from nI_ge hj hn), q_rd a hj hn]; rfl
theorem q_put {n j : Nat} (a : Nat → Int32) (v : Int32) (hj : j < n) (hn : n < 2 ^ 31) : f_X7_put (nI j) v n a = some (upd a j v) := by
  unfold f_X7_put
  rw [if_neg (nI_pos (by omega)), if_neg (show ¬ Int32.ofNat n ≤ nI j from nI_ge hj hn), q_wr a v hj hn]; rfl
theorem q_add (a b : Nat) : nI a + nI b = nI (a + b) := nI_add a b
theorem q_us {f : Nat → Int32} {k : Nat} {x : Int32} : upd f k x k = x := pk_us
theorem q_un {f : Nat → Int32} {k j : Nat} {x : Int32} (h : j ≠ k) : upd f k x j = f j := pk_un h
theorem q_upd_same {f : Nat → Int32} {i : Nat} {x : Int32} (h : f i = x) : upd f i x = f := by
  funext j; unfold upd; by_cases c : j = i
  · rw [if_pos c, c, h]
  · rw [if_neg c]
theorem q_upd2 (f : Nat → Int32) (i : Nat) (x y : Int32) : upd (upd f i x) i y = upd f i y := by
  funext j; unfold upd; by_cases c : j = i <;> simp [c]
/-- a bit of a row of bits, as the code asks for it -/
def db (D : Int32) (w : Nat) : Int32 := (D >>> (nI w &&& 31)) &&& 1
theorem and1_01 (x : Int32) : x &&& 1 = 0 ∨ x &&& 1 = 1 := by
  obtain ⟨j, hj, h⟩ := pk_andE x (m := 1) 1 (by decide)
  rw [h]
  rcases (show j = 0 ∨ j = 1 by omega) with rfl | rfl
  · left; rfl
  · right; rfl
theorem db_01 (D : Int32) (w : Nat) : db D w = 0 ∨ db D w = 1 := and1_01 _
theorem db_n0 {D : Int32} {w : Nat} : ¬ db D w = 0 ↔ db D w = 1 := by
  rcases db_01 D w with h | h <;> rw [h] <;> decide
theorem c_isDown (D : Int32) (w : Nat) : f_X6_isDown (nI w) D = some (db D w) := by
  unfold f_X6_isDown
  show (if db D w = 0 then some (0 : Int32) else some 1) = _
  rcases db_01 D w with h | h <;> rw [h] <;> rfl
theorem m_has (D : Int32) (w : Nat) : f_X8_has D (nI w) = some (db D w) := by
  unfold f_X8_has
  show (if db D w = 1 then some (1 : Int32) else some 0) = _
  rcases db_01 D w with h | h <;> rw [h] <;> rfl
/-- remainders -/
def jr (a b : Int32) : Int32 := a - a / b * b
theorem jr_nI {a d : Nat} (ha : a < 2 ^ 31) (h0 : 0 < d) (hd : d < 2 ^ 31) : jr (nI a) (nI d) = nI (a % d) := pk_rem ha h0 hd
theorem q_and1 {t : Nat} (ht : t < 2 ^ 31) : nI t &&& 1 = jr (nI t) 2 := by
  rw [show (2 : Int32) = nI 2 from rfl, jr_nI ht (by omega) (by omega)]
  have h := pk_andN (n := t) (by omega) (m := 1) 1 (by decide)
  simpa using h
theorem q_ne0 {b : Nat} (h : 1 ≤ b) (hb : b < 2 ^ 31) : ¬ nI b = 0 := nI_ne0 (by omega) hb
/-- the tread of one alone -/
def trv (k s b t : Int32) : Int32 := if k = 1 then s - jr t 2 else if k = 2 then (if jr t b = 0 then s + 1 else s) else if k = 3 then s + jr t b else s
theorem c_treadAlone (k s : Int32) {b t : Nat} (hb : 1 ≤ b) (hb2 : b < 2 ^ 31) (ht : t < 2 ^ 31) : f_X7_treadAlone k s (nI b) (nI t) = some (trv k s (nI b) (nI t)) := by
  unfold f_X7_treadAlone J_X7_treadAlone_11 trv
  rw [if_neg (nI_nle (by omega) hb2), if_neg (q_ne0 hb hb2), q_and1 ht]
  show (if k = 1 then some (s - jr (nI t) 2) else if k = 2 then if jr (nI t) (nI b) = 0 then some (s + 1) else some (s + 0) else if k = 3 then some (s + jr (nI t) (nI b)) else some s) = _
  split
  · rfl
  · split
    · split <;> simp
    · split <;> rfl
theorem m_treadBy (k s : Int32) {b t : Nat} (hb : 1 ≤ b) (hb2 : b < 2 ^ 31) : f_X8_treadBy k s (nI b) (nI t) = some (trv k s (nI b) (nI t)) := by
  unfold f_X8_treadBy trv
  have h0 := q_ne0 hb hb2
  show (if k = 1 then some (s - jr (nI t) 2) else if k = 2 then if nI b = 0 then none else if jr (nI t) (nI b) = 0 then some (s + 1) else some s else if k = 3 then if nI b = 0 then none else some (s + jr (nI t) (nI b)) else some s) = _
  simp only [h0, if_false]
  split
  · rfl
  · split
    · split <;> rfl
    · split <;> rfl
theorem c_walkerAt (ln : Nat → Int32) {j : Nat} (hj : j < 5) : f_X6_walkerAt (nI j) ln = some (ln j) := by
  unfold f_X6_walkerAt; rw [q_at ln hj (by omega)]; rfl
theorem c_kindOf (K : Nat → Int32) {j : Nat} (hj : j < 5) : f_X3_kindOf (nI j) K = some (K j) := by
  unfold f_X3_kindOf; rw [q_at K hj (by omega)]; rfl
theorem c_beatOf (K : Nat → Int32) {j : Nat} (hj : j < 5) : f_X3_beatOf (nI j) K = some (K j) := by
  unfold f_X3_beatOf; rw [q_at K hj (by omega)]; rfl
theorem c_strideOf (K : Nat → Int32) {j : Nat} (hj : j < 5) : f_X6_strideOf (nI j) K = some (K j) := by
  unfold f_X6_strideOf; rw [q_at K hj (by omega)]; rfl
theorem c_strainOf (K : Nat → Int32) {j : Nat} (hj : j < 5) : f_X6_strainOf (nI j) K = some (K j) := by
  unfold f_X6_strainOf; rw [q_at K hj (by omega)]; rfl
theorem c_size (c : Int32) : f_X3_size c = some c := rfl
def snw (dep noo lat t : Int32) : Int32 := if t < noo then dep else lat
theorem c_snowAt (t d n b : Int32) : f_X3_snowAt t d n b = some (snw d n b t) := by
  unfold f_X3_snowAt snw; split <;> rfl
theorem m_snowAt (t d n b : Int32) : f_X8_snowAt t d n b = some (snw d n b t) := by
  unfold f_X8_snowAt snw
  by_cases h : t < n
  · rw [if_pos h, if_neg (q_nle.mpr h)]
  · rw [if_neg h, if_pos (q_nlt.mp h)]
