/-! ===== bits ===== -/
/-! ===== Int32 by its bits: bt x i ===== -/
def bt (x : Int32) (i : Nat) : Bool := x.toBitVec.getLsbD i
theorem b_ext {x y : Int32} (h : ∀ i, i < 32 → bt x i = bt y i) : x = y := Int32.toBitVec_inj.mp (BitVec.eq_of_getLsbD_eq (fun i hi => h i hi))
theorem b_or (x y : Int32) (i : Nat) : bt (x ||| y) i = (bt x i || bt y i) := by unfold bt; rw [Int32.toBitVec_or, BitVec.getLsbD_or]
theorem b_and (x y : Int32) (i : Nat) : bt (x &&& y) i = (bt x i && bt y i) := by unfold bt; rw [Int32.toBitVec_and, BitVec.getLsbD_and]
theorem b_xor (x y : Int32) (i : Nat) : bt (x ^^^ y) i = (bt x i ^^ bt y i) := by unfold bt; rw [Int32.toBitVec_xor, BitVec.getLsbD_xor]
theorem b_big {x : Int32} {i : Nat} (h : 32 ≤ i) : bt x i = false := BitVec.getLsbD_of_ge _ _ h
theorem b_m1 : ∀ i, i < 32 → bt (-1) i = true := by decide +kernel
theorem b_0 (i : Nat) : bt 0 i = false := BitVec.getLsbD_zero
theorem s_l : ∀ n, n < 32 → ((nI n &&& 31).toBitVec.smod 32).toNat = n := by decide +kernel
theorem s_u : ∀ n, n < 32 → (((nI n).toUInt32 &&& Int32.toUInt32 31).toBitVec % 32).toNat = n := by decide +kernel
theorem b_shl (n : Nat) (hn : n < 32) (x : Int32) {i : Nat} (hi : i < 32) : bt (x <<< (nI n &&& 31)) i = (decide (n ≤ i) && bt x (i - n)) := by
  unfold bt
  rw [Int32.toBitVec_shiftLeft]
  show (x.toBitVec <<< ((nI n &&& 31).toBitVec.smod 32).toNat).getLsbD i = _
  rw [s_l n hn, BitVec.getLsbD_shiftLeft]
  rcases Nat.lt_or_ge i n with h | h
  · simp [h, Nat.not_le.mpr h]
  · simp [hi, h, Nat.not_lt.mpr h]
theorem b_sshr (n : Nat) (hn : n < 32) (x : Int32) {i : Nat} (hi : i < 32) : bt (x >>> (nI n &&& 31)) i = if n + i < 32 then bt x (n + i) else bt x 31 := by
  unfold bt
  rw [Int32.toBitVec_shiftRight]
  show (x.toBitVec.sshiftRight ((nI n &&& 31).toBitVec.smod 32).toNat).getLsbD i = _
  rw [s_l n hn, BitVec.getLsbD_sshiftRight, BitVec.msb_eq_getLsbD_last]
  simp [hi]

theorem b_1 : ∀ i, i < 32 → bt 1 i = decide (i = 0) := by decide +kernel
theorem q_and (a b : Nat) : nI a &&& nI b = nI (a &&& b) := by
  apply Int32.toBitVec_inj.1
  show BitVec.ofNat 32 a &&& BitVec.ofNat 32 b = BitVec.ofNat 32 (a &&& b)
  apply BitVec.eq_of_getLsbD_eq
  intro i hi
  simp [hi]
theorem q_or (a b : Nat) : nI a ||| nI b = nI (a ||| b) := by
  apply Int32.toBitVec_inj.1
  show BitVec.ofNat 32 a ||| BitVec.ofNat 32 b = BitVec.ofNat 32 (a ||| b)
  apply BitVec.eq_of_getLsbD_eq
  intro i hi
  simp [hi]
theorem db_bt (D : Int32) {w : Nat} (hw : w < 31) : db D w = if bt D w then 1 else 0 := by
  apply b_ext
  intro i hi
  unfold db
  rw [b_and, b_sshr w (by omega) D hi, b_1 i hi]
  by_cases h0 : i = 0
  · subst h0
    rw [if_pos (by omega : w + 0 < 32), Nat.add_zero]
    cases bt D w <;> decide
  · have e0 : bt 0 i = false := b_0 i
    have e1 : bt 1 i = false := by rw [b_1 i hi]; simp [h0]
    cases h : bt D w <;> simp [h0, e0, e1]
theorem b_pow {k i : Nat} (hk : k < 32) (hi : i < 32) : bt ((1 : Int32) <<< (nI k &&& 31)) i = decide (i = k) := by
  rw [b_shl k hk 1 hi, b_1 (i - k) (by omega)]
  by_cases h : k ≤ i
  · by_cases h2 : i = k
    · subst h2; simp
    · have h3 : ¬ i - k = 0 := by omega
      simp [h2, h3]
  · have h2 : ¬ i = k := by omega
    simp [h, h2]
theorem db_or (D : Int32) {j k : Nat} (hj : j < 31) (hk : k < 31) : db (D ||| ((1 : Int32) <<< (nI k &&& 31))) j = if j = k then 1 else db D j := by
  rw [db_bt _ hj, db_bt _ hj, b_or, b_pow (by omega) (by omega)]
  by_cases h : j = k
  · simp [h]
  · simp [h]
theorem pow_w : ∀ w, w < 31 → (1 : Int32) <<< (nI w &&& 31) = nI (2 ^ w) := by decide +kernel
theorem or_lt {n d w : Nat} (hn : n < 31) (hd : d < 2 ^ n) (hw : w < n) : ∃ d', d' < 2 ^ n ∧ nI d ||| ((1 : Int32) <<< (nI w &&& 31)) = nI d' :=
  ⟨d ||| 2 ^ w, Nat.or_lt_two_pow hd (Nat.pow_lt_pow_right (by omega) hw), by rw [pow_w w (by omega), q_or]⟩
theorem wb32 (x : Int32) : ∃ k, k < 2 ^ 32 ∧ x = nI k := ⟨x.toBitVec.toNat, x.toBitVec.isLt, by
  apply Int32.toBitVec_inj.1
  show x.toBitVec = BitVec.ofNat 32 x.toBitVec.toNat
  simp⟩
theorem and_lt {n d : Nat} (hd : d < 2 ^ n) (x : Int32) : ∃ d', d' < 2 ^ n ∧ nI d &&& x = nI d' := by
  obtain ⟨k, -, rfl⟩ := wb32 x
  exact ⟨d &&& k, Nat.lt_of_le_of_lt Nat.and_le_left hd, q_and d k⟩
theorem and_lt2 {n d : Nat} (hd : d < 2 ^ n) (x : Int32) : ∃ d', d' < 2 ^ n ∧ x &&& nI d = nI d' := by
  obtain ⟨k, -, rfl⟩ := wb32 x
  exact ⟨k &&& d, Nat.lt_of_le_of_lt Nat.and_le_right hd, q_and k d⟩
theorem mask_n : ∀ n, n ≤ 5 → ((1 : Int32) <<< (nI n &&& 31)) - 1 = nI (2 ^ n - 1) := by decide +kernel
theorem sb_lt {n : Nat} (hn : n ≤ 5) (D : Int32) : ∃ k, k < 2 ^ n ∧ sb n D = nI k := by
  unfold sb
  rw [mask_n n hn]
  exact and_lt (by have := Nat.two_pow_pos n; omega) _
/-- how many bits of the lowest five -/
def pc (x : Int32) : Int32 := ((((0 + db x 0) + db x 1) + db x 2) + db x 3) + db x 4
theorem m_many_loop (x : Int32) : ∀ fu, 5 < fu → L_X8_many_4 x fu 0 0 = some (pc x) := by
  intro fu hf
  obtain ⟨f, rfl⟩ : ∃ f, fu = f + 1 + 1 + 1 + 1 + 1 + 1 := ⟨fu - 6, by omega⟩
  rw [L_X8_many_4, if_neg (by decide), L_X8_many_4, if_neg (by decide), L_X8_many_4, if_neg (by decide), L_X8_many_4, if_neg (by decide), L_X8_many_4, if_neg (by decide), L_X8_many_4, if_pos (by decide)]
  rfl
theorem m_many (x : Int32) : f_X8_many x = some (pc x) := by
  unfold f_X8_many
  exact m_many_loop x fuelC (fuel_lt (by omega))
theorem c_bitCount : ∀ k, k < 32 → f_J6_bitCount_0f7a4 (nI k) = some (pc (nI k)) := by decide +kernel
theorem p2_32 {n : Nat} (hn : n ≤ 5) : 2 ^ n ≤ 32 := by
  have : 2 ^ n ≤ 2 ^ 5 := Nat.pow_le_pow_right (by omega) hn
  omega
theorem c_standing (D : Int32) {n : Nat} (hn : n ≤ 5) : f_X6_standing D (nI n) = some (pc (sb n D)) := by
  unfold f_X6_standing
  obtain ⟨k, h1, h2⟩ := sb_lt hn D
  have := p2_32 hn
  rw [c_standingBits, ob, h2, c_bitCount k (by omega), ob]
theorem gl_lt {n : Nat} {K al : Nat → Int32} {ln : Nat → Nat} {snow : Int32} (hn : n < 31) (hl : ∀ j, j < n → ln j < n) : ∀ (r j : Nat) (ah : Option Int32) (d : Nat) (c : Int32), j + r ≤ n → d < 2 ^ n → ∃ d', d' < 2 ^ n ∧ (gl K al ln snow r j ah (nI d) c).2 = nI d'
  | 0, _, _, d, _, _, hd => ⟨d, hd, rfl⟩
  | r + 1, j, ah, d, c, hj, hd => by
    have ih := fun ah d c => gl_lt (K := K) (al := al) (snow := snow) hn hl r (j + 1) ah d c (by omega)
    by_cases h : db (nI d) (ln j) = 0
    · obtain ⟨d2, h2, e2⟩ := or_lt (w := ln j) hn hd (hl j (by omega))
      cases ah with
      | none =>
        rw [gl_none h, e2]
        split
        · exact ih _ _ _ hd
        · exact ih _ _ _ h2
      | some a =>
        rw [gl_some h, e2]
        split
        · exact ih _ _ _ hd
        · exact ih _ _ _ h2
    · rw [gl_down h]
      exact ih _ _ _ hd
