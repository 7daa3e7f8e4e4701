/-! ===== walker, likes, fallsIn, ahead, drops ===== -/
theorem c_treadOf_loop {n t x : Nat} (K S B line : Nat → Int32) (ln : Nat → Nat) (D : Int32) (hn : n ≤ 5) (ht : t < 2 ^ 31) (hx : x < 5) (hl : ∀ j, j < n → ln j < n ∧ line j = nI (ln j)) (hB : ∀ w, w < n → ∃ b, 1 ≤ b ∧ b ≤ 4 ∧ B w = nI b) :
    ∀ (r j fu : Nat) (ah : Option Int32) (som tre : Int32), j + r = n → r < fu → ahC ah som tre → L_X6_treadOf_7 (nI x) D (nI t) (nI n) line K S B fu som tre (nI j) = some (tnw K (alv K S B (nI t) 0) ln D x r j ah)
  | r, j, 0, _, _, _, _, h, _ => absurd h (Nat.not_lt_zero _)
  | 0, j, fu + 1, ah, som, tre, hj, hf, hah => by
    rw [L_X6_treadOf_7, c_size, ob, if_pos (nI_le (by omega) (by omega))]; rfl
  | r + 1, j, fu + 1, ah, som, tre, hj, hf, hah => by
    obtain ⟨h1, h2⟩ := hl j (by omega)
    have ih := fun ah som tre h => c_treadOf_loop K S B line ln D hn ht hx hl hB r (j + 1) fu ah som tre (by omega) (by omega) h
    rw [L_X6_treadOf_7, c_size, ob, if_neg (nI_ge (by omega) (by omega)), c_walkerAt line (by omega), ob, h2, c_isDown, ob]
    unfold J_X6_treadOf_56
    rw [nI_1]
    conv => rhs; unfold tnw
    by_cases hd : db D (ln j) = 0
    · rw [if_pos hd, if_pos hd, c_treadBehind K S B som tre 0 ah hah (by omega) (hB _ h1) ht, ob]
      by_cases hw : ln j = x
      · rw [if_pos hw, if_pos (by rw [hw])]
        cases ah <;> rfl
      · rw [if_neg hw, if_neg (fun e => hw ((nI_eq (by omega) (by omega)).mp e))]
        refine (ih (some _) 1 _ ⟨rfl, rfl⟩).trans ?_
        cases ah <;> rfl
    · rw [if_neg hd, if_neg hd]
      exact ih ah som tre hah
theorem m_treadNow_loop {n t x : Nat} (K B P : Nat → Int32) (ln : Nat → Nat) (D : Int32) (hn : n ≤ 5) (ht : t < 2 ^ 31) (hx : x < 5) (h16 : P 16 = nI t) (h15 : P 15 = D) (hl : ∀ j, j < n → ln j < n ∧ P j = nI (ln j)) (hR : RP n K B) (hS : SOK n (fun w => P (5 + w))) :
    ∀ (r j fu : Nat) (ah : Option Int32) (fo : Int32), j + r = n → r < fu → (∀ a, ah = some a → ¬ a = -9) → L_X8_treadNow_9 (nI x) (nI n) 0 P K B fu (ah.getD (-9)) fo (nI j) = some (tnm K (alv K (fun w => P (5 + w)) B (nI t) 0) ln D x r j ah fo)
  | r, j, 0, _, _, _, h, _ => absurd h (Nat.not_lt_zero _)
  | 0, j, fu + 1, ah, fo, hj, hf, hah => by
    rw [L_X8_treadNow_9, if_pos (nI_le (by omega) (by omega))]; rfl
  | r + 1, j, fu + 1, ah, fo, hj, hf, hah => by
    obtain ⟨h1, h2⟩ := hl j (by omega)
    have ih := fun ah fo h => m_treadNow_loop K B P ln D hn ht hx h16 h15 hl hR hS r (j + 1) fu ah fo (by omega) (by omega) h
    obtain ⟨v, v1, v2⟩ := alv_ne (K := K) (S := fun w => P (5 + w)) (B := B) (stm := 0) (hR.2.2 _ h1) (hS _ h1) (hR.2.1 _ h1) ht
    have htr := m_treads K P B (N := 17) (t := t) 0 ah (by omega) (by omega) h16 (by omega : ln j < 5) (hR.2.1 _ h1) hah
    rw [L_X8_treadNow_9, if_neg (nI_ge (by omega) (by omega)), q_0add, rdp j (by omega), ob, h2, show (15 : Int32) = nI 15 from rfl, rdp 15 (by omega), ob, h15, m_has, ob]
    unfold J_X8_treadNow_67 J_X8_treadNow_68
    rw [nI_1]
    conv => rhs; unfold tnm
    by_cases hd : db D (ln j) = 0
    · rw [if_pos hd, if_pos hd, htr, ob]
      have hne : ∀ a, some (match ah with
        | none => alv K (fun w => P (5 + w)) B (nI t) 0 (ln j)
        | some a => if K (ln j) = 2 then a else alv K (fun w => P (5 + w)) B (nI t) 0 (ln j)) = some a → ¬ a = -9 := by
        intro a e
        rw [← Option.some.inj e]
        cases ah with
        | none => dsimp only; rw [v2]; exact nI_ne9 (by omega)
        | some b =>
          dsimp only
          split
          · exact hah b rfl
          · rw [v2]; exact nI_ne9 (by omega)
      by_cases hw : ln j = x
      · rw [if_pos (by rw [hw]), if_pos hw]
        have := ih (some _) (match ah with
        | none => alv K (fun w => P (5 + w)) B (nI t) 0 (ln j)
        | some a => if K (ln j) = 2 then a else alv K (fun w => P (5 + w)) B (nI t) 0 (ln j)) hne
        cases ah <;> exact this
      · rw [if_neg (fun e => hw ((nI_eq (by omega) (by omega)).mp e)), if_neg hw]
        have := ih (some _) fo hne
        cases ah <;> exact this
    · rw [if_neg hd, if_neg hd]
      exact ih ah fo hah
theorem tnw_congr {n : Nat} {K K' al al' : Nat → Int32} {ln : Nat → Nat} {D : Int32} {x : Nat} (hl : ∀ j, j < n → ln j < n) (hK : ∀ w, w < n → K w = K' w ∧ al w = al' w) : ∀ (r j : Nat) (ah : Option Int32), j + r ≤ n → tnw K al ln D x r j ah = tnw K' al' ln D x r j ah
  | 0, _, _, _ => rfl
  | r + 1, j, ah, h => by
    have ih := fun ah => tnw_congr (D := D) (x := x) hl hK r (j + 1) ah (by omega)
    obtain ⟨e1, e2⟩ := hK (ln j) (hl j (by omega))
    unfold tnw
    rw [← e1, ← e2]
    simp only [ih]
theorem tread_eq {n T x : Nat} {tc dC nC lC wM dM nM lM td tst : Int32} {kC bC kM bM lnC sC srC P : Nat → Int32} (hP : PTY n tc dC nC lC kC bC wM dM nM lM kM bM) (hY : RY n lnC sC srC td tst P) (hG : GP n T P) (hT : T < 2 ^ 20) (hx : x < n) :
    ∃ r, f_X6_treadOf (nI x) td tst tc lnC kC sC bC = some r ∧ f_X8_treadNow (nI x) wM 0 P kM bM = some r := by
  obtain ⟨rfl, rfl, rfl, rfl, rfl, hk, hb, hR⟩ := hP
  obtain ⟨y1, y2, y3, rfl, rfl⟩ := hY
  have hS := hG.sok
  obtain ⟨⟨ln, hl⟩, g2, g3, ⟨t, ht, h16⟩, -⟩ := hG
  have hn := hR.1
  refine ⟨tnw kM (alv kM (fun w => P (5 + w)) bM (nI t) 0) ln (P 15) x n 0 none, ?_, ?_⟩
  · unfold f_X6_treadOf
    have h := c_treadOf_loop (x := x) kC sC bC lnC ln (P 15) hn (by omega : t < 2 ^ 31) (by omega) (fun j hj => ⟨(hl.1 j hj).1, by rw [y1 j hj]; exact (hl.1 j hj).2⟩) (fun w hw => by rw [hb w hw]; exact hR.2.1 w hw) n 0 fuelC none 0 0 (by omega) (fuel_lt (by omega)) rfl
    rw [nI_0] at h
    rw [h16, h, tnw_congr (fun j hj => (hl.1 j hj).1) (alv_congr hk y2 hb) n 0 none (by omega)]
  · unfold f_X8_treadNow
    have h := m_treadNow_loop (x := x) kM bM P ln (P 15) hn (by omega : t < 2 ^ 31) (by omega) h16 rfl hl.1 hR hS n 0 fuelC none (-9) (by omega) (fuel_lt (by omega)) (fun _ h => by cases h)
    rw [nI_0, tnm_tnw kM _ ln (P 15) x hl.2 n 0 none (by omega)] at h
    exact h
theorem op_walker (x y th stm : Int32) {n T : Nat} {tc dC nC lC wM dM nM lM td tst : Int32} {kC bC kM bM lnC sC srC P : Nat → Int32} (hP : PTY n tc dC nC lC kC bC wM dM nM lM kM bM) (hY : RY n lnC sC srC td tst P) (hG : GP n T P) (hT : T < 2 ^ 20) :
    ∃ r th' stm', f_X7_walker x y tc td tst lnC kC sC bC srC = some r ∧ f_X8_walker x y th wM stm P kM bM = some (r, th', stm') := by
  have hP0 := hP
  have hY0 := hY
  obtain ⟨rfl, rfl, rfl, rfl, rfl, hk, hb, hR⟩ := hP
  obtain ⟨y1, y2, y3, rfl, rfl⟩ := hY
  have hn := hR.1
  unfold f_X7_walker f_X8_walker
  rw [c_has x (by omega), m_noWalker x hn, ob, ob]
  by_cases h : 0 ≤ x.toInt ∧ x.toInt < n
  · obtain ⟨j, -, h4, rfl⟩ := i_of (x := x) (a := 0) (b := n - 1) (by omega) (by omega) (by omega)
    have hj : j < n := by omega
    obtain ⟨tr, t1, t2⟩ := tread_eq hP0 hY0 hG hT hj
    obtain ⟨ln, hl⟩ := hG.1
    obtain ⟨i, -, -, p1, p2⟩ := place_eq hn hl y1 hj (N := 17) (by omega) (by omega)
    rw [iv_t h, if_neg one0, if_pos h, if_pos z00]
    rw [t1, t2, p1, p2, c_strideOf sC (by omega), c_beatOf bC (by omega), c_kindOf kC (by omega), c_strainOf srC (by omega), c_isDown]
    rw [show (5 : Int32) + nI j = nI (5 + j) from nI_add 5 j, show (10 : Int32) + nI j = nI (10 + j) from nI_add 10 j, show (15 : Int32) = nI 15 from rfl, rdp (5 + j) (by omega), rdp (10 + j) (by omega), rdp 15 (by omega), q_rd bM (by omega) (by omega), q_rd kM (by omega) (by omega)]
    simp only [ob]
    rw [hk j hj, hb j hj, y2 j hj, y3 j hj]
    have e15 : ((P 15 >>> (nI j &&& 31)) &&& 1) = db (P 15) j := rfl
    rw [e15]
    have e4 : (if db (P 15) j = 0 then some (0 : Int32) else some 1) = some (db (P 15) j) := by
      rcases db_01 (P 15) j with h | h <;> rw [h] <;> rfl
    rw [e4]
    repeat' split
    all_goals exact ⟨_, _, _, rfl, rfl⟩
  · rw [iv_f h, if_pos z00, if_neg h, if_neg one0]
    exact ⟨_, _, _, rfl, rfl⟩
theorem likes_loop (t d n l th : Int32) {P : Nat → Int32} (h16 : P 16 = t) : ∀ (k j fu fu' : Nat) (x : Int32), j + k = 6 → k < fu → k < fu' → ∃ r, L_X1_likedTread_5 t d n l fu x (nI j) = some r ∧ L_X8_likes_10 th d n l P fu' x (nI j) = some (r, th)
  | k, j, 0, _, _, _, h, _ => absurd h (Nat.not_lt_zero _)
  | k, j, _, 0, _, _, _, h => absurd h (Nat.not_lt_zero _)
  | 0, j, fu + 1, fu' + 1, x, hj, _, _ => by
    have : j = 6 := by omega
    subst this
    rw [L_X1_likedTread_5, L_X8_likes_10, if_pos (by decide), if_pos (by decide)]
    exact ⟨x, rfl, rfl⟩
  | k + 1, j, fu + 1, fu' + 1, x, hj, hf, hf' => by
    have ih := fun x => likes_loop t d n l th h16 k (j + 1) fu fu' x (by omega) (by omega) (by omega)
    rw [L_X1_likedTread_5, L_X8_likes_10, if_neg (show ¬ (6 : Int32) ≤ nI j from nI_ge (b := 6) (by omega) (by omega)), if_neg (show ¬ (6 : Int32) ≤ nI j from nI_ge (b := 6) (by omega) (by omega))]
    rw [show (16 : Int32) = nI 16 from rfl, rdp 16 (by omega), h16, show f_X6_stepNumber t = some t from rfl, ob, ob, c_snowAt, m_snowAt, ob, ob]
    unfold J_X8_likes_40
    rw [nI_1]
    by_cases h : snw d n l (t + nI j) < x
    · rw [if_pos h, if_neg (q_nle.mpr h)]
      exact ih _
    · rw [if_neg h, if_pos (q_nlt.mp h)]
      exact ih _
theorem op_likes (th : Int32) {n : Nat} {tc dC nC lC wM dM nM lM td tst : Int32} {kC bC kM bM lnC sC srC P : Nat → Int32} (hP : PTY n tc dC nC lC kC bC wM dM nM lM kM bM) (hY : RY n lnC sC srC td tst P) :
    ∃ r th', f_X7_likes tst dC nC lC = some r ∧ f_X8_likes th dM nM lM P = some (r, th') := by
  obtain ⟨-, -, rfl, rfl, rfl, -, -, -⟩ := hP
  obtain ⟨-, -, -, -, rfl⟩ := hY
  obtain ⟨r, h1, h2⟩ := likes_loop (P 16) dC nC lC 0 rfl 6 0 fuelC fuelC 9 rfl (fuel_lt (by omega)) (fuel_lt (by omega))
  rw [nI_0] at h1 h2
  refine ⟨r, 0, ?_, ?_⟩
  · unfold f_X7_likes f_X1_likedTread
    rw [h1, ob]
  · unfold f_X8_likes
    exact h2
theorem sub0 (a b : Int32) : a - b = 0 ↔ a = b := by
  constructor
  · intro h
    have := Int32.sub_add_cancel a b
    rw [h] at this
    rw [← this, q_0add]
  · intro h; rw [h]; simp
theorem falls_loop {n t x y : Nat} {K B Kc Bc Sc P : Nat → Int32} (th : Int32) (hR : RP n K B) (hK : AG n Kc K) (hB : AG n Bc B) (hS : AG n Sc (fun w => P (5 + w))) (h16 : P 16 = nI t) (ht : t < 2 ^ 20) (hx : x < n) (hy : y < n) : ∀ (k j fu fu' : Nat), j + k = 25 → k < fu → k < fu' → ∃ r, L_X1_meeting_2 (nI x) (nI y) (nI t) Kc Sc Bc fu (nI j) = some r ∧ L_X8_fallsIn_33 (nI x) (nI y) th P K B fu' (nI j) = some (r, th)
  | k, j, 0, _, _, h, _ => absurd h (Nat.not_lt_zero _)
  | k, j, _, 0, _, _, h => absurd h (Nat.not_lt_zero _)
  | 0, j, fu + 1, fu' + 1, hj, _, _ => by
    have : j = 25 := by omega
    subst this
    rw [L_X1_meeting_2, L_X8_fallsIn_33, if_pos (by decide), if_pos (by decide)]
    exact ⟨_, rfl, rfl⟩
  | k + 1, j, fu + 1, fu' + 1, hj, hf, hf' => by
    have hn := hR.1
    have ih := falls_loop (x := x) (y := y) th hR hK hB hS h16 ht hx hy k (j + 1) fu fu' (by omega) (by omega) (by omega)
    have hBc : ∀ w, w < n → ∃ b, 1 ≤ b ∧ b ≤ 4 ∧ Bc w = nI b := fun w hw => by rw [hB w hw]; exact hR.2.1 w hw
    rw [L_X1_meeting_2, L_X8_fallsIn_33, if_neg (show ¬ (24 : Int32) < nI j from nI_nlt (b := j) (a := 24) (by omega) (by omega)), if_neg (show ¬ (24 : Int32) < nI j from nI_nlt (b := j) (a := 24) (by omega) (by omega))]
    unfold f_X1_apart
    rw [show (16 : Int32) = nI 16 from rfl, rdp 16 (by omega), h16, show f_X6_stepNumber (nI t) = some (nI t) from rfl]
    simp only [ob, nI_add]
    rw [c_treadOfOne Kc Sc Bc (by omega) (hBc y hy) (by omega), c_treadOfOne Kc Sc Bc (by omega) (hBc x hx) (by omega), m_alone K P B (by omega) (by omega) (by omega) (hR.2.1 x hx)]
    simp only [ob, nI_1]
    rw [m_alone K P B (by omega) (by omega) (by omega) (hR.2.1 y hy)]
    simp only [ob]
    rw [hK x hx, hK y hy, hB x hx, hB y hy, hS x hx, hS y hy]
    dsimp only
    by_cases h : trv (K y) (P (5 + y)) (B y) (nI (t + j)) = trv (K x) (P (5 + x)) (B x) (nI (t + j))
    · rw [if_pos ((sub0 _ _).mpr h), if_pos h.symm]
      exact ⟨_, rfl, rfl⟩
    · rw [if_neg (fun e => h ((sub0 _ _).mp e)), if_neg (fun e => h e.symm)]
      exact ih
theorem op_fallsIn (x y th : Int32) {n T : Nat} {tc dC nC lC wM dM nM lM td tst : Int32} {kC bC kM bM lnC sC srC P : Nat → Int32} (hP : PTY n tc dC nC lC kC bC wM dM nM lM kM bM) (hY : RY n lnC sC srC td tst P) (hG : GP n T P) (hT : T < 2 ^ 19) :
    ∃ r th', f_X7_fallsIn x y tc tst kC sC bC = some r ∧ f_X8_fallsIn x y th wM P kM bM = some (r, th') := by
  obtain ⟨rfl, rfl, rfl, rfl, rfl, hk, hb, hR⟩ := hP
  obtain ⟨y1, y2, y3, rfl, rfl⟩ := hY
  obtain ⟨-, -, -, ⟨t, ht, h16⟩, -⟩ := hG
  have hn := hR.1
  unfold f_X7_fallsIn f_X8_fallsIn
  rw [c_has x (by omega), m_noWalker x hn, ob, ob]
  by_cases h : 0 ≤ x.toInt ∧ x.toInt < n
  · rw [iv_t h, if_neg one0, if_pos h, if_pos z00, c_has y (by omega), m_noWalker y hn, ob, ob]
    by_cases h2 : 0 ≤ y.toInt ∧ y.toInt < n
    · rw [iv_t h2, if_neg one0, if_pos h2, if_pos z00]
      by_cases h3 : x = y
      · rw [if_pos h3, if_pos h3]
        exact ⟨_, _, rfl, rfl⟩
      · obtain ⟨j, -, j1, rfl⟩ := i_of (x := x) (a := 0) (b := n - 1) (by omega) (by omega) (by omega)
        obtain ⟨i, -, i1, rfl⟩ := i_of (x := y) (a := 0) (b := n - 1) (by omega) (by omega) (by omega)
        obtain ⟨r, r1, r2⟩ := falls_loop (x := j) (y := i) 0 hR hk hb y2 h16 (by omega) (by omega) (by omega) 25 0 fuelC fuelC rfl (fuel_lt (by omega)) (fuel_lt (by omega))
        rw [nI_0] at r1 r2
        rw [if_neg h3, if_neg h3]
        unfold f_X1_meeting
        rw [h16, r1, ob]
        exact ⟨r, 0, rfl, r2⟩
    · rw [iv_f h2, if_pos z00, if_neg h2, if_neg one0]
      exact ⟨_, _, rfl, rfl⟩
  · rw [iv_f h, if_pos z00, if_neg h, if_neg one0]
    exact ⟨_, _, rfl, rfl⟩
