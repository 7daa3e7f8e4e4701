/-! ===== share ===== -/
def DA (n : Nat) (D D' : Int32) : Prop := ∀ w, w < n → bt D w = bt D' w
theorem DA.db {n : Nat} {D D' : Int32} (hn : n ≤ 5) (h : DA n D D') {w : Nat} (hw : w < n) : db D w = db D' w := by rw [db_bt D (by omega), db_bt D' (by omega), h w hw]
theorem DA.or {n : Nat} {D D' : Int32} (h : DA n D D') (x : Int32) : DA n (D ||| x) (D' ||| x) := fun w hw => by rw [b_or, b_or, h w hw]
theorem gl_DA {n : Nat} {K al : Nat → Int32} {ln : Nat → Nat} {snow : Int32} (hn : n ≤ 5) (hl : ∀ j, j < n → ln j < n) : ∀ (r j : Nat) (ah : Option Int32) (D D' c : Int32), j + r ≤ n → DA n D D' → DA n (gl K al ln snow r j ah D c).2 (gl K al ln snow r j ah D' c).2
  | 0, _, _, _, _, _, _, h => h
  | r + 1, j, ah, D, D', c, hj, h => by
    have ih := fun ah D D' c => gl_DA (K := K) (al := al) (snow := snow) hn hl r (j + 1) ah D D' c (by omega)
    have e := h.db hn (hl j (by omega))
    by_cases hd : db D (ln j) = 0
    · have hd' : db D' (ln j) = 0 := e ▸ hd
      cases ah with
      | none =>
        rw [gl_none hd, gl_none hd']
        split
        · exact ih _ _ _ _ h
        · exact ih _ _ _ _ (h.or _)
      | some a =>
        rw [gl_some hd, gl_some hd']
        split
        · exact ih _ _ _ _ h
        · exact ih _ _ _ _ (h.or _)
    · have hd' : ¬ db D' (ln j) = 0 := e ▸ hd
      rw [gl_down hd, gl_down hd']
      exact ih _ _ _ _ h
theorem gs_DA {n : Nat} {ln : Nat → Nat} {K S B : Nat → Int32} {stm dep noo lat : Int32} (hn : n ≤ 5) (hl : ∀ j, j < n → ln j < n) : ∀ (k t : Nat) (D D' : Int32), DA n D D' → DA n (gs n ln K S B stm dep noo lat k D t) (gs n ln K S B stm dep noo lat k D' t)
  | 0, _, _, _, h => h
  | k + 1, t, D, D', h => by
    rw [gs, gs]
    exact gs_DA hn hl k (t + 1) _ _ (gl_DA hn hl n 0 none D D' 0 (by omega) h)
theorem b_mask : ∀ n, n ≤ 5 → ∀ i, i < 32 → bt (((1 : Int32) <<< (nI n &&& 31)) - 1) i = decide (i < n) := by decide +kernel
theorem sb_DA {n : Nat} {D D' : Int32} (hn : n ≤ 5) (h : DA n D D') : sb n D = sb n D' := by
  apply b_ext
  intro i hi
  unfold sb
  rw [b_and, b_and, b_mask n hn i hi, b_xor, b_xor]
  by_cases hin : i < n
  · rw [h i hin]
  · rw [decide_eq_false hin]; rfl
theorem DA_mask {n : Nat} (hn : n ≤ 5) (D x : Int32) : DA n (D ||| x) (D ||| ((((1 : Int32) <<< (nI n &&& 31)) - 1) &&& x)) := fun w hw => by
  rw [b_or, b_or, b_and, b_mask n hn w (by omega), decide_eq_true hw, Bool.true_and]
def fn (k : Nat) : Nat := match k with
  | 0 => 1
  | 1 => 1
  | 2 => 2
  | 3 => 6
  | 4 => 24
  | _ => 120
theorem fn_le (k : Nat) : fn k ≤ 120 ∧ 0 < fn k := by unfold fn; split <;> omega
theorem ways_at : ∀ k, k < 6 → f_X8_ways (nI k) = some (nI (fn k)) ∧ f_X7_at (nI k) 6 fF = some (nI (fn k)) := by decide +kernel
theorem pc_not : ∀ n, n < 6 → ∀ S, S < 2 ^ n → ∀ w, w < n → db (nI S) w = 0 → (pc (nI S)).toNatClampNeg + 1 ≤ n := by decide +kernel
theorem pc_nat {n : Nat} (hn : n ≤ 5) (D : Int32) : ∃ v, v ≤ 5 ∧ pc (sb n D) = nI v := by
  obtain ⟨k, h1, h2⟩ := sb_lt hn D
  obtain ⟨p1, p2, -⟩ := lk_all n (by omega) k h1 0 (by omega)
  exact ⟨(pc (nI k)).toNatClampNeg, by omega, by rw [h2]; exact p1⟩
theorem term_bound {p a b : Nat} (hp : p ≤ 14400) (ha : a ≤ 5) (hb : b ≤ 5) : -100000 ≤ (nI p * (nI a - nI b)).toInt ∧ (nI p * (nI a - nI b)).toInt ≤ 100000 := by
  have h : -100000 ≤ (p : Int) * ((a : Int) - b) ∧ (p : Int) * ((a : Int) - b) ≤ 100000 := by
    have : (a : Int) - b = -5 ∨ (a : Int) - b = -4 ∨ (a : Int) - b = -3 ∨ (a : Int) - b = -2 ∨ (a : Int) - b = -1 ∨ (a : Int) - b = 0 ∨ (a : Int) - b = 1 ∨ (a : Int) - b = 2 ∨ (a : Int) - b = 3 ∨ (a : Int) - b = 4 ∨ (a : Int) - b = 5 := by omega
    rcases this with e | e | e | e | e | e | e | e | e | e | e <;> rw [e] <;> omega
  rw [Int32.toInt_mul, nI_toInt (by omega), pk_sub_toInt (by omega) (by omega), Int.bmod_eq_of_le (by omega) (by omega)]
  exact h
theorem add_bound {x y : Int32} {A : Int} (hA : A ≤ 100000 * 40) (h1 : -A ≤ x.toInt) (h2 : x.toInt ≤ A) (h3 : -100000 ≤ y.toInt) (h4 : y.toInt ≤ 100000) : -(A + 100000) ≤ (x + y).toInt ∧ (x + y).toInt ≤ A + 100000 := by
  rw [Int32.toInt_add, Int.bmod_eq_of_le (by omega) (by omega)]
  omega
/-- the value of those that came -/
def vS (n t : Nat) (ln : Nat → Nat) (K S B : Nat → Int32) (dep noo lat D : Int32) (c : Nat) : Int32 := pc (sb n (gs n ln K S B 0 dep noo lat 6 (D ||| (nI c ^^^ (-1))) t))
theorem c_standingOf (c : Nat) {n t : Nat} {ln : Nat → Nat} {kC bC kM bM lnC sC srC P : Nat → Int32} {dC nC lC : Int32} (hR : RP n kM bM) (hl : LN n ln P) (ht : t < 2 ^ 20) (y1 : AG n lnC P) (y2 : AG n sC (fun w => P (5 + w))) (hk : AG n kC kM) (hb : AG n bC bM) (fd fs D : Int32) (fl fst fsr : Nat → Int32) :
    ∃ fd' fs' fl' fst' fsr', f_X1_standingOf (nI c) fd fs D (nI t) lnC fl sC fst srC fsr (nI n) dC nC lC kC bC = some (vS n t ln kM (fun w => P (5 + w)) bM dC nC lC D c, fd', fs', fl', fst', fsr') := by
  have hn := hR.1
  have hC := c_goOn n 6 t ln kM (fun w => P (5 + w)) bM kC (cpy 5 sC fst) bC (cpy 5 lnC fl) dC nC lC (D ||| (nI c ^^^ (-1))) hR (fun j hj => ⟨(hl.1 j hj).1, by rw [AG_cpy hn lnC fl j hj, y1 j hj]; exact (hl.1 j hj).2⟩) hk ((AG_cpy hn sC fst).tr y2) hb (by omega) ht
  unfold f_X1_standingOf f_X6_leaveOnly
  rw [c_copyFrom, ob]
  dsimp only
  rw [ob, show (6 : Int32) = nI 6 from rfl, hC, ob]
  dsimp only
  rw [c_standing _ hn, ob]
  exact ⟨_, _, _, _, _, rfl⟩
theorem sh_loop1 (w : Nat) (u th : Int32) {n t : Nat} {ln : Nat → Nat} {kM bM P : Nat → Int32} {dC nC lC : Int32} (hR : RP n kM bM) (hl : LN n ln P) (h16 : P 16 = nI t) (ht : t < 2 ^ 20) (hS : SOK n (fun w => P (5 + w))) :
    ∀ (k i fu : Nat) (stm : Int32) (Q V : Nat → Int32), i + k = 2 ^ n → k < fu → (∀ c, c < i → V c = vS n t ln kM (fun w => P (5 + w)) bM dC nC lC (P 15) c) →
    ∃ stm' Q' V', (∀ c, c < 2 ^ n → V' c = vS n t ln kM (fun w => P (5 + w)) bM dC nC lC (P 15) c) ∧ L_X8_share_17 (nI w) u th dC nC lC (nI n) P kM bM fu (nI i) stm Q V = L_X8_share_87 (nI w) u th (nI n) stm' Q' V' fuelC 0 0
  | k, i, 0, _, _, _, _, h, _ => absurd h (Nat.not_lt_zero _)
  | 0, i, fu + 1, stm, Q, V, hj, _, hV => by
    have hn := hR.1
    have hp := pn_le hn
    refine ⟨stm, Q, V, fun c hc => hV c (by omega), ?_⟩
    rw [L_X8_share_17, shl_n hn, if_pos (nI_le (by omega) (by omega))]
  | k + 1, i, fu + 1, stm, Q, V, hj, hf, hV => by
    have hn := hR.1
    have hp := pn_le hn
    have e : ∀ j, j < 17 → cpy 17 P Q j = P j := fun j hj => cpy_in hj
    have b1 : ∀ D, upd (cpy 17 P Q) 15 D = pg (cpy 17 P Q) D t := fun D => by
      unfold pg
      rw [q_upd_same (i := 16)]
      rw [q_un (by omega), e 16 (by omega)]; exact h16
    have b4 : AG n (fun w => cpy 17 P Q (5 + w)) (fun w => P (5 + w)) := fun w hw => e _ (by omega)
    have b2 : ∀ j, j < n → ln j < n ∧ cpy 17 P Q j = nI (ln j) := fun j hj => ⟨(hl.1 j hj).1, by rw [e j (by omega)]; exact (hl.1 j hj).2⟩
    have b3 : SOK n (fun w => cpy 17 P Q (5 + w)) := fun w hw => by rw [b4 w hw]; exact hS w hw
    have hM := m_goSteps n 6 t ln kM bM (cpy 17 P Q) 0 dC nC lC (P 15 ||| ((((1 : Int32) <<< (nI n &&& 31)) - 1) &&& (nI i ^^^ (-1)))) hR b2 b3 (by omega) ht
    rw [gs_congr 0 dC nC lC (fun j hj => (hl.1 j hj).1) AG.rf b4 AG.rf] at hM
    have hv : pc (sb n (gs n ln kM (fun w => P (5 + w)) bM 0 dC nC lC 6 (P 15 ||| ((((1 : Int32) <<< (nI n &&& 31)) - 1) &&& (nI i ^^^ (-1)))) t)) = vS n t ln kM (fun w => P (5 + w)) bM dC nC lC (P 15) i := by
      unfold vS
      rw [sb_DA hn (gs_DA hn (fun j hj => (hl.1 j hj).1) 6 t _ _ (DA_mask hn (P 15) (nI i ^^^ (-1))))]
    have ih := sh_loop1 w u th hR hl h16 ht hS (dC := dC) (nC := nC) (lC := lC) k (i + 1) fu 0 (pg (cpy 17 P Q) (gs n ln kM (fun w => P (5 + w)) bM 0 dC nC lC 6 (P 15 ||| ((((1 : Int32) <<< (nI n &&& 31)) - 1) &&& (nI i ^^^ (-1)))) t) (t + 6)) (upd V i (vS n t ln kM (fun w => P (5 + w)) bM dC nC lC (P 15) i)) (by omega) (by omega) (fun c hc => by
      by_cases hci : c = i
      · subst hci; rw [q_us]
      · rw [q_un hci]; exact hV c (by omega))
    rw [L_X8_share_17, if_neg (by rw [shl_n hn]; exact nI_ge (by omega) (by omega)), m_begin, ob]
    dsimp only
    rw [show (15 : Int32) = nI 15 from rfl, rdp 15 (by omega), ob, q_wr _ _ (by omega) (by omega), ob, b1, e 15 (by omega), show (6 : Int32) = nI 6 from rfl, hM, ob, m_up, ob, pg_15, m_many, ob, hv, q_wr _ _ (by omega) (by omega), ob, nI_1]
    exact ih
theorem sh_loop2 (w : Nat) (u th stm : Int32) {n t : Nat} {ln : Nat → Nat} {kC bC kM bM lnC sC srC P Q V : Nat → Int32} {dC nC lC : Int32} (hw : w < n) (hR : RP n kM bM) (hl : LN n ln P) (ht : t < 2 ^ 20) (y1 : AG n lnC P) (y2 : AG n sC (fun w => P (5 + w))) (hk : AG n kC kM) (hb : AG n bC bM) (hV : ∀ c, c < 2 ^ n → V c = vS n t ln kM (fun w => P (5 + w)) bM dC nC lC (P 15) c) :
    ∀ (k i fu fu' : Nat) (acc fd fs : Int32) (fl fst fsr : Nat → Int32), i + k = 2 ^ n → k < fu → k < fu' → -(100000 * (i : Int)) ≤ acc.toInt → acc.toInt ≤ 100000 * (i : Int) →
    ∃ R fd' fs' fl' fst' fsr', -2 ^ 31 < R.toInt ∧ L_X1_shareAbove_4 (nI w) (nI n) dC nC lC (P 15) (nI t) lnC sC srC kC bC fu acc (nI i) fd fs fl fst fsr = some (R, fd', fs', fl', fst', fsr') ∧ L_X8_share_87 (nI w) u th (nI n) stm Q V fu' acc (nI i) = (f_X8_fraction R (nI (fn n)) u).bind fun r4 => some (r4, th, stm, Q, V)
  | k, i, 0, _, _, _, _, _, _, _, _, h, _, _, _ => absurd h (Nat.not_lt_zero _)
  | k, i, _, 0, _, _, _, _, _, _, _, _, h, _, _ => absurd h (Nat.not_lt_zero _)
  | 0, i, fu + 1, fu' + 1, acc, fd, fs, fl, fst, fsr, hj, _, _, h1, h2 => by
    have hn := hR.1
    have hp := pn_le hn
    refine ⟨acc, fd, fs, fl, fst, fsr, by omega, ?_, ?_⟩
    · rw [L_X1_shareAbove_4, c_size, ob, shl_n hn, if_pos (nI_le (by omega) (by omega))]
    · rw [L_X8_share_87, shl_n hn, if_pos (nI_le (by omega) (by omega)), (ways_at n (by omega)).1, ob]
  | k + 1, i, fu + 1, fu' + 1, acc, fd, fs, fl, fst, fsr, hj, hf, hf', h1, h2 => by
    have hn := hR.1
    have hp := pn_le hn
    have ih := fun acc' fd' fs' fl' fst' fsr' => sh_loop2 w u th stm hw hR hl ht y1 y2 hk hb hV (srC := srC) (Q := Q) k (i + 1) fu fu' acc' fd' fs' fl' fst' fsr' (by omega) (by omega) (by omega)
    have hge : ¬ (1 : Int32) <<< (nI n &&& 31) ≤ nI i := by rw [shl_n hn]; exact nI_ge (by omega) (by omega)
    rw [L_X1_shareAbove_4, L_X8_share_87, c_size, ob, if_neg hge, if_neg hge, m_has, ob, show ((nI i >>> (nI w &&& 31)) &&& 1) = db (nI i) w from rfl]
    unfold J_X1_shareAbove_81 J_X8_share_155
    rw [nI_1]
    by_cases hd : db (nI i) w = 0
    · rw [if_pos hd, if_pos hd]
      obtain ⟨p1, p2, -⟩ := lk_all n (by omega) i (by omega) 0 (by omega)
      have p3 := pc_not n (by omega) i (by omega) w hw hd
      obtain ⟨i', hi', ei⟩ := or_lt (w := w) (n := n) (d := i) (by omega) (by omega) hw
      obtain ⟨a1, a2, a3, a4, a5, ea⟩ := c_standingOf i' hR hl ht y1 y2 hk hb (srC := srC) (dC := dC) (nC := nC) (lC := lC) fd fs (P 15) fl fst fsr
      obtain ⟨b1, b2, b3, b4, b5, eb⟩ := c_standingOf i hR hl ht y1 y2 hk hb (srC := srC) (dC := dC) (nC := nC) (lC := lC) a1 a2 (P 15) a3 a4 a5
      obtain ⟨va, hva, eva⟩ := pc_nat hn (gs n ln kM (fun w => P (5 + w)) bM 0 dC nC lC 6 (P 15 ||| (nI i' ^^^ (-1))) t)
      obtain ⟨vb, hvb, evb⟩ := pc_nat hn (gs n ln kM (fun w => P (5 + w)) bM 0 dC nC lC 6 (P 15 ||| (nI i ^^^ (-1))) t)
      have eva' : vS n t ln kM (fun w => P (5 + w)) bM dC nC lC (P 15) i' = nI va := eva
      have evb' : vS n t ln kM (fun w => P (5 + w)) bM dC nC lC (P 15) i = nI vb := evb
      rw [eva'] at ea
      rw [evb'] at eb
      generalize hm : (pc (nI i)).toNatClampNeg = m at p1 p2 p3
      have f1 := fn_le m
      have f2 := fn_le (n - 1 - m)
      have hmul : fn m * fn (n - 1 - m) ≤ 14400 := Nat.mul_le_mul f1.1 f2.1
      have tb := term_bound hmul hva hvb
      have ab := add_bound (A := 100000 * (i : Int)) (by omega) h1 h2 tb.1 tb.2
      rw [c_bitCount i (by omega), ob, m_many, ob, p1, (ways_at m (by omega)).1, (ways_at m (by omega)).2, ob, ob, ob, show (nI n - 1) - nI m = nI (n - 1 - m) by rw [show (1 : Int32) = nI 1 from rfl, pk_sub (a := n) (b := 1) (by omega), pk_sub (by omega)], (ways_at (n - 1 - m) (by omega)).1, (ways_at (n - 1 - m) (by omega)).2, ob, ob, ei, ea, ob]
      dsimp only
      rw [eb, ob]
      dsimp only
      rw [q_rd V (by omega) (by omega), ob, q_rd V (by omega) (by omega), ob, hV i' hi', hV i (by omega), eva', evb', pk_mul]
      exact ih _ _ _ _ _ _ (by rw [Int.natCast_add]; omega) (by rw [Int.natCast_add]; omega)
    · rw [if_neg hd, if_neg hd]
      exact ih _ _ _ _ _ _ (by rw [Int.natCast_add]; omega) (by rw [Int.natCast_add]; omega)
theorem op_share (x u th stm : Int32) {n T : Nat} {tc dC nC lC wM dM nM lM td tst : Int32} {kC bC kM bM lnC sC srC P : Nat → Int32} (fd fs : Int32) (fl fst fsr Q V : Nat → Int32) (hP : PTY n tc dC nC lC kC bC wM dM nM lM kM bM) (hY : RY n lnC sC srC td tst P) (hG : GP n T P) (hT : T < 2 ^ 19) :
    ∃ r fd' fs' fl' fst' fsr' th' stm' Q' V', f_X7_share x u tc dC nC lC fd fs td tst lnC fl sC fst srC fsr kC bC = some (r, fd', fs', fl', fst', fsr') ∧ f_X8_share x u th dM nM lM wM stm P Q kM bM V = some (r, th', stm', Q', V') := by
  obtain ⟨rfl, rfl, rfl, rfl, rfl, hk, hb, hR⟩ := hP
  obtain ⟨y1, y2, y3, rfl, rfl⟩ := hY
  have hS := hG.sok
  obtain ⟨⟨ln, hl⟩, -, -, ⟨t, ht, h16⟩, -⟩ := id hG
  have hn := hR.1
  unfold f_X7_share f_X8_share
  rw [c_has _ (by omega), m_noWalker _ hn, ob, ob]
  by_cases h : 0 ≤ x.toInt ∧ x.toInt < n
  · rw [iv_t h, if_neg one0, if_pos h, if_pos z00]
    obtain ⟨w, -, hw, rfl⟩ := i_of (x := x) (a := 0) (b := n - 1) (by omega) (by omega) (by omega)
    have hp := pn_le hn
    obtain ⟨stm', Q', V', v1, v2⟩ := sh_loop1 w u 0 hR hl h16 (by omega) hS (dC := dC) (nC := nC) (lC := lC) (2 ^ n) 0 fuelC stm Q V (by omega) (fuel_lt (by omega)) (fun c hc => absurd hc (Nat.not_lt_zero _))
    obtain ⟨R, fd', fs', fl', fst', fsr', k0, k1, k2⟩ := sh_loop2 w u 0 stm' (by omega) hR hl (by omega) y1 y2 hk hb v1 (srC := srC) (Q := Q') (2 ^ n) 0 fuelC fuelC 0 fd fs fl fst fsr (by omega) (fuel_lt (by omega)) (fuel_lt (by omega)) (by decide) (by decide)
    rw [nI_0] at v2
    rw [nI_0, ← h16] at k1
    rw [nI_0] at k2
    have f1 := fn_le n
    obtain ⟨r, q1, q2⟩ := frac_both R u (fn n) k0 f1.2 (by omega)
    rw [q2] at k2
    unfold f_X1_shareAbove
    refine ⟨r, fd', fs', fl', fst', fsr', 0, stm', Q', V', ?_, v2.trans (k2.trans (ob _ _))⟩
    rw [k1, ob]
    dsimp only
    rw [c_size, ob, (ways_at n (by omega)).2, ob, q1, ob]
  · rw [iv_f h, if_pos z00, if_neg h, if_neg one0]
    exact ⟨_, _, _, _, _, _, _, _, _, _, rfl, rfl⟩
