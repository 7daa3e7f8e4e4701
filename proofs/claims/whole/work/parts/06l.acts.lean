/-! ===== the acts, the slots ===== -/
def RA (n T : Nat) (first cnt : Int32) (cells : Nat → Int32) (acts : Int32) (book : Nat → Int32) : Prop := ∃ f a, f < 14 ∧ a ≤ 14 ∧ first = nI f ∧ cnt = nI a ∧ acts = nI a ∧ ∀ k, k < a → RX n (row cells ((f + k) % 14)) (row book k) ∧ GP n T (row book k)
def RS (n T : Nat) (sk : Int32) (cells isK kept : Nat → Int32) : Prop := ∀ k, k < 2 → isK k = db sk k ∧ (db sk k = 1 → RX n (row cells k) (row kept k) ∧ GP n T (row kept k))
theorem RA_mono {n T T' : Nat} {first cnt acts : Int32} {cells book : Nat → Int32} (h : RA n T first cnt cells acts book) (hT : T ≤ T') : RA n T' first cnt cells acts book := by
  obtain ⟨f, a, h1, h2, h3, h4, h5, h6⟩ := h
  exact ⟨f, a, h1, h2, h3, h4, h5, fun k hk => ⟨(h6 k hk).1, GP_mono (h6 k hk).2 hT⟩⟩
theorem RS_mono {n T T' : Nat} {sk : Int32} {cells isK kept : Nat → Int32} (h : RS n T sk cells isK kept) (hT : T ≤ T') : RS n T' sk cells isK kept :=
  fun k hk => ⟨(h k hk).1, fun e => ⟨((h k hk).2 e).1, GP_mono ((h k hk).2 e).2 hT⟩⟩
theorem RA_0 {n T : Nat} {cells book : Nat → Int32} : RA n T 0 0 cells 0 book := ⟨0, 0, by omega, by omega, rfl, rfl, rfl, fun k hk => absurd hk (Nat.not_lt_zero _)⟩
theorem row_eq {c c' : Nat → Int32} {r k : Nat} (hk : k ≠ r) (h : ∀ i, (i < 17 * r ∨ 17 * r + 17 ≤ i) → c' i = c i) : ∀ i, i < 17 → row c' k i = row c k i := by
  intro i hi
  unfold row
  apply h
  rcases Nat.lt_or_gt_of_ne hk with q | q <;> omega
theorem note_ok {n T : Nat} {first cnt acts D t : Int32} {cells book l s z P : Nat → Int32} (hn : n ≤ 5) (hA : RA n T first cnt cells acts book) (hY : RY n l s z D t P) (hG : GP n T P) :
    ∃ first' cnt' cells' acts' book', f_X7_noteAct first cnt D t l cells s z = some (first', cnt', cells') ∧ f_X8_note acts book P = some (acts', book') ∧ RA n T first' cnt' cells' acts' book' := by
  obtain ⟨f, a, hf, ha, rfl, rfl, rfl, hk⟩ := hA
  have ejr : (nI f + nI a) - (nI f + nI a) / 14 * 14 = nI ((f + a) % 14) := by
    rw [nI_add]; exact pk_rem (a := f + a) (d := 14) (by omega) (by omega) (by omega)
  have ejf : (nI f + 1) - (nI f + 1) / 14 * 14 = nI ((f + 1) % 14) := by
    rw [nI_1]; exact pk_rem (a := f + 1) (d := 14) (by omega) (by omega) (by omega)
  have hm : (f + a) % 14 < 14 := Nat.mod_lt _ (by omega)
  obtain ⟨c', s1, s2, s3⟩ := c_save ((f + a) % 14) 238 D t l s z cells (by omega) (by omega)
  have hnew : RX n (row c' ((f + a) % 14)) P := RX_of hn hY s2
  refine ⟨if a < 14 then nI f else nI ((f + 1) % 14), if a < 14 then nI (a + 1) else nI 14, c', _, _, ?_, m_note a ha P book, ?_⟩
  · unfold f_X7_noteAct
    rw [ejr, s1, ob, ejf]
    by_cases h : a < 14
    · rw [if_neg (show ¬ (14 : Int32) ≤ nI a from nI_ge (b := 14) h (by omega)), if_pos h, if_pos h, nI_1]
    · have : a = 14 := by omega
      subst this
      rw [if_pos (show (14 : Int32) ≤ nI 14 from by decide), if_neg h, if_neg h]
  · by_cases h : a < 14
    · rw [if_pos h, if_pos h, if_pos h]
      refine ⟨f, a + 1, hf, by omega, rfl, rfl, rfl, fun k hk' => ?_⟩
      unfold noted
      rw [if_pos h]
      by_cases e : k = a
      · subst e
        exact ⟨RX_cong hn hnew (fun _ _ => rfl) (fun i hi => row_brow_in hi), GP_cong hn hG (fun i hi => row_brow_in hi)⟩
      · obtain ⟨k1, k2⟩ := hk k (by omega)
        exact ⟨RX_cong hn k1 (row_eq (by omega) s3) (fun i hi => row_brow_out e hi), GP_cong hn k2 (fun i hi => row_brow_out e hi)⟩
    · have : a = 14 := by omega
      subst this
      rw [if_neg h, if_neg h, if_neg h]
      refine ⟨(f + 1) % 14, 14, Nat.mod_lt _ (by omega), by omega, rfl, rfl, rfl, fun k hk' => ?_⟩
      unfold noted
      rw [if_neg h]
      have hsh : ∀ k, k < 13 → ∀ i, i < 17 → row (brow 0 221 (fun i => book (i + 17)) book) k i = row book (k + 1) i := by
        intro k hk i hi
        unfold row brow
        rw [if_pos (by omega)]
        exact congrArg book (by omega)
      by_cases e : k = 13
      · subst e
        have e2 : ((f + 1) % 14 + 13) % 14 = (f + 14) % 14 := by omega
        rw [e2]
        exact ⟨RX_cong hn hnew (fun _ _ => rfl) (fun i hi => row_brow_in (b := 13) hi), GP_cong hn hG (fun i hi => row_brow_in (b := 13) hi)⟩
      · obtain ⟨k1, k2⟩ := hk (k + 1) (by omega)
        have e2 : ((f + 1) % 14 + k) % 14 = (f + (k + 1)) % 14 := by omega
        rw [e2]
        refine ⟨RX_cong hn k1 (row_eq (by omega) s3) (fun i hi => ?_), GP_cong hn k2 (fun i hi => ?_)⟩
        · rw [row_brow_out (b := 13) (by omega) hi]; exact hsh k (by omega) i hi
        · rw [row_brow_out (b := 13) (by omega) hi]; exact hsh k (by omega) i hi
/-- both sides' pages and acts behind an act -/
theorem op_step (th stm : Int32) {n T : Nat} {tc dC nC lC wM dM nM lM td tst first cnt acts : Int32} {kC bC kM bM lnC sC srC P cells book : Nat → Int32} (hP : PTY n tc dC nC lC kC bC wM dM nM lM kM bM) (hY : RY n lnC sC srC td tst P) (hG : GP n T P) (hA : RA n T first cnt cells acts book) (hT : T < 2 ^ 19) :
    ∃ r first' cnt' td' tst' cells' th' acts' stm' book' P', f_X7_step first cnt td tst lnC cells sC srC tc dC nC lC kC bC = some (r, first', cnt', td', tst', cells') ∧ f_X8_step th dM nM lM wM acts stm book P kM bM = some (r, th', acts', stm', book', P') ∧ RY n lnC sC srC td' tst' P' ∧ GP n (T + 1) P' ∧ RA n (T + 1) first' cnt' cells' acts' book' := by
  obtain ⟨rfl, rfl, rfl, rfl, rfl, hk, hb, hR⟩ := hP
  obtain ⟨f', c', ce', a', b', e1, e2, hA'⟩ := note_ok hR.1 hA hY hG
  obtain ⟨t, ht, h16⟩ := hG.2.2.2.1
  have htt : tst = nI t := hY.2.2.2.2.trans h16
  subst htt
  obtain ⟨r, D', p', s1, s2, s3, s4⟩ := step_ok (dep := dC) (noo := nC) (lat := lC) hR.1 hR hk hb hY (GP_mono hG (Nat.le_succ T)) (by omega : t < 2 ^ 20)
  refine ⟨r, f', c', D', nI (t + 1), ce', 0, a', 0, b', p', ?_, ?_, s3, s4 (by omega), RA_mono hA' (Nat.le_succ T)⟩
  · unfold f_X7_step
    rw [e1, ob]
    dsimp only
    rw [s1, ob]
  · unfold f_X8_step
    rw [e2, ob]
    dsimp only
    rw [s2, ob]
theorem m_in_n2 (x : Int32) {n : Nat} (hn : n ≤ 5) : f_X8_in x.toInt64 (0 : Int64) ((nI n - 2).toInt64) = some (if 0 ≤ x.toInt ∧ x.toInt + 1 < n then 1 else 0) := by
  rw [m_in]
  have e : (nI n - 2).toInt64.toInt = (n : Int) - 2 := by
    rw [Int32.toInt_toInt64, show (2 : Int32) = nI 2 from rfl, pk_sub_toInt (by omega) (by omega)]; rfl
  have h1 : (0 : Int64) ≤ x.toInt64 ↔ 0 ≤ x.toInt := by
    rw [Int64.le_iff_toInt_le, Int32.toInt_toInt64]; exact Iff.rfl
  have h2 : x.toInt64 ≤ (nI n - 2).toInt64 ↔ x.toInt + 1 < n := by
    rw [Int64.le_iff_toInt_le, e, Int32.toInt_toInt64]; omega
  simp only [h1, h2]
theorem op_change (x th : Int32) {n T : Nat} {tc wM td tst first cnt acts : Int32} {lnC sC srC P cells book : Nat → Int32} (hn : n ≤ 5) (h1 : tc = nI n) (h2 : wM = nI n) (hY : RY n lnC sC srC td tst P) (hG : GP n T P) (hA : RA n T first cnt cells acts book) :
    ∃ r first' cnt' lnC' cells' th' acts' book' P', f_X7_change x first cnt td tst tc lnC cells sC srC = some (r, first', cnt', lnC', cells') ∧ f_X8_change x th wM acts book P = some (r, th', acts', book', P') ∧ RY n lnC' sC srC td tst P' ∧ GP n T P' ∧ RA n T first' cnt' cells' acts' book' := by
  subst h1; subst h2
  unfold f_X7_change f_X8_change
  rw [c_canSwap x hn, m_in_n2 x hn, ob, ob]
  by_cases h : 0 ≤ x.toInt ∧ x.toInt + 1 < n
  · rw [iv_t h, if_neg one0, if_neg one0]
    obtain ⟨j, -, hj, rfl⟩ := i_of (x := x) (a := 0) (b := n - 2) (by omega) (by omega) (by omega)
    obtain ⟨f', c', ce', a', b', e1, e2, hA'⟩ := note_ok hn hA hY hG
    have hY' := sw_RY hn hY (by omega : j + 1 < n)
    rw [e1, e2, ob, ob]
    dsimp only
    rw [c_trySwap hn (by omega), m_goChange (by omega) (by omega), ob, ob]
    dsimp only
    rw [c_walkerAt _ (by omega), q_0add, rdp j (by omega), ob, ob, hY'.1 j (by omega)]
    exact ⟨_, _, _, _, _, _, _, _, _, rfl, rfl, hY', sw_GP hn hG (by omega), hA'⟩
  · rw [iv_f h, if_pos z00, if_pos z00]
    exact ⟨_, _, _, _, _, _, _, _, _, rfl, rfl, hY, hG, hA⟩
theorem op_drill (x y th : Int32) {n T : Nat} {tc wM td tst first cnt acts : Int32} {lnC sC srC P cells book : Nat → Int32} (hn : n ≤ 5) (h1 : tc = nI n) (h2 : wM = nI n) (hY : RY n lnC sC srC td tst P) (hG : GP n T P) (hA : RA n T first cnt cells acts book) :
    ∃ r first' cnt' srC' sC' cells' th' acts' P' book', f_X7_drill x y first cnt tc td tst srC sC lnC cells = some (r, first', cnt', srC', sC', cells') ∧ f_X8_drill x y th wM acts P book = some (r, th', acts', P', book') ∧ RY n lnC sC' srC' td tst P' ∧ GP n T P' ∧ RA n T first' cnt' cells' acts' book' := by
  subst h1; subst h2
  unfold f_X7_drill f_X8_drill J_X8_drill_29 J_X8_drill_56
  rw [c_has x (by omega), m_noWalker x hn, ob, ob]
  by_cases h : 0 ≤ x.toInt ∧ x.toInt < n
  · rw [iv_t h, if_neg one0, if_pos h, if_pos z00]
    obtain ⟨w, -, hw', rfl⟩ := i_of (x := x) (a := 0) (b := n - 1) (by omega) (by omega) (by omega)
    have hw : w < n := by omega
    obtain ⟨y1, y2, y3, y4, y5⟩ := id hY
    obtain ⟨c1, c2⟩ := c_canDrill (p := P) y hn hw y2 y3 y4
    obtain ⟨d1, d2⟩ := c_tryDrill (p := P) y hn hw y2 y3 y4
    obtain ⟨m1, m2⟩ := m_canDrill (p := P) (N := 17) (dby y) hn hw (by omega) (by omega)
    by_cases hc : canD n P w (dby y)
    · obtain ⟨f', c', ce', a', b', e1, e2, hA'⟩ := note_ok hn hA hY hG
      have hg := m_goDrill (p := P) (w := w) (N := 17) (dby y) (by omega) (by omega) (by omega)
      have hY' := drl_RY (b := dby y) hn hw hY
      have m1' := m1 hc
      have r17 : rdI (drl P w (dby y)) 17 (5 + nI w) = some (sC w + dby y) := by
        rw [show (5 : Int32) + nI w = nI (5 + w) from nI_add 5 w, rdp _ (by omega)]
        unfold drl
        rw [q_un (show 5 + w ≠ 10 + w by omega), q_us]
        exact congrArg (fun z => some (z + dby y)) (y2 w hw).symm
      rw [c1 hc, ob, if_neg one0, e1, ob]
      dsimp only
      rw [d1 hc, ob]
      dsimp only
      rw [c_strideOf _ (by omega), ob, q_us]
      refine ⟨sC w + dby y, f', c', upd srC w (srC w + 1), upd sC w (sC w + dby y), ce', 0, a', drl P w (dby y), b', rfl, ?_, hY', drl_GP hn hw hG hc, hA'⟩
      by_cases hy : y = 0
      · have eb : dby y = -1 := by unfold dby; rw [if_pos hy]
        rw [eb] at m1' hg r17 ⊢
        rw [if_pos hy, m1', ob, if_neg one0, e2, ob]
        dsimp only
        rw [if_pos hy, hg, ob, r17, ob]
      · have eb : dby y = 1 := by unfold dby; rw [if_neg hy]
        rw [eb] at m1' hg r17 ⊢
        rw [if_neg hy, m1', ob, if_neg one0, e2, ob]
        dsimp only
        rw [if_neg hy, hg, ob, r17, ob]
    · have m2' := m2 hc
      rw [c2 hc, ob, if_pos z00]
      refine ⟨_, _, _, _, _, _, 0, acts, P, book, rfl, ?_, hY, hG, hA⟩
      by_cases hy : y = 0
      · have eb : dby y = -1 := by unfold dby; rw [if_pos hy]
        rw [eb] at m2'
        rw [if_pos hy, m2', ob, if_pos z00]
      · have eb : dby y = 1 := by unfold dby; rw [if_neg hy]
        rw [eb] at m2'
        rw [if_neg hy, m2', ob, if_pos z00]
  · rw [iv_f h, if_pos z00, if_neg h, if_neg one0]
    exact ⟨_, _, _, _, _, _, _, _, _, _, rfl, rfl, hY, hG, hA⟩
theorem op_rescue (x th : Int32) {n T : Nat} {tc wM td tst first cnt acts : Int32} {lnC sC srC P cells book : Nat → Int32} (hn : n ≤ 5) (h1 : tc = nI n) (h2 : wM = nI n) (hY : RY n lnC sC srC td tst P) (hG : GP n T P) (hA : RA n T first cnt cells acts book) :
    ∃ r first' cnt' td' lnC' cells' th' acts' P' book', f_X7_rescue x first cnt tc td tst lnC cells sC srC = some (r, first', cnt', td', lnC', cells') ∧ f_X8_rescue x th wM acts P book = some (r, th', acts', P', book') ∧ RY n lnC' sC srC td' tst P' ∧ GP n T P' ∧ RA n T first' cnt' cells' acts' book' := by
  subst h1; subst h2
  unfold f_X7_rescue f_X8_rescue
  rw [c_has x (by omega), m_noWalker x hn, ob, ob]
  by_cases h : 0 ≤ x.toInt ∧ x.toInt < n
  · rw [iv_t h, if_neg one0, if_pos h, if_pos z00]
    obtain ⟨w, -, hw', rfl⟩ := i_of (x := x) (a := 0) (b := n - 1) (by omega) (by omega) (by omega)
    have hw : w < n := by omega
    have hd15 : td = P 15 := hY.2.2.2.1
    rw [show (15 : Int32) = nI 15 from rfl, rdp 15 (by omega), ob, m_has, ob, c_isDown, ob, ← hd15]
    by_cases hd : db td w = 0
    · rw [if_pos hd, if_pos hd]
      exact ⟨_, _, _, _, _, _, _, _, _, _, rfl, rfl, hY, hG, hA⟩
    · rw [if_neg hd, if_neg hd]
      obtain ⟨f', c', ce', a', b', e1, e2, hA'⟩ := note_ok hn hA hY hG
      obtain ⟨l', p', q1, q2, q3, q4⟩ := rescue_ok hn hw hY hG hd
      rw [e1, e2, ob, ob]
      dsimp only
      rw [q1, q2, ob, ob]
      dsimp only
      obtain ⟨d, hd1, hd2⟩ := q4.2.2.2.2
      have h32 := p2_32 hn
      rw [rdp 15 (by omega), ob, m_many, ob, show f_X6_downBits (td &&& (((1 : Int32) <<< (nI w &&& 31)) ^^^ (-1))) = some (td &&& (((1 : Int32) <<< (nI w &&& 31)) ^^^ (-1))) from rfl, ob]
      have e15 := q3.2.2.2.1
      rw [e15, hd2, c_bitCount d (by omega), ob, ← hd2, ← e15]
      exact ⟨_, _, _, _, _, _, _, _, _, _, rfl, rfl, q3, q4, hA'⟩
  · rw [iv_f h, if_pos z00, if_neg h, if_neg one0]
    exact ⟨_, _, _, _, _, _, _, _, _, _, rfl, rfl, hY, hG, hA⟩
theorem m_undo_loop (th a : Int32) (k0 N : Nat) (ha : a = nI k0) (P c : Nat → Int32) (hb : 17 * k0 + 17 ≤ 238) : ∀ (k j fu : Nat), j + k = 17 → k < fu → L_X8_undo_27 th a c fu (nI j) (cpy j (row c k0) P) = some (a, th, a, cpy 17 (row c k0) P)
  | k, j, 0, _, h => absurd h (Nat.not_lt_zero _)
  | 0, j, fu + 1, hj, _ => by
    have : j = 17 := by omega
    subst this
    rw [L_X8_undo_27, if_pos (by decide)]
  | k + 1, j, fu + 1, hj, hf => by
    have ih := m_undo_loop th a k0 N ha P c hb k (j + 1) fu (by omega) (by omega)
    rw [L_X8_undo_27, if_neg (show ¬ (17 : Int32) ≤ nI j from nI_ge (b := 17) (by omega) (by omega)), ha, show (17 : Int32) = nI 17 from rfl, pk_mul, nI_add, q_rd c (by omega) (by omega), ob, show c (17 * k0 + j) = row c k0 j from rfl, q_wr _ _ (by omega) (by omega), ob, cpy_s, nI_1, ← ha]
    exact ih
theorem op_undo (th : Int32) {n T : Nat} {td tst first cnt acts : Int32} {lnC sC srC P cells book : Nat → Int32} (hn : n ≤ 5) (hY : RY n lnC sC srC td tst P) (hG : GP n T P) (hA : RA n T first cnt cells acts book) :
    ∃ r cnt' td' tst' lnC' sC' srC' th' acts' P', f_X7_undo first cnt td tst cells lnC sC srC = some (r, cnt', td', tst', lnC', sC', srC') ∧ f_X8_undo th acts book P = some (r, th', acts', P') ∧ RY n lnC' sC' srC' td' tst' P' ∧ GP n T P' ∧ RA n T first cnt' cells acts' book := by
  obtain ⟨f, a, hf, ha, rfl, rfl, rfl, hk⟩ := id hA
  unfold f_X7_undo f_X8_undo
  by_cases h : a = 0
  · subst h
    rw [if_neg (by decide), if_pos (by decide)]
    exact ⟨_, _, _, _, _, _, _, _, _, _, rfl, rfl, hY, hG, hA⟩
  · obtain ⟨k0, rfl⟩ : ∃ k0, a = k0 + 1 := ⟨a - 1, by omega⟩
    rw [if_pos (show (0 : Int32) < nI (k0 + 1) from nI_lt (a := 0) (by omega) (by omega)), if_neg (nI_ne0 (by omega) (by omega)), nI_pred]
    have ejr : (nI f + nI k0) - (nI f + nI k0) / 14 * 14 = nI ((f + k0) % 14) := by
      rw [nI_add]; exact pk_rem (a := f + k0) (d := 14) (by omega) (by omega) (by omega)
    have hm : (f + k0) % 14 < 14 := Nat.mod_lt _ (by omega)
    obtain ⟨k1, k2⟩ := hk k0 (by omega)
    obtain ⟨l', s', z', r1, r2, r3, r4⟩ := c_restore ((f + k0) % 14) 238 td tst lnC sC srC cells (by omega) (by omega)
    have hM := m_undo_loop 0 (nI k0) k0 238 rfl P book (by omega) 17 0 fuelC rfl (fuel_lt (by omega))
    rw [nI_0, cpy_0] at hM
    rw [ejr, r1, ob]
    refine ⟨_, _, _, _, l', s', z', _, _, _, rfl, hM, ?_, ?_, f, k0, hf, by omega, rfl, rfl, rfl, fun k hk' => hk k (by omega)⟩
    · exact RY_pg hn (RY_back hn k1 r2 r3 r4) (fun i hi => cpy_in hi)
    · exact GP_cong hn k2 (fun i hi => cpy_in hi)
