/-! ===== nobody drops ===== -/
def sub (D D' : Int32) : Prop := ∀ i, i < 32 → bt D i = true → bt D' i = true
theorem sub.rf (D : Int32) : sub D D := fun _ _ h => h
theorem sub.tr {A B C : Int32} (h : sub A B) (k : sub B C) : sub A C := fun i hi e => k i hi (h i hi e)
theorem sub.an {A B : Int32} (h : sub A B) (k : sub B A) : A = B := b_ext (fun i hi => by
  cases e : bt A i with
  | true => exact (h i hi e).symm
  | false => cases e2 : bt B i with
    | false => rfl
    | true => exact absurd (k i hi e2) (by rw [e]; decide))
theorem sub_or (D x : Int32) : sub D (D ||| x) := fun i _ h => by rw [b_or, h]; rfl
theorem gl_sub {K al : Nat → Int32} {ln : Nat → Nat} {snow : Int32} : ∀ (r j : Nat) (ah : Option Int32) (D c : Int32), sub D (gl K al ln snow r j ah D c).2
  | 0, _, _, D, _ => sub.rf D
  | r + 1, j, ah, D, c => by
    have ih := fun ah D c => gl_sub (K := K) (al := al) (ln := ln) (snow := snow) r (j + 1) ah D c
    by_cases h : db D (ln j) = 0
    · cases ah with
      | none =>
        rw [gl_none h]
        split
        · exact ih _ _ _
        · exact (sub_or D _).tr (ih _ _ _)
      | some a =>
        rw [gl_some h]
        split
        · exact ih _ _ _
        · exact (sub_or D _).tr (ih _ _ _)
    · rw [gl_down h]
      exact ih _ _ _
/-- nobody drops, from a place on -/
def gok (K al : Nat → Int32) (ln : Nat → Nat) (snow D : Int32) : Nat → Nat → Option Int32 → Prop
  | 0, _, _ => True
  | r + 1, j, ah => if db D (ln j) = 0 then (match ah with
      | none => (1 ≤ al (ln j) ∧ al (ln j) ≤ snow) ∧ gok K al ln snow D r (j + 1) (some (al (ln j)))
      | some a => (K (ln j) = 2 ∨ al (ln j) = a) ∧ gok K al ln snow D r (j + 1) (some a)) else gok K al ln snow D r (j + 1) ah
theorem or_ne {n : Nat} {D D' : Int32} {w : Nat} (hw : w < 31) (h : db D w = 0) (hs : sub (D ||| ((1 : Int32) <<< (nI w &&& 31))) D') : ¬ D' = D := fun e => by
  subst e
  have h1 : bt (D' ||| ((1 : Int32) <<< (nI w &&& 31))) w = true := by rw [b_or, b_pow (by omega) (by omega)]; simp
  have h2 := hs w (by omega) h1
  rw [db_bt _ hw, h2, if_pos rfl] at h
  exact absurd h (by decide)
theorem gl_ok {n : Nat} {K al : Nat → Int32} {ln : Nat → Nat} {snow : Int32} (hn : n ≤ 5) (hl : ∀ j, j < n → ln j < n) : ∀ (r j : Nat) (ah : Option Int32) (D c : Int32), j + r ≤ n → ((gl K al ln snow r j ah D c).2 = D ↔ gok K al ln snow D r j ah)
  | 0, _, _, _, _, _ => ⟨fun _ => trivial, fun _ => rfl⟩
  | r + 1, j, ah, D, c, hj => by
    have ih := fun ah c => gl_ok (K := K) (al := al) (snow := snow) hn hl r (j + 1) ah D c (by omega)
    have hw : ln j < 31 := by have := hl j (by omega); omega
    by_cases h : db D (ln j) = 0
    · cases ah with
      | none =>
        rw [gl_none h, gok, if_pos h]
        by_cases hc : 1 ≤ al (ln j) ∧ al (ln j) ≤ snow
        · rw [if_pos hc, ih]
          exact ⟨fun e => ⟨hc, e⟩, fun e => e.2⟩
        · rw [if_neg hc]
          exact ⟨fun e => absurd e (or_ne (n := n) hw h (gl_sub r (j + 1) none _ _)), fun e => absurd e.1 hc⟩
      | some a =>
        rw [gl_some h, gok, if_pos h]
        by_cases hc : K (ln j) = 2 ∨ al (ln j) = a
        · rw [if_pos hc, ih]
          exact ⟨fun e => ⟨hc, e⟩, fun e => e.2⟩
        · rw [if_neg hc]
          exact ⟨fun e => absurd e (or_ne (n := n) hw h (gl_sub r (j + 1) (some a) _ _)), fun e => absurd e.1 hc⟩
    · rw [gl_down h]
      cases ah with
      | none => rw [gok, if_neg h]; exact ih _ _
      | some a => rw [gok, if_neg h]; exact ih _ _
theorem gs_sub {n : Nat} {ln : Nat → Nat} {K S B : Nat → Int32} {stm dep noo lat : Int32} : ∀ (k t : Nat) (D : Int32), sub D (gs n ln K S B stm dep noo lat k D t)
  | 0, _, D => sub.rf D
  | k + 1, t, D => by
    rw [gs]
    exact (gl_sub n 0 none D 0).tr (gs_sub k (t + 1) _)
theorem gs_ok {n : Nat} {ln : Nat → Nat} {K S B : Nat → Int32} {dep noo lat : Int32} (hn : n ≤ 5) (hl : ∀ j, j < n → ln j < n) : ∀ (k t : Nat) (D : Int32), (gs n ln K S B 0 dep noo lat k D t = D ↔ ∀ i, i < k → gok K (alv K S B (nI (t + i)) 0) ln (snw dep noo lat (nI (t + i))) D n 0 none)
  | 0, _, D => ⟨fun _ i hi => absurd hi (Nat.not_lt_zero _), fun _ => rfl⟩
  | k + 1, t, D => by
    rw [gs]
    have h1 := gl_ok (K := K) (al := alv K S B (nI t) 0) (snow := snw dep noo lat (nI t)) hn hl n 0 none D 0 (by omega)
    have ih := gs_ok (K := K) (S := S) (B := B) (dep := dep) (noo := noo) (lat := lat) hn hl k (t + 1) D
    constructor
    · intro e i hi
      have s1 : sub D (sD n ln K S B 0 dep noo lat D t) := gl_sub n 0 none D 0
      have s2 := gs_sub (n := n) (ln := ln) (K := K) (S := S) (B := B) (stm := 0) (dep := dep) (noo := noo) (lat := lat) k (t + 1) (sD n ln K S B 0 dep noo lat D t)
      rw [e] at s2
      have e1 : sD n ln K S B 0 dep noo lat D t = D := s2.an s1
      rw [e1] at e
      by_cases i0 : i = 0
      · subst i0; exact h1.mp e1
      · have := (ih.mp e) (i - 1) (by omega)
        rw [show t + 1 + (i - 1) = t + i by omega] at this
        exact this
    · intro h
      have e1 : sD n ln K S B 0 dep noo lat D t = D := h1.mpr (h 0 (by omega))
      rw [e1]
      exact ih.mpr (fun i hi => by rw [show t + 1 + i = t + (i + 1) by omega]; exact h (i + 1) (by omega))
