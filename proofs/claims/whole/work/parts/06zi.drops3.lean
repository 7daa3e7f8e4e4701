theorem trv_add (k s b t e : Int32) : trv k (s + e) b t = trv k s b t + e := by
  unfold trv
  have h1 : ∀ x : Int32, s + e - x = s - x + e := fun x => by rw [Int32.sub_eq_add_neg, Int32.sub_eq_add_neg, Int32.add_assoc, Int32.add_comm e, ← Int32.add_assoc]
  have h2 : ∀ x : Int32, s + e + x = s + x + e := fun x => by rw [Int32.add_assoc, Int32.add_comm e, ← Int32.add_assoc]
  by_cases k1 : k = 1
  · rw [if_pos k1, if_pos k1, h1]
  · rw [if_neg k1, if_neg k1]
    by_cases k2 : k = 2
    · rw [if_pos k2, if_pos k2]
      by_cases hj : jr t b = 0
      · rw [if_pos hj, if_pos hj, h2]
      · rw [if_neg hj, if_neg hj]
    · rw [if_neg k2, if_neg k2]
      by_cases k3 : k = 3
      · rw [if_pos k3, if_pos k3, h2]
      · rw [if_neg k3, if_neg k3]
theorem db0 (w : Nat) (hw : w < 31) : db 0 w = 0 := by rw [db_bt 0 hw, b_0]; rfl
def tv (K S B : Nat → Int32) (t i w : Nat) : Int32 := trv (K w) (S w) (B w) (nI (t + i))
theorem alv_add (K S B E : Nat → Int32) (t i : Nat) {w : Nat} (hw : w < 31) : alv K (fun w => S w + E w) B (nI (t + i)) 0 w = tv K S B t i w + E w := by
  unfold alv tv
  rw [trv_add, db0 w hw]
  split <;> rw [q_add0]
/-- six steps in which nobody drops, by the first one -/
theorem six_ok {n : Nat} {ln : Nat → Nat} {K S B E : Nat → Int32} {dep noo lat D : Int32} {p : Nat → Int32} {t jf : Nat} (hn : n ≤ 5) (hl : LN n ln p) (hjf : jf < n) (hd : db D (ln jf) = 0) (hb : ∀ i, i < jf → ¬ db D (ln i) = 0) :
    gs n ln K (fun w => S w + E w) B 0 dep noo lat 6 D t = D ↔ ∀ i, i < 6 → (1 ≤ tv K S B t i (ln jf) + E (ln jf) ∧ tv K S B t i (ln jf) + E (ln jf) ≤ snw dep noo lat (nI (t + i))) ∧ ∀ w, w < n → w ≠ ln jf → db D w = 0 → K w = 2 ∨ tv K S B t i w + E w = tv K S B t i (ln jf) + E (ln jf) := by
  have hlt : ∀ j, j < n → ln j < n := fun j hj => (hl.1 j hj).1
  rw [gs_ok hn hlt]
  have one : ∀ i, (gok K (alv K (fun w => S w + E w) B (nI (t + i)) 0) ln (snw dep noo lat (nI (t + i))) D n 0 none ↔ (1 ≤ tv K S B t i (ln jf) + E (ln jf) ∧ tv K S B t i (ln jf) + E (ln jf) ≤ snw dep noo lat (nI (t + i))) ∧ ∀ w, w < n → w ≠ ln jf → db D w = 0 → K w = 2 ∨ tv K S B t i w + E w = tv K S B t i (ln jf) + E (ln jf)) := by
    intro i
    have hf := hlt jf hjf
    rw [gok_first hd n 0 (by omega) (by omega) (fun i _ h => hb i h), alv_add K S B E t i (by omega)]
    constructor
    · intro h
      refine ⟨h.1, fun w hw hne hdw => ?_⟩
      obtain ⟨x, hx, ex⟩ := fb_onto hlt (fun i j hij hj e => by have := hl.2 i j (by omega) hj e; omega) hw
      have hxf : jf < x := by
        by_cases h1 : x < jf
        · exact absurd (by rw [ex]; exact hdw) (hb x h1)
        · by_cases h2 : x = jf
          · subst h2; exact absurd ex.symm hne
          · omega
      have := h.2 x hxf (by omega) (by rw [ex]; exact hdw)
      rw [ex, alv_add K S B E t i (by omega)] at this
      exact this
    · intro h
      refine ⟨h.1, fun x hx hxn hdx => ?_⟩
      have hw := hlt x (by omega)
      rw [alv_add K S B E t i (by omega)]
      exact h.2 (ln x) hw (fun e => by have := hl.2 x jf (by omega) hjf e; omega) hdx
  exact ⟨fun h i hi => (one i).mp (h i hi), fun h i hi => (one i).mpr (h i hi)⟩
theorem six_none {n : Nat} {ln : Nat → Nat} {K S B : Nat → Int32} {dep noo lat D : Int32} {t : Nat} (hn : n ≤ 5) (hl : ∀ j, j < n → ln j < n) (h : ∀ i, i < n → ¬ db D (ln i) = 0) : gs n ln K S B 0 dep noo lat 6 D t = D :=
  (gs_ok hn hl 6 t D).mpr (fun i _ => gok_none n 0 (fun j _ hj => h j (by omega)))
/-! digits -/
def dgt (c w : Nat) : Nat := c / 5 ^ w % 5
def enc (d : Nat → Nat) : Nat → Nat → Nat
  | 0, _ => 0
  | k + 1, j => d j + 5 * enc d k (j + 1)
theorem enc_lt (d : Nat → Nat) (h : ∀ w, d w ≤ 4) : ∀ k j, enc d k j < 5 ^ k
  | 0, _ => by rw [enc]; decide
  | k + 1, j => by
    have := enc_lt d h k (j + 1)
    have := h j
    rw [enc, Nat.pow_succ]
    omega
theorem enc_dgt (d : Nat → Nat) (h : ∀ w, d w ≤ 4) : ∀ w k j, w < k → dgt (enc d k j) w = d (j + w)
  | _, 0, _, hw => absurd hw (Nat.not_lt_zero _)
  | 0, k + 1, j, _ => by
    have := h j
    unfold dgt
    show enc d (k + 1) j / 5 ^ 0 % 5 = d j
    rw [enc, Nat.pow_zero, Nat.div_one]
    omega
  | w + 1, k + 1, j, hw => by
    have ih := enc_dgt d h w k (j + 1) (by omega)
    have := h j
    unfold dgt at ih ⊢
    rw [enc, Nat.pow_succ, Nat.mul_comm (5 ^ w) 5, ← Nat.div_div_eq_div_mul, show (d j + 5 * enc d k (j + 1)) / 5 = enc d k (j + 1) by omega, ih]
    congr 1
    omega
def ad (d : Nat) : Nat := if d < 2 then 2 - d else d - 2
theorem ad_all : ∀ d, d < 5 → (if (0 : Int32) ≤ nI d - 2 then nI d - 2 else 0 - (nI d - 2)) = nI (ad d) ∧ (if (0 : Int32) ≤ nI d - 2 then nI d - 2 else -(nI d - 2)) = nI (ad d) ∧ ad d ≤ 2 ∧ (nI d - 2 = 0 ↔ d = 2) := by decide +kernel
