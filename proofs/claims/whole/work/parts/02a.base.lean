/-! ===== base: pure operations that can fail, the world bundle, calls in one row ===== -/
def rdI (f : Nat → Int32) (n : Nat) (i : Int32) : Option Int32 := if i < 0 ∨ n ≤ i.toNatClampNeg then none else some (f i.toNatClampNeg)
def wrI (f : Nat → Int32) (n : Nat) (i x : Int32) : Option (Nat → Int32) := if i < 0 ∨ n ≤ i.toNatClampNeg then none else some (upd f i.toNatClampNeg x)
def wrZ (f : Nat → Int32) (n : Nat) (i x : Int32) : Option (Nat → Int32) := if i < 0 ∨ n ≤ i.toNatClampNeg then none else some (upd f i.toNatClampNeg (vp_nar .boolean x))
def zr (x : Int32) : Option Int32 := if x = 0 ∨ x = 1 then some x else none
def fuelC : Nat := 4000
def fF : Nat → Int32 := fun j => match j with
  | 0 => 1
  | 1 => 1
  | 2 => 2
  | 3 => 6
  | 4 => 24
  | _ => 120
theorem rdI_ok {α : Type} {f : Nat → Int32} {n : Nat} {i : Int32} {k : Int32 → Option α} {o : α} (h : (rdI f n i).bind k = some o) : vp_in i n ∧ k (f i.toNatClampNeg) = some o := by
  unfold rdI at h
  by_cases c : i < 0 ∨ n ≤ i.toNatClampNeg
  · rw [if_pos c] at h; cases h
  · rw [if_neg c] at h; exact ⟨c, h⟩
theorem wrI_ok {α : Type} {f : Nat → Int32} {n : Nat} {i x : Int32} {k : (Nat → Int32) → Option α} {o : α} (h : (wrI f n i x).bind k = some o) : vp_in i n ∧ k (upd f i.toNatClampNeg x) = some o := by
  unfold wrI at h
  by_cases c : i < 0 ∨ n ≤ i.toNatClampNeg
  · rw [if_pos c] at h; cases h
  · rw [if_neg c] at h; exact ⟨c, h⟩
theorem wrZ_ok {α : Type} {f : Nat → Int32} {n : Nat} {i x : Int32} {k : (Nat → Int32) → Option α} {o : α} (h : (wrZ f n i x).bind k = some o) : vp_in i n ∧ k (upd f i.toNatClampNeg (vp_nar .boolean x)) = some o := by
  unfold wrZ at h
  by_cases c : i < 0 ∨ n ≤ i.toNatClampNeg
  · rw [if_pos c] at h; cases h
  · rw [if_neg c] at h; exact ⟨c, h⟩
theorem zr_ok {α : Type} {x : Int32} {k : Int32 → Option α} {o : α} (h : (zr x).bind k = some o) : narrow .boolean (.int x) = .int x ∧ k x = some o := by
  unfold zr at h
  by_cases c : x = 0 ∨ x = 1
  · rw [if_pos c] at h
    refine ⟨?_, h⟩
    rcases c with c | c <;> subst c <;> rfl
  · rw [if_neg c] at h; cases h
theorem dv_ok {α : Type} {y : Int32} {A : Option α} {o : α} (h : (if y = 0 then none else A) = some o) : ¬ y = 0 ∧ A = some o := by
  by_cases c : y = 0
  · rw [if_pos c] at h; cases h
  · rw [if_neg c] at h; exact ⟨c, h⟩
theorem dvl_ok {α : Type} {y : Int64} {A : Option α} {o : α} (h : (if y = 0 then none else A) = some o) : ¬ y = 0 ∧ A = some o := by
  by_cases c : y = 0
  · rw [if_pos c] at h; cases h
  · rw [if_neg c] at h; exact ⟨c, h⟩
theorem ip {α : Type} {c : Prop} [Decidable c] {A B o : α} (hc : c) (h : (if c then A else B) = o) : A = o := by rw [if_pos hc] at h; exact h
theorem iq {α : Type} {c : Prop} [Decidable c] {A B o : α} (hc : ¬ c) (h : (if c then A else B) = o) : B = o := by rw [if_neg hc] at h; exact h
theorem bd_ok {α β : Type} {m : Option β} {k : β → Option α} {o : α} (h : m.bind k = some o) : ∃ b, m = some b ∧ k b = some o := Option.bind_eq_some_iff.mp h
theorem ij1 {A : Type} {a x : A} (h : some a = some x) : a = x := Option.some.inj h
theorem ij2 {A B : Type} {a x : A} {b y : B} (h : some (a, b) = some (x, y)) : a = x ∧ b = y := Prod.mk.inj (Option.some.inj h)
theorem ijc {A B : Type} {a x : A} {b y : B} (h : (a, b) = (x, y)) : a = x ∧ b = y := Prod.mk.inj h
theorem sw_ne {x k : Int32} (h : ¬ x = k) : x.toInt ≠ k.toInt := fun e => h (Int32.toInt_inj.mp e)
/-- the links of private static methods across the nest, and of private constructors -/
def nwL : List (String × Nat × MethodName × String) := [(RX7, 11, yX5_init, "PassInStep"), (RX7, 18, yX3_init, "PassInStep"), (RX7, 46, yX2_init, "PassInStep"), (RX5, 19, yX7_put, "PassInStep"), (RX5, 23, yX7_at, "PassInStep"), (RX5, 42, yX7_isBetween, "PassInStep"), (RX3, 50, yX7_put, "PassInStep"), (RX6, 25, yX7_put, "PassInStep"), (RX6, 48, yX7_at, "PassInStep"), (RX3, 54, yX7_at, "PassInStep"), (RX6, 83, yX7_treadAlone, "PassInStep"), (RX6, 90, yX7_isBetween, "PassInStep"), (RX1, 53, yX7_at, "PassInStep"), (RX1, 88, yX7_isBetween, "PassInStep"), (RX2, 22, yX7_put, "PassInStep"), (RX2, 33, yX7_isBetween, "PassInStep"), (RX2, 37, yX7_at, "PassInStep"), (RX2, 41, yX7_treadAlone, "PassInStep"), (RX0, 64, yX7_put, "PassInStep"), (RX0, 33, yX7_at, "PassInStep")]
def nwG : List (String × Nat) := [(RX1, 44), (RX6, 114)]
def NW (U : State) : Prop := (∀ q ∈ nwL, va_Nw (.methodLinkNest q.1 q.2.1 q.2.2.1 q.2.2.2) U) ∧ ∀ q ∈ nwG, va_Nw (.fieldLinkNest q.1 q.2 "PassInStep" "FACTORIALS" "[I" "PassInStep") U
theorem nwG_X1_44 {U : State} (h : NW U) : va_Nw (.fieldLinkNest RX1 44 "PassInStep" "FACTORIALS" "[I" "PassInStep") U := h.2 (RX1, 44) (List.mem_of_getElem? (i := 0) rfl)
theorem nwG_X6_114 {U : State} (h : NW U) : va_Nw (.fieldLinkNest RX6 114 "PassInStep" "FACTORIALS" "[I" "PassInStep") U := h.2 (RX6, 114) (List.mem_of_getElem? (i := 1) rfl)
theorem nw_X7_11 {U : State} (h : NW U) : va_Nw (.methodLinkNest RX7 11 yX5_init "PassInStep") U := h.1 (RX7, 11, yX5_init, "PassInStep") (List.mem_of_getElem? (i := 0) rfl)
theorem nw_X7_18 {U : State} (h : NW U) : va_Nw (.methodLinkNest RX7 18 yX3_init "PassInStep") U := h.1 (RX7, 18, yX3_init, "PassInStep") (List.mem_of_getElem? (i := 1) rfl)
theorem nw_X7_46 {U : State} (h : NW U) : va_Nw (.methodLinkNest RX7 46 yX2_init "PassInStep") U := h.1 (RX7, 46, yX2_init, "PassInStep") (List.mem_of_getElem? (i := 2) rfl)
theorem nw_X5_19 {U : State} (h : NW U) : va_Nw (.methodLinkNest RX5 19 yX7_put "PassInStep") U := h.1 (RX5, 19, yX7_put, "PassInStep") (List.mem_of_getElem? (i := 3) rfl)
theorem nw_X5_23 {U : State} (h : NW U) : va_Nw (.methodLinkNest RX5 23 yX7_at "PassInStep") U := h.1 (RX5, 23, yX7_at, "PassInStep") (List.mem_of_getElem? (i := 4) rfl)
theorem nw_X5_42 {U : State} (h : NW U) : va_Nw (.methodLinkNest RX5 42 yX7_isBetween "PassInStep") U := h.1 (RX5, 42, yX7_isBetween, "PassInStep") (List.mem_of_getElem? (i := 5) rfl)
theorem nw_X3_50 {U : State} (h : NW U) : va_Nw (.methodLinkNest RX3 50 yX7_put "PassInStep") U := h.1 (RX3, 50, yX7_put, "PassInStep") (List.mem_of_getElem? (i := 6) rfl)
theorem nw_X6_25 {U : State} (h : NW U) : va_Nw (.methodLinkNest RX6 25 yX7_put "PassInStep") U := h.1 (RX6, 25, yX7_put, "PassInStep") (List.mem_of_getElem? (i := 7) rfl)
theorem nw_X6_48 {U : State} (h : NW U) : va_Nw (.methodLinkNest RX6 48 yX7_at "PassInStep") U := h.1 (RX6, 48, yX7_at, "PassInStep") (List.mem_of_getElem? (i := 8) rfl)
theorem nw_X3_54 {U : State} (h : NW U) : va_Nw (.methodLinkNest RX3 54 yX7_at "PassInStep") U := h.1 (RX3, 54, yX7_at, "PassInStep") (List.mem_of_getElem? (i := 9) rfl)
theorem nw_X6_83 {U : State} (h : NW U) : va_Nw (.methodLinkNest RX6 83 yX7_treadAlone "PassInStep") U := h.1 (RX6, 83, yX7_treadAlone, "PassInStep") (List.mem_of_getElem? (i := 10) rfl)
theorem nw_X6_90 {U : State} (h : NW U) : va_Nw (.methodLinkNest RX6 90 yX7_isBetween "PassInStep") U := h.1 (RX6, 90, yX7_isBetween, "PassInStep") (List.mem_of_getElem? (i := 11) rfl)
theorem nw_X1_53 {U : State} (h : NW U) : va_Nw (.methodLinkNest RX1 53 yX7_at "PassInStep") U := h.1 (RX1, 53, yX7_at, "PassInStep") (List.mem_of_getElem? (i := 12) rfl)
theorem nw_X1_88 {U : State} (h : NW U) : va_Nw (.methodLinkNest RX1 88 yX7_isBetween "PassInStep") U := h.1 (RX1, 88, yX7_isBetween, "PassInStep") (List.mem_of_getElem? (i := 13) rfl)
theorem nw_X2_22 {U : State} (h : NW U) : va_Nw (.methodLinkNest RX2 22 yX7_put "PassInStep") U := h.1 (RX2, 22, yX7_put, "PassInStep") (List.mem_of_getElem? (i := 14) rfl)
theorem nw_X2_33 {U : State} (h : NW U) : va_Nw (.methodLinkNest RX2 33 yX7_isBetween "PassInStep") U := h.1 (RX2, 33, yX7_isBetween, "PassInStep") (List.mem_of_getElem? (i := 15) rfl)
theorem nw_X2_37 {U : State} (h : NW U) : va_Nw (.methodLinkNest RX2 37 yX7_at "PassInStep") U := h.1 (RX2, 37, yX7_at, "PassInStep") (List.mem_of_getElem? (i := 16) rfl)
theorem nw_X2_41 {U : State} (h : NW U) : va_Nw (.methodLinkNest RX2 41 yX7_treadAlone "PassInStep") U := h.1 (RX2, 41, yX7_treadAlone, "PassInStep") (List.mem_of_getElem? (i := 17) rfl)
theorem nw_X0_64 {U : State} (h : NW U) : va_Nw (.methodLinkNest RX0 64 yX7_put "PassInStep") U := h.1 (RX0, 64, yX7_put, "PassInStep") (List.mem_of_getElem? (i := 18) rfl)
theorem nw_X0_33 {U : State} (h : NW U) : va_Nw (.methodLinkNest RX0 33 yX7_at "PassInStep") U := h.1 (RX0, 33, yX7_at, "PassInStep") (List.mem_of_getElem? (i := 19) rfl)
def KK (D : va_G) (cI cZ : ClassId) (U : State) : Prop := va_K D vwCl [(cI, .int), (cZ, .boolean)] U ∧ NW U
theorem KK_warm {D : va_G} {cI cZ : ClassId} {s U : State} (hW : s.WarmedH U.vm) (h : KK D cI cZ s) : KK D cI cZ U := ⟨va_K.moved hW.alike h.1, ⟨fun q hq => va_Nw.warmM hW (h.2.1 q hq), fun q hq => va_Nw.warmF hW (h.2.2 q hq)⟩⟩
theorem KK_vm {D : va_G} {cI cZ : ClassId} {s U : State} (hv : s.vm = U.vm) (h : KK D cI cZ s) : KK D cI cZ U := ⟨va_K.moved (hv ▸ Vm.Alike.refl s.vm) h.1, ⟨fun q hq => va_Nw.same rfl hv (h.2.1 q hq), fun q hq => va_Nw.same rfl hv (h.2.2 q hq)⟩⟩
def PU (D : va_G) (cI cZ : ClassId) (ws : va_W) (sz : Nat) (U : State) : Prop := U.heap.size = sz ∧ va_P D vwCl ws U.heap ∧ KK D cI cZ U ∧ va_D (fun _ => True) ws
theorem PU_blind {D : va_G} {cI cZ : ClassId} {ws : va_W} {sz : Nat} {av : List Value} : FrameBlind (va_Pc av (PU D cI cZ ws sz)) := fun a U g mk h => ⟨h.1, h.2.1, h.2.2.1, KK_vm (s := U) (U := U.calling g mk a) rfl h.2.2.2.1, h.2.2.2.2⟩
theorem PU_pre {D : va_G} {cI cZ : ClassId} {wc : va_W} {H : Heap} {s : State} (hK : KK D cI cZ s) (hP : va_P D vwCl wc H) (A : Nat → Prop) (hD : va_D A wc) (_ : ∀ q, va_A wc H.size q → A q) : ∀ U : State, U.heap = H → s.WarmedH U.vm → PU D cI cZ wc H.size U := fun U hU hW => ⟨by rw [hU], by rw [hU]; exact hP, KK_warm hW hK, hD.weaken (fun _ _ _ _ => trivial)⟩
def FS (tF : Nat) (A : Nat → Prop) (U : State) : Prop := va_Z "PassInStep" "FACTORIALS" "[I" (.ref tF) A U U.heap ∧ va_T .int tF 6 (fun j => .int (fF j)) A U U.heap
def PUS (D : va_G) (cI cZ : ClassId) (tF : Nat) (ws : va_W) (sz : Nat) (U : State) : Prop := PU D cI cZ ws sz U ∧ FS tF (va_A ws sz) U
theorem PUS_blind {D : va_G} {cI cZ : ClassId} {tF : Nat} {ws : va_W} {sz : Nat} {av : List Value} : FrameBlind (va_Pc av (PUS D cI cZ tF ws sz)) := fun a U g mk h => ⟨h.1, ⟨h.2.1.1, h.2.1.2.1, KK_vm (s := U) (U := U.calling g mk a) rfl h.2.1.2.2.1, h.2.1.2.2.2⟩, va_Z.moved (u := U) (U := U.calling g mk a) (Vm.Alike.refl U.vm) h.2.2.1, va_T.moved (u := U) (U := U.calling g mk a) (Vm.Alike.refl U.vm) h.2.2.2⟩
theorem PUS_pre {D : va_G} {cI cZ : ClassId} {tF : Nat} {wc : va_W} {A0 : Nat → Prop} {H : Heap} {locs : List Loc} {s : State} (hK : KK D cI cZ s) (hF : FS tF A0 s) (hS : va_S A0 s.heap H locs) (hP : va_P D vwCl wc H) (hD : va_D A0 wc) (hA : ∀ q, va_A wc H.size q → A0 q) : ∀ U : State, U.heap = H → s.WarmedH U.vm → PUS D cI cZ tF wc H.size U := fun U hU hW => ⟨PU_pre hK hP A0 hD hA U hU hW, by
  refine ⟨?_, ?_⟩
  · rw [hU]; exact ((hF.1.kept (fun a h1 h2 => hS.2.1 a h1 h2)).moved hW.alike).narrow hA
  · rw [hU]; exact ((hF.2.kept (fun a h1 h2 => hS.2.1 a h1 h2)).moved hW.alike).narrow hA⟩
