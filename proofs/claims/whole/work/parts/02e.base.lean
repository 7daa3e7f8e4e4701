section METS
variable {l : Launch} {y : MethodName} {ws ws' : List Cond} {rm : Room} {cc : ByteArray} {maxL : Nat} {D : va_G} {cI cZ : ClassId} {cells cells' : va_W} {sz : Nat} {av : List Value} {B : State → Prop}
theorem MetI {r0 : Int32} (hy : plainName y.cls = true) (hw : ws = Cond.code y cc maxL (some .int) :: ws') (hle : (lg_sl av).length ≤ maxL) (hB : ∀ U, B U → PU D cI cZ cells sz U)
    (body : ∀ (p : Program) (e : Env) (s : State) (m : MethodId) (args : Array Value) (below : List Frame) (meth : Method) (c : Code) (A : Nat → Prop) (Q : State → Prop) (ls : Array Slot), p.tables.exec = Jvm.exec → CallFix p m c cc maxL s args ws y.cls → KK D cI cZ s → (∀ q : Nat, s.heap.size ≤ q → A q) → va_D A cells → va_P D vwCl cells s.heap → va_S A s.heap s.heap [] → lv_has ls maxL (lv_args 0 av) → B s → A = va_A cells sz → s.heap.size = sz →
      (∀ (H : Heap) (locs : List Loc) (pc : Nat) (ls1 : Array Slot), va_P D vwCl cells' H → va_S A s.heap H locs → decode cc pc = .ok (.ireturn, 1) → W p l e rm s m args below meth c H locs 0 0 Q (F0 m pc ls1 [.int r0])) →
      W p l e rm s m args below meth c s.heap [] 0 0 Q (F0 m 0 ls [])) :
    Met l y ws rm (va_Pc av B) (va_Qi (fun (r : Int32) (_ : Unit) => r = r0) (fun _ t => va_P D vwCl cells' t.heap) (va_A cells sz)) 0 0 (va_A cells sz) := by
  refine Met.ofW (cc := cc) (maxL := maxL) (ret := some .int) hy hw ?_
  intro p e s m args below meth c s₁ X hml hv
  obtain ⟨rfl, hBs⟩ := hv
  obtain ⟨hsz, hP, hK, hD⟩ := hB s hBs
  have hl := lv_entry av (n := maxL) hle
  rw [lg_entry_eq]
  subst hsz
  exact body p e s m _ below meth c _ _ _ X.exec ⟨X.exec, X.bytes, hml, findClass_of_methodNamed X.named, atoms_spec (ws := ws) X.pre⟩ hK (fun q h => Or.inr h) hD.self hP va_S.rf hl hBs rfl rfl
    (fun H locs pc ls1 hP1 hS hd => W.iret X.exec X.bytes X.returns (fun t ht hW => ⟨⟨r0, (), rfl, rfl, by subst ht; exact hP1⟩, hS.F ht⟩) hS.2.2 hd (hlocks := X.notSynchronized))
theorem MetZ {r0 : Int32} (hy : plainName y.cls = true) (hw : ws = Cond.code y cc maxL (some .boolean) :: ws') (hle : (lg_sl av).length ≤ maxL) (hB : ∀ U, B U → PU D cI cZ cells sz U)
    (body : ∀ (p : Program) (e : Env) (s : State) (m : MethodId) (args : Array Value) (below : List Frame) (meth : Method) (c : Code) (A : Nat → Prop) (Q : State → Prop) (ls : Array Slot), p.tables.exec = Jvm.exec → CallFix p m c cc maxL s args ws y.cls → KK D cI cZ s → (∀ q : Nat, s.heap.size ≤ q → A q) → va_D A cells → va_P D vwCl cells s.heap → va_S A s.heap s.heap [] → lv_has ls maxL (lv_args 0 av) → B s → A = va_A cells sz → s.heap.size = sz →
      (∀ (H : Heap) (locs : List Loc) (pc : Nat) (ls1 : Array Slot), va_P D vwCl cells' H → va_S A s.heap H locs → narrow .boolean (.int r0) = .int r0 → decode cc pc = .ok (.ireturn, 1) → W p l e rm s m args below meth c H locs 0 0 Q (F0 m pc ls1 [.int r0])) →
      W p l e rm s m args below meth c s.heap [] 0 0 Q (F0 m 0 ls [])) :
    Met l y ws rm (va_Pc av B) (va_Qi (fun (r : Int32) (_ : Unit) => r = r0) (fun _ t => va_P D vwCl cells' t.heap) (va_A cells sz)) 0 0 (va_A cells sz) := by
  refine Met.ofW (cc := cc) (maxL := maxL) (ret := some .boolean) hy hw ?_
  intro p e s m args below meth c s₁ X hml hv
  obtain ⟨rfl, hBs⟩ := hv
  obtain ⟨hsz, hP, hK, hD⟩ := hB s hBs
  have hl := lv_entry av (n := maxL) hle
  rw [lg_entry_eq]
  subst hsz
  exact body p e s m _ below meth c _ _ _ X.exec ⟨X.exec, X.bytes, hml, findClass_of_methodNamed X.named, atoms_spec (ws := ws) X.pre⟩ hK (fun q h => Or.inr h) hD.self hP va_S.rf hl hBs rfl rfl
    (fun H locs pc ls1 hP1 hS hz hd => W.zret X.exec X.bytes X.returns hz (fun t ht hW => ⟨⟨r0, (), rfl, rfl, by subst ht; exact hP1⟩, hS.F ht⟩) hS.2.2 hd (hlocks := X.notSynchronized))
theorem MetL {r0 : Int64} (hy : plainName y.cls = true) (hw : ws = Cond.code y cc maxL (some .long) :: ws') (hle : (lg_sl av).length ≤ maxL) (hB : ∀ U, B U → PU D cI cZ cells sz U)
    (body : ∀ (p : Program) (e : Env) (s : State) (m : MethodId) (args : Array Value) (below : List Frame) (meth : Method) (c : Code) (A : Nat → Prop) (Q : State → Prop) (ls : Array Slot), p.tables.exec = Jvm.exec → CallFix p m c cc maxL s args ws y.cls → KK D cI cZ s → (∀ q : Nat, s.heap.size ≤ q → A q) → va_D A cells → va_P D vwCl cells s.heap → va_S A s.heap s.heap [] → lv_has ls maxL (lv_args 0 av) → B s → A = va_A cells sz → s.heap.size = sz →
      (∀ (H : Heap) (locs : List Loc) (pc : Nat) (ls1 : Array Slot), va_P D vwCl cells' H → va_S A s.heap H locs → decode cc pc = .ok (.lreturn, 1) → W p l e rm s m args below meth c H locs 0 0 Q (F0 m pc ls1 [.long r0])) →
      W p l e rm s m args below meth c s.heap [] 0 0 Q (F0 m 0 ls [])) :
    Met l y ws rm (va_Pc av B) (va_Ql (fun (r : Int64) (_ : Unit) => r = r0) (fun _ t => va_P D vwCl cells' t.heap) (va_A cells sz)) 0 0 (va_A cells sz) := by
  refine Met.ofW (cc := cc) (maxL := maxL) (ret := some .long) hy hw ?_
  intro p e s m args below meth c s₁ X hml hv
  obtain ⟨rfl, hBs⟩ := hv
  obtain ⟨hsz, hP, hK, hD⟩ := hB s hBs
  have hl := lv_entry av (n := maxL) hle
  rw [lg_entry_eq]
  subst hsz
  exact body p e s m _ below meth c _ _ _ X.exec ⟨X.exec, X.bytes, hml, findClass_of_methodNamed X.named, atoms_spec (ws := ws) X.pre⟩ hK (fun q h => Or.inr h) hD.self hP va_S.rf hl hBs rfl rfl
    (fun H locs pc ls1 hP1 hS hd => W.lret X.exec X.bytes X.returns (fun t ht hW => ⟨⟨r0, (), rfl, rfl, by subst ht; exact hP1⟩, hS.F ht⟩) hS.2.2 hd (hlocks := X.notSynchronized))
theorem MetV (hy : plainName y.cls = true) (hw : ws = Cond.code y cc maxL none :: ws') (hle : (lg_sl av).length ≤ maxL) (hB : ∀ U, B U → PU D cI cZ cells sz U)
    (body : ∀ (p : Program) (e : Env) (s : State) (m : MethodId) (args : Array Value) (below : List Frame) (meth : Method) (c : Code) (A : Nat → Prop) (Q : State → Prop) (ls : Array Slot), p.tables.exec = Jvm.exec → CallFix p m c cc maxL s args ws y.cls → KK D cI cZ s → (∀ q : Nat, s.heap.size ≤ q → A q) → va_D A cells → va_P D vwCl cells s.heap → va_S A s.heap s.heap [] → lv_has ls maxL (lv_args 0 av) → B s → A = va_A cells sz → s.heap.size = sz →
      (∀ (H : Heap) (locs : List Loc) (pc : Nat) (ls1 : Array Slot), va_P D vwCl cells' H → va_S A s.heap H locs → decode cc pc = .ok (.return_, 1) → W p l e rm s m args below meth c H locs 0 0 Q (F0 m pc ls1 [])) →
      W p l e rm s m args below meth c s.heap [] 0 0 Q (F0 m 0 ls [])) :
    Met l y ws rm (va_Pc av B) (va_Qv (fun (_ : Unit) => True) (fun _ t => va_P D vwCl cells' t.heap) (va_A cells sz)) 0 0 (va_A cells sz) := by
  refine Met.ofW (cc := cc) (maxL := maxL) (ret := none) hy hw ?_
  intro p e s m args below meth c s₁ X hml hv
  obtain ⟨rfl, hBs⟩ := hv
  obtain ⟨hsz, hP, hK, hD⟩ := hB s hBs
  have hl := lv_entry av (n := maxL) hle
  rw [lg_entry_eq]
  subst hsz
  exact body p e s m _ below meth c _ _ _ X.exec ⟨X.exec, X.bytes, hml, findClass_of_methodNamed X.named, atoms_spec (ws := ws) X.pre⟩ hK (fun q h => Or.inr h) hD.self hP va_S.rf hl hBs rfl rfl
    (fun H locs pc ls1 hP1 hS hd => W.vret X.exec X.bytes X.returns (fun t ht hW => ⟨⟨(), rfl, trivial, by subst ht; exact hP1⟩, hS.F ht⟩) hS.2.2 hd (hlocks := X.notSynchronized))
end METS
