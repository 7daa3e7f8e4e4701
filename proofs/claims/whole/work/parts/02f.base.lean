section KINIT
variable {p : Program} {l : Launch} {e : Env} {R : Room} {s : State} {m : MethodId} {args : Array Value} {below : List Frame} {meth : Method} {c : Code} {H : Heap} {locs : List Loc} {cells slots : Nat} {Q : State → Prop}
variable {cc : ByteArray} {nL : Nat} {Ts : List Cond} {own : String} {y : MethodName} {bytes : ByteArray} {maxL n index : Nat} {ws : List Cond} {rm : Room} {As rest st0 : List Value} {b : Addr} {D : va_G} {cI cZ : ClassId} {B : State → Prop} {wsC wc wr : va_W} {A : Nat → Prop} {pc : Nat} {ls : Array Slot} {host : String} {mc ms : Nat}
theorem knewa (hexec : p.tables.exec = Jvm.exec) (hb : c.code = cc) (harr : (Cond.arrayClass .int).before args s = true) (hK : KK D cI cZ s) (hP : va_P D vwCl wsC H) (hD : va_D A wsC) (hS : va_S A s.heap H locs) (hA : ∀ q, s.heap.size ≤ q → A q)
    {i : Int32} {N : Nat} (hn : ¬ i < 0) (hN : i.toNatClampNeg = N) (hbytes : N * componentBytes .int ≤ 536870912) (hcells : cells + 1 ≤ R.cells) (hslots : slots + N ≤ R.slots) (hdg : decode cc pc = .ok (.newarray .int, 2))
    (kk : ∀ (q : Nat) (H1 : Heap), va_P D vwCl (wsC ++ [(q, .inl (cI, N, .inl (fun _ => 0)))]) H1 → va_D A (wsC ++ [(q, .inl (cI, N, .inl (fun _ => 0)))]) → va_S A s.heap H1 locs → W p l e R s m args below meth c H1 locs (cells + 1) (slots + N) Q (F0 m (pc + 2) ls (.ref q :: rest))) : W p l e R s m args below meth c H locs cells slots Q (F0 m pc ls (.int i :: rest)) := by
  have ha : ∀ cA : ClassId, vp_cell cA (N, .inl (fun _ => 0)) = arrV cA N (fun _ => defaultValue .int) := fun cA => vp_cell_i cA N (fun _ => 0)
  refine va_newa (ty := .int) (N' := N) (a0 := (N, .inl (fun _ => 0))) (atype := .int) hexec hb harr rfl hK.1 hP hD hS hA ha hn hN hbytes hcells hslots hdg (fun q cA H1 hK1 hP1 hD1 hS1 => ?_)
  have h1 : s.vm.findClass ("[" ++ FieldType.int.toString) = some cA := (hK1.2 2 (cA, .int) rfl).2
  have h2 : s.vm.findClass ("[" ++ FieldType.int.toString) = some cI := (hK.1.2 0 (cI, .int) rfl).2
  have e1 : cA = cI := Option.some.inj (h1.symm.trans h2)
  subst e1
  exact kk q H1 hP1 hD1 hS1
theorem knewz (hexec : p.tables.exec = Jvm.exec) (hb : c.code = cc) (harr : (Cond.arrayClass .boolean).before args s = true) (hK : KK D cI cZ s) (hP : va_P D vwCl wsC H) (hD : va_D A wsC) (hS : va_S A s.heap H locs) (hA : ∀ q, s.heap.size ≤ q → A q)
    {i : Int32} {N : Nat} (hn : ¬ i < 0) (hN : i.toNatClampNeg = N) (hbytes : N * componentBytes .boolean ≤ 536870912) (hcells : cells + 1 ≤ R.cells) (hslots : slots + N ≤ R.slots) (hdg : decode cc pc = .ok (.newarray .boolean, 2))
    (kk : ∀ (q : Nat) (H1 : Heap), va_P D vwCl (wsC ++ [(q, .inl (cZ, N, .inl (fun _ => 0)))]) H1 → va_D A (wsC ++ [(q, .inl (cZ, N, .inl (fun _ => 0)))]) → va_S A s.heap H1 locs → W p l e R s m args below meth c H1 locs (cells + 1) (slots + N) Q (F0 m (pc + 2) ls (.ref q :: rest))) : W p l e R s m args below meth c H locs cells slots Q (F0 m pc ls (.int i :: rest)) := by
  have ha : ∀ cA : ClassId, vp_cell cA (N, .inl (fun _ => 0)) = arrV cA N (fun _ => defaultValue .boolean) := fun cA => vp_cell_i cA N (fun _ => 0)
  refine va_newa (ty := .boolean) (N' := N) (a0 := (N, .inl (fun _ => 0))) (atype := .boolean) hexec hb harr rfl hK.1 hP hD hS hA ha hn hN hbytes hcells hslots hdg (fun q cA H1 hK1 hP1 hD1 hS1 => ?_)
  have h1 : s.vm.findClass ("[" ++ FieldType.boolean.toString) = some cA := (hK1.2 2 (cA, .boolean) rfl).2
  have h2 : s.vm.findClass ("[" ++ FieldType.boolean.toString) = some cZ := (hK.1.2 1 (cZ, .boolean) rfl).2
  have e1 : cA = cZ := Option.some.inj (h1.symm.trans h2)
  subst e1
  exact kk q H1 hP1 hD1 hS1
theorem kIc {S : Type} {w1 : S → va_W} (CF : CallFix p m c cc nL s args Ts own) (cw : CallB R s args own index y bytes maxL none ws rm mc ms n ∧ y.name = "<init>" ∧ (Cond.instanceMethod y).before args s = true) (hbl : FrameBlind (va_Pc (.ref b :: As) B)) (hP : va_P D vwCl wsC H) (hD : va_D A wsC) (hS : va_S A s.heap H locs) (hA : ∀ q, s.heap.size ≤ q → A q) (isC isR : List Nat)
    (hpre : va_P D vwCl wc H → va_D A wc → (∀ q, va_A wc H.size q → A q) → ∀ U : State, U.heap = H → s.WarmedH U.vm → B U)
    (hM : Met l y ws rm (va_Pc (.ref b :: As) B) (va_Qv (fun (_ : S) => True) (fun u t => va_P D vwCl (w1 u) t.heap ∧ va_D (va_A wc H.size) (w1 u)) (va_A wc H.size)) mc ms (va_A wc H.size))
    (hC : isC.map (fun i => wsC[i]?) = wc.map some) (hR : isR.map (fun i => wsC[i]?) = wr.map some) (hnC : va_nd isC = true) (hn : va_nd isR = true) (hdis : ∀ i ∈ isR, i ∉ isC)
    (hlen : As.length = n) (hsz : ls.size = nL) (hst : st0 = As.reverse ++ .ref b :: rest) (hW : (rest.map fun v => v.category).sum ≤ 8) (hdg : decode cc pc = .ok (.invokespecial index, 3)) (hcs : cells + mc ≤ R.cells ∧ slots + ms ≤ R.slots)
    (kk : ∀ (u : S) (H1 : Heap) (locs1 : List Loc), va_P D vwCl (wr ++ w1 u) H1 → va_D A (wr ++ w1 u) → va_S A s.heap H1 locs1 → W p l e R s m args below meth c H1 locs1 (cells + mc) (slots + ms) Q (F0 m (pc + 3) ls rest)) : W p l e R s m args below meth c H locs cells slots Q (F0 m pc ls st0) := by
  have hPc := wsubP hP isC hC
  have hDc := hD.sub isC hnC hC
  have hF := va_free hD hS hA isC hC
  refine va_callv (va_runI CF hM cw ⟨hbl, fun U hU hW => ⟨rfl, hpre hPc hDc hF U hU hW⟩⟩ rfl hlen hsz hst (lv_room hW) hdg hcs) hS (fun q _ h => hF q h) hF (fun u t H1 locs1 ht hvm hw hB hz1 hk1 hS1 => ?_)
  obtain ⟨h1, h2⟩ := va_join hP hD isC isR hC hR hn hdis hk1 hF (by rw [← ht]; exact hB.1) hB.2
  exact kk u H1 locs1 h1 h2 hS1
theorem kINc {S : Type} {w1 : S → va_W} (CF : CallFix p m c cc nL s args Ts own) (cw : va_CN R s args own index y host bytes maxL none ws rm mc ms n ∧ y.name = "<init>" ∧ (Cond.instanceMethod y).before args s = true) (hbl : FrameBlind (va_Pc (.ref b :: As) B)) (hP : va_P D vwCl wsC H) (hD : va_D A wsC) (hS : va_S A s.heap H locs) (hA : ∀ q, s.heap.size ≤ q → A q) (isC isR : List Nat)
    (hpre : va_P D vwCl wc H → va_D A wc → (∀ q, va_A wc H.size q → A q) → ∀ U : State, U.heap = H → s.WarmedH U.vm → B U)
    (hM : Met l y ws rm (va_Pc (.ref b :: As) B) (va_Qv (fun (_ : S) => True) (fun u t => va_P D vwCl (w1 u) t.heap ∧ va_D (va_A wc H.size) (w1 u)) (va_A wc H.size)) mc ms (va_A wc H.size))
    (hC : isC.map (fun i => wsC[i]?) = wc.map some) (hR : isR.map (fun i => wsC[i]?) = wr.map some) (hnC : va_nd isC = true) (hn : va_nd isR = true) (hdis : ∀ i ∈ isR, i ∉ isC)
    (hlen : As.length = n) (hsz : ls.size = nL) (hst : st0 = As.reverse ++ .ref b :: rest) (hW : (rest.map fun v => v.category).sum ≤ 8) (hdg : decode cc pc = .ok (.invokespecial index, 3)) (hcs : cells + mc ≤ R.cells ∧ slots + ms ≤ R.slots)
    (kk : ∀ (u : S) (H1 : Heap) (locs1 : List Loc), va_P D vwCl (wr ++ w1 u) H1 → va_D A (wr ++ w1 u) → va_S A s.heap H1 locs1 → W p l e R s m args below meth c H1 locs1 (cells + mc) (slots + ms) Q (F0 m (pc + 3) ls rest)) : W p l e R s m args below meth c H locs cells slots Q (F0 m pc ls st0) := by
  have hPc := wsubP hP isC hC
  have hDc := hD.sub isC hnC hC
  have hF := va_free hD hS hA isC hC
  refine va_callv (va_runIN CF hM cw ⟨hbl, fun U hU hW => ⟨rfl, hpre hPc hDc hF U hU hW⟩⟩ rfl hlen hsz hst (lv_room hW) hdg hcs) hS (fun q _ h => hF q h) hF (fun u t H1 locs1 ht hvm hw hB hz1 hk1 hS1 => ?_)
  obtain ⟨h1, h2⟩ := va_join hP hD isC isR hC hR hn hdis hk1 hF (by rw [← ht]; exact hB.1) hB.2
  exact kk u H1 locs1 h1 h2 hS1
end KINIT
section METC
variable {l : Launch} {y : MethodName} {ws ws' : List Cond} {rm : Room} {cc : ByteArray} {maxL : Nat} {D : va_G} {cI cZ : ClassId} {cells : va_W} {sz : Nat} {av : List Value} {mc ms : Nat}
theorem MetC {S : Type} (w1 : S → va_W) (hy : plainName y.cls = true) (hn : y.name = "<init>") (hw : ws = Cond.code y cc maxL none :: ws') (hle : (lg_sl av).length ≤ maxL)
    (body : ∀ (p : Program) (e : Env) (s : State) (m : MethodId) (args : Array Value) (below : List Frame) (meth : Method) (c : Code) (A : Nat → Prop) (Q : State → Prop) (ls : Array Slot), p.tables.exec = Jvm.exec → CallFix p m c cc maxL s args ws y.cls → meth.name = "<init>" → KK D cI cZ s → (∀ q : Nat, s.heap.size ≤ q → A q) → va_D A cells → va_P D vwCl cells s.heap → va_S A s.heap s.heap [] → lv_has ls maxL (lv_args 0 av) →
      (∀ (u : S) (H : Heap) (locs : List Loc) (pc : Nat) (ls1 : Array Slot), va_P D vwCl (w1 u) H → va_D A (w1 u) → va_S A s.heap H locs → decode cc pc = .ok (.return_, 1) → W p l e rm s m args below meth c H locs mc ms Q (F0 m pc ls1 [])) →
      W p l e rm s m args below meth c s.heap [] 0 0 Q (F0 m 0 ls [])) :
    Met l y ws rm (va_Pc av (PU D cI cZ cells sz)) (va_Qv (fun (_ : S) => True) (fun u t => va_P D vwCl (w1 u) t.heap ∧ va_D (va_A cells sz) (w1 u)) (va_A cells sz)) mc ms (va_A cells sz) := by
  refine Met.ofW (cc := cc) (maxL := maxL) (ret := none) hy hw ?_
  intro p e s m args below meth c s₁ X hml hv
  obtain ⟨rfl, hsz, hP, hK, hD⟩ := hv
  have hl := lv_entry av (n := maxL) hle
  have hin : meth.name = "<init>" := (name_of_methodNamed X.named X.method).1.trans hn
  rw [lg_entry_eq]
  subst hsz
  exact body p e s m _ below meth c _ _ _ X.exec ⟨X.exec, X.bytes, hml, findClass_of_methodNamed X.named, atoms_spec (ws := ws) X.pre⟩ hin hK (fun q h => Or.inr h) hD.self hP va_S.rf hl
    (fun u H locs pc ls1 hP1 hD1 hS hd => W.vret X.exec X.bytes X.returns (fun t ht hW => ⟨⟨u, rfl, trivial, by subst ht; exact hP1, hD1⟩, hS.F ht⟩) hS.2.2 hd (hlocks := X.notSynchronized))
end METC
