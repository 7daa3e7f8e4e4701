section KCALL
variable {p : Program} {l : Launch} {e : Env} {R : Room} {s : State} {m : MethodId} {args : Array Value} {below : List Frame} {meth : Method} {c : Code} {H : Heap} {locs : List Loc} {cells slots : Nat} {Q : State → Prop}
variable {cc : ByteArray} {nL : Nat} {Ts : List Cond} {own : String} {y : MethodName} {bytes : ByteArray} {maxL n index : Nat} {ret : Option FieldType} {ws : List Cond} {rm : Room} {As rest st0 : List Value} {b : Addr} {D : va_G} {B : State → Prop} {wsC wc w1 : va_W} {A : Nat → Prop} {pc : Nat} {ls : Array Slot} {host C : String}
theorem kVi {r0 : Int32} (CF : CallFix p m c cc nL s args Ts own) (cw : CallW R s args own C index y bytes maxL ret ws rm 0 0 n) (hbl : FrameBlind (va_Pc (.ref b :: As) B)) (hP : va_P D vwCl wsC H) (hD : va_D A wsC) (hS : va_S A s.heap H locs) (hA : ∀ q, s.heap.size ≤ q → A q) (hrecv : ∃ cellB : Cell, H[b]? = some cellB ∧ cellB.vm.isStatics = false ∧ s.vm.findClass C = some cellB.cls) (isC : List Nat)
    (hpre : va_P D vwCl wc H → va_D A wc → (∀ q, va_A wc H.size q → A q) → ∀ U : State, U.heap = H → s.WarmedH U.vm → B U)
    (hM : Met l y ws rm (va_Pc (.ref b :: As) B) (va_Qi (fun (r : Int32) (_ : Unit) => r = r0) (fun _ t => va_P D vwCl w1 t.heap) (va_A wc H.size)) 0 0 (va_A wc H.size))
    (hC : isC.map (fun i => wsC[i]?) = wc.map some) (hn : va_nd isC = true) (hw1 : w1.map Prod.fst = wc.map Prod.fst)
    (hlen : As.length = n) (hsz : ls.size = nL) (hst : st0 = As.reverse ++ .ref b :: rest) (hW : (rest.map fun v => v.category).sum ≤ 8) (hdg : decode cc pc = .ok (.invokevirtual index, 3)) (hcs : cells ≤ R.cells ∧ slots ≤ R.slots)
    (kk : ∀ (H1 : Heap) (locs1 : List Loc), va_P D vwCl (wst wsC isC w1) H1 → va_S A s.heap H1 locs1 → W p l e R s m args below meth c H1 locs1 cells slots Q (F0 m (pc + 3) ls (.int r0 :: rest))) : W p l e R s m args below meth c H locs cells slots Q (F0 m pc ls st0) := by
  have hPc := wsubP hP isC hC
  have hDc := hD.sub isC hn hC
  have hF := va_free hD hS hA isC hC
  refine va_calli (va_runV CF hM cw ⟨hbl, hrecv, fun U hU hW => ⟨rfl, hpre hPc hDc hF U hU hW⟩⟩ rfl hlen hsz hst (lv_room hW) hdg hcs) hS (fun q _ h => hF q h) hF (fun r u t H1 locs1 ht hvm hw hB hz1 hk1 hS1 => ?_)
  subst hw
  exact kk H1 locs1 (wj hP hD isC hC hw1 hk1 (by rw [← ht]; exact hB)) hS1
theorem kVl {r0 : Int64} (CF : CallFix p m c cc nL s args Ts own) (cw : CallW R s args own C index y bytes maxL ret ws rm 0 0 n) (hbl : FrameBlind (va_Pc (.ref b :: As) B)) (hP : va_P D vwCl wsC H) (hD : va_D A wsC) (hS : va_S A s.heap H locs) (hA : ∀ q, s.heap.size ≤ q → A q) (hrecv : ∃ cellB : Cell, H[b]? = some cellB ∧ cellB.vm.isStatics = false ∧ s.vm.findClass C = some cellB.cls) (isC : List Nat)
    (hpre : va_P D vwCl wc H → va_D A wc → (∀ q, va_A wc H.size q → A q) → ∀ U : State, U.heap = H → s.WarmedH U.vm → B U)
    (hM : Met l y ws rm (va_Pc (.ref b :: As) B) (va_Ql (fun (r : Int64) (_ : Unit) => r = r0) (fun _ t => va_P D vwCl w1 t.heap) (va_A wc H.size)) 0 0 (va_A wc H.size))
    (hC : isC.map (fun i => wsC[i]?) = wc.map some) (hn : va_nd isC = true) (hw1 : w1.map Prod.fst = wc.map Prod.fst)
    (hlen : As.length = n) (hsz : ls.size = nL) (hst : st0 = As.reverse ++ .ref b :: rest) (hW : (rest.map fun v => v.category).sum ≤ 8) (hdg : decode cc pc = .ok (.invokevirtual index, 3)) (hcs : cells ≤ R.cells ∧ slots ≤ R.slots)
    (kk : ∀ (H1 : Heap) (locs1 : List Loc), va_P D vwCl (wst wsC isC w1) H1 → va_S A s.heap H1 locs1 → W p l e R s m args below meth c H1 locs1 cells slots Q (F0 m (pc + 3) ls (.long r0 :: rest))) : W p l e R s m args below meth c H locs cells slots Q (F0 m pc ls st0) := by
  have hPc := wsubP hP isC hC
  have hDc := hD.sub isC hn hC
  have hF := va_free hD hS hA isC hC
  refine va_calll (va_runV CF hM cw ⟨hbl, hrecv, fun U hU hW => ⟨rfl, hpre hPc hDc hF U hU hW⟩⟩ rfl hlen hsz hst (lv_room hW) hdg hcs) hS (fun q _ h => hF q h) hF (fun r u t H1 locs1 ht hvm hw hB hz1 hk1 hS1 => ?_)
  subst hw
  exact kk H1 locs1 (wj hP hD isC hC hw1 hk1 (by rw [← ht]; exact hB)) hS1
theorem kVv (CF : CallFix p m c cc nL s args Ts own) (cw : CallW R s args own C index y bytes maxL ret ws rm 0 0 n) (hbl : FrameBlind (va_Pc (.ref b :: As) B)) (hP : va_P D vwCl wsC H) (hD : va_D A wsC) (hS : va_S A s.heap H locs) (hA : ∀ q, s.heap.size ≤ q → A q) (hrecv : ∃ cellB : Cell, H[b]? = some cellB ∧ cellB.vm.isStatics = false ∧ s.vm.findClass C = some cellB.cls) (isC : List Nat)
    (hpre : va_P D vwCl wc H → va_D A wc → (∀ q, va_A wc H.size q → A q) → ∀ U : State, U.heap = H → s.WarmedH U.vm → B U)
    (hM : Met l y ws rm (va_Pc (.ref b :: As) B) (va_Qv (fun (_ : Unit) => True) (fun _ t => va_P D vwCl w1 t.heap) (va_A wc H.size)) 0 0 (va_A wc H.size))
    (hC : isC.map (fun i => wsC[i]?) = wc.map some) (hn : va_nd isC = true) (hw1 : w1.map Prod.fst = wc.map Prod.fst)
    (hlen : As.length = n) (hsz : ls.size = nL) (hst : st0 = As.reverse ++ .ref b :: rest) (hW : (rest.map fun v => v.category).sum ≤ 8) (hdg : decode cc pc = .ok (.invokevirtual index, 3)) (hcs : cells ≤ R.cells ∧ slots ≤ R.slots)
    (kk : ∀ (H1 : Heap) (locs1 : List Loc), va_P D vwCl (wst wsC isC w1) H1 → va_S A s.heap H1 locs1 → W p l e R s m args below meth c H1 locs1 cells slots Q (F0 m (pc + 3) ls rest)) : W p l e R s m args below meth c H locs cells slots Q (F0 m pc ls st0) := by
  have hPc := wsubP hP isC hC
  have hDc := hD.sub isC hn hC
  have hF := va_free hD hS hA isC hC
  refine va_callv (va_runV CF hM cw ⟨hbl, hrecv, fun U hU hW => ⟨rfl, hpre hPc hDc hF U hU hW⟩⟩ rfl hlen hsz hst (lv_room hW) hdg hcs) hS (fun q _ h => hF q h) hF (fun u t H1 locs1 ht hvm hw hB hz1 hk1 hS1 => ?_)
  exact kk H1 locs1 (wj hP hD isC hC hw1 hk1 (by rw [← ht]; exact hB)) hS1
theorem kSi {r0 : Int32} (CF : CallFix p m c cc nL s args Ts own) (cw : CallB R s args own index y bytes maxL ret ws rm 0 0 n ∧ (Cond.static y).before args s = true) (hbl : FrameBlind (va_Pc As B)) (hP : va_P D vwCl wsC H) (hD : va_D A wsC) (hS : va_S A s.heap H locs) (hA : ∀ q, s.heap.size ≤ q → A q) (isC : List Nat)
    (hpre : va_P D vwCl wc H → va_D A wc → (∀ q, va_A wc H.size q → A q) → ∀ U : State, U.heap = H → s.WarmedH U.vm → B U)
    (hM : Met l y ws rm (va_Pc As B) (va_Qi (fun (r : Int32) (_ : Unit) => r = r0) (fun _ t => va_P D vwCl w1 t.heap) (va_A wc H.size)) 0 0 (va_A wc H.size))
    (hC : isC.map (fun i => wsC[i]?) = wc.map some) (hn : va_nd isC = true) (hw1 : w1.map Prod.fst = wc.map Prod.fst)
    (hlen : As.length = n) (hsz : ls.size = nL) (hst : st0 = As.reverse ++ rest) (hW : (rest.map fun v => v.category).sum ≤ 8) (hdg : decode cc pc = .ok (.invokestatic index, 3)) (hcs : cells ≤ R.cells ∧ slots ≤ R.slots)
    (kk : ∀ (H1 : Heap) (locs1 : List Loc), va_P D vwCl (wst wsC isC w1) H1 → va_S A s.heap H1 locs1 → W p l e R s m args below meth c H1 locs1 cells slots Q (F0 m (pc + 3) ls (.int r0 :: rest))) : W p l e R s m args below meth c H locs cells slots Q (F0 m pc ls st0) := by
  have hPc := wsubP hP isC hC
  have hDc := hD.sub isC hn hC
  have hF := va_free hD hS hA isC hC
  refine va_calli (va_runS CF hM cw ⟨hbl, fun U hU hW => ⟨rfl, hpre hPc hDc hF U hU hW⟩⟩ rfl hlen hsz hst (lv_room hW) hdg hcs) hS (fun q _ h => hF q h) hF (fun r u t H1 locs1 ht hvm hw hB hz1 hk1 hS1 => ?_)
  subst hw
  exact kk H1 locs1 (wj hP hD isC hC hw1 hk1 (by rw [← ht]; exact hB)) hS1
theorem kSl {r0 : Int64} (CF : CallFix p m c cc nL s args Ts own) (cw : CallB R s args own index y bytes maxL ret ws rm 0 0 n ∧ (Cond.static y).before args s = true) (hbl : FrameBlind (va_Pc As B)) (hP : va_P D vwCl wsC H) (hD : va_D A wsC) (hS : va_S A s.heap H locs) (hA : ∀ q, s.heap.size ≤ q → A q) (isC : List Nat)
    (hpre : va_P D vwCl wc H → va_D A wc → (∀ q, va_A wc H.size q → A q) → ∀ U : State, U.heap = H → s.WarmedH U.vm → B U)
    (hM : Met l y ws rm (va_Pc As B) (va_Ql (fun (r : Int64) (_ : Unit) => r = r0) (fun _ t => va_P D vwCl w1 t.heap) (va_A wc H.size)) 0 0 (va_A wc H.size))
    (hC : isC.map (fun i => wsC[i]?) = wc.map some) (hn : va_nd isC = true) (hw1 : w1.map Prod.fst = wc.map Prod.fst)
    (hlen : As.length = n) (hsz : ls.size = nL) (hst : st0 = As.reverse ++ rest) (hW : (rest.map fun v => v.category).sum ≤ 8) (hdg : decode cc pc = .ok (.invokestatic index, 3)) (hcs : cells ≤ R.cells ∧ slots ≤ R.slots)
    (kk : ∀ (H1 : Heap) (locs1 : List Loc), va_P D vwCl (wst wsC isC w1) H1 → va_S A s.heap H1 locs1 → W p l e R s m args below meth c H1 locs1 cells slots Q (F0 m (pc + 3) ls (.long r0 :: rest))) : W p l e R s m args below meth c H locs cells slots Q (F0 m pc ls st0) := by
  have hPc := wsubP hP isC hC
  have hDc := hD.sub isC hn hC
  have hF := va_free hD hS hA isC hC
  refine va_calll (va_runS CF hM cw ⟨hbl, fun U hU hW => ⟨rfl, hpre hPc hDc hF U hU hW⟩⟩ rfl hlen hsz hst (lv_room hW) hdg hcs) hS (fun q _ h => hF q h) hF (fun r u t H1 locs1 ht hvm hw hB hz1 hk1 hS1 => ?_)
  subst hw
  exact kk H1 locs1 (wj hP hD isC hC hw1 hk1 (by rw [← ht]; exact hB)) hS1
theorem kSv (CF : CallFix p m c cc nL s args Ts own) (cw : CallB R s args own index y bytes maxL ret ws rm 0 0 n ∧ (Cond.static y).before args s = true) (hbl : FrameBlind (va_Pc As B)) (hP : va_P D vwCl wsC H) (hD : va_D A wsC) (hS : va_S A s.heap H locs) (hA : ∀ q, s.heap.size ≤ q → A q) (isC : List Nat)
    (hpre : va_P D vwCl wc H → va_D A wc → (∀ q, va_A wc H.size q → A q) → ∀ U : State, U.heap = H → s.WarmedH U.vm → B U)
    (hM : Met l y ws rm (va_Pc As B) (va_Qv (fun (_ : Unit) => True) (fun _ t => va_P D vwCl w1 t.heap) (va_A wc H.size)) 0 0 (va_A wc H.size))
    (hC : isC.map (fun i => wsC[i]?) = wc.map some) (hn : va_nd isC = true) (hw1 : w1.map Prod.fst = wc.map Prod.fst)
    (hlen : As.length = n) (hsz : ls.size = nL) (hst : st0 = As.reverse ++ rest) (hW : (rest.map fun v => v.category).sum ≤ 8) (hdg : decode cc pc = .ok (.invokestatic index, 3)) (hcs : cells ≤ R.cells ∧ slots ≤ R.slots)
    (kk : ∀ (H1 : Heap) (locs1 : List Loc), va_P D vwCl (wst wsC isC w1) H1 → va_S A s.heap H1 locs1 → W p l e R s m args below meth c H1 locs1 cells slots Q (F0 m (pc + 3) ls rest)) : W p l e R s m args below meth c H locs cells slots Q (F0 m pc ls st0) := by
  have hPc := wsubP hP isC hC
  have hDc := hD.sub isC hn hC
  have hF := va_free hD hS hA isC hC
  refine va_callv (va_runS CF hM cw ⟨hbl, fun U hU hW => ⟨rfl, hpre hPc hDc hF U hU hW⟩⟩ rfl hlen hsz hst (lv_room hW) hdg hcs) hS (fun q _ h => hF q h) hF (fun u t H1 locs1 ht hvm hw hB hz1 hk1 hS1 => ?_)
  exact kk H1 locs1 (wj hP hD isC hC hw1 hk1 (by rw [← ht]; exact hB)) hS1
theorem kNi {r0 : Int32} (CF : CallFix p m c cc nL s args Ts own) (cw : va_CN R s args own index y host bytes maxL ret ws rm 0 0 n ∧ (Cond.static y).before args s = true ∧ True) (hbl : FrameBlind (va_Pc As B)) (hP : va_P D vwCl wsC H) (hD : va_D A wsC) (hS : va_S A s.heap H locs) (hA : ∀ q, s.heap.size ≤ q → A q) (isC : List Nat)
    (hpre : va_P D vwCl wc H → va_D A wc → (∀ q, va_A wc H.size q → A q) → ∀ U : State, U.heap = H → s.WarmedH U.vm → B U)
    (hM : Met l y ws rm (va_Pc As B) (va_Qi (fun (r : Int32) (_ : Unit) => r = r0) (fun _ t => va_P D vwCl w1 t.heap) (va_A wc H.size)) 0 0 (va_A wc H.size))
    (hC : isC.map (fun i => wsC[i]?) = wc.map some) (hn : va_nd isC = true) (hw1 : w1.map Prod.fst = wc.map Prod.fst)
    (hlen : As.length = n) (hsz : ls.size = nL) (hst : st0 = As.reverse ++ rest) (hW : (rest.map fun v => v.category).sum ≤ 8) (hdg : decode cc pc = .ok (.invokestatic index, 3)) (hcs : cells ≤ R.cells ∧ slots ≤ R.slots)
    (kk : ∀ (H1 : Heap) (locs1 : List Loc), va_P D vwCl (wst wsC isC w1) H1 → va_S A s.heap H1 locs1 → W p l e R s m args below meth c H1 locs1 cells slots Q (F0 m (pc + 3) ls (.int r0 :: rest))) : W p l e R s m args below meth c H locs cells slots Q (F0 m pc ls st0) := by
  have hPc := wsubP hP isC hC
  have hDc := hD.sub isC hn hC
  have hF := va_free hD hS hA isC hC
  refine va_calli (va_runSN CF hM cw ⟨hbl, fun U hU hW => ⟨rfl, hpre hPc hDc hF U hU hW⟩⟩ rfl hlen hsz hst (lv_room hW) hdg hcs) hS (fun q _ h => hF q h) hF (fun r u t H1 locs1 ht hvm hw hB hz1 hk1 hS1 => ?_)
  subst hw
  exact kk H1 locs1 (wj hP hD isC hC hw1 hk1 (by rw [← ht]; exact hB)) hS1
theorem kNv (CF : CallFix p m c cc nL s args Ts own) (cw : va_CN R s args own index y host bytes maxL ret ws rm 0 0 n ∧ (Cond.static y).before args s = true ∧ True) (hbl : FrameBlind (va_Pc As B)) (hP : va_P D vwCl wsC H) (hD : va_D A wsC) (hS : va_S A s.heap H locs) (hA : ∀ q, s.heap.size ≤ q → A q) (isC : List Nat)
    (hpre : va_P D vwCl wc H → va_D A wc → (∀ q, va_A wc H.size q → A q) → ∀ U : State, U.heap = H → s.WarmedH U.vm → B U)
    (hM : Met l y ws rm (va_Pc As B) (va_Qv (fun (_ : Unit) => True) (fun _ t => va_P D vwCl w1 t.heap) (va_A wc H.size)) 0 0 (va_A wc H.size))
    (hC : isC.map (fun i => wsC[i]?) = wc.map some) (hn : va_nd isC = true) (hw1 : w1.map Prod.fst = wc.map Prod.fst)
    (hlen : As.length = n) (hsz : ls.size = nL) (hst : st0 = As.reverse ++ rest) (hW : (rest.map fun v => v.category).sum ≤ 8) (hdg : decode cc pc = .ok (.invokestatic index, 3)) (hcs : cells ≤ R.cells ∧ slots ≤ R.slots)
    (kk : ∀ (H1 : Heap) (locs1 : List Loc), va_P D vwCl (wst wsC isC w1) H1 → va_S A s.heap H1 locs1 → W p l e R s m args below meth c H1 locs1 cells slots Q (F0 m (pc + 3) ls rest)) : W p l e R s m args below meth c H locs cells slots Q (F0 m pc ls st0) := by
  have hPc := wsubP hP isC hC
  have hDc := hD.sub isC hn hC
  have hF := va_free hD hS hA isC hC
  refine va_callv (va_runSN CF hM cw ⟨hbl, fun U hU hW => ⟨rfl, hpre hPc hDc hF U hU hW⟩⟩ rfl hlen hsz hst (lv_room hW) hdg hcs) hS (fun q _ h => hF q h) hF (fun u t H1 locs1 ht hvm hw hB hz1 hk1 hS1 => ?_)
  exact kk H1 locs1 (wj hP hD isC hC hw1 hk1 (by rw [← ht]; exact hB)) hS1
end KCALL
