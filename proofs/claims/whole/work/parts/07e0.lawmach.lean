/-! ===== the law: each call, by the machine ===== -/
abbrev LC (p : Program) (s : State) (m : MethodId) (c : Code) (b L : Nat) (xs : Nat → Int32) (dC : Nat → ClassId) (dI : Nat → Nat → Nat) (cI cZ : ClassId) (tF : Nat) : Prop := p.tables.exec = Jvm.exec ∧ CallFix p m c cL_law 4 s #[Value.ref b] wsL_law RL ∧ va_X b L xs s s.heap ∧ b < s.heap.size ∧ L ≤ 2048 ∧ KK (dC, dI) cI cZ s ∧ FS tF (fun q : Nat => s.heap.size ≤ q) s
def lgv (x y : Int32) : Int64 := (x.toInt64 <<< ((32 : Int32).toInt64 &&& 63)) ||| (y.toInt64 &&& 4294967295)
section LAW
variable {p : Program} {l : Launch} {e : Env} {s : State} {m : MethodId} {below : List Frame} {meth : Method} {c : Code} {Q : State → Prop} {dC : Nat → ClassId} {dI : Nat → Nat → Nat} {cI cZ : ClassId} {tF : Nat} {a : A7} {d : A8} {b L i T : Nat} {xs : Nat → Int32} {σ : S7} {τ : S8} {H : Heap} {locs : List Loc} {ls : Array Slot} {q7 q8 : Nat}
theorem LC.hx (X : LC p s m c b L xs dC dI cI cZ tF) : p.tables.exec = Jvm.exec := X.1
theorem LC.CF (X : LC p s m c b L xs dC dI cI cZ tF) : CallFix p m c cL_law 4 s #[Value.ref b] wsL_law RL := X.2.1
theorem LC.hX (X : LC p s m c b L xs dC dI cI cZ tF) : va_X b L xs s s.heap := X.2.2.1
theorem LC.hbl (X : LC p s m c b L xs dC dI cI cZ tF) : b < s.heap.size := X.2.2.2.1
theorem LC.hL (X : LC p s m c b L xs dC dI cI cZ tF) : L ≤ 2048 := X.2.2.2.2.1
theorem LC.hK (X : LC p s m c b L xs dC dI cI cZ tF) : KK (dC, dI) cI cZ s := X.2.2.2.2.2.1
theorem LC.hF (X : LC p s m c b L xs dC dI cI cZ tF) : FS tF (fun q : Nat => s.heap.size ≤ q) s := X.2.2.2.2.2.2
theorem kScr {pc j : Nat} {n : Int} {rest : List Value} (X : LC p s m c b L xs dC dI cI cZ tF) (hS : va_S (fun q : Nat => s.heap.size ≤ q) s.heap H locs) (hl : lv_has ls 4 [(0, .ref b), (1, .ref q7), (2, .ref q8), (3, .int (nI i))]) (hij : i + j < L) (hn : Int32.ofInt n = nI j) (d0 : decode cL_law pc = .ok (.aload_n 0, 1)) (d1 : decode cL_law (pc + 1) = .ok (.iload_n 3, 1)) (d2 : decode cL_law (pc + 2) = .ok (.iconst n, 1)) (d3 : decode cL_law (pc + 3) = .ok (.iadd, 1)) (d4 : decode cL_law (pc + 4) = .ok (.iaload, 1))
    (k : W p l e room_1 s m #[Value.ref b] below meth c H locs 41 899 Q (F0 m (pc + 5) ls (.int (xs (i + j)) :: rest))) : W p l e room_1 s m #[Value.ref b] below meth c H locs 41 899 Q (F0 m pc ls rest) := by
  have hb := X.CF.2.1
  have hL := X.hL
  refine lv_aload_n X.hx hb d0 rfl (lv_at hl 0 rfl) ?_
  refine lv_iload_n X.hx hb d1 rfl (lv_at hl 3 rfl) ?_
  refine lv_iconst X.hx hb d2 hn ?_
  refine lv_iadd X.hx hb d3 ?_
  rw [nI_add]
  refine va_sld X.hx hb X.hX X.hbl (Nat.not_le.mpr X.hbl) hS (vp_in_nI hij (by omega)) d4 ?_
  rw [nI_clamp (by omega)]
  exact k
theorem kNz {cc : ByteArray} {pc : Nat} {x : Int32} {rest : List Value} (hx : p.tables.exec = Jvm.exec) (hb : c.code = cc) (d0 : decode cc pc = .ok (.ifCond .eq 7, 3)) (d3 : decode cc (pc + 3) = .ok (.iconst 1, 1)) (d4 : decode cc (pc + 4) = .ok (.goto 4, 3)) (d7 : decode cc (pc + 7) = .ok (.iconst 0, 1))
    (k : W p l e room_1 s m #[Value.ref b] below meth c H locs 41 899 Q (F0 m (pc + 8) ls (.int (if x = 0 then 0 else 1) :: rest))) : W p l e room_1 s m #[Value.ref b] below meth c H locs 41 899 Q (F0 m pc ls (.int x :: rest)) := by
  refine lv_if_eq (tgt := pc + 7) hx hb d0 (by omega) (fun h => ?_) (fun h => ?_)
  · rw [if_pos h] at k
    exact lv_iconst (v := 0) hx hb d7 (by decide) k
  · rw [if_neg h] at k
    exact lv_iconst (v := 1) hx hb d3 (by decide) (lv_goto (tgt := pc + 8) hx hb d4 (by omega) k)
theorem lgc_self (x : Int64) : lg_cmp x x = 0 := by
  unfold lg_cmp
  simp
end LAW
