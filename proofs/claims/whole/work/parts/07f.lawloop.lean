/-! ===== the law's loop ===== -/
set_option maxHeartbeats 4000000 in
set_option maxRecDepth 100000 in
theorem law_switch {p : Program} {l : Launch} {e : Env} {s : State} {m : MethodId} {below : List Frame} {meth : Method} {c : Code} {Q : State → Prop} {dC : Nat → ClassId} {dI : Nat → Nat → Nat} {cI cZ : ClassId} {tF : Nat} {a : A7} {d : A8} {b L i T : Nat} {xs : Nat → Int32} {σ : S7} {τ : S8} {H : Heap} {locs : List Loc} {ls : Array Slot}
    (X : LC p s m c b L xs dC dI cI cZ tF) (hP : va_P (dC, dI) vwCl (w7 cI a σ ++ w8 cI cZ d τ) H) (hD : va_D (fun q : Nat => s.heap.size ≤ q) (w7 cI a σ ++ w8 cI cZ d τ)) (hS : va_S (fun q : Nat => s.heap.size ≤ q) s.heap H locs) (hl : lv_has ls 4 [(0, .ref b), (1, .ref a.t), (2, .ref d.t), (3, .int (nI i))]) (hi : i + 4 ≤ L) (hI : INV T σ τ) (h18 : T < 2 ^ 17)
    (kk : ∀ (σ2 : S7) (τ2 : S8) (H2 : Heap) (locs2 : List Loc), va_P (dC, dI) vwCl (w7 cI a σ2 ++ w8 cI cZ d τ2) H2 → va_S (fun q : Nat => s.heap.size ≤ q) s.heap H2 locs2 → INV (T + 1) σ2 τ2 → W p l e room_1 s m #[Value.ref b] below meth c H2 locs2 41 899 Q (F0 m 976 ls [])) (x : Int32) : W p l e room_1 s m #[Value.ref b] below meth c H locs 41 899 Q (F0 m 32 ls [.int (x &&& 31)]) := by
  have hx := X.hx
  have hb := X.CF.2.1
  obtain ⟨j, hj, ej⟩ := pk_andE x (m := 31) 5 (by decide)
  have ej : x &&& 31 = nI j := ej
  rw [ej]
  by_cases hq0 : j = 0
  · subst hq0
    exact lv_tableIn (off := 132) (tgt := 164) hx hb dL_law_32 (by decide) (by decide) rfl (by decide) (lwc_write X hP hD hS hl hi hI h18 kk)
  by_cases hq1 : j = 1
  · subst hq1
    exact lv_tableIn (off := 155) (tgt := 187) hx hb dL_law_32 (by decide) (by decide) rfl (by decide) (lwc_wipe X hP hD hS hl hi hI h18 kk)
  by_cases hq2 : j = 2
  · subst hq2
    exact lv_tableIn (off := 168) (tgt := 200) hx hb dL_law_32 (by decide) (by decide) rfl (by decide) (lwc_fault X hP hD hS hl hi hI h18 kk)
  by_cases hq3 : j = 3
  · subst hq3
    exact lv_tableIn (off := 181) (tgt := 213) hx hb dL_law_32 (by decide) (by decide) rfl (by decide) (lwc_party X hP hD hS hl hi hI h18 kk)
  by_cases hq4 : j = 4
  · subst hq4
    exact lv_tableIn (off := 194) (tgt := 226) hx hb dL_law_32 (by decide) (by decide) rfl (by decide) (lwc_about X hP hD hS hl hi hI h18 kk)
  by_cases hq5 : j = 5
  · subst hq5
    exact lv_tableIn (off := 217) (tgt := 249) hx hb dL_law_32 (by decide) (by decide) rfl (by decide) (lwc_walker X hP hD hS hl hi hI h18 kk)
  by_cases hq6 : j = 6
  · subst hq6
    exact lv_tableIn (off := 250) (tgt := 282) hx hb dL_law_32 (by decide) (by decide) rfl (by decide) (lwc_line X hP hD hS hl hi hI h18 kk)
  by_cases hq7 : j = 7
  · subst hq7
    exact lv_tableIn (off := 273) (tgt := 305) hx hb dL_law_32 (by decide) (by decide) rfl (by decide) (lwc_step X hP hD hS hl hi hI h18 kk)
  by_cases hq8 : j = 8
  · subst hq8
    exact lv_tableIn (off := 286) (tgt := 318) hx hb dL_law_32 (by decide) (by decide) rfl (by decide) (lwc_change X hP hD hS hl hi hI h18 kk)
  by_cases hq9 : j = 9
  · subst hq9
    exact lv_tableIn (off := 309) (tgt := 341) hx hb dL_law_32 (by decide) (by decide) rfl (by decide) (lwc_drill X hP hD hS hl hi hI h18 kk)
  by_cases hq10 : j = 10
  · subst hq10
    exact lv_tableIn (off := 358) (tgt := 390) hx hb dL_law_32 (by decide) (by decide) rfl (by decide) (lwc_rescue X hP hD hS hl hi hI h18 kk)
  by_cases hq11 : j = 11
  · subst hq11
    exact lv_tableIn (off := 381) (tgt := 413) hx hb dL_law_32 (by decide) (by decide) rfl (by decide) (lwc_undo X hP hD hS hl hi hI h18 kk)
  by_cases hq12 : j = 12
  · subst hq12
    exact lv_tableIn (off := 394) (tgt := 426) hx hb dL_law_32 (by decide) (by decide) rfl (by decide) (lwc_ahead X hP hD hS hl hi hI h18 kk)
  by_cases hq13 : j = 13
  · subst hq13
    exact lv_tableIn (off := 417) (tgt := 449) hx hb dL_law_32 (by decide) (by decide) rfl (by decide) (lwc_drops X hP hD hS hl hi hI h18 kk)
  by_cases hq14 : j = 14
  · subst hq14
    exact lv_tableIn (off := 440) (tgt := 472) hx hb dL_law_32 (by decide) (by decide) rfl (by decide) (lwc_lines X hP hD hS hl hi hI h18 kk)
  by_cases hq15 : j = 15
  · subst hq15
    exact lv_tableIn (off := 479) (tgt := 511) hx hb dL_law_32 (by decide) (by decide) rfl (by decide) (lwc_drills X hP hD hS hl hi hI h18 kk)
  by_cases hq16 : j = 16
  · subst hq16
    exact lv_tableIn (off := 492) (tgt := 524) hx hb dL_law_32 (by decide) (by decide) rfl (by decide) (lwc_fallsIn X hP hD hS hl hi hI h18 kk)
  by_cases hq17 : j = 17
  · subst hq17
    exact lv_tableIn (off := 525) (tgt := 557) hx hb dL_law_32 (by decide) (by decide) rfl (by decide) (lwc_likes X hP hD hS hl hi hI h18 kk)
  by_cases hq18 : j = 18
  · subst hq18
    exact lv_tableIn (off := 538) (tgt := 570) hx hb dL_law_32 (by decide) (by decide) rfl (by decide) (lwc_judge X hP hD hS hl hi hI h18 kk)
  by_cases hq19 : j = 19
  · subst hq19
    exact lv_tableIn (off := 601) (tgt := 633) hx hb dL_law_32 (by decide) (by decide) rfl (by decide) (lwc_share X hP hD hS hl hi hI h18 kk)
  by_cases hq20 : j = 20
  · subst hq20
    exact lv_tableIn (off := 650) (tgt := 682) hx hb dL_law_32 (by decide) (by decide) rfl (by decide) (lwc_mark X hP hD hS hl hi hI h18 kk)
  by_cases hq21 : j = 21
  · subst hq21
    exact lv_tableIn (off := 683) (tgt := 715) hx hb dL_law_32 (by decide) (by decide) rfl (by decide) (lwc_snowed X hP hD hS hl hi hI h18 kk)
  by_cases hq22 : j = 22
  · subst hq22
    exact lv_tableIn (off := 696) (tgt := 728) hx hb dL_law_32 (by decide) (by decide) rfl (by decide) (lwc_whose X hP hD hS hl hi hI h18 kk)
  by_cases hq23 : j = 23
  · subst hq23
    exact lv_tableIn (off := 719) (tgt := 751) hx hb dL_law_32 (by decide) (by decide) rfl (by decide) (lwc_rests X hP hD hS hl hi hI h18 kk)
  by_cases hq24 : j = 24
  · subst hq24
    exact lv_tableIn (off := 762) (tgt := 794) hx hb dL_law_32 (by decide) (by decide) rfl (by decide) (lwc_stumbles X hP hD hS hl hi hI h18 kk)
  by_cases hq25 : j = 25
  · subst hq25
    exact lv_tableIn (off := 821) (tgt := 853) hx hb dL_law_32 (by decide) (by decide) rfl (by decide) (lwc_seed X hP hD hS hl hi hI h18 kk)
  by_cases hq26 : j = 26
  · subst hq26
    exact lv_tableIn (off := 875) (tgt := 907) hx hb dL_law_32 (by decide) (by decide) rfl (by decide) (lwc_winters X hP hD hS hl hi hI h18 kk)
  by_cases hq27 : j = 27
  · subst hq27
    exact lv_tableIn (off := 898) (tgt := 930) hx hb dL_law_32 (by decide) (by decide) rfl (by decide) (lwc_keep X hP hD hS hl hi hI h18 kk)
  by_cases hq28 : j = 28
  · subst hq28
    exact lv_tableIn (off := 921) (tgt := 953) hx hb dL_law_32 (by decide) (by decide) rfl (by decide) (lwc_again X hP hD hS hl hi hI h18 kk)
  exact lv_tableOut (tgt := 976) hx hb dL_law_32 (Or.inr (by rw [nI_toInt (by omega)]; omega)) (by decide) (kk σ τ H locs hP hS (INV.mono hI (Nat.le_succ T)))
set_option maxHeartbeats 4000000 in
set_option maxRecDepth 100000 in
theorem law_loop {p : Program} {l : Launch} {e : Env} {s : State} {m : MethodId} {below : List Frame} {meth : Method} {c : Code} {dC : Nat → ClassId} {dI : Nat → Nat → Nat} {cI cZ : ClassId} {tF : Nat} {a : A7} {d : A8} {b L : Nat} {xs : Nat → Int32}
    (X : LC p s m c b L xs dC dI cI cZ tF) (hr : meth.sig.returnType = ret) (hlocks : meth.locks = false) : ∀ (n i T : Nat) (σ : S7) (τ : S8) (H : Heap) (locs : List Loc) (ls : Array Slot), i ≤ L → L + 1 ≤ i + n → T ≤ i → INV T σ τ → va_P (dC, dI) vwCl (w7 cI a σ ++ w8 cI cZ d τ) H → va_D (fun q : Nat => s.heap.size ≤ q) (w7 cI a σ ++ w8 cI cZ d τ) → va_S (fun q : Nat => s.heap.size ≤ q) s.heap H locs → lv_has ls 4 [(0, .ref b), (1, .ref a.t), (2, .ref d.t), (3, .int (nI i))] →
      W p l e room_1 s m #[Value.ref b] below meth c H locs 41 899 (lw_Z below #[Value.ref b] s) (F0 m 18 ls [])
  | 0, i, T, _, _, _, _, _, h1, h2, _, _, _, _, _, _ => absurd h2 (by omega)
  | n + 1, i, T, σ, τ, H, locs, ls, h1, h2, hTi, hI, hP, hD, hS, hl => by
    have hx := X.hx
    have hb := X.CF.2.1
    have hL := X.hL
    have ih := law_loop (l := l) (e := e) (below := below) (a := a) (d := d) X hr hlocks n
    refine lv_iload_n hx hb dL_law_18 rfl (lv_at hl 3 rfl) ?_
    refine lv_aload_n hx hb dL_law_19 rfl (lv_at hl 0 rfl) ?_
    refine va_slen hx hb X.hX X.hbl (Nat.not_le.mpr X.hbl) hS dL_law_20 ?_
    refine lv_iconst (v := 4) hx hb dL_law_21 (by decide) ?_
    refine lv_isub hx hb dL_law_22 ?_
    have e4 : (Int32.ofNat L - 4).toInt = (L : Int) - 4 := pk_sub_toInt (a := L) (b := 4) (by omega) (by omega)
    have ei : (nI i).toInt = (i : Int) := nI_toInt (by omega)
    refine lv_icmp_gt (tgt := 982) hx hb dL_law_23 (by decide) (fun hc => ?_) (fun hc => ?_)
    · refine lv_iconst (v := 1) hx hb dL_law_982 (by decide) ?_
      refine va_forget (fun q hq => hS.2.2 q hq) ?_
      refine W.widen (k := 600000) (n := 7302250) (by omega) (by omega) ?_
      exact lw_ret hx hb hr hlocks dL_law_983
    · have hi : i + 4 ≤ L := by
        rw [q_lt, e4, ei] at hc
        omega
      refine lv_aload_n hx hb dL_law_26 rfl (lv_at hl 0 rfl) ?_
      refine lv_iload_n hx hb dL_law_27 rfl (lv_at hl 3 rfl) ?_
      refine va_sld hx hb X.hX X.hbl (Nat.not_le.mpr X.hbl) hS (vp_in_nI (by omega) (by omega)) dL_law_28 ?_
      refine lv_bipush (v := 31) hx hb dL_law_29 (by decide) ?_
      refine lv_iand hx hb dL_law_31 ?_
      refine law_switch X hP hD hS hl hi hI (by omega) (fun σ2 τ2 H2 locs2 hP2 hS2 hI2 => ?_) _
      refine lv_iinc (v := nI (i + 4)) (lv' := [(3, .int (nI (i + 4))), (0, .ref b), (1, .ref a.t), (2, .ref d.t)]) hx hb dL_law_976 hl (k := 3) rfl (by rw [show Int32.ofInt 4 = nI 4 from rfl, nI_add]) (by decide) rfl (fun ls hl => ?_)
      refine lv_goto (tgt := 18) hx hb dL_law_979 (by decide) ?_
      exact ih (i + 4) (T + 1) σ2 τ2 H2 locs2 ls hi (by omega) (by omega) hI2 hP2 (wd hD rfl) hS2 (lv_sub hl [1, 2, 3, 0] rfl)
