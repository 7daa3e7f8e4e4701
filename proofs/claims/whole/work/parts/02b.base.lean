def wst (ws : va_W) : List Nat → va_W → va_W
  | i :: is, c :: cs => wst (ws.set i c) is cs
  | _, _ => ws
theorem wst_P {D : va_G} {cl : List vw_C} {H : Heap} : ∀ (is : List Nat) (w1 ws : va_W), (∀ (k : Nat) (q : Nat × va_E), ws[k]? = some q → k ∉ is → va_at D cl q H) → (∀ (k : Nat) (q : Nat × va_E), w1[k]? = some q → va_at D cl q H) → is.length = w1.length → va_P D cl (wst ws is w1) H
  | [], w1, ws, h, _, _ => fun k q hk => h k q (by simpa [wst] using hk) (by simp)
  | i :: is, [], ws, _, _, hl => by simp at hl
  | i :: is, c :: cs, ws, h, h1, hl => by
    show va_P D cl (wst (ws.set i c) is cs) H
    refine wst_P is cs _ (fun k q hk hn => ?_) (fun k q hk => h1 (k + 1) q (by simpa using hk)) (by simpa using hl)
    by_cases e : i = k
    · subst e
      have hlt : i < (ws.set i c).length := (List.getElem?_eq_some_iff.mp hk).1
      rw [List.getElem?_set_self (by simpa using hlt)] at hk
      cases hk
      exact h1 0 c rfl
    · rw [List.getElem?_set_ne e] at hk
      exact h k q hk (by simp [Ne.symm e, hn])
theorem wd {A : Nat → Prop} {ws ws' : va_W} (h : va_D A ws) (e : ws.map Prod.fst = ws'.map Prod.fst) : va_D A ws' := by
  have key : ∀ (k : Nat) (q : Nat × va_E), ws'[k]? = some q → ∃ q', ws[k]? = some q' ∧ q'.1 = q.1 := by
    intro k q hk
    have h1 : (ws'.map Prod.fst)[k]? = some q.1 := by rw [List.getElem?_map, hk]; rfl
    rw [← e, List.getElem?_map] at h1
    cases hw : ws[k]? with
    | none => rw [hw] at h1; cases h1
    | some q' => rw [hw] at h1; exact ⟨q', rfl, Option.some.inj h1⟩
  refine ⟨fun i j p q hi hj hpq => ?_, fun k q hk => ?_⟩
  · obtain ⟨p', h1, h2⟩ := key i p hi
    obtain ⟨q', h3, h4⟩ := key j q hj
    exact h.1 i j p' q' h1 h3 (by rw [h2, h4, hpq])
  · obtain ⟨q', h1, h2⟩ := key k q hk
    rw [← h2]
    exact h.2 k q' h1
theorem wsubP {D : va_G} {cl : List vw_C} {ws wc : va_W} {H : Heap} (h : va_P D cl ws H) (is : List Nat) (hs : is.map (fun i => ws[i]?) = wc.map some) : va_P D cl wc H := by
  intro k q hk
  have h1 : (is.map (fun i => ws[i]?))[k]? = some (some q) := by rw [hs, List.getElem?_map, hk]; rfl
  rw [List.getElem?_map] at h1
  cases hi : is[k]? with
  | none => rw [hi] at h1; cases h1
  | some i => rw [hi] at h1; exact h i q (Option.some.inj h1)
theorem wj {A0 : Nat → Prop} {D : va_G} {cl : List vw_C} {ws wc w1 : va_W} {H H1 : Heap} (hP : va_P D cl ws H) (hD : va_D A0 ws) (isC : List Nat) (hC : isC.map (fun i => ws[i]?) = wc.map some) (hw1 : w1.map Prod.fst = wc.map Prod.fst)
    (hk : ∀ q : Nat, q < H.size → ¬ va_A wc H.size q → H1[q]? = H[q]?) (hP1 : va_P D cl w1 H1) : va_P D cl (wst ws isC w1) H1 := by
  refine wst_P isC w1 ws (fun k q hq hn => ?_) hP1 ?_
  · have hl := (hP k q hq).lt
    refine (hP k q hq).kept (hk q.1 hl (fun h => ?_))
    rcases h with ⟨k2, e, h⟩ | h
    · have h1 : (isC.map (fun i => ws[i]?))[k2]? = some (some (q.1, e)) := by rw [hC, List.getElem?_map, h]; rfl
      rw [List.getElem?_map] at h1
      cases hi : isC[k2]? with
      | none => rw [hi] at h1; cases h1
      | some i =>
        rw [hi] at h1
        have hij := hD.1 k i q (q.1, e) hq (Option.some.inj h1) rfl
        exact hn (by rw [hij]; exact List.mem_of_getElem? hi)
    · omega
  · have a1 := congrArg List.length hC
    have a2 := congrArg List.length hw1
    simp only [List.length_map] at a1 a2
    omega
