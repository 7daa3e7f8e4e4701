def J_X7_at_16 : Option (Int32) :=
  some 0
def f_X7_at (x1 : Int32) (n_a0 : Nat) (a0 : Nat → Int32) : Option (Int32) :=
  if x1 < 0 then
    J_X7_at_16
  else
    if (Int32.ofNat n_a0) ≤ x1 then
      J_X7_at_16
    else
      (rdI a0 n_a0 x1).bind fun v1 =>
      some v1
def f_X7_put (x1 : Int32) (x2 : Int32) (n_a0 : Nat) (a0 : Nat → Int32) : Option ((Nat → Int32)) :=
  if x1 < 0 then
    some a0
  else
    if (Int32.ofNat n_a0) ≤ x1 then
      some a0
    else
      (wrI a0 n_a0 x1 x2).bind fun w1 =>
      some w1
def L_X6_copyFrom_2 (t_down : Int32) (t_steps : Int32) (a1_down : Int32) (a1_steps : Int32) (a1_line : Nat → Int32) (a1_strides : Nat → Int32) (a1_strains : Nat → Int32) : Nat → Int32 → (Nat → Int32) → (Nat → Int32) → (Nat → Int32) → Option (Int32 × Int32 × (Nat → Int32) × (Nat → Int32) × (Nat → Int32))
  | 0, _, _, _, _ => none
  | fu+1, x2, t_line, t_strides, t_strains =>
    if 5 ≤ x2 then
      some (a1_down, a1_steps, t_line, t_strides, t_strains)
    else
      (f_X7_at x2 5 a1_line).bind fun r1 =>
      (f_X7_put x2 r1 5 t_line).bind fun o4 =>
      (f_X7_at x2 5 a1_strides).bind fun r7 =>
      (f_X7_put x2 r7 5 t_strides).bind fun o10 =>
      (f_X7_at x2 5 a1_strains).bind fun r13 =>
      (f_X7_put x2 r13 5 t_strains).bind fun o16 =>
      L_X6_copyFrom_2 t_down t_steps a1_down a1_steps a1_line a1_strides a1_strains fu (x2 + 1) o4 o10 o16
def f_X6_copyFrom (t_down : Int32) (t_steps : Int32) (a1_down : Int32) (a1_steps : Int32) (a1_line : Nat → Int32) (t_line : Nat → Int32) (a1_strides : Nat → Int32) (t_strides : Nat → Int32) (a1_strains : Nat → Int32) (t_strains : Nat → Int32) : Option (Int32 × Int32 × (Nat → Int32) × (Nat → Int32) × (Nat → Int32)) :=
  L_X6_copyFrom_2 t_down t_steps a1_down a1_steps a1_line a1_strides a1_strains fuelC 0 t_line t_strides t_strains
def f_X6_strideOf (x1 : Int32) (t_strides : Nat → Int32) : Option (Int32) :=
  (f_X7_at x1 5 t_strides).bind fun r1 =>
  some r1
def f_X6_setStride (x1 : Int32) (x2 : Int32) (t_strides : Nat → Int32) : Option ((Nat → Int32)) :=
  (f_X7_put x1 x2 5 t_strides).bind fun o1 =>
  some o1
def f_X3_snowAt (x1 : Int32) (t_depth : Int32) (t_noon : Int32) (t_depthBehind : Int32) : Option (Int32) :=
  if x1 < t_noon then
    some t_depth
  else
    some t_depthBehind
def f_X3_size (t_count : Int32) : Option (Int32) :=
  some t_count
def f_X6_walkerAt (x1 : Int32) (t_line : Nat → Int32) : Option (Int32) :=
  (f_X7_at x1 5 t_line).bind fun r1 =>
  some r1
def f_X6_isDown (x1 : Int32) (t_down : Int32) : Option (Int32) :=
  if ((t_down >>> (x1 &&& 31)) &&& 1) = 0 then
    some 0
  else
    some 1
def f_X3_kindOf (x1 : Int32) (t_kinds : Nat → Int32) : Option (Int32) :=
  (f_X7_at x1 5 t_kinds).bind fun r1 =>
  some r1
def f_X3_beatOf (x1 : Int32) (t_beats : Nat → Int32) : Option (Int32) :=
  (f_X7_at x1 5 t_beats).bind fun r1 =>
  some r1
def J_X7_treadAlone_11 (x0 : Int32) (x1 : Int32) (x3 : Int32) (s0 : Int32) : Option (Int32) :=
  if x0 = 1 then
    some (x1 - (x3 &&& 1))
  else
    if x0 = 2 then
      if s0 = 0 then
        some (x1 + 1)
      else
        some (x1 + 0)
    else
      if x0 = 3 then
        some (x1 + s0)
      else
        some x1
def f_X7_treadAlone (x0 : Int32) (x1 : Int32) (x2 : Int32) (x3 : Int32) : Option (Int32) :=
  if x2 ≤ 0 then
    J_X7_treadAlone_11 x0 x1 x3 0
  else
    if x2 = 0 then none else
    J_X7_treadAlone_11 x0 x1 x3 (x3 - x3 / x2 * x2)
def J_X6_treadBehind_38 (x1 : Int32) (x5 : Int32) (s0 : Int32) (t_steps : Int32) (t_strides : Nat → Int32) (t_told_beats : Nat → Int32) : Option (Int32) :=
  (f_X6_strideOf x1 t_strides).bind fun r1 =>
  (f_X3_beatOf x1 t_told_beats).bind fun r4 =>
  (f_X7_treadAlone x5 r1 r4 t_steps).bind fun r7 =>
  some (r7 + s0)
def J_X6_treadBehind_22 (x1 : Int32) (x4 : Int32) (x5 : Int32) (t_steps : Int32) (t_strides : Nat → Int32) (t_told_beats : Nat → Int32) : Option (Int32) :=
  if x5 = 2 then
    J_X6_treadBehind_38 x1 x5 0 t_steps t_strides t_told_beats
  else
    J_X6_treadBehind_38 x1 x5 ((x4 >>> (x1 &&& 31)) &&& 1) t_steps t_strides t_told_beats
def f_X6_treadBehind (x1 : Int32) (x2 : Int32) (x3 : Int32) (x4 : Int32) (t_steps : Int32) (t_told_kinds : Nat → Int32) (t_strides : Nat → Int32) (t_told_beats : Nat → Int32) : Option (Int32) :=
  (f_X3_kindOf x1 t_told_kinds).bind fun r10 =>
  if r10 = 2 then
    if x2 = 0 then
      J_X6_treadBehind_22 x1 x4 r10 t_steps t_strides t_told_beats
    else
      some x3
  else
    J_X6_treadBehind_22 x1 x4 r10 t_steps t_strides t_told_beats
def J_X7_isBetween_14 : Option (Int32) :=
  some 0
def f_X7_isBetween (x0 : Int32) (x1 : Int32) (x2 : Int32) : Option (Int32) :=
  if x0 < x1 then
    J_X7_isBetween_14
  else
    if x2 < x0 then
      J_X7_isBetween_14
    else
      some 1
def J_X6_takeStep_119 (k23 : Int32 → Int32 → Int32 → Int32 → Int32 → Option (Int32 × Int32 × Int32)) (x3 : Int32) (x4 : Int32) (x5 : Int32) (x6 : Int32) (t_down : Int32) : Option (Int32 × Int32 × Int32) :=
  k23 x3 x4 x5 (x6 + 1) t_down
def J_X6_takeStep_103 (k23 : Int32 → Int32 → Int32 → Int32 → Int32 → Option (Int32 × Int32 × Int32)) (x3 : Int32) (x4 : Int32) (x5 : Int32) (x6 : Int32) (x7 : Int32) (t_down : Int32) : Option (Int32 × Int32 × Int32) :=
  J_X6_takeStep_119 k23 (x3 + 1) x4 x5 x6 (t_down ||| ((1 : Int32) <<< (x7 &&& 31)))
def J_X6_takeStep_93 (k23 : Int32 → Int32 → Int32 → Int32 → Int32 → Option (Int32 × Int32 × Int32)) (x3 : Int32) (x6 : Int32) (x8 : Int32) (t_down : Int32) : Option (Int32 × Int32 × Int32) :=
  J_X6_takeStep_119 k23 x3 1 x8 x6 t_down
def L_X6_takeStep_23 (x1 : Int32) (x2 : Int32) (t_steps : Int32) (t_told_count : Int32) (t_line : Nat → Int32) (t_told_kinds : Nat → Int32) (t_strides : Nat → Int32) (t_told_beats : Nat → Int32) : Nat → Int32 → Int32 → Int32 → Int32 → Int32 → Option (Int32 × Int32 × Int32)
  | 0, _, _, _, _, _ => none
  | fu+1, x3, x4, x5, x6, t_down =>
    (f_X3_size t_told_count).bind fun r1 =>
    if r1 ≤ x6 then
      some (x3, t_down, (t_steps + 1))
    else
      (f_X6_walkerAt x6 t_line).bind fun r4 =>
      (f_X6_isDown r4 t_down).bind fun r7 =>
      if r7 = 0 then
        (f_X6_treadBehind r4 x4 x5 x1 t_steps t_told_kinds t_strides t_told_beats).bind fun r10 =>
        if x4 = 0 then
          (f_X7_isBetween r10 1 x2).bind fun r13 =>
          if r13 = 0 then
            J_X6_takeStep_103 (L_X6_takeStep_23 x1 x2 t_steps t_told_count t_line t_told_kinds t_strides t_told_beats fu) x3 x4 x5 x6 r4 t_down
          else
            J_X6_takeStep_93 (L_X6_takeStep_23 x1 x2 t_steps t_told_count t_line t_told_kinds t_strides t_told_beats fu) x3 x6 r10 t_down
        else
          if r10 = x5 then
            J_X6_takeStep_93 (L_X6_takeStep_23 x1 x2 t_steps t_told_count t_line t_told_kinds t_strides t_told_beats fu) x3 x6 r10 t_down
          else
            J_X6_takeStep_103 (L_X6_takeStep_23 x1 x2 t_steps t_told_count t_line t_told_kinds t_strides t_told_beats fu) x3 x4 x5 x6 r4 t_down
      else
        J_X6_takeStep_119 (L_X6_takeStep_23 x1 x2 t_steps t_told_count t_line t_told_kinds t_strides t_told_beats fu) x3 x4 x5 x6 t_down
def f_X6_takeStep (x1 : Int32) (t_down : Int32) (t_steps : Int32) (t_told_count : Int32) (t_told_depth : Int32) (t_told_noon : Int32) (t_told_depthBehind : Int32) (t_line : Nat → Int32) (t_told_kinds : Nat → Int32) (t_strides : Nat → Int32) (t_told_beats : Nat → Int32) : Option (Int32 × Int32 × Int32) :=
  (f_X3_snowAt t_steps t_told_depth t_told_noon t_told_depthBehind).bind fun r16 =>
  L_X6_takeStep_23 x1 r16 t_steps t_told_count t_line t_told_kinds t_strides t_told_beats fuelC 0 0 0 0 t_down
def J_X0_tryRest_131 (k76 : Int32 → Int32 → Int32 → Int32 → Int32 → Option (Int32 × Int32 × (Nat → Int32) × (Nat → Int32) × (Nat → Int32) × (Nat → Int32) × (Nat → Int32))) (x4 : Int32) (x6 : Int32) (s0 : Int32) (s1 : Int32) (t_trial_down : Int32) (t_trial_steps : Int32) : Option (Int32 × Int32 × (Nat → Int32) × (Nat → Int32) × (Nat → Int32) × (Nat → Int32) × (Nat → Int32)) :=
  k76 x4 (s1 + s0) (x6 + 1) t_trial_down t_trial_steps
def J_X0_tryRest_110 (k76 : Int32 → Int32 → Int32 → Int32 → Int32 → Option (Int32 × Int32 × (Nat → Int32) × (Nat → Int32) × (Nat → Int32) × (Nat → Int32) × (Nat → Int32))) (x2 : Int32) (x5 : Int32) (x6 : Int32) (s0 : Int32) (s1 : Int32) (t_trial_down : Int32) (t_trial_steps : Int32) : Option (Int32 × Int32 × (Nat → Int32) × (Nat → Int32) × (Nat → Int32) × (Nat → Int32) × (Nat → Int32)) :=
  (f_X6_isDown x2 t_trial_down).bind fun r1 =>
  if r1 = 0 then
    J_X0_tryRest_131 k76 (s1 + s0) x6 1 x5 t_trial_down t_trial_steps
  else
    J_X0_tryRest_131 k76 (s1 + s0) x6 0 x5 t_trial_down t_trial_steps
def L_X0_tryRest_76 (x1 : Int32) (x2 : Int32) (x3 : Int32) (t_trial_line : Nat → Int32) (t_trial_strides : Nat → Int32) (t_trial_strains : Nat → Int32) (t_told_count : Int32) (t_told_depth : Int32) (t_told_noon : Int32) (t_told_depthBehind : Int32) (t_told_kinds : Nat → Int32) (t_told_beats : Nat → Int32) (t_hasOne : Nat → Int32) (t_hasOther : Nat → Int32) : Nat → Int32 → Int32 → Int32 → Int32 → Int32 → Option (Int32 × Int32 × (Nat → Int32) × (Nat → Int32) × (Nat → Int32) × (Nat → Int32) × (Nat → Int32))
  | 0, _, _, _, _, _ => none
  | fu+1, x4, x5, x6, t_trial_down, t_trial_steps =>
    if 8 ≤ x6 then
      (f_X7_put x3 x4 4 t_hasOne).bind fun o4 =>
      (f_X7_put x3 x5 4 t_hasOther).bind fun o7 =>
      some (t_trial_down, t_trial_steps, t_trial_line, t_trial_strides, t_trial_strains, o4, o7)
    else
      (f_X6_takeStep 0 t_trial_down t_trial_steps t_told_count t_told_depth t_told_noon t_told_depthBehind t_trial_line t_told_kinds t_trial_strides t_told_beats).bind fun (r10, o11, o12) =>
      (f_X6_isDown x1 o11).bind fun r15 =>
      if r15 = 0 then
        J_X0_tryRest_110 (L_X0_tryRest_76 x1 x2 x3 t_trial_line t_trial_strides t_trial_strains t_told_count t_told_depth t_told_noon t_told_depthBehind t_told_kinds t_told_beats t_hasOne t_hasOther fu) x2 x5 x6 1 x4 o11 o12
      else
        J_X0_tryRest_110 (L_X0_tryRest_76 x1 x2 x3 t_trial_line t_trial_strides t_trial_strains t_told_count t_told_depth t_told_noon t_told_depthBehind t_told_kinds t_told_beats t_hasOne t_hasOther fu) x2 x5 x6 0 x4 o11 o12
def f_X0_tryRest (x1 : Int32) (x2 : Int32) (x3 : Int32) (t_trial_down : Int32) (t_trial_steps : Int32) (t_now_down : Int32) (t_now_steps : Int32) (t_now_line : Nat → Int32) (t_trial_line : Nat → Int32) (t_now_strides : Nat → Int32) (t_trial_strides : Nat → Int32) (t_now_strains : Nat → Int32) (t_trial_strains : Nat → Int32) (t_told_count : Int32) (t_told_depth : Int32) (t_told_noon : Int32) (t_told_depthBehind : Int32) (t_told_kinds : Nat → Int32) (t_told_beats : Nat → Int32) (t_hasOne : Nat → Int32) (t_hasOther : Nat → Int32) : Option (Int32 × Int32 × (Nat → Int32) × (Nat → Int32) × (Nat → Int32) × (Nat → Int32) × (Nat → Int32)) :=
  (f_X6_copyFrom t_trial_down t_trial_steps t_now_down t_now_steps t_now_line t_trial_line t_now_strides t_trial_strides t_now_strains t_trial_strains).bind fun (o18, o19, o20, o21, o22) =>
  (f_X6_strideOf x1 t_now_strides).bind fun r25 =>
  (f_X6_setStride x1 (if (r25 + (x3 / 2)) < 9 then (r25 + (x3 / 2)) else 9) o21).bind fun o28 =>
  (f_X6_strideOf x2 t_now_strides).bind fun r31 =>
  (f_X6_setStride x2 (if (r31 + (x3 - x3 / 2 * 2)) < 9 then (r31 + (x3 - x3 / 2 * 2)) else 9) o28).bind fun o34 =>
  L_X0_tryRest_76 x1 x2 x3 o20 o34 o22 t_told_count t_told_depth t_told_noon t_told_depthBehind t_told_kinds t_told_beats t_hasOne t_hasOther fuelC (-(x3 / 2)) (-(x3 - x3 / 2 * 2)) 0 o18 o19
def J_X0_restingPairs_113 (k33 : Int32 → Int32 → Int32 → Option (Int32 × Int32 × Int32 × (Nat → Int32) × (Nat → Int32) × (Nat → Int32) × (Nat → Int32) × (Nat → Int32))) (x4 : Int32) (x5 : Int32) (x6 : Int32) : Option (Int32 × Int32 × Int32 × (Nat → Int32) × (Nat → Int32) × (Nat → Int32) × (Nat → Int32) × (Nat → Int32)) :=
  k33 x4 x5 (x6 + (-1))
def J_X0_restingPairs_89 (k33 : Int32 → Int32 → Int32 → Option (Int32 × Int32 × Int32 × (Nat → Int32) × (Nat → Int32) × (Nat → Int32) × (Nat → Int32) × (Nat → Int32))) (x4 : Int32) (x5 : Int32) (x6 : Int32) (s0 : Int32) : Option (Int32 × Int32 × Int32 × (Nat → Int32) × (Nat → Int32) × (Nat → Int32) × (Nat → Int32) × (Nat → Int32)) :=
  if s0 = 0 then
    J_X0_restingPairs_113 k33 x4 x5 x6
  else
    J_X0_restingPairs_113 k33 (x4 + 1) (((x6 / 2) * 10) + (x6 - x6 / 2 * 2)) x6
def J_X0_restingPairs_88 (k33 : Int32 → Int32 → Int32 → Option (Int32 × Int32 × Int32 × (Nat → Int32) × (Nat → Int32) × (Nat → Int32) × (Nat → Int32) × (Nat → Int32))) (x4 : Int32) (x5 : Int32) (x6 : Int32) : Option (Int32 × Int32 × Int32 × (Nat → Int32) × (Nat → Int32) × (Nat → Int32) × (Nat → Int32) × (Nat → Int32)) :=
  J_X0_restingPairs_89 k33 x4 x5 x6 0
def L_X0_restingPairs_33 (x3 : Int32) (t_trial_down : Int32) (t_trial_steps : Int32) (t_trial_line : Nat → Int32) (t_trial_strides : Nat → Int32) (t_trial_strains : Nat → Int32) (t_hasOne : Nat → Int32) (t_hasOther : Nat → Int32) : Nat → Int32 → Int32 → Int32 → Option (Int32 × Int32 × Int32 × (Nat → Int32) × (Nat → Int32) × (Nat → Int32) × (Nat → Int32) × (Nat → Int32))
  | 0, _, _, _ => none
  | fu+1, x4, x5, x6 =>
    if x6 < 0 then
      if x3 = 0 then
        some (x4, t_trial_down, t_trial_steps, t_trial_line, t_trial_strides, t_trial_strains, t_hasOne, t_hasOther)
      else
        some (x5, t_trial_down, t_trial_steps, t_trial_line, t_trial_strides, t_trial_strains, t_hasOne, t_hasOther)
    else
      (f_X7_at (x6 ^^^ 2) 4 t_hasOne).bind fun r1 =>
      (f_X7_at x6 4 t_hasOne).bind fun r4 =>
      if r4 < r1 then
        J_X0_restingPairs_88 (L_X0_restingPairs_33 x3 t_trial_down t_trial_steps t_trial_line t_trial_strides t_trial_strains t_hasOne t_hasOther fu) x4 x5 x6
      else
        (f_X7_at (x6 ^^^ 1) 4 t_hasOther).bind fun r7 =>
        (f_X7_at x6 4 t_hasOther).bind fun r10 =>
        if r10 < r7 then
          J_X0_restingPairs_88 (L_X0_restingPairs_33 x3 t_trial_down t_trial_steps t_trial_line t_trial_strides t_trial_strains t_hasOne t_hasOther fu) x4 x5 x6
        else
          J_X0_restingPairs_89 (L_X0_restingPairs_33 x3 t_trial_down t_trial_steps t_trial_line t_trial_strides t_trial_strains t_hasOne t_hasOther fu) x4 x5 x6 1
def L_X0_restingPairs_3 (x1 : Int32) (x2 : Int32) (x3 : Int32) (t_now_down : Int32) (t_now_steps : Int32) (t_now_line : Nat → Int32) (t_now_strides : Nat → Int32) (t_now_strains : Nat → Int32) (t_told_count : Int32) (t_told_depth : Int32) (t_told_noon : Int32) (t_told_depthBehind : Int32) (t_told_kinds : Nat → Int32) (t_told_beats : Nat → Int32) : Nat → Int32 → Int32 → Int32 → (Nat → Int32) → (Nat → Int32) → (Nat → Int32) → (Nat → Int32) → (Nat → Int32) → Option (Int32 × Int32 × Int32 × (Nat → Int32) × (Nat → Int32) × (Nat → Int32) × (Nat → Int32) × (Nat → Int32))
  | 0, _, _, _, _, _, _, _, _ => none
  | fu+1, x4, t_trial_down, t_trial_steps, t_trial_line, t_trial_strides, t_trial_strains, t_hasOne, t_hasOther =>
    if 4 ≤ x4 then
      L_X0_restingPairs_33 x3 t_trial_down t_trial_steps t_trial_line t_trial_strides t_trial_strains t_hasOne t_hasOther fuelC 0 (-9) 3
    else
      (f_X0_tryRest x1 x2 x4 t_trial_down t_trial_steps t_now_down t_now_steps t_now_line t_trial_line t_now_strides t_trial_strides t_now_strains t_trial_strains t_told_count t_told_depth t_told_noon t_told_depthBehind t_told_kinds t_told_beats t_hasOne t_hasOther).bind fun (o13, o14, o15, o16, o17, o18, o19) =>
      L_X0_restingPairs_3 x1 x2 x3 t_now_down t_now_steps t_now_line t_now_strides t_now_strains t_told_count t_told_depth t_told_noon t_told_depthBehind t_told_kinds t_told_beats fu (x4 + 1) o13 o14 o15 o16 o17 o18 o19
def f_X0_restingPairs (x1 : Int32) (x2 : Int32) (x3 : Int32) (t_trial_down : Int32) (t_trial_steps : Int32) (t_now_down : Int32) (t_now_steps : Int32) (t_now_line : Nat → Int32) (t_trial_line : Nat → Int32) (t_now_strides : Nat → Int32) (t_trial_strides : Nat → Int32) (t_now_strains : Nat → Int32) (t_trial_strains : Nat → Int32) (t_told_count : Int32) (t_told_depth : Int32) (t_told_noon : Int32) (t_told_depthBehind : Int32) (t_told_kinds : Nat → Int32) (t_told_beats : Nat → Int32) (t_hasOne : Nat → Int32) (t_hasOther : Nat → Int32) : Option (Int32 × Int32 × Int32 × (Nat → Int32) × (Nat → Int32) × (Nat → Int32) × (Nat → Int32) × (Nat → Int32)) :=
  L_X0_restingPairs_3 x1 x2 x3 t_now_down t_now_steps t_now_line t_now_strides t_now_strains t_told_count t_told_depth t_told_noon t_told_depthBehind t_told_kinds t_told_beats fuelC 0 t_trial_down t_trial_steps t_trial_line t_trial_strides t_trial_strains t_hasOne t_hasOther
def L_X0_stumblesBelow_4 (t_told_count : Int32) : Nat → Int32 → Int32 → Option (Int32)
  | 0, _, _ => none
  | fu+1, x1, x2 =>
    (f_X3_size t_told_count).bind fun r1 =>
    if r1 ≤ x2 then
      some x1
    else
      L_X0_stumblesBelow_4 t_told_count fu (x1 * 10) (x2 + 1)
def f_X0_stumblesBelow (t_told_count : Int32) : Option (Int32) :=
  L_X0_stumblesBelow_4 t_told_count fuelC 1 0
def f_X6_standingBits (t_down : Int32) (t_told_count : Int32) : Option (Int32) :=
  (f_X3_size t_told_count).bind fun r1 =>
  some ((((1 : Int32) <<< (r1 &&& 31)) - 1) &&& (t_down ^^^ (-1)))
def f_J6_bitCount_0f7a4 (x0 : Int32) : Option (Int32) :=
  some ((((((((x0 - (((x0).toUInt32 >>> ((1 : Int32).toUInt32 &&& Int32.toUInt32 31)).toInt32 &&& 1431655765)) &&& 858993459) + ((((x0 - (((x0).toUInt32 >>> ((1 : Int32).toUInt32 &&& Int32.toUInt32 31)).toInt32 &&& 1431655765))).toUInt32 >>> ((2 : Int32).toUInt32 &&& Int32.toUInt32 31)).toInt32 &&& 858993459)) + (((((x0 - (((x0).toUInt32 >>> ((1 : Int32).toUInt32 &&& Int32.toUInt32 31)).toInt32 &&& 1431655765)) &&& 858993459) + ((((x0 - (((x0).toUInt32 >>> ((1 : Int32).toUInt32 &&& Int32.toUInt32 31)).toInt32 &&& 1431655765))).toUInt32 >>> ((2 : Int32).toUInt32 &&& Int32.toUInt32 31)).toInt32 &&& 858993459))).toUInt32 >>> ((4 : Int32).toUInt32 &&& Int32.toUInt32 31)).toInt32) &&& 252645135) + (((((((x0 - (((x0).toUInt32 >>> ((1 : Int32).toUInt32 &&& Int32.toUInt32 31)).toInt32 &&& 1431655765)) &&& 858993459) + ((((x0 - (((x0).toUInt32 >>> ((1 : Int32).toUInt32 &&& Int32.toUInt32 31)).toInt32 &&& 1431655765))).toUInt32 >>> ((2 : Int32).toUInt32 &&& Int32.toUInt32 31)).toInt32 &&& 858993459)) + (((((x0 - (((x0).toUInt32 >>> ((1 : Int32).toUInt32 &&& Int32.toUInt32 31)).toInt32 &&& 1431655765)) &&& 858993459) + ((((x0 - (((x0).toUInt32 >>> ((1 : Int32).toUInt32 &&& Int32.toUInt32 31)).toInt32 &&& 1431655765))).toUInt32 >>> ((2 : Int32).toUInt32 &&& Int32.toUInt32 31)).toInt32 &&& 858993459))).toUInt32 >>> ((4 : Int32).toUInt32 &&& Int32.toUInt32 31)).toInt32) &&& 252645135)).toUInt32 >>> ((8 : Int32).toUInt32 &&& Int32.toUInt32 31)).toInt32) + ((((((((x0 - (((x0).toUInt32 >>> ((1 : Int32).toUInt32 &&& Int32.toUInt32 31)).toInt32 &&& 1431655765)) &&& 858993459) + ((((x0 - (((x0).toUInt32 >>> ((1 : Int32).toUInt32 &&& Int32.toUInt32 31)).toInt32 &&& 1431655765))).toUInt32 >>> ((2 : Int32).toUInt32 &&& Int32.toUInt32 31)).toInt32 &&& 858993459)) + (((((x0 - (((x0).toUInt32 >>> ((1 : Int32).toUInt32 &&& Int32.toUInt32 31)).toInt32 &&& 1431655765)) &&& 858993459) + ((((x0 - (((x0).toUInt32 >>> ((1 : Int32).toUInt32 &&& Int32.toUInt32 31)).toInt32 &&& 1431655765))).toUInt32 >>> ((2 : Int32).toUInt32 &&& Int32.toUInt32 31)).toInt32 &&& 858993459))).toUInt32 >>> ((4 : Int32).toUInt32 &&& Int32.toUInt32 31)).toInt32) &&& 252645135) + (((((((x0 - (((x0).toUInt32 >>> ((1 : Int32).toUInt32 &&& Int32.toUInt32 31)).toInt32 &&& 1431655765)) &&& 858993459) + ((((x0 - (((x0).toUInt32 >>> ((1 : Int32).toUInt32 &&& Int32.toUInt32 31)).toInt32 &&& 1431655765))).toUInt32 >>> ((2 : Int32).toUInt32 &&& Int32.toUInt32 31)).toInt32 &&& 858993459)) + (((((x0 - (((x0).toUInt32 >>> ((1 : Int32).toUInt32 &&& Int32.toUInt32 31)).toInt32 &&& 1431655765)) &&& 858993459) + ((((x0 - (((x0).toUInt32 >>> ((1 : Int32).toUInt32 &&& Int32.toUInt32 31)).toInt32 &&& 1431655765))).toUInt32 >>> ((2 : Int32).toUInt32 &&& Int32.toUInt32 31)).toInt32 &&& 858993459))).toUInt32 >>> ((4 : Int32).toUInt32 &&& Int32.toUInt32 31)).toInt32) &&& 252645135)).toUInt32 >>> ((8 : Int32).toUInt32 &&& Int32.toUInt32 31)).toInt32)).toUInt32 >>> ((16 : Int32).toUInt32 &&& Int32.toUInt32 31)).toInt32) &&& 63)
def f_X6_standing (t_down : Int32) (t_told_count : Int32) : Option (Int32) :=
  (f_X6_standingBits t_down t_told_count).bind fun r1 =>
  (f_J6_bitCount_0f7a4 r1).bind fun r4 =>
  some r4
def J_X0_likelihood_35 (k5 : Int32 → Int32 → Option (Int32)) (x4 : Int32) (s0 : Int32) (s1 : Int32) : Option (Int32) :=
  k5 (s1 * s0) (x4 + 1)
def L_X0_likelihood_5 (x1 : Int32) (x2 : Int32) (t_told_count : Int32) : Nat → Int32 → Int32 → Option (Int32)
  | 0, _, _ => none
  | fu+1, x3, x4 =>
    (f_X3_size t_told_count).bind fun r1 =>
    if r1 ≤ x4 then
      some x3
    else
      if ((x1 >>> (x4 &&& 31)) &&& 1) = 0 then
        J_X0_likelihood_35 (L_X0_likelihood_5 x1 x2 t_told_count fu) x4 (10 - x2) x3
      else
        J_X0_likelihood_35 (L_X0_likelihood_5 x1 x2 t_told_count fu) x4 x2 x3
def f_X0_likelihood (x1 : Int32) (x2 : Int32) (t_told_count : Int32) : Option (Int32) :=
  L_X0_likelihood_5 x1 x2 t_told_count fuelC 1 0
def J_X0_stumblesAbove_61 (k5 : Int32 → Int32 → Int32 → Int32 → (Nat → Int32) → (Nat → Int32) → (Nat → Int32) → Option (Int32 × Int32 × Int32 × (Nat → Int32) × (Nat → Int32) × (Nat → Int32))) (x3 : Int32) (x4 : Int32) (t_trial_down : Int32) (t_trial_steps : Int32) (t_trial_line : Nat → Int32) (t_trial_strides : Nat → Int32) (t_trial_strains : Nat → Int32) : Option (Int32 × Int32 × Int32 × (Nat → Int32) × (Nat → Int32) × (Nat → Int32)) :=
  k5 x3 (x4 + 1) t_trial_down t_trial_steps t_trial_line t_trial_strides t_trial_strains
def L_X0_stumblesAbove_5 (x1 : Int32) (x2 : Int32) (t_told_count : Int32) (t_told_depth : Int32) (t_told_noon : Int32) (t_told_depthBehind : Int32) (t_now_down : Int32) (t_now_steps : Int32) (t_now_line : Nat → Int32) (t_now_strides : Nat → Int32) (t_now_strains : Nat → Int32) (t_told_kinds : Nat → Int32) (t_told_beats : Nat → Int32) : Nat → Int32 → Int32 → Int32 → Int32 → (Nat → Int32) → (Nat → Int32) → (Nat → Int32) → Option (Int32 × Int32 × Int32 × (Nat → Int32) × (Nat → Int32) × (Nat → Int32))
  | 0, _, _, _, _, _, _, _ => none
  | fu+1, x3, x4, t_trial_down, t_trial_steps, t_trial_line, t_trial_strides, t_trial_strains =>
    (f_X3_size t_told_count).bind fun r1 =>
    if ((1 : Int32) <<< (r1 &&& 31)) ≤ x4 then
      some (x3, t_trial_down, t_trial_steps, t_trial_line, t_trial_strides, t_trial_strains)
    else
      (f_X6_copyFrom t_trial_down t_trial_steps t_now_down t_now_steps t_now_line t_trial_line t_now_strides t_trial_strides t_now_strains t_trial_strains).bind fun (o4, o5, o6, o7, o8) =>
      (f_X6_takeStep x4 o4 o5 t_told_count t_told_depth t_told_noon t_told_depthBehind o6 t_told_kinds o7 t_told_beats).bind fun (r11, o12, o13) =>
      (f_X6_standing o12 t_told_count).bind fun r16 =>
      if r16 < x1 then
        J_X0_stumblesAbove_61 (L_X0_stumblesAbove_5 x1 x2 t_told_count t_told_depth t_told_noon t_told_depthBehind t_now_down t_now_steps t_now_line t_now_strides t_now_strains t_told_kinds t_told_beats fu) x3 x4 o12 o13 o6 o7 o8
      else
        (f_X0_likelihood x4 x2 t_told_count).bind fun r19 =>
        J_X0_stumblesAbove_61 (L_X0_stumblesAbove_5 x1 x2 t_told_count t_told_depth t_told_noon t_told_depthBehind t_now_down t_now_steps t_now_line t_now_strides t_now_strains t_told_kinds t_told_beats fu) (x3 + r19) x4 o12 o13 o6 o7 o8
def f_X0_stumblesAbove (x1 : Int32) (x2 : Int32) (t_told_count : Int32) (t_told_depth : Int32) (t_told_noon : Int32) (t_told_depthBehind : Int32) (t_trial_down : Int32) (t_trial_steps : Int32) (t_now_down : Int32) (t_now_steps : Int32) (t_now_line : Nat → Int32) (t_trial_line : Nat → Int32) (t_now_strides : Nat → Int32) (t_trial_strides : Nat → Int32) (t_now_strains : Nat → Int32) (t_trial_strains : Nat → Int32) (t_told_kinds : Nat → Int32) (t_told_beats : Nat → Int32) : Option (Int32 × Int32 × Int32 × (Nat → Int32) × (Nat → Int32) × (Nat → Int32)) :=
  L_X0_stumblesAbove_5 x1 x2 t_told_count t_told_depth t_told_noon t_told_depthBehind t_now_down t_now_steps t_now_line t_now_strides t_now_strains t_told_kinds t_told_beats fuelC 0 0 t_trial_down t_trial_steps t_trial_line t_trial_strides t_trial_strains
def f_X0_beginWinters (t_trial_down : Int32) (t_trial_steps : Int32) (t_now_down : Int32) (t_now_steps : Int32) (t_now_line : Nat → Int32) (t_trial_line : Nat → Int32) (t_now_strides : Nat → Int32) (t_trial_strides : Nat → Int32) (t_now_strains : Nat → Int32) (t_trial_strains : Nat → Int32) : Option (Int32 × Int32 × (Nat → Int32) × (Nat → Int32) × (Nat → Int32)) :=
  (f_X6_copyFrom t_trial_down t_trial_steps t_now_down t_now_steps t_now_line t_trial_line t_now_strides t_trial_strides t_now_strains t_trial_strains).bind fun (o1, o2, o3, o4, o5) =>
  some (o1, o2, o3, o4, o5)
def J_X3_has_16 : Option (Int32) :=
  some 0
def f_X3_has (x1 : Int32) (t_count : Int32) : Option (Int32) :=
  if x1 < 0 then
    J_X3_has_16
  else
    if t_count ≤ x1 then
      J_X3_has_16
    else
      some 1
def f_X6_strainOf (x1 : Int32) (t_strains : Nat → Int32) : Option (Int32) :=
  (f_X7_at x1 5 t_strains).bind fun r1 =>
  some r1
def J_X6_canDrill_56 : Option (Int32) :=
  some 0
def J_X6_canDrill_42 (s0 : Int32) (s1 : Int32) : Option (Int32) :=
  (f_X7_isBetween (s1 + s0) 1 9).bind fun r1 =>
  if r1 = 0 then
    J_X6_canDrill_56
  else
    some 1
def f_X6_canDrill (x1 : Int32) (x2 : Int32) (t_down : Int32) (t_told_count : Int32) (t_strains : Nat → Int32) (t_strides : Nat → Int32) : Option (Int32) :=
  (f_X3_has x1 t_told_count).bind fun r4 =>
  if r4 = 0 then
    J_X6_canDrill_56
  else
    (f_X6_isDown x1 t_down).bind fun r7 =>
    if r7 = 0 then
      (f_X6_strainOf x1 t_strains).bind fun r10 =>
      if 5 ≤ r10 then
        J_X6_canDrill_56
      else
        (f_X6_strideOf x1 t_strides).bind fun r13 =>
        if x2 = 0 then
          J_X6_canDrill_42 (-1) r13
        else
          J_X6_canDrill_42 1 r13
    else
      J_X6_canDrill_56
def J_X6_tryDrill_27 (x1 : Int32) (s0 : Int32) (s1 : Int32) (s2 : Int32) (t_strains : Nat → Int32) (t_strides : Nat → Int32) : Option (Int32 × (Nat → Int32) × (Nat → Int32)) :=
  (f_X6_setStride s2 (s1 + s0) t_strides).bind fun o1 =>
  (f_X6_strainOf x1 t_strains).bind fun r4 =>
  (f_X7_put x1 (r4 + 1) 5 t_strains).bind fun o7 =>
  some (1, o7, o1)
def f_X6_tryDrill (x1 : Int32) (x2 : Int32) (t_down : Int32) (t_told_count : Int32) (t_strains : Nat → Int32) (t_strides : Nat → Int32) : Option (Int32 × (Nat → Int32) × (Nat → Int32)) :=
  (f_X6_canDrill x1 x2 t_down t_told_count t_strains t_strides).bind fun r10 =>
  if r10 = 0 then
    some (0, t_strains, t_strides)
  else
    (f_X6_strideOf x1 t_strides).bind fun r13 =>
    if x2 = 0 then
      J_X6_tryDrill_27 x1 (-1) r13 x1 t_strains t_strides
    else
      J_X6_tryDrill_27 x1 1 r13 x1 t_strains t_strides
def J_X6_canSwap_21 : Option (Int32) :=
  some 0
def f_X6_canSwap (x1 : Int32) (t_told_count : Int32) : Option (Int32) :=
  if x1 < 0 then
    J_X6_canSwap_21
  else
    (f_X3_size t_told_count).bind fun r1 =>
    if (r1 - 1) ≤ x1 then
      J_X6_canSwap_21
    else
      some 1
def f_X6_trySwap (x1 : Int32) (t_told_count : Int32) (t_line : Nat → Int32) : Option (Int32 × (Nat → Int32)) :=
  (f_X6_canSwap x1 t_told_count).bind fun r1 =>
  if r1 = 0 then
    some (0, t_line)
  else
    (f_X6_walkerAt x1 t_line).bind fun r4 =>
    (f_X6_walkerAt (x1 + 1) t_line).bind fun r7 =>
    (f_X7_put x1 r7 5 t_line).bind fun o10 =>
    (f_X7_put (x1 + 1) r4 5 o10).bind fun o13 =>
    some (1, o13)
def L_X6_placeOf_2 (x1 : Int32) (t_told_count : Int32) (t_line : Nat → Int32) : Nat → Int32 → Option (Int32)
  | 0, _ => none
  | fu+1, x2 =>
    (f_X3_size t_told_count).bind fun r1 =>
    if r1 ≤ x2 then
      some (-9)
    else
      (f_X6_walkerAt x2 t_line).bind fun r4 =>
      if r4 = x1 then
        some x2
      else
        L_X6_placeOf_2 x1 t_told_count t_line fu (x2 + 1)
def f_X6_placeOf (x1 : Int32) (t_told_count : Int32) (t_line : Nat → Int32) : Option (Int32) :=
  L_X6_placeOf_2 x1 t_told_count t_line fuelC 0
def L_X6_tryRescue_41 (t_down : Int32) (t_told_count : Int32) : Nat → Int32 → (Nat → Int32) → Option (Int32 × Int32 × (Nat → Int32))
  | 0, _, _ => none
  | fu+1, x2, t_line =>
    (f_X3_size t_told_count).bind fun r1 =>
    if (r1 - 1) ≤ x2 then
      some (1, t_down, t_line)
    else
      (f_X6_trySwap x2 t_told_count t_line).bind fun (r4, o5) =>
      L_X6_tryRescue_41 t_down t_told_count fu (x2 + 1) o5
def f_X6_tryRescue (x1 : Int32) (t_down : Int32) (t_told_count : Int32) (t_line : Nat → Int32) : Option (Int32 × Int32 × (Nat → Int32)) :=
  (f_X3_has x1 t_told_count).bind fun r8 =>
  if r8 = 0 then
    some (0, t_down, t_line)
  else
    (f_X6_isDown x1 t_down).bind fun r11 =>
    if r11 = 0 then
      some (0, t_down, t_line)
    else
      (f_X6_placeOf x1 t_told_count t_line).bind fun r14 =>
      L_X6_tryRescue_41 (t_down &&& (((1 : Int32) <<< (x1 &&& 31)) ^^^ (-1))) t_told_count fuelC r14 t_line
def J_X0_winter_68 (t_trial_down : Int32) (t_trial_steps : Int32) (t_told_count : Int32) (t_trial_strains : Nat → Int32) (t_trial_strides : Nat → Int32) (t_trial_line : Nat → Int32) : Option (Int32 × Int32 × Int32 × (Nat → Int32) × (Nat → Int32) × (Nat → Int32)) :=
  (f_X6_standing t_trial_down t_told_count).bind fun r1 =>
  some (r1, t_trial_down, t_trial_steps, t_trial_strains, t_trial_strides, t_trial_line)
def f_X0_winter (x1 : Int32) (t_trial_down : Int32) (t_trial_steps : Int32) (t_told_count : Int32) (t_told_depth : Int32) (t_told_noon : Int32) (t_told_depthBehind : Int32) (t_trial_strains : Nat → Int32) (t_trial_strides : Nat → Int32) (t_trial_line : Nat → Int32) (t_told_kinds : Nat → Int32) (t_told_beats : Nat → Int32) : Option (Int32 × Int32 × Int32 × (Nat → Int32) × (Nat → Int32) × (Nat → Int32)) :=
  if 5 ≤ x1 then
    if 9 ≤ x1 then
      if 14 ≤ x1 then
        (f_X6_takeStep 0 t_trial_down t_trial_steps t_told_count t_told_depth t_told_noon t_told_depthBehind t_trial_line t_told_kinds t_trial_strides t_told_beats).bind fun (r4, o5, o6) =>
        J_X0_winter_68 o5 o6 t_told_count t_trial_strains t_trial_strides t_trial_line
      else
        (f_X6_tryRescue (x1 - 9) t_trial_down t_told_count t_trial_line).bind fun (r9, o10, o11) =>
        J_X0_winter_68 o10 t_trial_steps t_told_count t_trial_strains t_trial_strides o11
    else
      (f_X6_trySwap (x1 - 5) t_told_count t_trial_line).bind fun (r14, o15) =>
      J_X0_winter_68 t_trial_down t_trial_steps t_told_count t_trial_strains t_trial_strides o15
  else
    (f_X6_tryDrill x1 1 t_trial_down t_told_count t_trial_strains t_trial_strides).bind fun (r18, o19, o20) =>
    J_X0_winter_68 t_trial_down t_trial_steps t_told_count o19 o20 t_trial_line
def L_X1_goOn_2 (x1 : Int32) (t_told_count : Int32) (t_told_depth : Int32) (t_told_noon : Int32) (t_told_depthBehind : Int32) (t_trial_line : Nat → Int32) (t_told_kinds : Nat → Int32) (t_trial_strides : Nat → Int32) (t_told_beats : Nat → Int32) : Nat → Int32 → Int32 → Int32 → Option (Int32 × Int32)
  | 0, _, _, _ => none
  | fu+1, x2, t_trial_down, t_trial_steps =>
    if x1 ≤ x2 then
      some (t_trial_down, t_trial_steps)
    else
      (f_X6_takeStep 0 t_trial_down t_trial_steps t_told_count t_told_depth t_told_noon t_told_depthBehind t_trial_line t_told_kinds t_trial_strides t_told_beats).bind fun (r1, o2, o3) =>
      L_X1_goOn_2 x1 t_told_count t_told_depth t_told_noon t_told_depthBehind t_trial_line t_told_kinds t_trial_strides t_told_beats fu (x2 + 1) o2 o3
def f_X1_goOn (x1 : Int32) (t_trial_down : Int32) (t_trial_steps : Int32) (t_told_count : Int32) (t_told_depth : Int32) (t_told_noon : Int32) (t_told_depthBehind : Int32) (t_trial_line : Nat → Int32) (t_told_kinds : Nat → Int32) (t_trial_strides : Nat → Int32) (t_told_beats : Nat → Int32) : Option (Int32 × Int32) :=
  L_X1_goOn_2 x1 t_told_count t_told_depth t_told_noon t_told_depthBehind t_trial_line t_told_kinds t_trial_strides t_told_beats fuelC 0 t_trial_down t_trial_steps
def f_X1_standingBehind (x1 : Int32) (t_trial_down : Int32) (t_trial_steps : Int32) (t_now_down : Int32) (t_now_steps : Int32) (t_now_line : Nat → Int32) (t_trial_line : Nat → Int32) (t_now_strides : Nat → Int32) (t_trial_strides : Nat → Int32) (t_now_strains : Nat → Int32) (t_trial_strains : Nat → Int32) (t_told_count : Int32) (t_told_depth : Int32) (t_told_noon : Int32) (t_told_depthBehind : Int32) (t_told_kinds : Nat → Int32) (t_told_beats : Nat → Int32) : Option (Int32 × Int32 × Int32 × (Nat → Int32) × (Nat → Int32) × (Nat → Int32)) :=
  (f_X6_copyFrom t_trial_down t_trial_steps t_now_down t_now_steps t_now_line t_trial_line t_now_strides t_trial_strides t_now_strains t_trial_strains).bind fun (o1, o2, o3, o4, o5) =>
  (f_X1_goOn x1 o1 o2 t_told_count t_told_depth t_told_noon t_told_depthBehind o3 t_told_kinds o4 t_told_beats).bind fun (o8, o9) =>
  (f_X6_standingBits o8 t_told_count).bind fun r12 =>
  some (r12, o8, o9, o3, o4, o5)
def L_X1_dropOf_13 (x1 : Int32) (t_trial_line : Nat → Int32) (t_trial_strides : Nat → Int32) (t_trial_strains : Nat → Int32) (t_told_count : Int32) (t_told_depth : Int32) (t_told_noon : Int32) (t_told_depthBehind : Int32) (t_told_kinds : Nat → Int32) (t_told_beats : Nat → Int32) : Nat → Int32 → Int32 → Int32 → Option (Int32 × Int32 × Int32 × (Nat → Int32) × (Nat → Int32) × (Nat → Int32))
  | 0, _, _, _ => none
  | fu+1, x2, t_trial_down, t_trial_steps =>
    if 20 < x2 then
      some ((-9), t_trial_down, t_trial_steps, t_trial_line, t_trial_strides, t_trial_strains)
    else
      (f_X6_isDown x1 t_trial_down).bind fun r1 =>
      if r1 = 0 then
        (f_X6_takeStep 0 t_trial_down t_trial_steps t_told_count t_told_depth t_told_noon t_told_depthBehind t_trial_line t_told_kinds t_trial_strides t_told_beats).bind fun (r4, o5, o6) =>
        L_X1_dropOf_13 x1 t_trial_line t_trial_strides t_trial_strains t_told_count t_told_depth t_told_noon t_told_depthBehind t_told_kinds t_told_beats fu (x2 + 1) o5 o6
      else
        some (x2, t_trial_down, t_trial_steps, t_trial_line, t_trial_strides, t_trial_strains)
def f_X1_dropOf (x1 : Int32) (t_trial_down : Int32) (t_trial_steps : Int32) (t_now_down : Int32) (t_now_steps : Int32) (t_now_line : Nat → Int32) (t_trial_line : Nat → Int32) (t_now_strides : Nat → Int32) (t_trial_strides : Nat → Int32) (t_now_strains : Nat → Int32) (t_trial_strains : Nat → Int32) (t_told_count : Int32) (t_told_depth : Int32) (t_told_noon : Int32) (t_told_depthBehind : Int32) (t_told_kinds : Nat → Int32) (t_told_beats : Nat → Int32) : Option (Int32 × Int32 × Int32 × (Nat → Int32) × (Nat → Int32) × (Nat → Int32)) :=
  (f_X6_copyFrom t_trial_down t_trial_steps t_now_down t_now_steps t_now_line t_trial_line t_now_strides t_trial_strides t_now_strains t_trial_strains).bind fun (o9, o10, o11, o12, o13) =>
  L_X1_dropOf_13 x1 o11 o12 o13 t_told_count t_told_depth t_told_noon t_told_depthBehind t_told_kinds t_told_beats fuelC 0 o9 o10
def J_X6_lowestBut_26 (k4 : Int32 → Int32 → Option (Int32)) (x2 : Int32) (x3 : Int32) : Option (Int32) :=
  k4 x2 (x3 + 1)
def L_X6_lowestBut_4 (x0 : Int32) : Nat → Int32 → Int32 → Option (Int32)
  | 0, _, _ => none
  | fu+1, x2, x3 =>
    if 5 ≤ x3 then
      some 0
    else
      if ((x0 >>> (x3 &&& 31)) &&& 1) = 0 then
        J_X6_lowestBut_26 (L_X6_lowestBut_4 x0 fu) x2 x3
      else
        if x2 = 0 then
          some x3
        else
          J_X6_lowestBut_26 (L_X6_lowestBut_4 x0 fu) (x2 + (-1)) x3
def f_X6_lowestBut (x0 : Int32) (x1 : Int32) : Option (Int32) :=
  L_X6_lowestBut_4 x0 fuelC x1 0
def L_X6_setOrder_17 (t_told_count : Int32) : Nat → Int32 → Int32 → Int32 → (Nat → Int32) → Option ((Nat → Int32))
  | 0, _, _, _, _ => none
  | fu+1, x2, x3, x4, t_line =>
    (f_X3_size t_told_count).bind fun r1 =>
    if r1 ≤ x4 then
      some t_line
    else
      (f_X3_size t_told_count).bind fun r4 =>
      (f_X7_at ((r4 - 1) - x4) 6 fF).bind fun r7 =>
      if (if 1 < r7 then r7 else 1) = 0 then none else
      (f_X6_lowestBut x2 (x3 / (if 1 < r7 then r7 else 1))).bind fun r10 =>
      if (if 1 < r7 then r7 else 1) = 0 then none else
      (f_X7_put x4 r10 5 t_line).bind fun o13 =>
      L_X6_setOrder_17 t_told_count fu (x2 &&& (((1 : Int32) <<< (r10 &&& 31)) ^^^ (-1))) (x3 - x3 / (if 1 < r7 then r7 else 1) * (if 1 < r7 then r7 else 1)) (x4 + 1) o13
def f_X6_setOrder (x1 : Int32) (t_told_count : Int32) (t_line : Nat → Int32) : Option ((Nat → Int32)) :=
  (f_X3_size t_told_count).bind fun r16 =>
  L_X6_setOrder_17 t_told_count fuelC (((1 : Int32) <<< (r16 &&& 31)) - 1) x1 0 t_line
def L_X6_lineAsFigures_4 (t_told_count : Int32) (t_line : Nat → Int32) : Nat → Int32 → Int32 → Option (Int32)
  | 0, _, _ => none
  | fu+1, x1, x2 =>
    (f_X3_size t_told_count).bind fun r1 =>
    if r1 ≤ x2 then
      some x1
    else
      (f_X6_walkerAt x2 t_line).bind fun r4 =>
      L_X6_lineAsFigures_4 t_told_count t_line fu (((x1 * 10) + r4) + 1) (x2 + 1)
def f_X6_lineAsFigures (t_told_count : Int32) (t_line : Nat → Int32) : Option (Int32) :=
  L_X6_lineAsFigures_4 t_told_count t_line fuelC 0 0
def J_X1_bestLine_78 (k7 : Int32 → Int32 → Int32 → Int32 → Int32 → (Nat → Int32) → (Nat → Int32) → (Nat → Int32) → Option (Int32 × Int32 × Int32 × (Nat → Int32) × (Nat → Int32) × (Nat → Int32))) (x2 : Int32) (x3 : Int32) (x4 : Int32) (t_trial_down : Int32) (t_trial_steps : Int32) (t_trial_line : Nat → Int32) (t_trial_strides : Nat → Int32) (t_trial_strains : Nat → Int32) : Option (Int32 × Int32 × Int32 × (Nat → Int32) × (Nat → Int32) × (Nat → Int32)) :=
  k7 x2 x3 (x4 + 1) t_trial_down t_trial_steps t_trial_line t_trial_strides t_trial_strains
def L_X1_bestLine_7 (x1 : Int32) (t_told_count : Int32) (t_told_depth : Int32) (t_told_noon : Int32) (t_told_depthBehind : Int32) (t_now_down : Int32) (t_now_steps : Int32) (t_now_line : Nat → Int32) (t_now_strides : Nat → Int32) (t_now_strains : Nat → Int32) (t_told_kinds : Nat → Int32) (t_told_beats : Nat → Int32) : Nat → Int32 → Int32 → Int32 → Int32 → Int32 → (Nat → Int32) → (Nat → Int32) → (Nat → Int32) → Option (Int32 × Int32 × Int32 × (Nat → Int32) × (Nat → Int32) × (Nat → Int32))
  | 0, _, _, _, _, _, _, _, _ => none
  | fu+1, x2, x3, x4, t_trial_down, t_trial_steps, t_trial_line, t_trial_strides, t_trial_strains =>
    (f_X3_size t_told_count).bind fun r1 =>
    (f_X7_at r1 6 fF).bind fun r4 =>
    if r4 ≤ x4 then
      if x1 = 0 then
        some (x2, t_trial_down, t_trial_steps, t_trial_line, t_trial_strides, t_trial_strains)
      else
        some (x3, t_trial_down, t_trial_steps, t_trial_line, t_trial_strides, t_trial_strains)
    else
      (f_X6_copyFrom t_trial_down t_trial_steps t_now_down t_now_steps t_now_line t_trial_line t_now_strides t_trial_strides t_now_strains t_trial_strains).bind fun (o7, o8, o9, o10, o11) =>
      (f_X6_setOrder x4 t_told_count o9).bind fun o14 =>
      (f_X1_goOn 6 o7 o8 t_told_count t_told_depth t_told_noon t_told_depthBehind o14 t_told_kinds o10 t_told_beats).bind fun (o17, o18) =>
      (f_X6_standing o17 t_told_count).bind fun r21 =>
      if r21 ≤ x2 then
        J_X1_bestLine_78 (L_X1_bestLine_7 x1 t_told_count t_told_depth t_told_noon t_told_depthBehind t_now_down t_now_steps t_now_line t_now_strides t_now_strains t_told_kinds t_told_beats fu) x2 x3 x4 o17 o18 o14 o10 o11
      else
        (f_X6_standing o17 t_told_count).bind fun r24 =>
        (f_X6_lineAsFigures t_told_count o14).bind fun r27 =>
        J_X1_bestLine_78 (L_X1_bestLine_7 x1 t_told_count t_told_depth t_told_noon t_told_depthBehind t_now_down t_now_steps t_now_line t_now_strides t_now_strains t_told_kinds t_told_beats fu) r24 r27 x4 o17 o18 o14 o10 o11
def f_X1_bestLine (x1 : Int32) (t_told_count : Int32) (t_told_depth : Int32) (t_told_noon : Int32) (t_told_depthBehind : Int32) (t_trial_down : Int32) (t_trial_steps : Int32) (t_now_down : Int32) (t_now_steps : Int32) (t_now_line : Nat → Int32) (t_trial_line : Nat → Int32) (t_now_strides : Nat → Int32) (t_trial_strides : Nat → Int32) (t_now_strains : Nat → Int32) (t_trial_strains : Nat → Int32) (t_told_kinds : Nat → Int32) (t_told_beats : Nat → Int32) : Option (Int32 × Int32 × Int32 × (Nat → Int32) × (Nat → Int32) × (Nat → Int32)) :=
  L_X1_bestLine_7 x1 t_told_count t_told_depth t_told_noon t_told_depthBehind t_now_down t_now_steps t_now_line t_now_strides t_now_strains t_told_kinds t_told_beats fuelC (-1) 0 0 t_trial_down t_trial_steps t_trial_line t_trial_strides t_trial_strains
def L_X6_firstStanding_2 (t_down : Int32) (t_told_count : Int32) (t_line : Nat → Int32) : Nat → Int32 → Option (Int32)
  | 0, _ => none
  | fu+1, x1 =>
    (f_X3_size t_told_count).bind fun r1 =>
    if r1 ≤ x1 then
      some (-9)
    else
      (f_X6_walkerAt x1 t_line).bind fun r4 =>
      (f_X6_isDown r4 t_down).bind fun r7 =>
      if r7 = 0 then
        (f_X6_walkerAt x1 t_line).bind fun r10 =>
        some r10
      else
        L_X6_firstStanding_2 t_down t_told_count t_line fu (x1 + 1)
def f_X6_firstStanding (t_down : Int32) (t_told_count : Int32) (t_line : Nat → Int32) : Option (Int32) :=
  L_X6_firstStanding_2 t_down t_told_count t_line fuelC 0
def J_X1_canDrillBy_33 : Option (Int32) :=
  some 0
def f_X1_canDrillBy (x1 : Int32) (x2 : Int32) (t_now_strides : Nat → Int32) : Option (Int32) :=
  (f_X7_isBetween x2 (-2) 2).bind fun r1 =>
  if r1 = 0 then
    J_X1_canDrillBy_33
  else
    (f_X6_strideOf x1 t_now_strides).bind fun r4 =>
    (f_X7_isBetween (r4 + x2) 1 9).bind fun r7 =>
    if r7 = 0 then
      J_X1_canDrillBy_33
    else
      some 1
def f_X6_stepNumber (t_steps : Int32) : Option (Int32) :=
  some t_steps
def f_X6_treadOfOne (x1 : Int32) (x2 : Int32) (t_told_kinds : Nat → Int32) (t_strides : Nat → Int32) (t_told_beats : Nat → Int32) : Option (Int32) :=
  (f_X3_kindOf x1 t_told_kinds).bind fun r1 =>
  (f_X6_strideOf x1 t_strides).bind fun r4 =>
  (f_X3_beatOf x1 t_told_beats).bind fun r7 =>
  (f_X7_treadAlone r1 r4 r7 x2).bind fun r10 =>
  some r10
def L_X1_snowHolds_2 (x1 : Int32) (x2 : Int32) (t_now_steps : Int32) (t_told_depth : Int32) (t_told_noon : Int32) (t_told_depthBehind : Int32) (t_told_kinds : Nat → Int32) (t_now_strides : Nat → Int32) (t_told_beats : Nat → Int32) : Nat → Int32 → Option (Int32)
  | 0, _ => none
  | fu+1, x3 =>
    if 6 ≤ x3 then
      some 1
    else
      (f_X6_stepNumber t_now_steps).bind fun r1 =>
      (f_X6_treadOfOne x1 (r1 + x3) t_told_kinds t_now_strides t_told_beats).bind fun r4 =>
      (f_X3_snowAt (r1 + x3) t_told_depth t_told_noon t_told_depthBehind).bind fun r7 =>
      (f_X7_isBetween (r4 + x2) 1 r7).bind fun r10 =>
      if r10 = 0 then
        some 0
      else
        L_X1_snowHolds_2 x1 x2 t_now_steps t_told_depth t_told_noon t_told_depthBehind t_told_kinds t_now_strides t_told_beats fu (x3 + 1)
def f_X1_snowHolds (x1 : Int32) (x2 : Int32) (t_now_steps : Int32) (t_told_depth : Int32) (t_told_noon : Int32) (t_told_depthBehind : Int32) (t_told_kinds : Nat → Int32) (t_now_strides : Nat → Int32) (t_told_beats : Nat → Int32) : Option (Int32) :=
  L_X1_snowHolds_2 x1 x2 t_now_steps t_told_depth t_told_noon t_told_depthBehind t_told_kinds t_now_strides t_told_beats fuelC 0
def f_X1_apart (x1 : Int32) (x2 : Int32) (x3 : Int32) (t_now_steps : Int32) (t_told_kinds : Nat → Int32) (t_now_strides : Nat → Int32) (t_told_beats : Nat → Int32) : Option (Int32) :=
  (f_X6_stepNumber t_now_steps).bind fun r1 =>
  (f_X6_treadOfOne x2 (r1 + x3) t_told_kinds t_now_strides t_told_beats).bind fun r4 =>
  (f_X6_treadOfOne x1 (r1 + x3) t_told_kinds t_now_strides t_told_beats).bind fun r7 =>
  some (r4 - r7)
def L_X1_drillsToTreadAs_14 (x1 : Int32) (x2 : Int32) (x3 : Int32) (x4 : Int32) (t_now_steps : Int32) (t_told_kinds : Nat → Int32) (t_now_strides : Nat → Int32) (t_told_beats : Nat → Int32) : Nat → Int32 → Option (Int32)
  | 0, _ => none
  | fu+1, x5 =>
    if 6 ≤ x5 then
      (f_X1_canDrillBy x1 x4 t_now_strides).bind fun r1 =>
      if r1 = 0 then
        some 11
      else
        some (if 0 ≤ x4 then x4 else 0 - x4)
    else
      (f_X1_apart x1 x2 x5 t_now_steps t_told_kinds t_now_strides t_told_beats).bind fun r4 =>
      if (r4 + x3) = x4 then
        L_X1_drillsToTreadAs_14 x1 x2 x3 x4 t_now_steps t_told_kinds t_now_strides t_told_beats fu (x5 + 1)
      else
        some 11
def f_X1_drillsToTreadAs (x1 : Int32) (x2 : Int32) (x3 : Int32) (t_now_steps : Int32) (t_told_kinds : Nat → Int32) (t_now_strides : Nat → Int32) (t_told_beats : Nat → Int32) : Option (Int32) :=
  (f_X1_apart x1 x2 0 t_now_steps t_told_kinds t_now_strides t_told_beats).bind fun r7 =>
  L_X1_drillsToTreadAs_14 x1 x2 x3 (r7 + x3) t_now_steps t_told_kinds t_now_strides t_told_beats fuelC 1
def J_X1_drillsOfOthers_59 (k5 : Int32 → Int32 → Option (Int32)) (x3 : Int32) (x4 : Int32) : Option (Int32) :=
  k5 x3 (x4 + 1)
def L_X1_drillsOfOthers_5 (x1 : Int32) (x2 : Int32) (t_told_count : Int32) (t_now_down : Int32) (t_now_steps : Int32) (t_told_kinds : Nat → Int32) (t_now_strides : Nat → Int32) (t_told_beats : Nat → Int32) : Nat → Int32 → Int32 → Option (Int32)
  | 0, _, _ => none
  | fu+1, x3, x4 =>
    (f_X3_size t_told_count).bind fun r1 =>
    if r1 ≤ x4 then
      some x3
    else
      if x4 = x1 then
        J_X1_drillsOfOthers_59 (L_X1_drillsOfOthers_5 x1 x2 t_told_count t_now_down t_now_steps t_told_kinds t_now_strides t_told_beats fu) x3 x4
      else
        (f_X6_isDown x4 t_now_down).bind fun r4 =>
        if r4 = 0 then
          (f_X3_kindOf x4 t_told_kinds).bind fun r7 =>
          if r7 = 2 then
            J_X1_drillsOfOthers_59 (L_X1_drillsOfOthers_5 x1 x2 t_told_count t_now_down t_now_steps t_told_kinds t_now_strides t_told_beats fu) x3 x4
          else
            (f_X1_drillsToTreadAs x4 x1 x2 t_now_steps t_told_kinds t_now_strides t_told_beats).bind fun r10 =>
            J_X1_drillsOfOthers_59 (L_X1_drillsOfOthers_5 x1 x2 t_told_count t_now_down t_now_steps t_told_kinds t_now_strides t_told_beats fu) (x3 + r10) x4
        else
          J_X1_drillsOfOthers_59 (L_X1_drillsOfOthers_5 x1 x2 t_told_count t_now_down t_now_steps t_told_kinds t_now_strides t_told_beats fu) x3 x4
def f_X1_drillsOfOthers (x1 : Int32) (x2 : Int32) (t_told_count : Int32) (t_now_down : Int32) (t_now_steps : Int32) (t_told_kinds : Nat → Int32) (t_now_strides : Nat → Int32) (t_told_beats : Nat → Int32) : Option (Int32) :=
  L_X1_drillsOfOthers_5 x1 x2 t_told_count t_now_down t_now_steps t_told_kinds t_now_strides t_told_beats fuelC 0 0
def J_X1_fewestDrills_61 (k22 : Int32 → Int32 → Option (Int32)) (x2 : Int32) (x3 : Int32) : Option (Int32) :=
  k22 x2 (x3 + 1)
def L_X1_fewestDrills_22 (x1 : Int32) (t_now_down : Int32) (t_now_steps : Int32) (t_told_count : Int32) (t_told_depth : Int32) (t_told_noon : Int32) (t_told_depthBehind : Int32) (t_now_strides : Nat → Int32) (t_told_kinds : Nat → Int32) (t_told_beats : Nat → Int32) : Nat → Int32 → Int32 → Option (Int32)
  | 0, _, _ => none
  | fu+1, x2, x3 =>
    if 2 < x3 then
      if x2 < 11 then
        some x2
      else
        some (-9)
    else
      (f_X1_canDrillBy x1 x3 t_now_strides).bind fun r1 =>
      if r1 = 0 then
        J_X1_fewestDrills_61 (L_X1_fewestDrills_22 x1 t_now_down t_now_steps t_told_count t_told_depth t_told_noon t_told_depthBehind t_now_strides t_told_kinds t_told_beats fu) x2 x3
      else
        (f_X1_snowHolds x1 x3 t_now_steps t_told_depth t_told_noon t_told_depthBehind t_told_kinds t_now_strides t_told_beats).bind fun r4 =>
        if r4 = 0 then
          J_X1_fewestDrills_61 (L_X1_fewestDrills_22 x1 t_now_down t_now_steps t_told_count t_told_depth t_told_noon t_told_depthBehind t_now_strides t_told_kinds t_told_beats fu) x2 x3
        else
          (f_X1_drillsOfOthers x1 x3 t_told_count t_now_down t_now_steps t_told_kinds t_now_strides t_told_beats).bind fun r7 =>
          J_X1_fewestDrills_61 (L_X1_fewestDrills_22 x1 t_now_down t_now_steps t_told_count t_told_depth t_told_noon t_told_depthBehind t_now_strides t_told_kinds t_told_beats fu) (if ((if 0 ≤ x3 then x3 else 0 - x3) + r7) < x2 then ((if 0 ≤ x3 then x3 else 0 - x3) + r7) else x2) x3
def f_X1_fewestDrills (t_now_down : Int32) (t_now_steps : Int32) (t_told_count : Int32) (t_told_depth : Int32) (t_told_noon : Int32) (t_told_depthBehind : Int32) (t_now_line : Nat → Int32) (t_now_strides : Nat → Int32) (t_told_kinds : Nat → Int32) (t_told_beats : Nat → Int32) : Option (Int32) :=
  (f_X6_firstStanding t_now_down t_told_count t_now_line).bind fun r10 =>
  if r10 = (-9) then
    some 0
  else
    L_X1_fewestDrills_22 r10 t_now_down t_now_steps t_told_count t_told_depth t_told_noon t_told_depthBehind t_now_strides t_told_kinds t_told_beats fuelC 11 (-2)
def L_X1_meeting_2 (x1 : Int32) (x2 : Int32) (t_now_steps : Int32) (t_told_kinds : Nat → Int32) (t_now_strides : Nat → Int32) (t_told_beats : Nat → Int32) : Nat → Int32 → Option (Int32)
  | 0, _ => none
  | fu+1, x3 =>
    if 24 < x3 then
      some (-9)
    else
      (f_X1_apart x1 x2 x3 t_now_steps t_told_kinds t_now_strides t_told_beats).bind fun r1 =>
      if r1 = 0 then
        some x3
      else
        L_X1_meeting_2 x1 x2 t_now_steps t_told_kinds t_now_strides t_told_beats fu (x3 + 1)
def f_X1_meeting (x1 : Int32) (x2 : Int32) (t_now_steps : Int32) (t_told_kinds : Nat → Int32) (t_now_strides : Nat → Int32) (t_told_beats : Nat → Int32) : Option (Int32) :=
  L_X1_meeting_2 x1 x2 t_now_steps t_told_kinds t_now_strides t_told_beats fuelC 0
def L_X1_likedTread_5 (t_now_steps : Int32) (t_told_depth : Int32) (t_told_noon : Int32) (t_told_depthBehind : Int32) : Nat → Int32 → Int32 → Option (Int32)
  | 0, _, _ => none
  | fu+1, x1, x2 =>
    if 6 ≤ x2 then
      some x1
    else
      (f_X6_stepNumber t_now_steps).bind fun r1 =>
      (f_X3_snowAt (r1 + x2) t_told_depth t_told_noon t_told_depthBehind).bind fun r4 =>
      L_X1_likedTread_5 t_now_steps t_told_depth t_told_noon t_told_depthBehind fu (if r4 < x1 then r4 else x1) (x2 + 1)
def f_X1_likedTread (t_now_steps : Int32) (t_told_depth : Int32) (t_told_noon : Int32) (t_told_depthBehind : Int32) : Option (Int32) :=
  L_X1_likedTread_5 t_now_steps t_told_depth t_told_noon t_told_depthBehind fuelC 9 0
def J_X1_tryDoing_168 (t_trial_down : Int32) (t_trial_steps : Int32) (t_trial_line : Nat → Int32) (t_trial_strains : Nat → Int32) (t_trial_strides : Nat → Int32) : Option (Int32 × Int32 × Int32 × (Nat → Int32) × (Nat → Int32) × (Nat → Int32)) :=
  some (0, t_trial_down, t_trial_steps, t_trial_line, t_trial_strains, t_trial_strides)
def J_X1_tryDoing_128 (t_trial_down : Int32) (t_trial_steps : Int32) (t_trial_line : Nat → Int32) (t_trial_strains : Nat → Int32) (t_trial_strides : Nat → Int32) : Option (Int32 × Int32 × Int32 × (Nat → Int32) × (Nat → Int32) × (Nat → Int32)) :=
  some (0, t_trial_down, t_trial_steps, t_trial_line, t_trial_strains, t_trial_strides)
def J_X1_tryDoing_118 (s0 : Int32) (s1 : Int32) (t_told_count : Int32) (t_trial_down : Int32) (t_trial_steps : Int32) (t_trial_line : Nat → Int32) (t_trial_strains : Nat → Int32) (t_trial_strides : Nat → Int32) : Option (Int32 × Int32 × Int32 × (Nat → Int32) × (Nat → Int32) × (Nat → Int32)) :=
  (f_X6_tryDrill s1 s0 t_trial_down t_told_count t_trial_strains t_trial_strides).bind fun (r1, o2, o3) =>
  if r1 = 0 then
    J_X1_tryDoing_128 t_trial_down t_trial_steps t_trial_line o2 o3
  else
    some (1, t_trial_down, t_trial_steps, t_trial_line, o2, o3)
def J_X1_tryDoing_84 (t_trial_down : Int32) (t_trial_steps : Int32) (t_trial_line : Nat → Int32) (t_trial_strains : Nat → Int32) (t_trial_strides : Nat → Int32) : Option (Int32 × Int32 × Int32 × (Nat → Int32) × (Nat → Int32) × (Nat → Int32)) :=
  some (0, t_trial_down, t_trial_steps, t_trial_line, t_trial_strains, t_trial_strides)
def J_X1_tryDoing_30 (x2 : Int32) (x3 : Int32) (x4 : Int32) (t_told_count : Int32) (t_told_depth : Int32) (t_told_noon : Int32) (t_told_depthBehind : Int32) (t_trial_down : Int32) (t_trial_steps : Int32) (t_trial_line : Nat → Int32) (t_trial_strains : Nat → Int32) (t_trial_strides : Nat → Int32) (t_told_kinds : Nat → Int32) (t_told_beats : Nat → Int32) : Option (Int32 × Int32 × Int32 × (Nat → Int32) × (Nat → Int32) × (Nat → Int32)) :=
  if x2 = 0 then
    if x4 = 0 then
      (f_X6_takeStep 0 t_trial_down t_trial_steps t_told_count t_told_depth t_told_noon t_told_depthBehind t_trial_line t_told_kinds t_trial_strides t_told_beats).bind fun (r6, o7, o8) =>
      if r6 < 0 then
        J_X1_tryDoing_84 o7 o8 t_trial_line t_trial_strains t_trial_strides
      else
        some (1, o7, o8, t_trial_line, t_trial_strains, t_trial_strides)
    else
      J_X1_tryDoing_84 t_trial_down t_trial_steps t_trial_line t_trial_strains t_trial_strides
  else
    if x2 = 1 then
      (f_X6_trySwap x4 t_told_count t_trial_line).bind fun (r11, o12) =>
      (zr r11).bind fun _ =>
      some (r11, t_trial_down, t_trial_steps, o12, t_trial_strains, t_trial_strides)
    else
      if x2 = 2 then
        if 1 < x4 then
          J_X1_tryDoing_128 t_trial_down t_trial_steps t_trial_line t_trial_strains t_trial_strides
        else
          if x4 = 1 then
            J_X1_tryDoing_118 1 x3 t_told_count t_trial_down t_trial_steps t_trial_line t_trial_strains t_trial_strides
          else
            J_X1_tryDoing_118 0 x3 t_told_count t_trial_down t_trial_steps t_trial_line t_trial_strains t_trial_strides
      else
        if x2 = 3 then
          (f_X6_tryRescue x4 t_trial_down t_told_count t_trial_line).bind fun (r15, o16, o17) =>
          (zr r15).bind fun _ =>
          some (r15, o16, t_trial_steps, o17, t_trial_strains, t_trial_strides)
        else
          if x2 = 4 then
            (f_X3_has x4 t_told_count).bind fun r20 =>
            if r20 = 0 then
              J_X1_tryDoing_168 t_trial_down t_trial_steps t_trial_line t_trial_strains t_trial_strides
            else
              (f_X6_isDown x4 t_trial_down).bind fun r23 =>
              if r23 = 0 then
                some (1, t_trial_down, t_trial_steps, t_trial_line, t_trial_strains, t_trial_strides)
              else
                J_X1_tryDoing_168 t_trial_down t_trial_steps t_trial_line t_trial_strains t_trial_strides
          else
            some (0, t_trial_down, t_trial_steps, t_trial_line, t_trial_strains, t_trial_strides)
def f_X1_tryDoing (x1 : Int32) (t_told_count : Int32) (t_told_depth : Int32) (t_told_noon : Int32) (t_told_depthBehind : Int32) (t_trial_down : Int32) (t_trial_steps : Int32) (t_trial_line : Nat → Int32) (t_trial_strains : Nat → Int32) (t_trial_strides : Nat → Int32) (t_told_kinds : Nat → Int32) (t_told_beats : Nat → Int32) : Option (Int32 × Int32 × Int32 × (Nat → Int32) × (Nat → Int32) × (Nat → Int32)) :=
  if (x1 / 100) = 2 then
    J_X1_tryDoing_30 (x1 / 100) ((x1 / 10) - (x1 / 10) / 10 * 10) (x1 - x1 / 10 * 10) t_told_count t_told_depth t_told_noon t_told_depthBehind t_trial_down t_trial_steps t_trial_line t_trial_strains t_trial_strides t_told_kinds t_told_beats
  else
    if ((x1 / 10) - (x1 / 10) / 10 * 10) = 0 then
      J_X1_tryDoing_30 (x1 / 100) ((x1 / 10) - (x1 / 10) / 10 * 10) (x1 - x1 / 10 * 10) t_told_count t_told_depth t_told_noon t_told_depthBehind t_trial_down t_trial_steps t_trial_line t_trial_strains t_trial_strides t_told_kinds t_told_beats
    else
      some (0, t_trial_down, t_trial_steps, t_trial_line, t_trial_strains, t_trial_strides)
def L_X1_firstUndoable_21 (x3 : Int64) (t_told_count : Int32) (t_told_depth : Int32) (t_told_noon : Int32) (t_told_depthBehind : Int32) (t_told_kinds : Nat → Int32) (t_told_beats : Nat → Int32) : Nat → Int32 → Int64 → Int32 → Int32 → (Nat → Int32) → (Nat → Int32) → (Nat → Int32) → Option (Int32 × Int32 × Int32 × (Nat → Int32) × (Nat → Int32) × (Nat → Int32))
  | 0, _, _, _, _, _, _, _ => none
  | fu+1, x5, x6, t_trial_down, t_trial_steps, t_trial_line, t_trial_strides, t_trial_strains =>
    if (lg_cmp x6 (0 : Int64)) ≤ 0 then
      some ((-9), t_trial_down, t_trial_steps, t_trial_line, t_trial_strides, t_trial_strains)
    else
      if x6 = 0 then none else
      (f_X1_tryDoing ((((x3 / x6) - (x3 / x6) / (1000 : Int64) * (1000 : Int64))).toInt32) t_told_count t_told_depth t_told_noon t_told_depthBehind t_trial_down t_trial_steps t_trial_line t_trial_strains t_trial_strides t_told_kinds t_told_beats).bind fun (r1, o2, o3, o4, o5, o6) =>
      if r1 = 0 then
        some (x5, o2, o3, o4, o6, o5)
      else
        L_X1_firstUndoable_21 x3 t_told_count t_told_depth t_told_noon t_told_depthBehind t_told_kinds t_told_beats fu (x5 + 1) (x6 / (1000 : Int64)) o2 o3 o4 o6 o5
def f_X1_firstUndoable (x1 : Int64) (x3 : Int64) (t_trial_down : Int32) (t_trial_steps : Int32) (t_now_down : Int32) (t_now_steps : Int32) (t_now_line : Nat → Int32) (t_trial_line : Nat → Int32) (t_now_strides : Nat → Int32) (t_trial_strides : Nat → Int32) (t_now_strains : Nat → Int32) (t_trial_strains : Nat → Int32) (t_told_count : Int32) (t_told_depth : Int32) (t_told_noon : Int32) (t_told_depthBehind : Int32) (t_told_kinds : Nat → Int32) (t_told_beats : Nat → Int32) : Option (Int32 × Int32 × Int32 × (Nat → Int32) × (Nat → Int32) × (Nat → Int32)) :=
  (f_X6_copyFrom t_trial_down t_trial_steps t_now_down t_now_steps t_now_line t_trial_line t_now_strides t_trial_strides t_now_strains t_trial_strains).bind fun (o9, o10, o11, o12, o13) =>
  L_X1_firstUndoable_21 x3 t_told_count t_told_depth t_told_noon t_told_depthBehind t_told_kinds t_told_beats fuelC 0 (x1 / (1000 : Int64)) o9 o10 o11 o12 o13
def f_X6_leaveOnly (x1 : Int32) (t_down : Int32) : Option (Int32) :=
  some (t_down ||| (x1 ^^^ (-1)))
def f_X1_standingOf (x1 : Int32) (t_trial_down : Int32) (t_trial_steps : Int32) (t_now_down : Int32) (t_now_steps : Int32) (t_now_line : Nat → Int32) (t_trial_line : Nat → Int32) (t_now_strides : Nat → Int32) (t_trial_strides : Nat → Int32) (t_now_strains : Nat → Int32) (t_trial_strains : Nat → Int32) (t_told_count : Int32) (t_told_depth : Int32) (t_told_noon : Int32) (t_told_depthBehind : Int32) (t_told_kinds : Nat → Int32) (t_told_beats : Nat → Int32) : Option (Int32 × Int32 × Int32 × (Nat → Int32) × (Nat → Int32) × (Nat → Int32)) :=
  (f_X6_copyFrom t_trial_down t_trial_steps t_now_down t_now_steps t_now_line t_trial_line t_now_strides t_trial_strides t_now_strains t_trial_strains).bind fun (o1, o2, o3, o4, o5) =>
  (f_X6_leaveOnly x1 o1).bind fun o8 =>
  (f_X1_goOn 6 o8 o2 t_told_count t_told_depth t_told_noon t_told_depthBehind o3 t_told_kinds o4 t_told_beats).bind fun (o11, o12) =>
  (f_X6_standing o11 t_told_count).bind fun r15 =>
  some (r15, o11, o12, o3, o4, o5)
def J_X1_shareAbove_81 (k4 : Int32 → Int32 → Int32 → Int32 → (Nat → Int32) → (Nat → Int32) → (Nat → Int32) → Option (Int32 × Int32 × Int32 × (Nat → Int32) × (Nat → Int32) × (Nat → Int32))) (x2 : Int32) (x3 : Int32) (t_trial_down : Int32) (t_trial_steps : Int32) (t_trial_line : Nat → Int32) (t_trial_strides : Nat → Int32) (t_trial_strains : Nat → Int32) : Option (Int32 × Int32 × Int32 × (Nat → Int32) × (Nat → Int32) × (Nat → Int32)) :=
  k4 x2 (x3 + 1) t_trial_down t_trial_steps t_trial_line t_trial_strides t_trial_strains
def L_X1_shareAbove_4 (x1 : Int32) (t_told_count : Int32) (t_told_depth : Int32) (t_told_noon : Int32) (t_told_depthBehind : Int32) (t_now_down : Int32) (t_now_steps : Int32) (t_now_line : Nat → Int32) (t_now_strides : Nat → Int32) (t_now_strains : Nat → Int32) (t_told_kinds : Nat → Int32) (t_told_beats : Nat → Int32) : Nat → Int32 → Int32 → Int32 → Int32 → (Nat → Int32) → (Nat → Int32) → (Nat → Int32) → Option (Int32 × Int32 × Int32 × (Nat → Int32) × (Nat → Int32) × (Nat → Int32))
  | 0, _, _, _, _, _, _, _ => none
  | fu+1, x2, x3, t_trial_down, t_trial_steps, t_trial_line, t_trial_strides, t_trial_strains =>
    (f_X3_size t_told_count).bind fun r1 =>
    if ((1 : Int32) <<< (r1 &&& 31)) ≤ x3 then
      some (x2, t_trial_down, t_trial_steps, t_trial_line, t_trial_strides, t_trial_strains)
    else
      if ((x3 >>> (x1 &&& 31)) &&& 1) = 0 then
        (f_J6_bitCount_0f7a4 x3).bind fun r4 =>
        (f_X7_at r4 6 fF).bind fun r7 =>
        (f_X3_size t_told_count).bind fun r10 =>
        (f_X7_at ((r10 - 1) - r4) 6 fF).bind fun r13 =>
        (f_X1_standingOf (x3 ||| ((1 : Int32) <<< (x1 &&& 31))) t_trial_down t_trial_steps t_now_down t_now_steps t_now_line t_trial_line t_now_strides t_trial_strides t_now_strains t_trial_strains t_told_count t_told_depth t_told_noon t_told_depthBehind t_told_kinds t_told_beats).bind fun (r16, o17, o18, o19, o20, o21) =>
        (f_X1_standingOf x3 o17 o18 t_now_down t_now_steps t_now_line o19 t_now_strides o20 t_now_strains o21 t_told_count t_told_depth t_told_noon t_told_depthBehind t_told_kinds t_told_beats).bind fun (r24, o25, o26, o27, o28, o29) =>
        J_X1_shareAbove_81 (L_X1_shareAbove_4 x1 t_told_count t_told_depth t_told_noon t_told_depthBehind t_now_down t_now_steps t_now_line t_now_strides t_now_strains t_told_kinds t_told_beats fu) (x2 + ((r7 * r13) * (r16 - r24))) x3 o25 o26 o27 o28 o29
      else
        J_X1_shareAbove_81 (L_X1_shareAbove_4 x1 t_told_count t_told_depth t_told_noon t_told_depthBehind t_now_down t_now_steps t_now_line t_now_strides t_now_strains t_told_kinds t_told_beats fu) x2 x3 t_trial_down t_trial_steps t_trial_line t_trial_strides t_trial_strains
def f_X1_shareAbove (x1 : Int32) (t_told_count : Int32) (t_told_depth : Int32) (t_told_noon : Int32) (t_told_depthBehind : Int32) (t_trial_down : Int32) (t_trial_steps : Int32) (t_now_down : Int32) (t_now_steps : Int32) (t_now_line : Nat → Int32) (t_trial_line : Nat → Int32) (t_now_strides : Nat → Int32) (t_trial_strides : Nat → Int32) (t_now_strains : Nat → Int32) (t_trial_strains : Nat → Int32) (t_told_kinds : Nat → Int32) (t_told_beats : Nat → Int32) : Option (Int32 × Int32 × Int32 × (Nat → Int32) × (Nat → Int32) × (Nat → Int32)) :=
  L_X1_shareAbove_4 x1 t_told_count t_told_depth t_told_noon t_told_depthBehind t_now_down t_now_steps t_now_line t_now_strides t_now_strains t_told_kinds t_told_beats fuelC 0 0 t_trial_down t_trial_steps t_trial_line t_trial_strides t_trial_strains
def f_X2_size (t_count : Int32) : Option (Int32) :=
  some t_count
def f_X2_isFull (t_count : Int32) : Option (Int32) :=
  if t_count < 6 then
    some 0
  else
    some 1
def f_X2_append (x1 : Int32) (x2 : Int32) (t_count : Int32) (t_times : Nat → Int32) (t_treads : Nat → Int32) : Option (Int32 × Int32 × (Nat → Int32) × (Nat → Int32)) :=
  (f_X7_put t_count x1 6 t_times).bind fun o1 =>
  (f_X7_put t_count x2 6 t_treads).bind fun o4 =>
  some ((t_count + 1), (t_count + 1), o1, o4)
def f_X2_clear (t_count : Int32) : Option (Int32 × Int32) :=
  some (t_count, 0)
def J_X2_isSomebody_35 : Option (Int32) :=
  some 0
def f_X2_isSomebody (x0 : Int32) : Option (Int32) :=
  if (x0 / 100) = 2 then
    J_X2_isSomebody_35
  else
    if ((x0 / 10) - (x0 / 10) / 10 * 10) < 1 then
      J_X2_isSomebody_35
    else
      (f_X7_isBetween (x0 - x0 / 10 * 10) 1 4).bind fun r1 =>
      if r1 = 0 then
        J_X2_isSomebody_35
      else
        some 1
def L_X2_fitsAll_2 (x1 : Int32) (t_count : Int32) (t_times : Nat → Int32) (t_treads : Nat → Int32) : Nat → Int32 → Option (Int32)
  | 0, _ => none
  | fu+1, x2 =>
    if t_count ≤ x2 then
      some 1
    else
      (f_X7_at x2 6 t_times).bind fun r1 =>
      (f_X7_treadAlone (x1 / 100) ((x1 / 10) - (x1 / 10) / 10 * 10) (x1 - x1 / 10 * 10) r1).bind fun r4 =>
      (f_X7_at x2 6 t_treads).bind fun r7 =>
      if r4 = r7 then
        L_X2_fitsAll_2 x1 t_count t_times t_treads fu (x2 + 1)
      else
        some 0
def f_X2_fitsAll (x1 : Int32) (t_count : Int32) (t_times : Nat → Int32) (t_treads : Nat → Int32) : Option (Int32) :=
  L_X2_fitsAll_2 x1 t_count t_times t_treads fuelC 0
def J_X2_fitting_32 (k4 : Int32 → Int32 → Option (Int32)) (x2 : Int32) (s0 : Int32) (s1 : Int32) : Option (Int32) :=
  k4 (s1 + s0) (x2 + 1)
def J_X2_fitting_31 (k4 : Int32 → Int32 → Option (Int32)) (x2 : Int32) (s0 : Int32) : Option (Int32) :=
  J_X2_fitting_32 k4 x2 0 s0
def L_X2_fitting_4 (t_count : Int32) (t_times : Nat → Int32) (t_treads : Nat → Int32) : Nat → Int32 → Int32 → Option (Int32)
  | 0, _, _ => none
  | fu+1, x1, x2 =>
    if 400 ≤ x2 then
      some x1
    else
      (f_X2_isSomebody x2).bind fun r1 =>
      if r1 = 0 then
        J_X2_fitting_31 (L_X2_fitting_4 t_count t_times t_treads fu) x2 x1
      else
        (f_X2_fitsAll x2 t_count t_times t_treads).bind fun r4 =>
        if r4 = 0 then
          J_X2_fitting_31 (L_X2_fitting_4 t_count t_times t_treads fu) x2 x1
        else
          J_X2_fitting_32 (L_X2_fitting_4 t_count t_times t_treads fu) x2 1 x1
def f_X2_fitting (t_count : Int32) (t_times : Nat → Int32) (t_treads : Nat → Int32) : Option (Int32) :=
  L_X2_fitting_4 t_count t_times t_treads fuelC 0 0
def J_X2_firstFitting_26 (k2 : Int32 → Option (Int32)) (x1 : Int32) : Option (Int32) :=
  k2 (x1 + 1)
def L_X2_firstFitting_2 (t_count : Int32) (t_times : Nat → Int32) (t_treads : Nat → Int32) : Nat → Int32 → Option (Int32)
  | 0, _ => none
  | fu+1, x1 =>
    if 400 ≤ x1 then
      some (-9)
    else
      (f_X2_isSomebody x1).bind fun r1 =>
      if r1 = 0 then
        J_X2_firstFitting_26 (L_X2_firstFitting_2 t_count t_times t_treads fu) x1
      else
        (f_X2_fitsAll x1 t_count t_times t_treads).bind fun r4 =>
        if r4 = 0 then
          J_X2_firstFitting_26 (L_X2_firstFitting_2 t_count t_times t_treads fu) x1
        else
          some x1
def f_X2_firstFitting (t_count : Int32) (t_times : Nat → Int32) (t_treads : Nat → Int32) : Option (Int32) :=
  L_X2_firstFitting_2 t_count t_times t_treads fuelC 0
def f_X5_figureAt (x1 : Int32) (t_letters : Nat → Int32) : Option (Int32) :=
  (f_X7_at x1 48 t_letters).bind fun r1 =>
  some (r1 - 48)
def f_X5_size (t_length : Int32) : Option (Int32) :=
  some t_length
def L_X3_readFrom_49 (a1_letters : Nat → Int32) (t_count : Int32) (t_depth : Int32) (t_noon : Int32) (t_depthBehind : Int32) : Nat → Int32 → (Nat → Int32) → (Nat → Int32) → Option (Int32 × Int32 × Int32 × Int32 × (Nat → Int32) × (Nat → Int32))
  | 0, _, _, _ => none
  | fu+1, x2, t_beats, t_kinds =>
    if t_count ≤ x2 then
      some (t_count, t_depth, t_noon, t_depthBehind, t_beats, t_kinds)
    else
      (f_X5_figureAt ((4 + (x2 * 4)) + 2) a1_letters).bind fun r1 =>
      (f_X7_put x2 r1 5 t_beats).bind fun o4 =>
      (f_X5_figureAt ((4 + (x2 * 4)) + 3) a1_letters).bind fun r7 =>
      (f_X7_put x2 r7 5 t_kinds).bind fun o10 =>
      L_X3_readFrom_49 a1_letters t_count t_depth t_noon t_depthBehind fu (x2 + 1) o4 o10
def f_X3_readFrom (a1_length : Int32) (a1_letters : Nat → Int32) (t_count : Int32) (t_depth : Int32) (t_noon : Int32) (t_depthBehind : Int32) (t_beats : Nat → Int32) (t_kinds : Nat → Int32) : Option (Int32 × Int32 × Int32 × Int32 × (Nat → Int32) × (Nat → Int32)) :=
  (f_X5_figureAt 1 a1_letters).bind fun r13 =>
  (f_X5_figureAt 2 a1_letters).bind fun r16 =>
  (f_X5_figureAt 3 a1_letters).bind fun r19 =>
  (f_X5_size a1_length).bind fun r22 =>
  L_X3_readFrom_49 a1_letters (if 0 < (if ((r22 - 4) / 4) < 5 then ((r22 - 4) / 4) else 5) then (if ((r22 - 4) / 4) < 5 then ((r22 - 4) / 4) else 5) else 0) r13 r16 r19 fuelC 0 t_beats t_kinds
def L_X6_writeTo_2 (x2 : Int32) (n_a1 : Nat) (t_down : Int32) (t_steps : Int32) (t_line : Nat → Int32) (t_strides : Nat → Int32) (t_strains : Nat → Int32) : Nat → Int32 → (Nat → Int32) → Option ((Nat → Int32))
  | 0, _, _ => none
  | fu+1, x3, a1 =>
    if 5 ≤ x3 then
      (f_X7_put (x2 + 15) t_down n_a1 a1).bind fun o1 =>
      (f_X7_put ((x2 + 15) + 1) t_steps n_a1 o1).bind fun o4 =>
      some o4
    else
      (f_X7_at x3 5 t_line).bind fun r7 =>
      (f_X7_put (x2 + x3) r7 n_a1 a1).bind fun o10 =>
      (f_X7_at x3 5 t_strides).bind fun r13 =>
      (f_X7_put ((x2 + 5) + x3) r13 n_a1 o10).bind fun o16 =>
      (f_X7_at x3 5 t_strains).bind fun r19 =>
      (f_X7_put ((x2 + 10) + x3) r19 n_a1 o16).bind fun o22 =>
      L_X6_writeTo_2 x2 n_a1 t_down t_steps t_line t_strides t_strains fu (x3 + 1) o22
def f_X6_writeTo (x2 : Int32) (n_a1 : Nat) (t_down : Int32) (t_steps : Int32) (t_line : Nat → Int32) (a1 : Nat → Int32) (t_strides : Nat → Int32) (t_strains : Nat → Int32) : Option ((Nat → Int32)) :=
  L_X6_writeTo_2 x2 n_a1 t_down t_steps t_line t_strides t_strains fuelC 0 a1
def f_X4_save (x1 : Int32) (n_t_cells : Nat) (a2_down : Int32) (a2_steps : Int32) (a2_line : Nat → Int32) (t_cells : Nat → Int32) (a2_strides : Nat → Int32) (a2_strains : Nat → Int32) : Option ((Nat → Int32)) :=
  (f_X6_writeTo (x1 * 17) n_t_cells a2_down a2_steps a2_line t_cells a2_strides a2_strains).bind fun o1 =>
  some o1
def L_X6_readFrom_2 (x2 : Int32) (n_a1 : Nat) (t_down : Int32) (t_steps : Int32) (a1 : Nat → Int32) : Nat → Int32 → (Nat → Int32) → (Nat → Int32) → (Nat → Int32) → Option (Int32 × Int32 × (Nat → Int32) × (Nat → Int32) × (Nat → Int32))
  | 0, _, _, _, _ => none
  | fu+1, x3, t_line, t_strides, t_strains =>
    if 5 ≤ x3 then
      (f_X7_at (x2 + 15) n_a1 a1).bind fun r1 =>
      (f_X7_at ((x2 + 15) + 1) n_a1 a1).bind fun r4 =>
      some (r1, r4, t_line, t_strides, t_strains)
    else
      (f_X7_at (x2 + x3) n_a1 a1).bind fun r7 =>
      (f_X7_put x3 r7 5 t_line).bind fun o10 =>
      (f_X7_at ((x2 + 5) + x3) n_a1 a1).bind fun r13 =>
      (f_X7_put x3 r13 5 t_strides).bind fun o16 =>
      (f_X7_at ((x2 + 10) + x3) n_a1 a1).bind fun r19 =>
      (f_X7_put x3 r19 5 t_strains).bind fun o22 =>
      L_X6_readFrom_2 x2 n_a1 t_down t_steps a1 fu (x3 + 1) o10 o16 o22
def f_X6_readFrom (x2 : Int32) (n_a1 : Nat) (t_down : Int32) (t_steps : Int32) (a1 : Nat → Int32) (t_line : Nat → Int32) (t_strides : Nat → Int32) (t_strains : Nat → Int32) : Option (Int32 × Int32 × (Nat → Int32) × (Nat → Int32) × (Nat → Int32)) :=
  L_X6_readFrom_2 x2 n_a1 t_down t_steps a1 fuelC 0 t_line t_strides t_strains
def f_X4_restore (x1 : Int32) (n_t_cells : Nat) (a2_down : Int32) (a2_steps : Int32) (t_cells : Nat → Int32) (a2_line : Nat → Int32) (a2_strides : Nat → Int32) (a2_strains : Nat → Int32) : Option (Int32 × Int32 × (Nat → Int32) × (Nat → Int32) × (Nat → Int32)) :=
  (f_X6_readFrom (x1 * 17) n_t_cells a2_down a2_steps t_cells a2_line a2_strides a2_strains).bind fun (o1, o2, o3, o4, o5) =>
  some (o1, o2, o3, o4, o5)
def f_X5_isFull (t_length : Int32) : Option (Int32) :=
  if t_length < 48 then
    some 0
  else
    some 1
def f_X5_append (x1 : Int32) (t_length : Int32) (t_letters : Nat → Int32) : Option (Int32 × Int32 × (Nat → Int32)) :=
  (f_X7_put t_length x1 48 t_letters).bind fun o1 =>
  some ((t_length + 1), (t_length + 1), o1)
def f_X5_clear (t_length : Int32) : Option (Int32 × Int32) :=
  some (t_length, 0)
def f_X5_fitsHead (x1 : Int32) (t_letters : Nat → Int32) : Option (Int32) :=
  if x1 = 0 then
    (f_X7_at x1 48 t_letters).bind fun r1 =>
    if r1 = 80 then
      some 1
    else
      some 0
  else
    if x1 = 2 then
      (f_X5_figureAt x1 t_letters).bind fun r4 =>
      (f_X7_isBetween r4 0 9).bind fun r7 =>
      (zr r7).bind fun _ =>
      some r7
    else
      (f_X5_figureAt x1 t_letters).bind fun r10 =>
      (f_X7_isBetween r10 1 9).bind fun r13 =>
      (zr r13).bind fun _ =>
      some r13
def f_X5_fitsWalker (x1 : Int32) (x2 : Int32) (t_letters : Nat → Int32) : Option (Int32) :=
  if x2 = 0 then
    (f_X7_at x1 48 t_letters).bind fun r1 =>
    if r1 = 87 then
      some 1
    else
      some 0
  else
    if x2 = 1 then
      (f_X5_figureAt x1 t_letters).bind fun r4 =>
      (f_X7_isBetween r4 1 9).bind fun r7 =>
      (zr r7).bind fun _ =>
      some r7
    else
      if x2 = 2 then
        (f_X5_figureAt x1 t_letters).bind fun r10 =>
        (f_X7_isBetween r10 1 4).bind fun r13 =>
        (zr r13).bind fun _ =>
        some r13
      else
        (f_X5_figureAt x1 t_letters).bind fun r16 =>
        (f_X7_isBetween r16 0 3).bind fun r19 =>
        (zr r19).bind fun _ =>
        some r19
def J_X5_fits_34 : Option (Int32) :=
  some 0
def f_X5_fits (x1 : Int32) (t_letters : Nat → Int32) : Option (Int32) :=
  if 4 ≤ x1 then
    if 24 ≤ x1 then
      J_X5_fits_34
    else
      (f_X5_fitsWalker x1 ((x1 - 4) - (x1 - 4) / 4 * 4) t_letters).bind fun r1 =>
      if r1 = 0 then
        J_X5_fits_34
      else
        some 1
  else
    (f_X5_fitsHead x1 t_letters).bind fun r4 =>
    (zr r4).bind fun _ =>
    some r4
def J_X5_faultPlace_50 (t_length : Int32) : Option (Int32) :=
  some t_length
def L_X5_faultPlace_2 (t_length : Int32) (t_letters : Nat → Int32) : Nat → Int32 → Option (Int32)
  | 0, _ => none
  | fu+1, x1 =>
    if t_length ≤ x1 then
      if t_length < 4 then
        J_X5_faultPlace_50 t_length
      else
        if ((t_length - 4) - (t_length - 4) / 4 * 4) = 0 then
          some (-9)
        else
          J_X5_faultPlace_50 t_length
    else
      (f_X5_fits x1 t_letters).bind fun r1 =>
      if r1 = 0 then
        some x1
      else
        L_X5_faultPlace_2 t_length t_letters fu (x1 + 1)
def f_X5_faultPlace (t_length : Int32) (t_letters : Nat → Int32) : Option (Int32) :=
  L_X5_faultPlace_2 t_length t_letters fuelC 0
def J_X6_begin_47 (k2 : Int32 → (Nat → Int32) → (Nat → Int32) → (Nat → Int32) → Option (Int32 × Int32 × (Nat → Int32) × (Nat → Int32) × (Nat → Int32))) (x2 : Int32) (s0 : Int32) (s1 : Int32) (t_line : Nat → Int32) (t_strides : Nat → Int32) (t_strains : Nat → Int32) : Option (Int32 × Int32 × (Nat → Int32) × (Nat → Int32) × (Nat → Int32)) :=
  (f_X7_put s1 s0 5 t_strides).bind fun o1 =>
  (f_X7_put x2 0 5 t_strains).bind fun o4 =>
  k2 (x2 + 1) t_line o1 o4
def L_X6_begin_2 (t_down : Int32) (t_steps : Int32) (t_told_count : Int32) (a1_letters : Nat → Int32) : Nat → Int32 → (Nat → Int32) → (Nat → Int32) → (Nat → Int32) → Option (Int32 × Int32 × (Nat → Int32) × (Nat → Int32) × (Nat → Int32))
  | 0, _, _, _, _ => none
  | fu+1, x2, t_line, t_strides, t_strains =>
    if 5 ≤ x2 then
      some (0, 0, t_line, t_strides, t_strains)
    else
      (f_X7_put x2 x2 5 t_line).bind fun o7 =>
      (f_X3_has x2 t_told_count).bind fun r10 =>
      if r10 = 0 then
        J_X6_begin_47 (L_X6_begin_2 t_down t_steps t_told_count a1_letters fu) x2 0 x2 o7 t_strides t_strains
      else
        (f_X5_figureAt ((4 + (x2 * 4)) + 1) a1_letters).bind fun r13 =>
        J_X6_begin_47 (L_X6_begin_2 t_down t_steps t_told_count a1_letters fu) x2 r13 x2 o7 t_strides t_strains
def f_X6_begin (t_down : Int32) (t_steps : Int32) (t_line : Nat → Int32) (t_told_count : Int32) (a1_letters : Nat → Int32) (t_strides : Nat → Int32) (t_strains : Nat → Int32) : Option (Int32 × Int32 × (Nat → Int32) × (Nat → Int32) × (Nat → Int32)) :=
  L_X6_begin_2 t_down t_steps t_told_count a1_letters fuelC 0 t_line t_strides t_strains
def f_X6_downBits (t_down : Int32) : Option (Int32) :=
  some t_down
def L_X6_strainOfAll_4 (t_told_count : Int32) (t_strains : Nat → Int32) : Nat → Int32 → Int32 → Option (Int32)
  | 0, _, _ => none
  | fu+1, x1, x2 =>
    (f_X3_size t_told_count).bind fun r1 =>
    if r1 ≤ x2 then
      some x1
    else
      (f_X7_at x2 5 t_strains).bind fun r4 =>
      L_X6_strainOfAll_4 t_told_count t_strains fu (x1 + r4) (x2 + 1)
def f_X6_strainOfAll (t_told_count : Int32) (t_strains : Nat → Int32) : Option (Int32) :=
  L_X6_strainOfAll_4 t_told_count t_strains fuelC 0 0
def J_X6_treadOf_56 (k7 : Int32 → Int32 → Int32 → Option (Int32)) (x2 : Int32) (x3 : Int32) (x4 : Int32) : Option (Int32) :=
  k7 x2 x3 (x4 + 1)
def L_X6_treadOf_7 (x1 : Int32) (t_down : Int32) (t_steps : Int32) (t_told_count : Int32) (t_line : Nat → Int32) (t_told_kinds : Nat → Int32) (t_strides : Nat → Int32) (t_told_beats : Nat → Int32) : Nat → Int32 → Int32 → Int32 → Option (Int32)
  | 0, _, _, _ => none
  | fu+1, x2, x3, x4 =>
    (f_X3_size t_told_count).bind fun r1 =>
    if r1 ≤ x4 then
      some (-9)
    else
      (f_X6_walkerAt x4 t_line).bind fun r4 =>
      (f_X6_isDown r4 t_down).bind fun r7 =>
      if r7 = 0 then
        (f_X6_treadBehind r4 x2 x3 0 t_steps t_told_kinds t_strides t_told_beats).bind fun r10 =>
        if r4 = x1 then
          some r10
        else
          J_X6_treadOf_56 (L_X6_treadOf_7 x1 t_down t_steps t_told_count t_line t_told_kinds t_strides t_told_beats fu) 1 r10 x4
      else
        J_X6_treadOf_56 (L_X6_treadOf_7 x1 t_down t_steps t_told_count t_line t_told_kinds t_strides t_told_beats fu) x2 x3 x4
def f_X6_treadOf (x1 : Int32) (t_down : Int32) (t_steps : Int32) (t_told_count : Int32) (t_line : Nat → Int32) (t_told_kinds : Nat → Int32) (t_strides : Nat → Int32) (t_told_beats : Nat → Int32) : Option (Int32) :=
  L_X6_treadOf_7 x1 t_down t_steps t_told_count t_line t_told_kinds t_strides t_told_beats fuelC 0 0 0
def f_X7_write (x1 : Int32) (t_text_length : Int32) (t_text_letters : Nat → Int32) : Option (Int32 × Int32 × (Nat → Int32)) :=
  if x1 < 0 then
    some ((-2), t_text_length, t_text_letters)
  else
    if x1 ≤ 255 then
      (f_X5_isFull t_text_length).bind fun r1 =>
      if r1 = 0 then
        (f_X5_append x1 t_text_length t_text_letters).bind fun (r4, o5, o6) =>
        some (r4, o5, o6)
      else
        some ((-4), t_text_length, t_text_letters)
    else
      some ((-2), t_text_length, t_text_letters)
def f_X7_wipe (t_text_length : Int32) : Option (Int32 × Int32) :=
  (f_X5_clear t_text_length).bind fun (r1, o2) =>
  some (r1, o2)
def f_X7_fault (t_text_length : Int32) (t_text_letters : Nat → Int32) : Option (Int32) :=
  (f_X5_faultPlace t_text_length t_text_letters).bind fun r1 =>
  some r1
def f_X7_forgetActs (t_firstAct : Int32) (t_actCount : Int32) : Option (Int32 × Int32) :=
  some (0, 0)
def f_X7_party (t_firstAct : Int32) (t_actCount : Int32) (t_slotsKept : Int32) (t_text_length : Int32) (t_text_letters : Nat → Int32) (t_told_count : Int32) (t_told_depth : Int32) (t_told_noon : Int32) (t_told_depthBehind : Int32) (t_told_beats : Nat → Int32) (t_told_kinds : Nat → Int32) (t_now_down : Int32) (t_now_steps : Int32) (t_now_line : Nat → Int32) (t_now_strides : Nat → Int32) (t_now_strains : Nat → Int32) : Option (Int32 × Int32 × Int32 × Int32 × Int32 × Int32 × Int32 × Int32 × (Nat → Int32) × (Nat → Int32) × Int32 × Int32 × (Nat → Int32) × (Nat → Int32) × (Nat → Int32)) :=
  (f_X5_faultPlace t_text_length t_text_letters).bind fun r1 =>
  if r1 = (-9) then
    (f_X3_readFrom t_text_length t_text_letters t_told_count t_told_depth t_told_noon t_told_depthBehind t_told_beats t_told_kinds).bind fun (o4, o5, o6, o7, o8, o9) =>
    (f_X6_begin t_now_down t_now_steps t_now_line o4 t_text_letters t_now_strides t_now_strains).bind fun (o12, o13, o14, o15, o16) =>
    (f_X7_forgetActs t_firstAct t_actCount).bind fun (o19, o20) =>
    (f_X3_size o4).bind fun r23 =>
    some (r23, o19, o20, 0, o4, o5, o6, o7, o8, o9, o12, o13, o14, o15, o16)
  else
    some ((-3), t_firstAct, t_actCount, t_slotsKept, t_told_count, t_told_depth, t_told_noon, t_told_depthBehind, t_told_beats, t_told_kinds, t_now_down, t_now_steps, t_now_line, t_now_strides, t_now_strains)
def f_X7_about (x1 : Int32) (t_actCount : Int32) (t_text_length : Int32) (t_marks_count : Int32) (t_now_down : Int32) (t_now_steps : Int32) (t_told_count : Int32) (t_told_depth : Int32) (t_told_noon : Int32) (t_told_depthBehind : Int32) (t_now_strains : Nat → Int32) : Option (Int32) :=
  if x1 = 0 then
    (f_X3_size t_told_count).bind fun r1 =>
    some r1
  else
    if x1 = 1 then
      (f_X6_stepNumber t_now_steps).bind fun r4 =>
      some r4
    else
      if x1 = 2 then
        (f_X6_stepNumber t_now_steps).bind fun r7 =>
        (f_X3_snowAt r7 t_told_depth t_told_noon t_told_depthBehind).bind fun r10 =>
        some r10
      else
        if x1 = 3 then
          (f_X6_downBits t_now_down).bind fun r13 =>
          some r13
        else
          if x1 = 4 then
            (f_X6_strainOfAll t_told_count t_now_strains).bind fun r16 =>
            some r16
          else
            if x1 = 5 then
              some t_actCount
            else
              if x1 = 6 then
                (f_X2_size t_marks_count).bind fun r19 =>
                some r19
              else
                if x1 = 7 then
                  (f_X5_size t_text_length).bind fun r22 =>
                  some r22
                else
                  some (-2)
def f_X7_walker (x1 : Int32) (x2 : Int32) (t_told_count : Int32) (t_now_down : Int32) (t_now_steps : Int32) (t_now_line : Nat → Int32) (t_told_kinds : Nat → Int32) (t_now_strides : Nat → Int32) (t_told_beats : Nat → Int32) (t_now_strains : Nat → Int32) : Option (Int32) :=
  (f_X3_has x1 t_told_count).bind fun r1 =>
  if r1 = 0 then
    some (-1)
  else
    if x2 = 0 then
      (f_X6_strideOf x1 t_now_strides).bind fun r4 =>
      some r4
    else
      if x2 = 1 then
        (f_X3_beatOf x1 t_told_beats).bind fun r7 =>
        some r7
      else
        if x2 = 2 then
          (f_X3_kindOf x1 t_told_kinds).bind fun r10 =>
          some r10
        else
          if x2 = 3 then
            (f_X6_strainOf x1 t_now_strains).bind fun r13 =>
            some r13
          else
            if x2 = 4 then
              (f_X6_isDown x1 t_now_down).bind fun r16 =>
              if r16 = 0 then
                some 0
              else
                some 1
            else
              if x2 = 5 then
                (f_X6_placeOf x1 t_told_count t_now_line).bind fun r19 =>
                some r19
              else
                if x2 = 6 then
                  (f_X6_treadOf x1 t_now_down t_now_steps t_told_count t_now_line t_told_kinds t_now_strides t_told_beats).bind fun r22 =>
                  some r22
                else
                  some (-2)
def f_X7_line (x1 : Int32) (t_told_count : Int32) (t_now_line : Nat → Int32) : Option (Int32) :=
  (f_X3_has x1 t_told_count).bind fun r1 =>
  if r1 = 0 then
    some (-1)
  else
    (f_X6_walkerAt x1 t_now_line).bind fun r4 =>
    some r4
def f_X7_noteAct (t_firstAct : Int32) (t_actCount : Int32) (t_now_down : Int32) (t_now_steps : Int32) (t_now_line : Nat → Int32) (t_acts_cells : Nat → Int32) (t_now_strides : Nat → Int32) (t_now_strains : Nat → Int32) : Option (Int32 × Int32 × (Nat → Int32)) :=
  (f_X4_save ((t_firstAct + t_actCount) - (t_firstAct + t_actCount) / 14 * 14) 238 t_now_down t_now_steps t_now_line t_acts_cells t_now_strides t_now_strains).bind fun o1 =>
  if 14 ≤ t_actCount then
    some (((t_firstAct + 1) - (t_firstAct + 1) / 14 * 14), t_actCount, o1)
  else
    some (t_firstAct, (t_actCount + 1), o1)
def f_X7_step (t_firstAct : Int32) (t_actCount : Int32) (t_now_down : Int32) (t_now_steps : Int32) (t_now_line : Nat → Int32) (t_acts_cells : Nat → Int32) (t_now_strides : Nat → Int32) (t_now_strains : Nat → Int32) (t_told_count : Int32) (t_told_depth : Int32) (t_told_noon : Int32) (t_told_depthBehind : Int32) (t_told_kinds : Nat → Int32) (t_told_beats : Nat → Int32) : Option (Int32 × Int32 × Int32 × Int32 × Int32 × (Nat → Int32)) :=
  (f_X7_noteAct t_firstAct t_actCount t_now_down t_now_steps t_now_line t_acts_cells t_now_strides t_now_strains).bind fun (o1, o2, o3) =>
  (f_X6_takeStep 0 t_now_down t_now_steps t_told_count t_told_depth t_told_noon t_told_depthBehind t_now_line t_told_kinds t_now_strides t_told_beats).bind fun (r6, o7, o8) =>
  some (r6, o1, o2, o7, o8, o3)
def f_X7_change (x1 : Int32) (t_firstAct : Int32) (t_actCount : Int32) (t_now_down : Int32) (t_now_steps : Int32) (t_told_count : Int32) (t_now_line : Nat → Int32) (t_acts_cells : Nat → Int32) (t_now_strides : Nat → Int32) (t_now_strains : Nat → Int32) : Option (Int32 × Int32 × Int32 × (Nat → Int32) × (Nat → Int32)) :=
  (f_X6_canSwap x1 t_told_count).bind fun r1 =>
  if r1 = 0 then
    some ((-1), t_firstAct, t_actCount, t_now_line, t_acts_cells)
  else
    (f_X7_noteAct t_firstAct t_actCount t_now_down t_now_steps t_now_line t_acts_cells t_now_strides t_now_strains).bind fun (o4, o5, o6) =>
    (f_X6_trySwap x1 t_told_count t_now_line).bind fun (r9, o10) =>
    (f_X6_walkerAt x1 o10).bind fun r13 =>
    some (r13, o4, o5, o10, o6)
def f_X7_drill (x1 : Int32) (x2 : Int32) (t_firstAct : Int32) (t_actCount : Int32) (t_told_count : Int32) (t_now_down : Int32) (t_now_steps : Int32) (t_now_strains : Nat → Int32) (t_now_strides : Nat → Int32) (t_now_line : Nat → Int32) (t_acts_cells : Nat → Int32) : Option (Int32 × Int32 × Int32 × (Nat → Int32) × (Nat → Int32) × (Nat → Int32)) :=
  (f_X3_has x1 t_told_count).bind fun r1 =>
  if r1 = 0 then
    some ((-1), t_firstAct, t_actCount, t_now_strains, t_now_strides, t_acts_cells)
  else
    (f_X6_canDrill x1 x2 t_now_down t_told_count t_now_strains t_now_strides).bind fun r4 =>
    if r4 = 0 then
      some ((-3), t_firstAct, t_actCount, t_now_strains, t_now_strides, t_acts_cells)
    else
      (f_X7_noteAct t_firstAct t_actCount t_now_down t_now_steps t_now_line t_acts_cells t_now_strides t_now_strains).bind fun (o7, o8, o9) =>
      (f_X6_tryDrill x1 x2 t_now_down t_told_count t_now_strains t_now_strides).bind fun (r12, o13, o14) =>
      (f_X6_strideOf x1 o14).bind fun r17 =>
      some (r17, o7, o8, o13, o14, o9)
def f_X7_rescue (x1 : Int32) (t_firstAct : Int32) (t_actCount : Int32) (t_told_count : Int32) (t_now_down : Int32) (t_now_steps : Int32) (t_now_line : Nat → Int32) (t_acts_cells : Nat → Int32) (t_now_strides : Nat → Int32) (t_now_strains : Nat → Int32) : Option (Int32 × Int32 × Int32 × Int32 × (Nat → Int32) × (Nat → Int32)) :=
  (f_X3_has x1 t_told_count).bind fun r1 =>
  if r1 = 0 then
    some ((-1), t_firstAct, t_actCount, t_now_down, t_now_line, t_acts_cells)
  else
    (f_X6_isDown x1 t_now_down).bind fun r4 =>
    if r4 = 0 then
      some ((-3), t_firstAct, t_actCount, t_now_down, t_now_line, t_acts_cells)
    else
      (f_X7_noteAct t_firstAct t_actCount t_now_down t_now_steps t_now_line t_acts_cells t_now_strides t_now_strains).bind fun (o7, o8, o9) =>
      (f_X6_tryRescue x1 t_now_down t_told_count t_now_line).bind fun (r12, o13, o14) =>
      (f_X6_downBits o13).bind fun r17 =>
      (f_J6_bitCount_0f7a4 r17).bind fun r20 =>
      some (r20, o7, o8, o13, o14, o9)
def f_X7_undo (t_firstAct : Int32) (t_actCount : Int32) (t_now_down : Int32) (t_now_steps : Int32) (t_acts_cells : Nat → Int32) (t_now_line : Nat → Int32) (t_now_strides : Nat → Int32) (t_now_strains : Nat → Int32) : Option (Int32 × Int32 × Int32 × Int32 × (Nat → Int32) × (Nat → Int32) × (Nat → Int32)) :=
  if 0 < t_actCount then
    (f_X4_restore ((t_firstAct + (t_actCount - 1)) - (t_firstAct + (t_actCount - 1)) / 14 * 14) 238 t_now_down t_now_steps t_acts_cells t_now_line t_now_strides t_now_strains).bind fun (o1, o2, o3, o4, o5) =>
    some ((t_actCount - 1), (t_actCount - 1), o1, o2, o3, o4, o5)
  else
    some ((-3), t_actCount, t_now_down, t_now_steps, t_now_line, t_now_strides, t_now_strains)
def J_X7_ahead_10 (t_foresight_trial_down : Int32) (t_foresight_trial_steps : Int32) (t_foresight_trial_line : Nat → Int32) (t_foresight_trial_strides : Nat → Int32) (t_foresight_trial_strains : Nat → Int32) : Option (Int32 × Int32 × Int32 × (Nat → Int32) × (Nat → Int32) × (Nat → Int32)) :=
  some ((-2), t_foresight_trial_down, t_foresight_trial_steps, t_foresight_trial_line, t_foresight_trial_strides, t_foresight_trial_strains)
def f_X7_ahead (x1 : Int32) (t_foresight_trial_down : Int32) (t_foresight_trial_steps : Int32) (t_now_down : Int32) (t_now_steps : Int32) (t_now_line : Nat → Int32) (t_foresight_trial_line : Nat → Int32) (t_now_strides : Nat → Int32) (t_foresight_trial_strides : Nat → Int32) (t_now_strains : Nat → Int32) (t_foresight_trial_strains : Nat → Int32) (t_told_count : Int32) (t_told_depth : Int32) (t_told_noon : Int32) (t_told_depthBehind : Int32) (t_told_kinds : Nat → Int32) (t_told_beats : Nat → Int32) : Option (Int32 × Int32 × Int32 × (Nat → Int32) × (Nat → Int32) × (Nat → Int32)) :=
  if x1 < 0 then
    J_X7_ahead_10 t_foresight_trial_down t_foresight_trial_steps t_foresight_trial_line t_foresight_trial_strides t_foresight_trial_strains
  else
    if x1 ≤ 20 then
      (f_X1_standingBehind x1 t_foresight_trial_down t_foresight_trial_steps t_now_down t_now_steps t_now_line t_foresight_trial_line t_now_strides t_foresight_trial_strides t_now_strains t_foresight_trial_strains t_told_count t_told_depth t_told_noon t_told_depthBehind t_told_kinds t_told_beats).bind fun (r1, o2, o3, o4, o5, o6) =>
      some (r1, o2, o3, o4, o5, o6)
    else
      J_X7_ahead_10 t_foresight_trial_down t_foresight_trial_steps t_foresight_trial_line t_foresight_trial_strides t_foresight_trial_strains
def f_X7_drops (x1 : Int32) (t_told_count : Int32) (t_told_depth : Int32) (t_told_noon : Int32) (t_told_depthBehind : Int32) (t_foresight_trial_down : Int32) (t_foresight_trial_steps : Int32) (t_now_down : Int32) (t_now_steps : Int32) (t_now_line : Nat → Int32) (t_foresight_trial_line : Nat → Int32) (t_now_strides : Nat → Int32) (t_foresight_trial_strides : Nat → Int32) (t_now_strains : Nat → Int32) (t_foresight_trial_strains : Nat → Int32) (t_told_kinds : Nat → Int32) (t_told_beats : Nat → Int32) : Option (Int32 × Int32 × Int32 × (Nat → Int32) × (Nat → Int32) × (Nat → Int32)) :=
  (f_X3_has x1 t_told_count).bind fun r1 =>
  if r1 = 0 then
    some ((-1), t_foresight_trial_down, t_foresight_trial_steps, t_foresight_trial_line, t_foresight_trial_strides, t_foresight_trial_strains)
  else
    (f_X1_dropOf x1 t_foresight_trial_down t_foresight_trial_steps t_now_down t_now_steps t_now_line t_foresight_trial_line t_now_strides t_foresight_trial_strides t_now_strains t_foresight_trial_strains t_told_count t_told_depth t_told_noon t_told_depthBehind t_told_kinds t_told_beats).bind fun (r4, o5, o6, o7, o8, o9) =>
    some (r4, o5, o6, o7, o8, o9)
def f_X7_lines (x1 : Int32) (t_told_count : Int32) (t_told_depth : Int32) (t_told_noon : Int32) (t_told_depthBehind : Int32) (t_foresight_trial_down : Int32) (t_foresight_trial_steps : Int32) (t_now_down : Int32) (t_now_steps : Int32) (t_now_line : Nat → Int32) (t_foresight_trial_line : Nat → Int32) (t_now_strides : Nat → Int32) (t_foresight_trial_strides : Nat → Int32) (t_now_strains : Nat → Int32) (t_foresight_trial_strains : Nat → Int32) (t_told_kinds : Nat → Int32) (t_told_beats : Nat → Int32) : Option (Int32 × Int32 × Int32 × (Nat → Int32) × (Nat → Int32) × (Nat → Int32)) :=
  (f_X1_bestLine x1 t_told_count t_told_depth t_told_noon t_told_depthBehind t_foresight_trial_down t_foresight_trial_steps t_now_down t_now_steps t_now_line t_foresight_trial_line t_now_strides t_foresight_trial_strides t_now_strains t_foresight_trial_strains t_told_kinds t_told_beats).bind fun (r1, o2, o3, o4, o5, o6) =>
  some (r1, o2, o3, o4, o5, o6)
def f_X7_drills (t_now_down : Int32) (t_now_steps : Int32) (t_told_count : Int32) (t_told_depth : Int32) (t_told_noon : Int32) (t_told_depthBehind : Int32) (t_now_line : Nat → Int32) (t_now_strides : Nat → Int32) (t_told_kinds : Nat → Int32) (t_told_beats : Nat → Int32) : Option (Int32) :=
  (f_X1_fewestDrills t_now_down t_now_steps t_told_count t_told_depth t_told_noon t_told_depthBehind t_now_line t_now_strides t_told_kinds t_told_beats).bind fun r1 =>
  some r1
def f_X7_fallsIn (x1 : Int32) (x2 : Int32) (t_told_count : Int32) (t_now_steps : Int32) (t_told_kinds : Nat → Int32) (t_now_strides : Nat → Int32) (t_told_beats : Nat → Int32) : Option (Int32) :=
  (f_X3_has x1 t_told_count).bind fun r1 =>
  if r1 = 0 then
    some (-1)
  else
    (f_X3_has x2 t_told_count).bind fun r4 =>
    if r4 = 0 then
      some (-1)
    else
      if x1 = x2 then
        some (-2)
      else
        (f_X1_meeting x1 x2 t_now_steps t_told_kinds t_now_strides t_told_beats).bind fun r7 =>
        some r7
def f_X7_likes (t_now_steps : Int32) (t_told_depth : Int32) (t_told_noon : Int32) (t_told_depthBehind : Int32) : Option (Int32) :=
  (f_X1_likedTread t_now_steps t_told_depth t_told_noon t_told_depthBehind).bind fun r1 =>
  some r1
def L_X7_judge_25 (x1 : Int32) (x2 : Int64) (t_foresight_trial_down : Int32) (t_foresight_trial_steps : Int32) (t_now_down : Int32) (t_now_steps : Int32) (t_now_line : Nat → Int32) (t_foresight_trial_line : Nat → Int32) (t_now_strides : Nat → Int32) (t_foresight_trial_strides : Nat → Int32) (t_now_strains : Nat → Int32) (t_foresight_trial_strains : Nat → Int32) (t_told_count : Int32) (t_told_depth : Int32) (t_told_noon : Int32) (t_told_depthBehind : Int32) (t_told_kinds : Nat → Int32) (t_told_beats : Nat → Int32) : Nat → Int64 → Int32 → Option (Int32 × Int32 × Int32 × (Nat → Int32) × (Nat → Int32) × (Nat → Int32))
  | 0, _, _ => none
  | fu+1, x4, x6 =>
    if x1 ≤ x6 then
      if (lg_cmp x2 x4) < 0 then
        (f_X1_firstUndoable x4 x2 t_foresight_trial_down t_foresight_trial_steps t_now_down t_now_steps t_now_line t_foresight_trial_line t_now_strides t_foresight_trial_strides t_now_strains t_foresight_trial_strains t_told_count t_told_depth t_told_noon t_told_depthBehind t_told_kinds t_told_beats).bind fun (r1, o2, o3, o4, o5, o6) =>
        some (r1, o2, o3, o4, o5, o6)
      else
        some ((-2), t_foresight_trial_down, t_foresight_trial_steps, t_foresight_trial_line, t_foresight_trial_strides, t_foresight_trial_strains)
    else
      L_X7_judge_25 x1 x2 t_foresight_trial_down t_foresight_trial_steps t_now_down t_now_steps t_now_line t_foresight_trial_line t_now_strides t_foresight_trial_strides t_now_strains t_foresight_trial_strains t_told_count t_told_depth t_told_noon t_told_depthBehind t_told_kinds t_told_beats fu (x4 * (1000 : Int64)) (x6 + 1)
def f_X7_judge (x1 : Int32) (x2 : Int64) (t_foresight_trial_down : Int32) (t_foresight_trial_steps : Int32) (t_now_down : Int32) (t_now_steps : Int32) (t_now_line : Nat → Int32) (t_foresight_trial_line : Nat → Int32) (t_now_strides : Nat → Int32) (t_foresight_trial_strides : Nat → Int32) (t_now_strains : Nat → Int32) (t_foresight_trial_strains : Nat → Int32) (t_told_count : Int32) (t_told_depth : Int32) (t_told_noon : Int32) (t_told_depthBehind : Int32) (t_told_kinds : Nat → Int32) (t_told_beats : Nat → Int32) : Option (Int32 × Int32 × Int32 × (Nat → Int32) × (Nat → Int32) × (Nat → Int32)) :=
  if x1 < 1 then
    some ((-2), t_foresight_trial_down, t_foresight_trial_steps, t_foresight_trial_line, t_foresight_trial_strides, t_foresight_trial_strains)
  else
    if 4 < x1 then
      some ((-2), t_foresight_trial_down, t_foresight_trial_steps, t_foresight_trial_line, t_foresight_trial_strides, t_foresight_trial_strains)
    else
      if 0 ≤ (lg_cmp x2 (0 : Int64)) then
        L_X7_judge_25 x1 x2 t_foresight_trial_down t_foresight_trial_steps t_now_down t_now_steps t_now_line t_foresight_trial_line t_now_strides t_foresight_trial_strides t_now_strains t_foresight_trial_strains t_told_count t_told_depth t_told_noon t_told_depthBehind t_told_kinds t_told_beats fuelC (1 : Int64) 0
      else
        some ((-2), t_foresight_trial_down, t_foresight_trial_steps, t_foresight_trial_line, t_foresight_trial_strides, t_foresight_trial_strains)
def L_X7_commonDivisor_7 : Nat → Int32 → Int32 → Int32 → Option (Int32)
  | 0, _, _, _ => none
  | fu+1, x2, x3, x4 =>
    if 64 ≤ x4 then
      some x2
    else
      if x3 ≤ 0 then
        some x2
      else
        if x3 = 0 then none else
        L_X7_commonDivisor_7 fu x3 (x2 - x2 / x3 * x3) (x4 + 1)
def f_X7_commonDivisor (x0 : Int32) (x1 : Int32) : Option (Int32) :=
  L_X7_commonDivisor_7 fuelC x0 x1 0
def f_X7_partOf (x0 : Int32) (x1 : Int32) (x2 : Int32) : Option (Int32) :=
  (f_X7_commonDivisor (if 0 ≤ x0 then x0 else 0 - x0) x1).bind fun r1 =>
  if 0 < r1 then
    if x2 = 0 then
      if r1 = 0 then none else
      some (x1 / r1)
    else
      if r1 = 0 then none else
      some (x0 / r1)
  else
    some 0
def f_X7_share (x1 : Int32) (x2 : Int32) (t_told_count : Int32) (t_told_depth : Int32) (t_told_noon : Int32) (t_told_depthBehind : Int32) (t_foresight_trial_down : Int32) (t_foresight_trial_steps : Int32) (t_now_down : Int32) (t_now_steps : Int32) (t_now_line : Nat → Int32) (t_foresight_trial_line : Nat → Int32) (t_now_strides : Nat → Int32) (t_foresight_trial_strides : Nat → Int32) (t_now_strains : Nat → Int32) (t_foresight_trial_strains : Nat → Int32) (t_told_kinds : Nat → Int32) (t_told_beats : Nat → Int32) : Option (Int32 × Int32 × Int32 × (Nat → Int32) × (Nat → Int32) × (Nat → Int32)) :=
  (f_X3_has x1 t_told_count).bind fun r1 =>
  if r1 = 0 then
    some ((-1), t_foresight_trial_down, t_foresight_trial_steps, t_foresight_trial_line, t_foresight_trial_strides, t_foresight_trial_strains)
  else
    (f_X1_shareAbove x1 t_told_count t_told_depth t_told_noon t_told_depthBehind t_foresight_trial_down t_foresight_trial_steps t_now_down t_now_steps t_now_line t_foresight_trial_line t_now_strides t_foresight_trial_strides t_now_strains t_foresight_trial_strains t_told_kinds t_told_beats).bind fun (r4, o5, o6, o7, o8, o9) =>
    (f_X3_size t_told_count).bind fun r12 =>
    (f_X7_at r12 6 fF).bind fun r15 =>
    (f_X7_partOf r4 r15 x2).bind fun r18 =>
    some (r18, o5, o6, o7, o8, o9)
def f_X7_mark (x1 : Int32) (x2 : Int32) (t_marks_count : Int32) (t_marks_times : Nat → Int32) (t_marks_treads : Nat → Int32) : Option (Int32 × Int32 × (Nat → Int32) × (Nat → Int32)) :=
  if x1 < 0 then
    some ((-2), t_marks_count, t_marks_times, t_marks_treads)
  else
    if 20 < x1 then
      some ((-2), t_marks_count, t_marks_times, t_marks_treads)
    else
      if x2 < 0 then
        some ((-2), t_marks_count, t_marks_times, t_marks_treads)
      else
        if x2 ≤ 12 then
          (f_X2_isFull t_marks_count).bind fun r1 =>
          if r1 = 0 then
            (f_X2_append x1 x2 t_marks_count t_marks_times t_marks_treads).bind fun (r4, o5, o6, o7) =>
            some (r4, o5, o6, o7)
          else
            some ((-4), t_marks_count, t_marks_times, t_marks_treads)
        else
          some ((-2), t_marks_count, t_marks_times, t_marks_treads)
def f_X7_snowed (t_marks_count : Int32) : Option (Int32 × Int32) :=
  (f_X2_clear t_marks_count).bind fun (r1, o2) =>
  some (r1, o2)
def f_X7_whose (x1 : Int32) (t_marks_count : Int32) (t_marks_times : Nat → Int32) (t_marks_treads : Nat → Int32) : Option (Int32) :=
  if x1 = 0 then
    (f_X2_fitting t_marks_count t_marks_times t_marks_treads).bind fun r1 =>
    some r1
  else
    if x1 = 1 then
      (f_X2_firstFitting t_marks_count t_marks_times t_marks_treads).bind fun r4 =>
      some r4
    else
      some (-2)
def J_X7_rests_82 (s0 : Int32) (s1 : Int32) (s2 : Int32) (t_told_count : Int32) (t_told_depth : Int32) (t_told_noon : Int32) (t_told_depthBehind : Int32) (t_now_down : Int32) (t_now_steps : Int32) (t_foresight_trial_down : Int32) (t_foresight_trial_steps : Int32) (t_now_line : Nat → Int32) (t_foresight_trial_line : Nat → Int32) (t_now_strides : Nat → Int32) (t_foresight_trial_strides : Nat → Int32) (t_now_strains : Nat → Int32) (t_foresight_trial_strains : Nat → Int32) (t_told_kinds : Nat → Int32) (t_told_beats : Nat → Int32) (t_chances_hasOne : Nat → Int32) (t_chances_hasOther : Nat → Int32) : Option (Int32 × Int32 × Int32 × (Nat → Int32) × (Nat → Int32) × (Nat → Int32) × (Nat → Int32) × (Nat → Int32)) :=
  (f_X0_restingPairs s2 s1 s0 t_foresight_trial_down t_foresight_trial_steps t_now_down t_now_steps t_now_line t_foresight_trial_line t_now_strides t_foresight_trial_strides t_now_strains t_foresight_trial_strains t_told_count t_told_depth t_told_noon t_told_depthBehind t_told_kinds t_told_beats t_chances_hasOne t_chances_hasOther).bind fun (r1, o2, o3, o4, o5, o6, o7, o8) =>
  some (r1, o2, o3, o4, o5, o6, o7, o8)
def f_X7_rests (x1 : Int32) (x2 : Int32) (x3 : Int32) (t_told_count : Int32) (t_told_depth : Int32) (t_told_noon : Int32) (t_told_depthBehind : Int32) (t_now_down : Int32) (t_now_steps : Int32) (t_foresight_trial_down : Int32) (t_foresight_trial_steps : Int32) (t_now_line : Nat → Int32) (t_foresight_trial_line : Nat → Int32) (t_now_strides : Nat → Int32) (t_foresight_trial_strides : Nat → Int32) (t_now_strains : Nat → Int32) (t_foresight_trial_strains : Nat → Int32) (t_told_kinds : Nat → Int32) (t_told_beats : Nat → Int32) (t_chances_hasOne : Nat → Int32) (t_chances_hasOther : Nat → Int32) : Option (Int32 × Int32 × Int32 × (Nat → Int32) × (Nat → Int32) × (Nat → Int32) × (Nat → Int32) × (Nat → Int32)) :=
  (f_X3_has x1 t_told_count).bind fun r11 =>
  if r11 = 0 then
    some ((-1), t_foresight_trial_down, t_foresight_trial_steps, t_foresight_trial_line, t_foresight_trial_strides, t_foresight_trial_strains, t_chances_hasOne, t_chances_hasOther)
  else
    (f_X3_has x2 t_told_count).bind fun r14 =>
    if r14 = 0 then
      some ((-1), t_foresight_trial_down, t_foresight_trial_steps, t_foresight_trial_line, t_foresight_trial_strides, t_foresight_trial_strains, t_chances_hasOne, t_chances_hasOther)
    else
      if x1 = x2 then
        some ((-2), t_foresight_trial_down, t_foresight_trial_steps, t_foresight_trial_line, t_foresight_trial_strides, t_foresight_trial_strains, t_chances_hasOne, t_chances_hasOther)
      else
        if x3 < 0 then
          some ((-2), t_foresight_trial_down, t_foresight_trial_steps, t_foresight_trial_line, t_foresight_trial_strides, t_foresight_trial_strains, t_chances_hasOne, t_chances_hasOther)
        else
          if x3 ≤ 1 then
            (f_X6_isDown x1 t_now_down).bind fun r17 =>
            if r17 = 0 then
              (f_X6_isDown x2 t_now_down).bind fun r20 =>
              if r20 = 0 then
                if x3 = 1 then
                  J_X7_rests_82 1 x2 x1 t_told_count t_told_depth t_told_noon t_told_depthBehind t_now_down t_now_steps t_foresight_trial_down t_foresight_trial_steps t_now_line t_foresight_trial_line t_now_strides t_foresight_trial_strides t_now_strains t_foresight_trial_strains t_told_kinds t_told_beats t_chances_hasOne t_chances_hasOther
                else
                  J_X7_rests_82 0 x2 x1 t_told_count t_told_depth t_told_noon t_told_depthBehind t_now_down t_now_steps t_foresight_trial_down t_foresight_trial_steps t_now_line t_foresight_trial_line t_now_strides t_foresight_trial_strides t_now_strains t_foresight_trial_strains t_told_kinds t_told_beats t_chances_hasOne t_chances_hasOther
              else
                some ((-3), t_foresight_trial_down, t_foresight_trial_steps, t_foresight_trial_line, t_foresight_trial_strides, t_foresight_trial_strains, t_chances_hasOne, t_chances_hasOther)
            else
              some ((-3), t_foresight_trial_down, t_foresight_trial_steps, t_foresight_trial_line, t_foresight_trial_strides, t_foresight_trial_strains, t_chances_hasOne, t_chances_hasOther)
          else
            some ((-2), t_foresight_trial_down, t_foresight_trial_steps, t_foresight_trial_line, t_foresight_trial_strides, t_foresight_trial_strains, t_chances_hasOne, t_chances_hasOther)
def f_X7_stumbles (x1 : Int32) (x2 : Int32) (x3 : Int32) (t_told_count : Int32) (t_told_depth : Int32) (t_told_noon : Int32) (t_told_depthBehind : Int32) (t_foresight_trial_down : Int32) (t_foresight_trial_steps : Int32) (t_now_down : Int32) (t_now_steps : Int32) (t_now_line : Nat → Int32) (t_foresight_trial_line : Nat → Int32) (t_now_strides : Nat → Int32) (t_foresight_trial_strides : Nat → Int32) (t_now_strains : Nat → Int32) (t_foresight_trial_strains : Nat → Int32) (t_told_kinds : Nat → Int32) (t_told_beats : Nat → Int32) : Option (Int32 × Int32 × Int32 × (Nat → Int32) × (Nat → Int32) × (Nat → Int32)) :=
  if x1 < 0 then
    some ((-2), t_foresight_trial_down, t_foresight_trial_steps, t_foresight_trial_line, t_foresight_trial_strides, t_foresight_trial_strains)
  else
    if 5 < x1 then
      some ((-2), t_foresight_trial_down, t_foresight_trial_steps, t_foresight_trial_line, t_foresight_trial_strides, t_foresight_trial_strains)
    else
      if x2 < 0 then
        some ((-2), t_foresight_trial_down, t_foresight_trial_steps, t_foresight_trial_line, t_foresight_trial_strides, t_foresight_trial_strains)
      else
        if x2 ≤ 10 then
          (f_X0_stumblesAbove x1 x2 t_told_count t_told_depth t_told_noon t_told_depthBehind t_foresight_trial_down t_foresight_trial_steps t_now_down t_now_steps t_now_line t_foresight_trial_line t_now_strides t_foresight_trial_strides t_now_strains t_foresight_trial_strains t_told_kinds t_told_beats).bind fun (r1, o2, o3, o4, o5, o6) =>
          (f_X0_stumblesBelow t_told_count).bind fun r9 =>
          (f_X7_partOf r1 r9 x3).bind fun r12 =>
          some (r12, o2, o3, o4, o5, o6)
        else
          some ((-2), t_foresight_trial_down, t_foresight_trial_steps, t_foresight_trial_line, t_foresight_trial_strides, t_foresight_trial_strains)
def f_X7_seed (x1 : Int64) (t_weather : Int64) : Option (Int64 × Int64) :=
  some (t_weather, x1)
def L_X7_winters_25 (x1 : Int32) (t_told_count : Int32) (t_told_depth : Int32) (t_told_noon : Int32) (t_told_depthBehind : Int32) (t_told_kinds : Nat → Int32) (t_told_beats : Nat → Int32) : Nat → Int32 → Int32 → Int64 → Int32 → Int32 → (Nat → Int32) → (Nat → Int32) → (Nat → Int32) → Option (Int32 × Int64 × Int32 × Int32 × (Nat → Int32) × (Nat → Int32) × (Nat → Int32))
  | 0, _, _, _, _, _, _, _, _ => none
  | fu+1, x2, x3, t_weather, t_foresight_trial_down, t_foresight_trial_steps, t_foresight_trial_line, t_foresight_trial_strides, t_foresight_trial_strains =>
    if x1 ≤ x3 then
      some (x2, t_weather, t_foresight_trial_down, t_foresight_trial_steps, t_foresight_trial_line, t_foresight_trial_strides, t_foresight_trial_strains)
    else
      (f_X0_winter (((((((t_weather * (6364136223846793005 : Int64)) + (1442695040888963407 : Int64))).toUInt64 >>> ((33 : Int32).toInt64.toUInt64 &&& Int64.toUInt64 63)).toInt64 - ((((t_weather * (6364136223846793005 : Int64)) + (1442695040888963407 : Int64))).toUInt64 >>> ((33 : Int32).toInt64.toUInt64 &&& Int64.toUInt64 63)).toInt64 / (20 : Int64) * (20 : Int64))).toInt32) t_foresight_trial_down t_foresight_trial_steps t_told_count t_told_depth t_told_noon t_told_depthBehind t_foresight_trial_strains t_foresight_trial_strides t_foresight_trial_line t_told_kinds t_told_beats).bind fun (r1, o2, o3, o4, o5, o6) =>
      L_X7_winters_25 x1 t_told_count t_told_depth t_told_noon t_told_depthBehind t_told_kinds t_told_beats fu (x2 + r1) (x3 + 1) ((t_weather * (6364136223846793005 : Int64)) + (1442695040888963407 : Int64)) o2 o3 o6 o5 o4
def f_X7_winters (x1 : Int32) (t_weather : Int64) (t_foresight_trial_down : Int32) (t_foresight_trial_steps : Int32) (t_now_down : Int32) (t_now_steps : Int32) (t_now_line : Nat → Int32) (t_foresight_trial_line : Nat → Int32) (t_now_strides : Nat → Int32) (t_foresight_trial_strides : Nat → Int32) (t_now_strains : Nat → Int32) (t_foresight_trial_strains : Nat → Int32) (t_told_count : Int32) (t_told_depth : Int32) (t_told_noon : Int32) (t_told_depthBehind : Int32) (t_told_kinds : Nat → Int32) (t_told_beats : Nat → Int32) : Option (Int32 × Int64 × Int32 × Int32 × (Nat → Int32) × (Nat → Int32) × (Nat → Int32)) :=
  if x1 < 1 then
    some ((-2), t_weather, t_foresight_trial_down, t_foresight_trial_steps, t_foresight_trial_line, t_foresight_trial_strides, t_foresight_trial_strains)
  else
    if x1 ≤ 30 then
      (f_X0_beginWinters t_foresight_trial_down t_foresight_trial_steps t_now_down t_now_steps t_now_line t_foresight_trial_line t_now_strides t_foresight_trial_strides t_now_strains t_foresight_trial_strains).bind fun (o9, o10, o11, o12, o13) =>
      L_X7_winters_25 x1 t_told_count t_told_depth t_told_noon t_told_depthBehind t_told_kinds t_told_beats fuelC 0 0 t_weather o9 o10 o11 o12 o13
    else
      some ((-2), t_weather, t_foresight_trial_down, t_foresight_trial_steps, t_foresight_trial_line, t_foresight_trial_strides, t_foresight_trial_strains)
def J_X7_isSlot_13 : Option (Int32) :=
  some 0
def f_X7_isSlot (x0 : Int32) : Option (Int32) :=
  if x0 < 0 then
    J_X7_isSlot_13
  else
    if 2 ≤ x0 then
      J_X7_isSlot_13
    else
      some 1
def f_X7_keep (x1 : Int32) (t_slotsKept : Int32) (t_now_down : Int32) (t_now_steps : Int32) (t_now_line : Nat → Int32) (t_slots_cells : Nat → Int32) (t_now_strides : Nat → Int32) (t_now_strains : Nat → Int32) : Option (Int32 × Int32 × (Nat → Int32)) :=
  (f_X7_isSlot x1).bind fun r1 =>
  if r1 = 0 then
    some ((-1), t_slotsKept, t_slots_cells)
  else
    (f_X4_save x1 34 t_now_down t_now_steps t_now_line t_slots_cells t_now_strides t_now_strains).bind fun o4 =>
    (f_X6_stepNumber t_now_steps).bind fun r7 =>
    some (r7, (t_slotsKept ||| ((1 : Int32) <<< (x1 &&& 31))), o4)
def f_X7_again (x1 : Int32) (t_firstAct : Int32) (t_actCount : Int32) (t_slotsKept : Int32) (t_now_down : Int32) (t_now_steps : Int32) (t_slots_cells : Nat → Int32) (t_now_line : Nat → Int32) (t_now_strides : Nat → Int32) (t_now_strains : Nat → Int32) : Option (Int32 × Int32 × Int32 × Int32 × Int32 × (Nat → Int32) × (Nat → Int32) × (Nat → Int32)) :=
  (f_X7_isSlot x1).bind fun r1 =>
  if r1 = 0 then
    some ((-1), t_firstAct, t_actCount, t_now_down, t_now_steps, t_now_line, t_now_strides, t_now_strains)
  else
    if ((t_slotsKept >>> (x1 &&& 31)) &&& 1) = 0 then
      some ((-3), t_firstAct, t_actCount, t_now_down, t_now_steps, t_now_line, t_now_strides, t_now_strains)
    else
      (f_X4_restore x1 34 t_now_down t_now_steps t_slots_cells t_now_line t_now_strides t_now_strains).bind fun (o4, o5, o6, o7, o8) =>
      (f_X7_forgetActs t_firstAct t_actCount).bind fun (o11, o12) =>
      (f_X6_stepNumber o5).bind fun r15 =>
      some (r15, o11, o12, o4, o5, o6, o7, o8)
def J_X8_in_17 : Option (Int32) :=
  some 0
def f_X8_in (x0 : Int64) (x2 : Int64) (x4 : Int64) : Option (Int32) :=
  if (lg_cmp x0 x2) < 0 then
    J_X8_in_17
  else
    if 0 < (lg_cmp x0 x4) then
      J_X8_in_17
    else
      some 1
def f_X8_has (x0 : Int32) (x1 : Int32) : Option (Int32) :=
  if ((x0 >>> (x1 &&& 31)) &&& 1) = 1 then
    some 1
  else
    some 0
def L_X8_many_4 (x0 : Int32) : Nat → Int32 → Int32 → Option (Int32)
  | 0, _, _ => none
  | fu+1, x1, x2 =>
    if 5 ≤ x2 then
      some x1
    else
      L_X8_many_4 x0 fu (x1 + ((x0 >>> (x2 &&& 31)) &&& 1)) (x2 + 1)
def f_X8_many (x0 : Int32) : Option (Int32) :=
  L_X8_many_4 x0 fuelC 0 0
def L_X8_power_4 (x0 : Int32) (x1 : Int32) : Nat → Int32 → Int32 → Option (Int32)
  | 0, _, _ => none
  | fu+1, x2, x3 =>
    if x1 ≤ x3 then
      some x2
    else
      L_X8_power_4 x0 x1 fu (x2 * x0) (x3 + 1)
def f_X8_power (x0 : Int32) (x1 : Int32) : Option (Int32) :=
  L_X8_power_4 x0 x1 fuelC 1 0
def f_X8_noWalker (x1 : Int32) (t_walkers : Int32) : Option (Int32) :=
  (f_X8_in ((x1).toInt64) (0 : Int64) (((t_walkers - 1)).toInt64)).bind fun r1 =>
  if r1 = 0 then
    some 1
  else
    some 0
def f_X8_write (x1 : Int32) (t_thrown : Int32) (t_textSize : Int32) (t_text : Nat → Int32) : Option (Int32 × Int32 × Int32 × (Nat → Int32)) :=
  (f_X8_in ((x1).toInt64) (0 : Int64) (255 : Int64)).bind fun r1 =>
  if r1 = 0 then
    some ((-2), 0, t_textSize, t_text)
  else
    if t_textSize = 48 then
      some ((-4), 0, t_textSize, t_text)
    else
      (wrI t_text 48 t_textSize x1).bind fun w4 =>
      some ((t_textSize + 1), 0, (t_textSize + 1), w4)
def f_X8_wipe (t_thrown : Int32) (t_textSize : Int32) : Option (Int32 × Int32 × Int32) :=
  some (t_textSize, 0, 0)
def f_X8_figure (x1 : Int32) (x2 : Int32) (t_textSize : Int32) (t_place : Int32) (t_text : Nat → Int32) : Option (Int32 × Int32) :=
  if t_place = t_textSize then
    some ((-9), t_place)
  else
    (rdI t_text 48 t_place).bind fun v1 =>
    (f_X8_in (((v1 - 48)).toInt64) ((x1).toInt64) ((x2).toInt64)).bind fun r2 =>
    if r2 = 0 then
      some ((-9), t_place)
    else
      (rdI t_text 48 ((t_place + 1) - 1)).bind fun v5 =>
      some ((v5 - 48), (t_place + 1))
def J_X8_readOneWalker_77 (x1 : Int32) (x2 : Int32) (s0 : Int32) (t_place : Int32) (t_readWalkers : Int32) (t_readWalker : Nat → Int32) : Option (Int32 × Int32 × Int32 × (Nat → Int32)) :=
  if s0 = (-9) then
    some (0, t_place, t_readWalkers, t_readWalker)
  else
    (wrI t_readWalker 15 (3 * t_readWalkers) x1).bind fun w1 =>
    (wrI w1 15 ((3 * t_readWalkers) + 1) x2).bind fun w2 =>
    (wrI w2 15 ((3 * t_readWalkers) + 2) s0).bind fun w3 =>
    some (1, t_place, (t_readWalkers + 1), w3)
def J_X8_readOneWalker_59 (x1 : Int32) (s0 : Int32) (t_textSize : Int32) (t_place : Int32) (t_readWalkers : Int32) (t_text : Nat → Int32) (t_readWalker : Nat → Int32) : Option (Int32 × Int32 × Int32 × (Nat → Int32)) :=
  if s0 = (-9) then
    J_X8_readOneWalker_77 x1 s0 (-9) t_place t_readWalkers t_readWalker
  else
    (f_X8_figure 0 3 t_textSize t_place t_text).bind fun (r4, o5) =>
    J_X8_readOneWalker_77 x1 s0 r4 o5 t_readWalkers t_readWalker
def f_X8_readOneWalker (t_textSize : Int32) (t_place : Int32) (t_readWalkers : Int32) (t_text : Nat → Int32) (t_readWalker : Nat → Int32) : Option (Int32 × Int32 × Int32 × (Nat → Int32)) :=
  (rdI t_text 48 t_place).bind fun v8 =>
  if v8 = 87 then
    if t_readWalkers = 5 then
      some (0, t_place, t_readWalkers, t_readWalker)
    else
      (f_X8_figure 1 9 t_textSize (t_place + 1) t_text).bind fun (r9, o10) =>
      if r9 = (-9) then
        J_X8_readOneWalker_59 r9 (-9) t_textSize o10 t_readWalkers t_text t_readWalker
      else
        (f_X8_figure 1 4 t_textSize o10 t_text).bind fun (r13, o14) =>
        J_X8_readOneWalker_59 r9 r13 t_textSize o14 t_readWalkers t_text t_readWalker
  else
    some (0, t_place, t_readWalkers, t_readWalker)
def L_X8_readParty_86 (t_textSize : Int32) (t_text : Nat → Int32) (t_readSnow : Nat → Int32) : Nat → Int32 → Int32 → (Nat → Int32) → Option (Int32 × Int32 × Int32 × (Nat → Int32) × (Nat → Int32))
  | 0, _, _, _ => none
  | fu+1, t_place, t_readWalkers, t_readWalker =>
    if t_textSize ≤ t_place then
      some ((-9), t_place, t_readWalkers, t_readSnow, t_readWalker)
    else
      (f_X8_readOneWalker t_textSize t_place t_readWalkers t_text t_readWalker).bind fun (r1, o2, o3, o4) =>
      if r1 = 0 then
        some (o2, o2, o3, t_readSnow, o4)
      else
        L_X8_readParty_86 t_textSize t_text t_readSnow fu o2 o3 o4
def J_X8_readParty_58 (k37 : Int32 → Int32 → (Nat → Int32) → Option (Int32 × Int32 × Int32 × (Nat → Int32) × (Nat → Int32))) (x1 : Int32) (s0 : Int32) (s2 : Int32) (t_textSize : Int32) (t_place : Int32) (t_readWalkers : Int32) (t_text : Nat → Int32) (t_readSnow : Nat → Int32) (t_readWalker : Nat → Int32) : Option (Int32 × Int32 × Int32 × (Nat → Int32) × (Nat → Int32)) :=
  (f_X8_figure s0 9 t_textSize t_place t_text).bind fun (r7, o8) =>
  (wrI t_readSnow 3 s2 r7).bind fun w11 =>
  (rdI w11 3 x1).bind fun v12 =>
  if v12 = (-9) then
    some (o8, o8, t_readWalkers, w11, t_readWalker)
  else
    k37 (x1 + 1) o8 w11
def L_X8_readParty_37 (t_textSize : Int32) (t_readWalkers : Int32) (t_text : Nat → Int32) (t_readWalker : Nat → Int32) : Nat → Int32 → Int32 → (Nat → Int32) → Option (Int32 × Int32 × Int32 × (Nat → Int32) × (Nat → Int32))
  | 0, _, _, _ => none
  | fu+1, x1, t_place, t_readSnow =>
    if 3 ≤ x1 then
      L_X8_readParty_86 t_textSize t_text t_readSnow fuelC t_place t_readWalkers t_readWalker
    else
      if x1 = 1 then
        J_X8_readParty_58 (L_X8_readParty_37 t_textSize t_readWalkers t_text t_readWalker fu) x1 0 x1 t_textSize t_place t_readWalkers t_text t_readSnow t_readWalker
      else
        J_X8_readParty_58 (L_X8_readParty_37 t_textSize t_readWalkers t_text t_readWalker fu) x1 1 x1 t_textSize t_place t_readWalkers t_text t_readSnow t_readWalker
def f_X8_readParty (t_textSize : Int32) (t_place : Int32) (t_readWalkers : Int32) (t_text : Nat → Int32) (t_readSnow : Nat → Int32) (t_readWalker : Nat → Int32) : Option (Int32 × Int32 × Int32 × (Nat → Int32) × (Nat → Int32)) :=
  if t_textSize = 0 then
    some (0, 0, 0, t_readSnow, t_readWalker)
  else
    (rdI t_text 48 0).bind fun v13 =>
    if v13 = 80 then
      L_X8_readParty_37 t_textSize 0 t_text t_readWalker fuelC 0 1 t_readSnow
    else
      some (0, 0, 0, t_readSnow, t_readWalker)
def f_X8_fault (t_thrown : Int32) (t_textSize : Int32) (t_place : Int32) (t_readWalkers : Int32) (t_text : Nat → Int32) (t_readSnow : Nat → Int32) (t_readWalker : Nat → Int32) : Option (Int32 × Int32 × Int32 × Int32 × (Nat → Int32) × (Nat → Int32)) :=
  (f_X8_readParty t_textSize t_place t_readWalkers t_text t_readSnow t_readWalker).bind fun (r1, o2, o3, o4, o5) =>
  some (r1, 0, o2, o3, o4, o5)
def L_X8_party_78 (t_thrown : Int32) (t_place : Int32) (t_depth : Int32) (t_noon : Int32) (t_later : Int32) (t_walkers : Int32) (t_readWalkers : Int32) (t_acts : Int32) (t_readSnow : Nat → Int32) (t_readWalker : Nat → Int32) (t_isKept : Nat → Int32) : Nat → Int32 → (Nat → Int32) → (Nat → Int32) → (Nat → Int32) → Option (Int32 × Int32 × Int32 × Int32 × Int32 × Int32 × Int32 × Int32 × Int32 × (Nat → Int32) × (Nat → Int32) × (Nat → Int32) × (Nat → Int32) × (Nat → Int32) × (Nat → Int32))
  | 0, _, _, _, _ => none
  | fu+1, x1, t_page, t_beat, t_kind =>
    if t_walkers ≤ x1 then
      (wrZ t_isKept 2 0 0).bind fun w1 =>
      (wrZ w1 2 1 0).bind fun w2 =>
      some (t_walkers, t_thrown, t_place, t_depth, t_noon, t_later, t_walkers, t_readWalkers, 0, t_readSnow, t_readWalker, t_page, t_beat, t_kind, w2)
    else
      (wrI t_page 17 (0 + x1) x1).bind fun w3 =>
      (rdI t_readWalker 15 (3 * x1)).bind fun v4 =>
      (wrI w3 17 (5 + x1) v4).bind fun w5 =>
      (rdI t_readWalker 15 ((3 * x1) + 1)).bind fun v6 =>
      (wrI t_beat 5 x1 v6).bind fun w7 =>
      (rdI t_readWalker 15 ((3 * x1) + 2)).bind fun v8 =>
      (wrI t_kind 5 x1 v8).bind fun w9 =>
      L_X8_party_78 t_thrown t_place t_depth t_noon t_later t_walkers t_readWalkers t_acts t_readSnow t_readWalker t_isKept fu (x1 + 1) w5 w7 w9
def L_X8_party_57 (t_thrown : Int32) (t_place : Int32) (t_depth : Int32) (t_noon : Int32) (t_later : Int32) (t_walkers : Int32) (t_readWalkers : Int32) (t_acts : Int32) (t_readSnow : Nat → Int32) (t_readWalker : Nat → Int32) (t_beat : Nat → Int32) (t_kind : Nat → Int32) (t_isKept : Nat → Int32) : Nat → Int32 → (Nat → Int32) → Option (Int32 × Int32 × Int32 × Int32 × Int32 × Int32 × Int32 × Int32 × Int32 × (Nat → Int32) × (Nat → Int32) × (Nat → Int32) × (Nat → Int32) × (Nat → Int32) × (Nat → Int32))
  | 0, _, _ => none
  | fu+1, x1, t_page =>
    if 17 ≤ x1 then
      L_X8_party_78 t_thrown t_place t_depth t_noon t_later t_walkers t_readWalkers t_acts t_readSnow t_readWalker t_isKept fuelC 0 t_page t_beat t_kind
    else
      (wrI t_page 17 x1 0).bind fun w10 =>
      L_X8_party_57 t_thrown t_place t_depth t_noon t_later t_walkers t_readWalkers t_acts t_readSnow t_readWalker t_beat t_kind t_isKept fu (x1 + 1) w10
def f_X8_party (t_thrown : Int32) (t_textSize : Int32) (t_place : Int32) (t_depth : Int32) (t_noon : Int32) (t_later : Int32) (t_walkers : Int32) (t_readWalkers : Int32) (t_acts : Int32) (t_text : Nat → Int32) (t_readSnow : Nat → Int32) (t_readWalker : Nat → Int32) (t_page : Nat → Int32) (t_beat : Nat → Int32) (t_kind : Nat → Int32) (t_isKept : Nat → Int32) : Option (Int32 × Int32 × Int32 × Int32 × Int32 × Int32 × Int32 × Int32 × Int32 × (Nat → Int32) × (Nat → Int32) × (Nat → Int32) × (Nat → Int32) × (Nat → Int32) × (Nat → Int32)) :=
  (f_X8_readParty t_textSize t_place t_readWalkers t_text t_readSnow t_readWalker).bind fun (r11, o12, o13, o14, o15) =>
  if r11 = (-9) then
    (rdI o14 3 0).bind fun v18 =>
    (rdI o14 3 1).bind fun v19 =>
    (rdI o14 3 2).bind fun v20 =>
    L_X8_party_57 0 o12 v18 v19 v20 o13 o13 t_acts o14 o15 t_beat t_kind t_isKept fuelC 0 t_page
  else
    some ((-3), 0, o12, t_depth, t_noon, t_later, t_walkers, o13, t_acts, o14, o15, t_page, t_beat, t_kind, t_isKept)
def f_X8_treadBy (x0 : Int32) (x1 : Int32) (x2 : Int32) (x3 : Int32) : Option (Int32) :=
  if x0 = 1 then
    some (x1 - (x3 - x3 / 2 * 2))
  else
    if x0 = 2 then
      if x2 = 0 then none else
      if (x3 - x3 / x2 * x2) = 0 then
        some (x1 + 1)
      else
        some x1
    else
      if x0 = 3 then
        if x2 = 0 then none else
        some (x1 + (x3 - x3 / x2 * x2))
      else
        some x1
def f_X8_alone (x2 : Int32) (x3 : Int32) (n_a1 : Nat) (t_kind : Nat → Int32) (a1 : Nat → Int32) (t_beat : Nat → Int32) : Option (Int32) :=
  (rdI t_kind 5 x2).bind fun v1 =>
  (rdI a1 n_a1 (5 + x2)).bind fun v2 =>
  (rdI t_beat 5 x2).bind fun v3 =>
  (f_X8_treadBy v1 v2 v3 x3).bind fun r4 =>
  some r4
def f_X8_snowAt (x1 : Int32) (t_depth : Int32) (t_noon : Int32) (t_later : Int32) : Option (Int32) :=
  if t_noon ≤ x1 then
    some t_later
  else
    some t_depth
def f_X8_treads (x2 : Int32) (x3 : Int32) (n_a1 : Nat) (t_stumbled : Int32) (t_kind : Nat → Int32) (a1 : Nat → Int32) (t_beat : Nat → Int32) : Option (Int32) :=
  (rdI t_kind 5 x2).bind fun v1 =>
  if v1 = 2 then
    if x3 = (-9) then
      (rdI a1 n_a1 16).bind fun v9 =>
      (f_X8_alone x2 v9 n_a1 t_kind a1 t_beat).bind fun r10 =>
      some r10
    else
      some x3
  else
    (rdI a1 n_a1 16).bind fun v2 =>
    (f_X8_alone x2 v2 n_a1 t_kind a1 t_beat).bind fun r3 =>
    (f_X8_has t_stumbled x2).bind fun r6 =>
    if r6 = 0 then
      some (r3 + 0)
    else
      some (r3 + 1)
def J_X8_goStep_138 (k8 : Int32 → Int32 → Int32 → (Nat → Int32) → Option (Int32 × (Nat → Int32))) (x2 : Int32) (x3 : Int32) (x4 : Int32) (a1 : Nat → Int32) : Option (Int32 × (Nat → Int32)) :=
  k8 x2 x3 (x4 + 1) a1
def J_X8_goStep_137 (k8 : Int32 → Int32 → Int32 → (Nat → Int32) → Option (Int32 × (Nat → Int32))) (x3 : Int32) (x4 : Int32) (s0 : Int32) (a1 : Nat → Int32) : Option (Int32 × (Nat → Int32)) :=
  J_X8_goStep_138 k8 s0 x3 x4 a1
def J_X8_goStep_124 (k8 : Int32 → Int32 → Int32 → (Nat → Int32) → Option (Int32 × (Nat → Int32))) (x2 : Int32) (x4 : Int32) (x6 : Int32) (x7 : Int32) (s0 : Int32) (s1 : Int32) (a1 : Nat → Int32) : Option (Int32 × (Nat → Int32)) :=
  if x7 = 0 then
    J_X8_goStep_137 k8 (s1 + s0) x4 x6 a1
  else
    J_X8_goStep_137 k8 (s1 + s0) x4 x2 a1
def J_X8_goStep_111 (k8 : Int32 → Int32 → Int32 → (Nat → Int32) → Option (Int32 × (Nat → Int32))) (x2 : Int32) (x3 : Int32) (x4 : Int32) (x6 : Int32) (x7 : Int32) (s0 : Int32) (s1 : Int32) (s2 : Int32) (n_a1 : Nat) (a1 : Nat → Int32) : Option (Int32 × (Nat → Int32)) :=
  (wrI a1 n_a1 s2 (s1 ||| s0)).bind fun w1 =>
  if x7 = 0 then
    J_X8_goStep_124 k8 x2 x4 x6 x7 0 x3 w1
  else
    J_X8_goStep_124 k8 x2 x4 x6 x7 1 x3 w1
def J_X8_goStep_91 (k8 : Int32 → Int32 → Int32 → (Nat → Int32) → Option (Int32 × (Nat → Int32))) (x2 : Int32) (x3 : Int32) (x4 : Int32) (x5 : Int32) (x6 : Int32) (s0 : Int32) (n_a1 : Nat) (a1 : Nat → Int32) : Option (Int32 × (Nat → Int32)) :=
  (rdI a1 n_a1 15).bind fun v2 =>
  if s0 = 0 then
    J_X8_goStep_111 k8 x2 x3 x4 x6 s0 0 v2 15 n_a1 a1
  else
    J_X8_goStep_111 k8 x2 x3 x4 x6 s0 ((1 : Int32) <<< (x5 &&& 31)) v2 15 n_a1 a1
def J_X8_goStep_72 (k8 : Int32 → Int32 → Int32 → (Nat → Int32) → Option (Int32 × (Nat → Int32))) (x2 : Int32) (x3 : Int32) (x4 : Int32) (x5 : Int32) (x6 : Int32) (n_a1 : Nat) (a1 : Nat → Int32) : Option (Int32 × (Nat → Int32)) :=
  J_X8_goStep_91 k8 x2 x3 x4 x5 x6 1 n_a1 a1
def L_X8_goStep_8 (n_a1 : Nat) (t_depth : Int32) (t_noon : Int32) (t_later : Int32) (t_walkers : Int32) (t_stumbled : Int32) (t_kind : Nat → Int32) (t_beat : Nat → Int32) : Nat → Int32 → Int32 → Int32 → (Nat → Int32) → Option (Int32 × (Nat → Int32))
  | 0, _, _, _, _ => none
  | fu+1, x2, x3, x4, a1 =>
    if t_walkers ≤ x4 then
      (rdI a1 n_a1 16).bind fun v3 =>
      (wrI a1 n_a1 16 (v3 + 1)).bind fun w4 =>
      some (x3, w4)
    else
      (rdI a1 n_a1 (0 + x4)).bind fun v5 =>
      (rdI a1 n_a1 15).bind fun v6 =>
      (f_X8_has v6 v5).bind fun r7 =>
      if r7 = 0 then
        (f_X8_treads v5 x2 n_a1 t_stumbled t_kind a1 t_beat).bind fun r10 =>
        if x2 = (-9) then
          (rdI a1 n_a1 16).bind fun v13 =>
          (f_X8_snowAt v13 t_depth t_noon t_later).bind fun r14 =>
          if r14 < r10 then
            J_X8_goStep_72 (L_X8_goStep_8 n_a1 t_depth t_noon t_later t_walkers t_stumbled t_kind t_beat fu) x2 x3 x4 v5 r10 n_a1 a1
          else
            if 1 ≤ r10 then
              J_X8_goStep_91 (L_X8_goStep_8 n_a1 t_depth t_noon t_later t_walkers t_stumbled t_kind t_beat fu) x2 x3 x4 v5 r10 0 n_a1 a1
            else
              J_X8_goStep_72 (L_X8_goStep_8 n_a1 t_depth t_noon t_later t_walkers t_stumbled t_kind t_beat fu) x2 x3 x4 v5 r10 n_a1 a1
        else
          if r10 = x2 then
            J_X8_goStep_91 (L_X8_goStep_8 n_a1 t_depth t_noon t_later t_walkers t_stumbled t_kind t_beat fu) x2 x3 x4 v5 r10 0 n_a1 a1
          else
            J_X8_goStep_91 (L_X8_goStep_8 n_a1 t_depth t_noon t_later t_walkers t_stumbled t_kind t_beat fu) x2 x3 x4 v5 r10 1 n_a1 a1
      else
        J_X8_goStep_138 (L_X8_goStep_8 n_a1 t_depth t_noon t_later t_walkers t_stumbled t_kind t_beat fu) x2 x3 x4 a1
def f_X8_goStep (n_a1 : Nat) (t_depth : Int32) (t_noon : Int32) (t_later : Int32) (t_walkers : Int32) (t_stumbled : Int32) (a1 : Nat → Int32) (t_kind : Nat → Int32) (t_beat : Nat → Int32) : Option (Int32 × (Nat → Int32)) :=
  L_X8_goStep_8 n_a1 t_depth t_noon t_later t_walkers t_stumbled t_kind t_beat fuelC (-9) 0 0 a1
def L_X8_goSteps_2 (x1 : Int32) (t_depth : Int32) (t_noon : Int32) (t_later : Int32) (t_walkers : Int32) (t_stumbled : Int32) (t_kind : Nat → Int32) (t_beat : Nat → Int32) : Nat → Int32 → (Nat → Int32) → Option ((Nat → Int32))
  | 0, _, _ => none
  | fu+1, x2, t_trial =>
    if x1 ≤ x2 then
      some t_trial
    else
      (f_X8_goStep 17 t_depth t_noon t_later t_walkers t_stumbled t_trial t_kind t_beat).bind fun (r1, o2) =>
      L_X8_goSteps_2 x1 t_depth t_noon t_later t_walkers t_stumbled t_kind t_beat fu (x2 + 1) o2
def f_X8_goSteps (x1 : Int32) (t_depth : Int32) (t_noon : Int32) (t_later : Int32) (t_walkers : Int32) (t_stumbled : Int32) (t_trial : Nat → Int32) (t_kind : Nat → Int32) (t_beat : Nat → Int32) : Option ((Nat → Int32)) :=
  L_X8_goSteps_2 x1 t_depth t_noon t_later t_walkers t_stumbled t_kind t_beat fuelC 0 t_trial
def f_X8_up (n_a1 : Nat) (t_walkers : Int32) (a1 : Nat → Int32) : Option (Int32) :=
  (rdI a1 n_a1 15).bind fun v1 =>
  some ((((1 : Int32) <<< (t_walkers &&& 31)) - 1) &&& (v1 ^^^ (-1)))
def J_X8_treadNow_68 (k9 : Int32 → Int32 → Int32 → Option (Int32)) (x2 : Int32) (x3 : Int32) (x4 : Int32) : Option (Int32) :=
  k9 x2 x3 (x4 + 1)
def J_X8_treadNow_67 (k9 : Int32 → Int32 → Int32 → Option (Int32)) (x2 : Int32) (x4 : Int32) (s0 : Int32) : Option (Int32) :=
  J_X8_treadNow_68 k9 x2 s0 x4
def L_X8_treadNow_9 (x1 : Int32) (t_walkers : Int32) (t_stumbled : Int32) (t_page : Nat → Int32) (t_kind : Nat → Int32) (t_beat : Nat → Int32) : Nat → Int32 → Int32 → Int32 → Option (Int32)
  | 0, _, _, _ => none
  | fu+1, x2, x3, x4 =>
    if t_walkers ≤ x4 then
      some x3
    else
      (rdI t_page 17 (0 + x4)).bind fun v1 =>
      (rdI t_page 17 15).bind fun v2 =>
      (f_X8_has v2 v1).bind fun r3 =>
      if r3 = 0 then
        (f_X8_treads v1 x2 17 t_stumbled t_kind t_page t_beat).bind fun r6 =>
        if v1 = x1 then
          J_X8_treadNow_67 (L_X8_treadNow_9 x1 t_walkers t_stumbled t_page t_kind t_beat fu) r6 x4 r6
        else
          J_X8_treadNow_67 (L_X8_treadNow_9 x1 t_walkers t_stumbled t_page t_kind t_beat fu) r6 x4 x3
      else
        J_X8_treadNow_68 (L_X8_treadNow_9 x1 t_walkers t_stumbled t_page t_kind t_beat fu) x2 x3 x4
def f_X8_treadNow (x1 : Int32) (t_walkers : Int32) (t_stumbled : Int32) (t_page : Nat → Int32) (t_kind : Nat → Int32) (t_beat : Nat → Int32) : Option (Int32) :=
  L_X8_treadNow_9 x1 t_walkers t_stumbled t_page t_kind t_beat fuelC (-9) (-9) 0
def L_X8_strains_4 (t_walkers : Int32) (t_page : Nat → Int32) : Nat → Int32 → Int32 → Option (Int32)
  | 0, _, _ => none
  | fu+1, x1, x2 =>
    if t_walkers ≤ x2 then
      some x1
    else
      (rdI t_page 17 (10 + x2)).bind fun v1 =>
      L_X8_strains_4 t_walkers t_page fu (x1 + v1) (x2 + 1)
def f_X8_strains (t_walkers : Int32) (t_page : Nat → Int32) : Option (Int32) :=
  L_X8_strains_4 t_walkers t_page fuelC 0 0
def f_X8_about (x1 : Int32) (t_thrown : Int32) (t_textSize : Int32) (t_depth : Int32) (t_noon : Int32) (t_later : Int32) (t_walkers : Int32) (t_acts : Int32) (t_marks : Int32) (t_page : Nat → Int32) : Option (Int32 × Int32) :=
  if x1 = 0 then
    some (t_walkers, 0)
  else
    if x1 = 1 then
      (rdI t_page 17 16).bind fun v1 =>
      some (v1, 0)
    else
      if x1 = 2 then
        (rdI t_page 17 16).bind fun v2 =>
        (f_X8_snowAt v2 t_depth t_noon t_later).bind fun r3 =>
        some (r3, 0)
      else
        if x1 = 3 then
          (rdI t_page 17 15).bind fun v6 =>
          some (v6, 0)
        else
          if x1 = 4 then
            (f_X8_strains t_walkers t_page).bind fun r7 =>
            some (r7, 0)
          else
            if x1 = 5 then
              some (t_acts, 0)
            else
              if x1 = 6 then
                some (t_marks, 0)
              else
                if x1 = 7 then
                  some (t_textSize, 0)
                else
                  some ((-2), 0)
def J_X8_placeOf_22 (k4 : Int32 → Int32 → Option (Int32)) (x3 : Int32) (s0 : Int32) : Option (Int32) :=
  k4 s0 (x3 + (-1))
def L_X8_placeOf_4 (x1 : Int32) (n_a0 : Nat) (a0 : Nat → Int32) : Nat → Int32 → Int32 → Option (Int32)
  | 0, _, _ => none
  | fu+1, x2, x3 =>
    if x3 < 0 then
      some x2
    else
      (rdI a0 n_a0 (0 + x3)).bind fun v1 =>
      if v1 = x1 then
        J_X8_placeOf_22 (L_X8_placeOf_4 x1 n_a0 a0 fu) x3 x3
      else
        J_X8_placeOf_22 (L_X8_placeOf_4 x1 n_a0 a0 fu) x3 x2
def f_X8_placeOf (x1 : Int32) (n_a0 : Nat) (a0 : Nat → Int32) : Option (Int32) :=
  L_X8_placeOf_4 x1 n_a0 a0 fuelC 0 4
def f_X8_walker (x1 : Int32) (x2 : Int32) (t_thrown : Int32) (t_walkers : Int32) (t_stumbled : Int32) (t_page : Nat → Int32) (t_kind : Nat → Int32) (t_beat : Nat → Int32) : Option (Int32 × Int32 × Int32) :=
  (f_X8_noWalker x1 t_walkers).bind fun r1 =>
  if r1 = 0 then
    if x2 = 0 then
      (rdI t_page 17 (5 + x1)).bind fun v4 =>
      some (v4, 0, 0)
    else
      if x2 = 1 then
        (rdI t_beat 5 x1).bind fun v5 =>
        some (v5, 0, 0)
      else
        if x2 = 2 then
          (rdI t_kind 5 x1).bind fun v6 =>
          some (v6, 0, 0)
        else
          if x2 = 3 then
            (rdI t_page 17 (10 + x1)).bind fun v7 =>
            some (v7, 0, 0)
          else
            if x2 = 4 then
              (rdI t_page 17 15).bind fun v8 =>
              some (((v8 >>> (x1 &&& 31)) &&& 1), 0, 0)
            else
              if x2 = 5 then
                (f_X8_placeOf x1 17 t_page).bind fun r9 =>
                some (r9, 0, 0)
              else
                if x2 = 6 then
                  (f_X8_treadNow x1 t_walkers 0 t_page t_kind t_beat).bind fun r12 =>
                  some (r12, 0, 0)
                else
                  some ((-2), 0, 0)
  else
    some ((-1), 0, t_stumbled)
def f_X8_line (x1 : Int32) (t_thrown : Int32) (t_walkers : Int32) (t_page : Nat → Int32) : Option (Int32 × Int32) :=
  (f_X8_in ((x1).toInt64) (0 : Int64) (((t_walkers - 1)).toInt64)).bind fun r1 =>
  if r1 = 0 then
    some ((-1), 0)
  else
    (rdI t_page 17 (0 + x1)).bind fun v4 =>
    some (v4, 0)
def L_X8_note_51 (t_acts : Int32) (t_page : Nat → Int32) : Nat → Int32 → (Nat → Int32) → Option (Int32 × (Nat → Int32))
  | 0, _, _ => none
  | fu+1, x1, t_book =>
    if 17 ≤ x1 then
      some ((t_acts + 1), t_book)
    else
      (rdI t_page 17 x1).bind fun v1 =>
      (wrI t_book 238 ((17 * t_acts) + x1) v1).bind fun w2 =>
      L_X8_note_51 t_acts t_page fu (x1 + 1) w2
def J_X8_note_49 (t_acts : Int32) (t_book : Nat → Int32) (t_page : Nat → Int32) : Option (Int32 × (Nat → Int32)) :=
  L_X8_note_51 t_acts t_page fuelC 0 t_book
def L_X8_note_11 (t_acts : Int32) (t_page : Nat → Int32) : Nat → Int32 → (Nat → Int32) → Option (Int32 × (Nat → Int32))
  | 0, _, _ => none
  | fu+1, x1, t_book =>
    if 221 ≤ x1 then
      J_X8_note_49 (t_acts - 1) t_book t_page
    else
      (rdI t_book 238 (x1 + 17)).bind fun v3 =>
      (wrI t_book 238 x1 v3).bind fun w4 =>
      L_X8_note_11 t_acts t_page fu (x1 + 1) w4
def f_X8_note (t_acts : Int32) (t_book : Nat → Int32) (t_page : Nat → Int32) : Option (Int32 × (Nat → Int32)) :=
  if t_acts = 14 then
    L_X8_note_11 t_acts t_page fuelC 0 t_book
  else
    J_X8_note_49 t_acts t_book t_page
def f_X8_step (t_thrown : Int32) (t_depth : Int32) (t_noon : Int32) (t_later : Int32) (t_walkers : Int32) (t_acts : Int32) (t_stumbled : Int32) (t_book : Nat → Int32) (t_page : Nat → Int32) (t_kind : Nat → Int32) (t_beat : Nat → Int32) : Option (Int32 × Int32 × Int32 × Int32 × (Nat → Int32) × (Nat → Int32)) :=
  (f_X8_note t_acts t_book t_page).bind fun (o1, o2) =>
  (f_X8_goStep 17 t_depth t_noon t_later t_walkers 0 t_page t_kind t_beat).bind fun (r5, o6) =>
  some (r5, 0, o1, 0, o2, o6)
def f_X8_goChange (x1 : Int32) (n_a0 : Nat) (a0 : Nat → Int32) : Option ((Nat → Int32)) :=
  (rdI a0 n_a0 (0 + x1)).bind fun v1 =>
  (rdI a0 n_a0 ((0 + x1) + 1)).bind fun v2 =>
  (wrI a0 n_a0 (0 + x1) v2).bind fun w3 =>
  (wrI w3 n_a0 ((0 + x1) + 1) v1).bind fun w4 =>
  some w4
def f_X8_change (x1 : Int32) (t_thrown : Int32) (t_walkers : Int32) (t_acts : Int32) (t_book : Nat → Int32) (t_page : Nat → Int32) : Option (Int32 × Int32 × Int32 × (Nat → Int32) × (Nat → Int32)) :=
  (f_X8_in ((x1).toInt64) (0 : Int64) (((t_walkers - 2)).toInt64)).bind fun r1 =>
  if r1 = 0 then
    some ((-1), 0, t_acts, t_book, t_page)
  else
    (f_X8_note t_acts t_book t_page).bind fun (o4, o5) =>
    (f_X8_goChange x1 17 t_page).bind fun o8 =>
    (rdI o8 17 (0 + x1)).bind fun v11 =>
    some (v11, 0, o4, o5, o8)
def J_X8_canDrill_43 : Option (Int32) :=
  some 0
def f_X8_canDrill (x1 : Int32) (x2 : Int32) (n_a0 : Nat) (a0 : Nat → Int32) : Option (Int32) :=
  (rdI a0 n_a0 (5 + x1)).bind fun v1 =>
  (f_X8_in (((v1 + x2)).toInt64) (1 : Int64) (9 : Int64)).bind fun r2 =>
  if r2 = 0 then
    J_X8_canDrill_43
  else
    (rdI a0 n_a0 (10 + x1)).bind fun v5 =>
    if 5 ≤ v5 then
      J_X8_canDrill_43
    else
      (rdI a0 n_a0 15).bind fun v6 =>
      (f_X8_has v6 x1).bind fun r7 =>
      if r7 = 0 then
        some 1
      else
        J_X8_canDrill_43
def f_X8_goDrill (x1 : Int32) (x2 : Int32) (n_a0 : Nat) (a0 : Nat → Int32) : Option ((Nat → Int32)) :=
  (rdI a0 n_a0 (5 + x1)).bind fun v1 =>
  (wrI a0 n_a0 (5 + x1) (v1 + x2)).bind fun w2 =>
  (rdI w2 n_a0 (10 + x1)).bind fun v3 =>
  (wrI w2 n_a0 (10 + x1) (v3 + 1)).bind fun w4 =>
  some w4
def J_X8_drill_56 (x1 : Int32) (s0 : Int32) (s1 : Int32) (t_thrown : Int32) (t_acts : Int32) (t_page : Nat → Int32) (t_book : Nat → Int32) : Option (Int32 × Int32 × Int32 × (Nat → Int32) × (Nat → Int32)) :=
  (f_X8_goDrill s1 s0 17 t_page).bind fun o1 =>
  (rdI o1 17 (5 + x1)).bind fun v4 =>
  some (v4, t_thrown, t_acts, o1, t_book)
def J_X8_drill_29 (x1 : Int32) (x2 : Int32) (s0 : Int32) (s1 : Int32) (t_thrown : Int32) (t_acts : Int32) (t_page : Nat → Int32) (t_book : Nat → Int32) : Option (Int32 × Int32 × Int32 × (Nat → Int32) × (Nat → Int32)) :=
  (f_X8_canDrill s1 s0 17 t_page).bind fun r5 =>
  if r5 = 0 then
    some ((-3), t_thrown, t_acts, t_page, t_book)
  else
    (f_X8_note t_acts t_book t_page).bind fun (o8, o9) =>
    if x2 = 0 then
      J_X8_drill_56 x1 (-1) x1 t_thrown o8 t_page o9
    else
      J_X8_drill_56 x1 1 x1 t_thrown o8 t_page o9
def f_X8_drill (x1 : Int32) (x2 : Int32) (t_thrown : Int32) (t_walkers : Int32) (t_acts : Int32) (t_page : Nat → Int32) (t_book : Nat → Int32) : Option (Int32 × Int32 × Int32 × (Nat → Int32) × (Nat → Int32)) :=
  (f_X8_noWalker x1 t_walkers).bind fun r12 =>
  if r12 = 0 then
    if x2 = 0 then
      J_X8_drill_29 x1 x2 (-1) x1 0 t_acts t_page t_book
    else
      J_X8_drill_29 x1 x2 1 x1 0 t_acts t_page t_book
  else
    some ((-1), 0, t_acts, t_page, t_book)
def L_X8_goRescue_6 (x2 : Int32) (n_a1 : Nat) (t_walkers : Int32) : Nat → Int32 → (Nat → Int32) → Option ((Nat → Int32))
  | 0, _, _ => none
  | fu+1, x3, a1 =>
    if (t_walkers - 1) ≤ x3 then
      (rdI a1 n_a1 15).bind fun v1 =>
      (wrI a1 n_a1 15 (v1 &&& (((1 : Int32) <<< (x2 &&& 31)) ^^^ (-1)))).bind fun w2 =>
      some w2
    else
      (f_X8_goChange x3 n_a1 a1).bind fun o3 =>
      L_X8_goRescue_6 x2 n_a1 t_walkers fu (x3 + 1) o3
def f_X8_goRescue (x2 : Int32) (n_a1 : Nat) (a1 : Nat → Int32) (t_walkers : Int32) : Option ((Nat → Int32)) :=
  (f_X8_placeOf x2 n_a1 a1).bind fun r6 =>
  L_X8_goRescue_6 x2 n_a1 t_walkers fuelC r6 a1
def f_X8_rescue (x1 : Int32) (t_thrown : Int32) (t_walkers : Int32) (t_acts : Int32) (t_page : Nat → Int32) (t_book : Nat → Int32) : Option (Int32 × Int32 × Int32 × (Nat → Int32) × (Nat → Int32)) :=
  (f_X8_noWalker x1 t_walkers).bind fun r1 =>
  if r1 = 0 then
    (rdI t_page 17 15).bind fun v4 =>
    (f_X8_has v4 x1).bind fun r5 =>
    if r5 = 0 then
      some ((-3), 0, t_acts, t_page, t_book)
    else
      (f_X8_note t_acts t_book t_page).bind fun (o8, o9) =>
      (f_X8_goRescue x1 17 t_page t_walkers).bind fun o12 =>
      (rdI o12 17 15).bind fun v15 =>
      (f_X8_many v15).bind fun r16 =>
      some (r16, 0, o8, o12, o9)
  else
    some ((-1), 0, t_acts, t_page, t_book)
def L_X8_undo_27 (t_thrown : Int32) (t_acts : Int32) (t_book : Nat → Int32) : Nat → Int32 → (Nat → Int32) → Option (Int32 × Int32 × Int32 × (Nat → Int32))
  | 0, _, _ => none
  | fu+1, x1, t_page =>
    if 17 ≤ x1 then
      some (t_acts, t_thrown, t_acts, t_page)
    else
      (rdI t_book 238 ((17 * t_acts) + x1)).bind fun v1 =>
      (wrI t_page 17 x1 v1).bind fun w2 =>
      L_X8_undo_27 t_thrown t_acts t_book fu (x1 + 1) w2
def f_X8_undo (t_thrown : Int32) (t_acts : Int32) (t_book : Nat → Int32) (t_page : Nat → Int32) : Option (Int32 × Int32 × Int32 × (Nat → Int32)) :=
  if t_acts = 0 then
    some ((-3), 0, t_acts, t_page)
  else
    L_X8_undo_27 0 (t_acts - 1) t_book fuelC 0 t_page
def L_X8_begin_7 (t_stumbled : Int32) (t_page : Nat → Int32) : Nat → Int32 → (Nat → Int32) → Option (Int32 × (Nat → Int32))
  | 0, _, _ => none
  | fu+1, x1, t_trial =>
    if 17 ≤ x1 then
      some (t_stumbled, t_trial)
    else
      (rdI t_page 17 x1).bind fun v1 =>
      (wrI t_trial 17 x1 v1).bind fun w2 =>
      L_X8_begin_7 t_stumbled t_page fu (x1 + 1) w2
def f_X8_begin (t_stumbled : Int32) (t_page : Nat → Int32) (t_trial : Nat → Int32) : Option (Int32 × (Nat → Int32)) :=
  L_X8_begin_7 0 t_page fuelC 0 t_trial
def f_X8_ahead (x1 : Int32) (t_thrown : Int32) (t_depth : Int32) (t_noon : Int32) (t_later : Int32) (t_walkers : Int32) (t_stumbled : Int32) (t_page : Nat → Int32) (t_trial : Nat → Int32) (t_kind : Nat → Int32) (t_beat : Nat → Int32) : Option (Int32 × Int32 × Int32 × (Nat → Int32)) :=
  (f_X8_in ((x1).toInt64) (0 : Int64) (20 : Int64)).bind fun r1 =>
  if r1 = 0 then
    some ((-2), 0, t_stumbled, t_trial)
  else
    (f_X8_begin t_stumbled t_page t_trial).bind fun (o4, o5) =>
    (f_X8_goSteps x1 t_depth t_noon t_later t_walkers o4 o5 t_kind t_beat).bind fun o8 =>
    (f_X8_up 17 t_walkers o8).bind fun r11 =>
    some (r11, 0, o4, o8)
def L_X8_drops_21 (x1 : Int32) (t_thrown : Int32) (t_depth : Int32) (t_noon : Int32) (t_later : Int32) (t_walkers : Int32) (t_stumbled : Int32) (t_kind : Nat → Int32) (t_beat : Nat → Int32) : Nat → Int32 → (Nat → Int32) → Option (Int32 × Int32 × Int32 × (Nat → Int32))
  | 0, _, _ => none
  | fu+1, x2, t_trial =>
    if 20 < x2 then
      some ((-9), t_thrown, t_stumbled, t_trial)
    else
      (rdI t_trial 17 15).bind fun v1 =>
      (f_X8_has v1 x1).bind fun r2 =>
      if r2 = 0 then
        (f_X8_goStep 17 t_depth t_noon t_later t_walkers t_stumbled t_trial t_kind t_beat).bind fun (r5, o6) =>
        L_X8_drops_21 x1 t_thrown t_depth t_noon t_later t_walkers t_stumbled t_kind t_beat fu (x2 + 1) o6
      else
        some (x2, t_thrown, t_stumbled, t_trial)
def f_X8_drops (x1 : Int32) (t_thrown : Int32) (t_depth : Int32) (t_noon : Int32) (t_later : Int32) (t_walkers : Int32) (t_stumbled : Int32) (t_page : Nat → Int32) (t_trial : Nat → Int32) (t_kind : Nat → Int32) (t_beat : Nat → Int32) : Option (Int32 × Int32 × Int32 × (Nat → Int32)) :=
  (f_X8_noWalker x1 t_walkers).bind fun r9 =>
  if r9 = 0 then
    (f_X8_begin t_stumbled t_page t_trial).bind fun (o12, o13) =>
    L_X8_drops_21 x1 0 t_depth t_noon t_later t_walkers o12 t_kind t_beat fuelC 0 o13
  else
    some ((-1), 0, t_stumbled, t_trial)
def L_X8_nextOrder_107 : Nat → Int32 → Int32 → (Nat → Int32) → Option (Int32 × (Nat → Int32))
  | 0, _, _, _ => none
  | fu+1, x4, x5, t_order =>
    if x5 ≤ x4 then
      some (1, t_order)
    else
      (rdI t_order 5 x4).bind fun v1 =>
      (rdI t_order 5 x5).bind fun v2 =>
      (wrI t_order 5 x4 v2).bind fun w3 =>
      (wrI w3 5 x5 v1).bind fun w4 =>
      L_X8_nextOrder_107 fu (x4 + 1) (x5 + (-1)) w4
def L_X8_nextOrder_47 (x1 : Int32) (t_walkers : Int32) (t_order : Nat → Int32) : Nat → Int32 → Option (Int32 × (Nat → Int32))
  | 0, _ => none
  | fu+1, x2 =>
    (rdI t_order 5 x2).bind fun v5 =>
    (rdI t_order 5 x1).bind fun v6 =>
    if v6 ≤ v5 then
      (rdI t_order 5 x1).bind fun v7 =>
      (rdI t_order 5 x2).bind fun v8 =>
      (wrI t_order 5 x1 v8).bind fun w9 =>
      (wrI w9 5 x2 v7).bind fun w10 =>
      L_X8_nextOrder_107 fuelC (x1 + 1) (t_walkers - 1) w10
    else
      L_X8_nextOrder_47 x1 t_walkers t_order fu (x2 + (-1))
def J_X8_nextOrder_34 (x1 : Int32) (t_walkers : Int32) (t_order : Nat → Int32) : Option (Int32 × (Nat → Int32)) :=
  if 0 ≤ x1 then
    L_X8_nextOrder_47 x1 t_walkers t_order fuelC (t_walkers - 1)
  else
    some (0, t_order)
def L_X8_nextOrder_7 (t_walkers : Int32) (t_order : Nat → Int32) : Nat → Int32 → Option (Int32 × (Nat → Int32))
  | 0, _ => none
  | fu+1, x1 =>
    if x1 < 0 then
      J_X8_nextOrder_34 x1 t_walkers t_order
    else
      (rdI t_order 5 x1).bind fun v11 =>
      (rdI t_order 5 (x1 + 1)).bind fun v12 =>
      if v11 ≤ v12 then
        J_X8_nextOrder_34 x1 t_walkers t_order
      else
        L_X8_nextOrder_7 t_walkers t_order fu (x1 + (-1))
def f_X8_nextOrder (t_walkers : Int32) (t_order : Nat → Int32) : Option (Int32 × (Nat → Int32)) :=
  L_X8_nextOrder_7 t_walkers t_order fuelC (t_walkers - 2)
def J_X8_findLines_148 (k58 : Int32 → Int32 → Int32 → Int32 → (Nat → Int32) → (Nat → Int32) → Option (Int32 × Int32 × Int32 × (Nat → Int32) × (Nat → Int32))) (t_walkers : Int32) (t_stumbled : Int32) (t_lineMany : Int32) (t_lineOrder : Int32) (t_order : Nat → Int32) (t_trial : Nat → Int32) : Option (Int32 × Int32 × Int32 × (Nat → Int32) × (Nat → Int32)) :=
  (f_X8_nextOrder t_walkers t_order).bind fun (r1, o2) =>
  k58 r1 t_stumbled t_lineMany t_lineOrder o2 t_trial
def L_X8_findLines_70 (k58 : Int32 → Int32 → Int32 → Int32 → (Nat → Int32) → (Nat → Int32) → Option (Int32 × Int32 × Int32 × (Nat → Int32) × (Nat → Int32))) (t_depth : Int32) (t_noon : Int32) (t_later : Int32) (t_walkers : Int32) (t_stumbled : Int32) (t_lineMany : Int32) (t_lineOrder : Int32) (t_order : Nat → Int32) (t_page : Nat → Int32) (t_kind : Nat → Int32) (t_beat : Nat → Int32) : Nat → Int32 → Int32 → (Nat → Int32) → Option (Int32 × Int32 × Int32 × (Nat → Int32) × (Nat → Int32))
  | 0, _, _, _ => none
  | fu+1, x2, x3, t_trial =>
    if t_walkers ≤ x3 then
      (f_X8_goSteps 6 t_depth t_noon t_later t_walkers t_stumbled t_trial t_kind t_beat).bind fun o5 =>
      (f_X8_up 17 t_walkers o5).bind fun r8 =>
      (f_X8_many r8).bind fun r11 =>
      if r11 ≤ t_lineMany then
        J_X8_findLines_148 k58 t_walkers t_stumbled t_lineMany t_lineOrder t_order o5
      else
        J_X8_findLines_148 k58 t_walkers t_stumbled r11 x2 t_order o5
    else
      (rdI t_order 5 x3).bind fun v14 =>
      (wrI t_trial 17 (0 + x3) v14).bind fun w15 =>
      (rdI t_order 5 x3).bind fun v16 =>
      L_X8_findLines_70 k58 t_depth t_noon t_later t_walkers t_stumbled t_lineMany t_lineOrder t_order t_page t_kind t_beat fu (((10 * x2) + v16) + 1) (x3 + 1) w15
def L_X8_findLines_58 (t_depth : Int32) (t_noon : Int32) (t_later : Int32) (t_walkers : Int32) (t_page : Nat → Int32) (t_kind : Nat → Int32) (t_beat : Nat → Int32) : Nat → Int32 → Int32 → Int32 → Int32 → (Nat → Int32) → (Nat → Int32) → Option (Int32 × Int32 × Int32 × (Nat → Int32) × (Nat → Int32))
  | 0, _, _, _, _, _, _ => none
  | fu+1, x1, t_stumbled, t_lineMany, t_lineOrder, t_order, t_trial =>
    if x1 = 0 then
      some (t_stumbled, t_lineMany, t_lineOrder, t_order, t_trial)
    else
      (f_X8_begin t_stumbled t_page t_trial).bind fun (o17, o18) =>
      L_X8_findLines_70 (L_X8_findLines_58 t_depth t_noon t_later t_walkers t_page t_kind t_beat fu) t_depth t_noon t_later t_walkers o17 t_lineMany t_lineOrder t_order t_page t_kind t_beat fuelC 0 0 o18
def J_X8_findLines_57 (s0 : Int32) (t_depth : Int32) (t_noon : Int32) (t_later : Int32) (t_walkers : Int32) (t_stumbled : Int32) (t_lineMany : Int32) (t_lineOrder : Int32) (t_order : Nat → Int32) (t_page : Nat → Int32) (t_trial : Nat → Int32) (t_kind : Nat → Int32) (t_beat : Nat → Int32) : Option (Int32 × Int32 × Int32 × (Nat → Int32) × (Nat → Int32)) :=
  L_X8_findLines_58 t_depth t_noon t_later t_walkers t_page t_kind t_beat fuelC s0 t_stumbled t_lineMany t_lineOrder t_order t_trial
def L_X8_findLines_24 (t_depth : Int32) (t_noon : Int32) (t_later : Int32) (t_walkers : Int32) (t_stumbled : Int32) (t_lineMany : Int32) (t_lineOrder : Int32) (t_page : Nat → Int32) (t_trial : Nat → Int32) (t_kind : Nat → Int32) (t_beat : Nat → Int32) : Nat → Int32 → (Nat → Int32) → Option (Int32 × Int32 × Int32 × (Nat → Int32) × (Nat → Int32))
  | 0, _, _ => none
  | fu+1, x1, t_order =>
    if t_walkers ≤ x1 then
      if t_walkers ≤ 0 then
        J_X8_findLines_57 0 t_depth t_noon t_later t_walkers t_stumbled t_lineMany t_lineOrder t_order t_page t_trial t_kind t_beat
      else
        J_X8_findLines_57 1 t_depth t_noon t_later t_walkers t_stumbled t_lineMany t_lineOrder t_order t_page t_trial t_kind t_beat
    else
      (wrI t_order 5 x1 x1).bind fun w21 =>
      L_X8_findLines_24 t_depth t_noon t_later t_walkers t_stumbled t_lineMany t_lineOrder t_page t_trial t_kind t_beat fu (x1 + 1) w21
def J_X8_findLines_14 (s0 : Int32) (t_depth : Int32) (t_noon : Int32) (t_later : Int32) (t_walkers : Int32) (t_stumbled : Int32) (t_order : Nat → Int32) (t_page : Nat → Int32) (t_trial : Nat → Int32) (t_kind : Nat → Int32) (t_beat : Nat → Int32) : Option (Int32 × Int32 × Int32 × (Nat → Int32) × (Nat → Int32)) :=
  L_X8_findLines_24 t_depth t_noon t_later t_walkers t_stumbled s0 0 t_page t_trial t_kind t_beat fuelC 0 t_order
def f_X8_findLines (t_depth : Int32) (t_noon : Int32) (t_later : Int32) (t_walkers : Int32) (t_stumbled : Int32) (t_lineMany : Int32) (t_lineOrder : Int32) (t_order : Nat → Int32) (t_page : Nat → Int32) (t_trial : Nat → Int32) (t_kind : Nat → Int32) (t_beat : Nat → Int32) : Option (Int32 × Int32 × Int32 × (Nat → Int32) × (Nat → Int32)) :=
  if t_walkers = 0 then
    J_X8_findLines_14 0 t_depth t_noon t_later t_walkers t_stumbled t_order t_page t_trial t_kind t_beat
  else
    J_X8_findLines_14 (-9) t_depth t_noon t_later t_walkers t_stumbled t_order t_page t_trial t_kind t_beat
def f_X8_lines (x1 : Int32) (t_thrown : Int32) (t_depth : Int32) (t_noon : Int32) (t_later : Int32) (t_walkers : Int32) (t_stumbled : Int32) (t_lineMany : Int32) (t_lineOrder : Int32) (t_order : Nat → Int32) (t_page : Nat → Int32) (t_trial : Nat → Int32) (t_kind : Nat → Int32) (t_beat : Nat → Int32) : Option (Int32 × Int32 × Int32 × Int32 × Int32 × (Nat → Int32) × (Nat → Int32)) :=
  (f_X8_findLines t_depth t_noon t_later t_walkers t_stumbled t_lineMany t_lineOrder t_order t_page t_trial t_kind t_beat).bind fun (o1, o2, o3, o4, o5) =>
  if x1 = 0 then
    some (o2, 0, o1, o2, o3, o4, o5)
  else
    some (o3, 0, o1, o2, o3, o4, o5)
def J_X8_drillsBy_155 (t_stumbled : Int32) (t_trial : Nat → Int32) : Option (Int32 × Int32 × (Nat → Int32)) :=
  some ((-9), t_stumbled, t_trial)
def J_X8_drillsBy_130 (x2 : Int32) (x3 : Int32) (t_stumbled : Int32) (t_page : Nat → Int32) (t_trial : Nat → Int32) : Option (Int32 × Int32 × (Nat → Int32)) :=
  if x3 = 0 then
    J_X8_drillsBy_155 t_stumbled t_trial
  else
    (rdI t_trial 17 15).bind fun v1 =>
    (rdI t_page 17 15).bind fun v2 =>
    if v1 = v2 then
      some (x2, t_stumbled, t_trial)
    else
      J_X8_drillsBy_155 t_stumbled t_trial
def J_X8_drillsBy_113 (k11 : Int32 → Int32 → Int32 → (Nat → Int32) → Option (Int32 × Int32 × (Nat → Int32))) (x2 : Int32) (x4 : Int32) (s0 : Int32) (t_trial : Nat → Int32) : Option (Int32 × Int32 × (Nat → Int32)) :=
  k11 x2 s0 (x4 + 1) t_trial
def J_X8_drillsBy_112 (k11 : Int32 → Int32 → Int32 → (Nat → Int32) → Option (Int32 × Int32 × (Nat → Int32))) (x2 : Int32) (x4 : Int32) (t_trial : Nat → Int32) : Option (Int32 × Int32 × (Nat → Int32)) :=
  J_X8_drillsBy_113 k11 x2 x4 0 t_trial
def J_X8_drillsBy_108 (k11 : Int32 → Int32 → Int32 → (Nat → Int32) → Option (Int32 × Int32 × (Nat → Int32))) (x2 : Int32) (x4 : Int32) (t_trial : Nat → Int32) : Option (Int32 × Int32 × (Nat → Int32)) :=
  J_X8_drillsBy_113 k11 x2 x4 1 t_trial
def J_X8_drillsBy_48 (k11 : Int32 → Int32 → Int32 → (Nat → Int32) → Option (Int32 × Int32 × (Nat → Int32))) (x3 : Int32) (x4 : Int32) (x5 : Int32) (s0 : Int32) (s1 : Int32) (t_page : Nat → Int32) (t_trial : Nat → Int32) : Option (Int32 × Int32 × (Nat → Int32)) :=
  (rdI t_trial 17 (5 + x4)).bind fun v3 =>
  (wrI t_trial 17 (5 + x4) (v3 + x5)).bind fun w4 =>
  if x3 = 0 then
    J_X8_drillsBy_112 k11 (s1 + s0) x4 w4
  else
    (rdI w4 17 (5 + x4)).bind fun v5 =>
    (f_X8_in ((v5).toInt64) (1 : Int64) (9 : Int64)).bind fun r6 =>
    if r6 = 0 then
      J_X8_drillsBy_112 k11 (s1 + s0) x4 w4
    else
      if x5 = 0 then
        J_X8_drillsBy_108 k11 (s1 + s0) x4 w4
      else
        (rdI t_page 17 15).bind fun v9 =>
        (f_X8_has v9 x4).bind fun r10 =>
        if r10 = 0 then
          J_X8_drillsBy_108 k11 (s1 + s0) x4 w4
        else
          J_X8_drillsBy_112 k11 (s1 + s0) x4 w4
def L_X8_drillsBy_11 (x1 : Int32) (t_depth : Int32) (t_noon : Int32) (t_later : Int32) (t_walkers : Int32) (t_stumbled : Int32) (t_page : Nat → Int32) (t_kind : Nat → Int32) (t_beat : Nat → Int32) : Nat → Int32 → Int32 → Int32 → (Nat → Int32) → Option (Int32 × Int32 × (Nat → Int32))
  | 0, _, _, _, _ => none
  | fu+1, x2, x3, x4, t_trial =>
    if t_walkers ≤ x4 then
      if x3 = 0 then
        J_X8_drillsBy_130 x2 x3 t_stumbled t_page t_trial
      else
        (f_X8_goSteps 6 t_depth t_noon t_later t_walkers t_stumbled t_trial t_kind t_beat).bind fun o13 =>
        J_X8_drillsBy_130 x2 x3 t_stumbled t_page o13
    else
      (f_X8_power 5 x4).bind fun r16 =>
      if r16 = 0 then none else
      if 0 ≤ (((x1 / r16) - (x1 / r16) / 5 * 5) - 2) then
        J_X8_drillsBy_48 (L_X8_drillsBy_11 x1 t_depth t_noon t_later t_walkers t_stumbled t_page t_kind t_beat fu) x3 x4 (((x1 / r16) - (x1 / r16) / 5 * 5) - 2) (((x1 / r16) - (x1 / r16) / 5 * 5) - 2) x2 t_page t_trial
      else
        J_X8_drillsBy_48 (L_X8_drillsBy_11 x1 t_depth t_noon t_later t_walkers t_stumbled t_page t_kind t_beat fu) x3 x4 (((x1 / r16) - (x1 / r16) / 5 * 5) - 2) (-(((x1 / r16) - (x1 / r16) / 5 * 5) - 2)) x2 t_page t_trial
def f_X8_drillsBy (x1 : Int32) (t_depth : Int32) (t_noon : Int32) (t_later : Int32) (t_walkers : Int32) (t_stumbled : Int32) (t_page : Nat → Int32) (t_trial : Nat → Int32) (t_kind : Nat → Int32) (t_beat : Nat → Int32) : Option (Int32 × Int32 × (Nat → Int32)) :=
  (f_X8_begin t_stumbled t_page t_trial).bind fun (o19, o20) =>
  L_X8_drillsBy_11 x1 t_depth t_noon t_later t_walkers o19 t_page t_kind t_beat fuelC 0 1 0 o20
def J_X8_drills_50 (k10 : Int32 → Int32 → Int32 → (Nat → Int32) → Option (Int32 × Int32 × Int32 × (Nat → Int32))) (x2 : Int32) (s0 : Int32) (t_stumbled : Int32) (t_trial : Nat → Int32) : Option (Int32 × Int32 × Int32 × (Nat → Int32)) :=
  k10 s0 (x2 + 1) t_stumbled t_trial
def J_X8_drills_49 (k10 : Int32 → Int32 → Int32 → (Nat → Int32) → Option (Int32 × Int32 × Int32 × (Nat → Int32))) (x1 : Int32) (x2 : Int32) (t_stumbled : Int32) (t_trial : Nat → Int32) : Option (Int32 × Int32 × Int32 × (Nat → Int32)) :=
  J_X8_drills_50 k10 x2 x1 t_stumbled t_trial
def J_X8_drills_45 (k10 : Int32 → Int32 → Int32 → (Nat → Int32) → Option (Int32 × Int32 × Int32 × (Nat → Int32))) (x2 : Int32) (x3 : Int32) (t_stumbled : Int32) (t_trial : Nat → Int32) : Option (Int32 × Int32 × Int32 × (Nat → Int32)) :=
  J_X8_drills_50 k10 x2 x3 t_stumbled t_trial
def L_X8_drills_10 (t_thrown : Int32) (t_depth : Int32) (t_noon : Int32) (t_later : Int32) (t_walkers : Int32) (t_page : Nat → Int32) (t_kind : Nat → Int32) (t_beat : Nat → Int32) : Nat → Int32 → Int32 → Int32 → (Nat → Int32) → Option (Int32 × Int32 × Int32 × (Nat → Int32))
  | 0, _, _, _, _ => none
  | fu+1, x1, x2, t_stumbled, t_trial =>
    (f_X8_power 5 t_walkers).bind fun r1 =>
    if r1 ≤ x2 then
      some (x1, t_thrown, t_stumbled, t_trial)
    else
      (f_X8_drillsBy x2 t_depth t_noon t_later t_walkers t_stumbled t_page t_trial t_kind t_beat).bind fun (r4, o5, o6) =>
      if r4 = (-9) then
        J_X8_drills_49 (L_X8_drills_10 t_thrown t_depth t_noon t_later t_walkers t_page t_kind t_beat fu) x1 x2 o5 o6
      else
        if x1 = (-9) then
          J_X8_drills_45 (L_X8_drills_10 t_thrown t_depth t_noon t_later t_walkers t_page t_kind t_beat fu) x2 r4 o5 o6
        else
          if x1 ≤ r4 then
            J_X8_drills_49 (L_X8_drills_10 t_thrown t_depth t_noon t_later t_walkers t_page t_kind t_beat fu) x1 x2 o5 o6
          else
            J_X8_drills_45 (L_X8_drills_10 t_thrown t_depth t_noon t_later t_walkers t_page t_kind t_beat fu) x2 r4 o5 o6
def f_X8_drills (t_thrown : Int32) (t_depth : Int32) (t_noon : Int32) (t_later : Int32) (t_walkers : Int32) (t_stumbled : Int32) (t_page : Nat → Int32) (t_trial : Nat → Int32) (t_kind : Nat → Int32) (t_beat : Nat → Int32) : Option (Int32 × Int32 × Int32 × (Nat → Int32)) :=
  L_X8_drills_10 0 t_depth t_noon t_later t_walkers t_page t_kind t_beat fuelC (-9) 0 t_stumbled t_trial
def L_X8_fallsIn_33 (x1 : Int32) (x2 : Int32) (t_thrown : Int32) (t_page : Nat → Int32) (t_kind : Nat → Int32) (t_beat : Nat → Int32) : Nat → Int32 → Option (Int32 × Int32)
  | 0, _ => none
  | fu+1, x3 =>
    if 24 < x3 then
      some ((-9), t_thrown)
    else
      (rdI t_page 17 16).bind fun v1 =>
      (f_X8_alone x1 (v1 + x3) 17 t_kind t_page t_beat).bind fun r2 =>
      (rdI t_page 17 16).bind fun v5 =>
      (f_X8_alone x2 (v5 + x3) 17 t_kind t_page t_beat).bind fun r6 =>
      if r2 = r6 then
        some (x3, t_thrown)
      else
        L_X8_fallsIn_33 x1 x2 t_thrown t_page t_kind t_beat fu (x3 + 1)
def f_X8_fallsIn (x1 : Int32) (x2 : Int32) (t_thrown : Int32) (t_walkers : Int32) (t_page : Nat → Int32) (t_kind : Nat → Int32) (t_beat : Nat → Int32) : Option (Int32 × Int32) :=
  (f_X8_noWalker x1 t_walkers).bind fun r9 =>
  if r9 = 0 then
    (f_X8_noWalker x2 t_walkers).bind fun r12 =>
    if r12 = 0 then
      if x1 = x2 then
        some ((-2), 0)
      else
        L_X8_fallsIn_33 x1 x2 0 t_page t_kind t_beat fuelC 0
    else
      some ((-1), 0)
  else
    some ((-1), 0)
def J_X8_likes_40 (k10 : Int32 → Int32 → Option (Int32 × Int32)) (x2 : Int32) (s0 : Int32) : Option (Int32 × Int32) :=
  k10 s0 (x2 + 1)
def L_X8_likes_10 (t_thrown : Int32) (t_depth : Int32) (t_noon : Int32) (t_later : Int32) (t_page : Nat → Int32) : Nat → Int32 → Int32 → Option (Int32 × Int32)
  | 0, _, _ => none
  | fu+1, x1, x2 =>
    if 6 ≤ x2 then
      some (x1, t_thrown)
    else
      (rdI t_page 17 16).bind fun v1 =>
      (f_X8_snowAt (v1 + x2) t_depth t_noon t_later).bind fun r2 =>
      if x1 ≤ r2 then
        J_X8_likes_40 (L_X8_likes_10 t_thrown t_depth t_noon t_later t_page fu) x2 x1
      else
        J_X8_likes_40 (L_X8_likes_10 t_thrown t_depth t_noon t_later t_page fu) x2 r2
def f_X8_likes (t_thrown : Int32) (t_depth : Int32) (t_noon : Int32) (t_later : Int32) (t_page : Nat → Int32) : Option (Int32 × Int32) :=
  L_X8_likes_10 0 t_depth t_noon t_later t_page fuelC 9 0
def L_X8_longPower_5 (x0 : Int64) (x2 : Int32) : Nat → Int64 → Int32 → Option (Int64)
  | 0, _, _ => none
  | fu+1, x3, x5 =>
    if x2 ≤ x5 then
      some x3
    else
      L_X8_longPower_5 x0 x2 fu (x3 * x0) (x5 + 1)
def f_X8_longPower (x0 : Int64) (x2 : Int32) : Option (Int64) :=
  L_X8_longPower_5 x0 x2 fuelC (1 : Int64) 0
def J_X8_does_205 (t_trial : Nat → Int32) : Option (Int32 × (Nat → Int32)) :=
  some (0, t_trial)
def J_X8_does_168 (x2 : Int32) (x3 : Int32) (x4 : Int32) (t_walkers : Int32) (t_trial : Nat → Int32) : Option (Int32 × (Nat → Int32)) :=
  if x2 = 4 then
    if x3 = 0 then
      (f_X8_noWalker x4 t_walkers).bind fun r1 =>
      if r1 = 0 then
        (rdI t_trial 17 15).bind fun v4 =>
        (f_X8_has v4 x4).bind fun r5 =>
        if r5 = 0 then
          some (1, t_trial)
        else
          J_X8_does_205 t_trial
      else
        J_X8_does_205 t_trial
    else
      J_X8_does_205 t_trial
  else
    J_X8_does_205 t_trial
def J_X8_does_123 (x2 : Int32) (x3 : Int32) (x4 : Int32) (t_walkers : Int32) (t_trial : Nat → Int32) : Option (Int32 × (Nat → Int32)) :=
  if x2 = 3 then
    if x3 = 0 then
      (f_X8_noWalker x4 t_walkers).bind fun r8 =>
      if r8 = 0 then
        (rdI t_trial 17 15).bind fun v11 =>
        (f_X8_has v11 x4).bind fun r12 =>
        if r12 = 0 then
          J_X8_does_168 x2 x3 x4 t_walkers t_trial
        else
          (f_X8_goRescue x4 17 t_trial t_walkers).bind fun o15 =>
          some (1, o15)
      else
        J_X8_does_168 x2 x3 x4 t_walkers t_trial
    else
      J_X8_does_168 x2 x3 x4 t_walkers t_trial
  else
    J_X8_does_168 x2 x3 x4 t_walkers t_trial
def J_X8_does_71 (x2 : Int32) (x3 : Int32) (x4 : Int32) (t_walkers : Int32) (t_trial : Nat → Int32) : Option (Int32 × (Nat → Int32)) :=
  if x2 = 2 then
    (f_X8_noWalker x3 t_walkers).bind fun r18 =>
    if r18 = 0 then
      if 2 ≤ x4 then
        J_X8_does_123 x2 x3 x4 t_walkers t_trial
      else
        (f_X8_canDrill x3 ((2 * x4) - 1) 17 t_trial).bind fun r21 =>
        if r21 = 0 then
          J_X8_does_123 x2 x3 x4 t_walkers t_trial
        else
          (f_X8_goDrill x3 ((2 * x4) - 1) 17 t_trial).bind fun o24 =>
          some (1, o24)
    else
      J_X8_does_123 x2 x3 x4 t_walkers t_trial
  else
    J_X8_does_123 x2 x3 x4 t_walkers t_trial
def f_X8_does (x1 : Int32) (t_depth : Int32) (t_noon : Int32) (t_later : Int32) (t_walkers : Int32) (t_stumbled : Int32) (t_trial : Nat → Int32) (t_kind : Nat → Int32) (t_beat : Nat → Int32) : Option (Int32 × (Nat → Int32)) :=
  if x1 = 0 then
    (f_X8_goStep 17 t_depth t_noon t_later t_walkers t_stumbled t_trial t_kind t_beat).bind fun (r33, o34) =>
    some (1, o34)
  else
    if (x1 / 100) = 1 then
      if ((x1 / 10) - (x1 / 10) / 10 * 10) = 0 then
        (f_X8_in (((x1 - x1 / 10 * 10)).toInt64) (0 : Int64) (((t_walkers - 2)).toInt64)).bind fun r27 =>
        if r27 = 0 then
          J_X8_does_71 (x1 / 100) ((x1 / 10) - (x1 / 10) / 10 * 10) (x1 - x1 / 10 * 10) t_walkers t_trial
        else
          (f_X8_goChange (x1 - x1 / 10 * 10) 17 t_trial).bind fun o30 =>
          some (1, o30)
      else
        J_X8_does_71 (x1 / 100) ((x1 / 10) - (x1 / 10) / 10 * 10) (x1 - x1 / 10 * 10) t_walkers t_trial
    else
      J_X8_does_71 (x1 / 100) ((x1 / 10) - (x1 / 10) / 10 * 10) (x1 - x1 / 10 * 10) t_walkers t_trial
def L_X8_judge_44 (x1 : Int32) (x2 : Int64) (t_thrown : Int32) (t_depth : Int32) (t_noon : Int32) (t_later : Int32) (t_walkers : Int32) (t_stumbled : Int32) (t_kind : Nat → Int32) (t_beat : Nat → Int32) : Nat → Int32 → (Nat → Int32) → Option (Int32 × Int32 × Int32 × (Nat → Int32))
  | 0, _, _ => none
  | fu+1, x4, t_trial =>
    if x1 ≤ x4 then
      some ((-9), t_thrown, t_stumbled, t_trial)
    else
      (f_X8_longPower (1000 : Int64) ((x1 - 1) - x4)).bind fun r1 =>
      if r1 = 0 then none else
      (f_X8_does ((((x2 / r1) - (x2 / r1) / (1000 : Int64) * (1000 : Int64))).toInt32) t_depth t_noon t_later t_walkers t_stumbled t_trial t_kind t_beat).bind fun (r4, o5) =>
      if r4 = 0 then
        some (x4, t_thrown, t_stumbled, o5)
      else
        L_X8_judge_44 x1 x2 t_thrown t_depth t_noon t_later t_walkers t_stumbled t_kind t_beat fu (x4 + 1) o5
def f_X8_judge (x1 : Int32) (x2 : Int64) (t_thrown : Int32) (t_depth : Int32) (t_noon : Int32) (t_later : Int32) (t_walkers : Int32) (t_stumbled : Int32) (t_page : Nat → Int32) (t_trial : Nat → Int32) (t_kind : Nat → Int32) (t_beat : Nat → Int32) : Option (Int32 × Int32 × Int32 × (Nat → Int32)) :=
  (f_X8_in ((x1).toInt64) (1 : Int64) (4 : Int64)).bind fun r8 =>
  if r8 = 0 then
    some ((-2), 0, t_stumbled, t_trial)
  else
    (f_X8_longPower (1000 : Int64) x1).bind fun r11 =>
    (f_X8_in x2 (0 : Int64) (r11 - (1 : Int64))).bind fun r14 =>
    if r14 = 0 then
      some ((-2), 0, t_stumbled, t_trial)
    else
      (f_X8_begin t_stumbled t_page t_trial).bind fun (o17, o18) =>
      L_X8_judge_44 x1 x2 0 t_depth t_noon t_later t_walkers o17 t_kind t_beat fuelC 0 o18
def L_X8_ways_4 (x0 : Int32) : Nat → Int32 → Int32 → Option (Int32)
  | 0, _, _ => none
  | fu+1, x1, x2 =>
    if x0 < x2 then
      some x1
    else
      L_X8_ways_4 x0 fu (x1 * x2) (x2 + 1)
def f_X8_ways (x0 : Int32) : Option (Int32) :=
  L_X8_ways_4 x0 fuelC 1 2
def L_X8_divisor_13 : Nat → Int32 → Int32 → Option (Int32)
  | 0, _, _ => none
  | fu+1, x2, x3 =>
    if x3 = 0 then
      some x2
    else
      if x3 = 0 then none else
      L_X8_divisor_13 fu x3 (x2 - x2 / x3 * x3)
def J_X8_divisor_10 (x1 : Int32) (s0 : Int32) : Option (Int32) :=
  L_X8_divisor_13 fuelC s0 x1
def f_X8_divisor (x0 : Int32) (x1 : Int32) : Option (Int32) :=
  if 0 ≤ x0 then
    J_X8_divisor_10 x1 x0
  else
    J_X8_divisor_10 x1 (-x0)
def f_X8_fraction (x0 : Int32) (x1 : Int32) (x2 : Int32) : Option (Int32) :=
  (f_X8_divisor x0 x1).bind fun r1 =>
  if x2 = 0 then
    if r1 = 0 then none else
    some (x1 / r1)
  else
    if r1 = 0 then none else
    some (x0 / r1)
def J_X8_share_155 (k87 : Int32 → Int32 → Option (Int32 × Int32 × Int32 × (Nat → Int32) × (Nat → Int32))) (x3 : Int32) (x4 : Int32) : Option (Int32 × Int32 × Int32 × (Nat → Int32) × (Nat → Int32)) :=
  k87 x3 (x4 + 1)
def L_X8_share_87 (x1 : Int32) (x2 : Int32) (t_thrown : Int32) (t_walkers : Int32) (t_stumbled : Int32) (t_trial : Nat → Int32) (t_value : Nat → Int32) : Nat → Int32 → Int32 → Option (Int32 × Int32 × Int32 × (Nat → Int32) × (Nat → Int32))
  | 0, _, _ => none
  | fu+1, x3, x4 =>
    if ((1 : Int32) <<< (t_walkers &&& 31)) ≤ x4 then
      (f_X8_ways t_walkers).bind fun r1 =>
      (f_X8_fraction x3 r1 x2).bind fun r4 =>
      some (r4, t_thrown, t_stumbled, t_trial, t_value)
    else
      (f_X8_has x4 x1).bind fun r7 =>
      if r7 = 0 then
        (f_X8_many x4).bind fun r10 =>
        (f_X8_ways r10).bind fun r13 =>
        (f_X8_ways ((t_walkers - 1) - r10)).bind fun r16 =>
        (rdI t_value 32 (x4 ||| ((1 : Int32) <<< (x1 &&& 31)))).bind fun v19 =>
        (rdI t_value 32 x4).bind fun v20 =>
        J_X8_share_155 (L_X8_share_87 x1 x2 t_thrown t_walkers t_stumbled t_trial t_value fu) (x3 + ((r13 * r16) * (v19 - v20))) x4
      else
        J_X8_share_155 (L_X8_share_87 x1 x2 t_thrown t_walkers t_stumbled t_trial t_value fu) x3 x4
def L_X8_share_17 (x1 : Int32) (x2 : Int32) (t_thrown : Int32) (t_depth : Int32) (t_noon : Int32) (t_later : Int32) (t_walkers : Int32) (t_page : Nat → Int32) (t_kind : Nat → Int32) (t_beat : Nat → Int32) : Nat → Int32 → Int32 → (Nat → Int32) → (Nat → Int32) → Option (Int32 × Int32 × Int32 × (Nat → Int32) × (Nat → Int32))
  | 0, _, _, _, _ => none
  | fu+1, x3, t_stumbled, t_trial, t_value =>
    if ((1 : Int32) <<< (t_walkers &&& 31)) ≤ x3 then
      L_X8_share_87 x1 x2 t_thrown t_walkers t_stumbled t_trial t_value fuelC 0 0
    else
      (f_X8_begin t_stumbled t_page t_trial).bind fun (o21, o22) =>
      (rdI o22 17 15).bind fun v25 =>
      (wrI o22 17 15 (v25 ||| ((((1 : Int32) <<< (t_walkers &&& 31)) - 1) &&& (x3 ^^^ (-1))))).bind fun w26 =>
      (f_X8_goSteps 6 t_depth t_noon t_later t_walkers o21 w26 t_kind t_beat).bind fun o27 =>
      (f_X8_up 17 t_walkers o27).bind fun r30 =>
      (f_X8_many r30).bind fun r33 =>
      (wrI t_value 32 x3 r33).bind fun w36 =>
      L_X8_share_17 x1 x2 t_thrown t_depth t_noon t_later t_walkers t_page t_kind t_beat fu (x3 + 1) o21 o27 w36
def f_X8_share (x1 : Int32) (x2 : Int32) (t_thrown : Int32) (t_depth : Int32) (t_noon : Int32) (t_later : Int32) (t_walkers : Int32) (t_stumbled : Int32) (t_page : Nat → Int32) (t_trial : Nat → Int32) (t_kind : Nat → Int32) (t_beat : Nat → Int32) (t_value : Nat → Int32) : Option (Int32 × Int32 × Int32 × (Nat → Int32) × (Nat → Int32)) :=
  (f_X8_noWalker x1 t_walkers).bind fun r37 =>
  if r37 = 0 then
    L_X8_share_17 x1 x2 0 t_depth t_noon t_later t_walkers t_page t_kind t_beat fuelC 0 t_stumbled t_trial t_value
  else
    some ((-1), 0, t_stumbled, t_trial, t_value)
def f_X8_mark (x1 : Int32) (x2 : Int32) (t_thrown : Int32) (t_marks : Int32) (t_markStep : Nat → Int32) (t_markTread : Nat → Int32) : Option (Int32 × Int32 × Int32 × (Nat → Int32) × (Nat → Int32)) :=
  (f_X8_in ((x1).toInt64) (0 : Int64) (20 : Int64)).bind fun r1 =>
  if r1 = 0 then
    some ((-2), 0, t_marks, t_markStep, t_markTread)
  else
    (f_X8_in ((x2).toInt64) (0 : Int64) (12 : Int64)).bind fun r4 =>
    if r4 = 0 then
      some ((-2), 0, t_marks, t_markStep, t_markTread)
    else
      if t_marks = 6 then
        some ((-4), 0, t_marks, t_markStep, t_markTread)
      else
        (wrI t_markStep 6 t_marks x1).bind fun w7 =>
        (wrI t_markTread 6 t_marks x2).bind fun w8 =>
        some ((t_marks + 1), 0, (t_marks + 1), w7, w8)
def f_X8_snowed (t_thrown : Int32) (t_marks : Int32) : Option (Int32 × Int32 × Int32) :=
  some (t_marks, 0, 0)
def J_X8_findWhose_159 (k13 : Int32 → Int32 → Int32 → Option (Int32 × Int32)) (x1 : Int32) (t_whoseMany : Int32) (t_whoseFirst : Int32) : Option (Int32 × Int32) :=
  k13 (x1 + 1) t_whoseMany t_whoseFirst
def J_X8_findWhose_143 (k13 : Int32 → Int32 → Int32 → Option (Int32 × Int32)) (k20 : Int32 → Int32 → Int32 → Option (Int32 × Int32)) (k33 : Int32 → Int32 → Int32 → Option (Int32 × Int32)) (x3 : Int32) (s0 : Int32) (s1 : Int32) (t_whoseFirst : Int32) : Option (Int32 × Int32) :=
  k33 (x3 + 1) (s1 + s0) t_whoseFirst
def J_X8_findWhose_125 (k13 : Int32 → Int32 → Int32 → Option (Int32 × Int32)) (k20 : Int32 → Int32 → Int32 → Option (Int32 × Int32)) (k33 : Int32 → Int32 → Int32 → Option (Int32 × Int32)) (x3 : Int32) (x4 : Int32) (s0 : Int32) (t_whoseMany : Int32) : Option (Int32 × Int32) :=
  if x4 = 0 then
    J_X8_findWhose_143 k13 k20 k33 x3 0 t_whoseMany s0
  else
    J_X8_findWhose_143 k13 k20 k33 x3 1 t_whoseMany s0
def J_X8_findWhose_121 (k13 : Int32 → Int32 → Int32 → Option (Int32 × Int32)) (k20 : Int32 → Int32 → Int32 → Option (Int32 × Int32)) (k33 : Int32 → Int32 → Int32 → Option (Int32 × Int32)) (x3 : Int32) (x4 : Int32) (t_whoseMany : Int32) (t_whoseFirst : Int32) : Option (Int32 × Int32) :=
  J_X8_findWhose_125 k13 k20 k33 x3 x4 t_whoseFirst t_whoseMany
def J_X8_findWhose_86 (k13 : Int32 → Int32 → Int32 → Option (Int32 × Int32)) (k20 : Int32 → Int32 → Int32 → Option (Int32 × Int32)) (k33 : Int32 → Int32 → Int32 → Option (Int32 × Int32)) (k44 : Int32 → Int32 → Option (Int32 × Int32)) (x5 : Int32) (s0 : Int32) : Option (Int32 × Int32) :=
  k44 s0 (x5 + 1)
def J_X8_findWhose_85 (k13 : Int32 → Int32 → Int32 → Option (Int32 × Int32)) (k20 : Int32 → Int32 → Int32 → Option (Int32 × Int32)) (k33 : Int32 → Int32 → Int32 → Option (Int32 × Int32)) (k44 : Int32 → Int32 → Option (Int32 × Int32)) (x5 : Int32) : Option (Int32 × Int32) :=
  J_X8_findWhose_86 k13 k20 k33 k44 x5 0
def L_X8_findWhose_44 (k13 : Int32 → Int32 → Int32 → Option (Int32 × Int32)) (k20 : Int32 → Int32 → Int32 → Option (Int32 × Int32)) (k33 : Int32 → Int32 → Int32 → Option (Int32 × Int32)) (x1 : Int32) (x2 : Int32) (x3 : Int32) (t_marks : Int32) (t_whoseMany : Int32) (t_whoseFirst : Int32) (t_markStep : Nat → Int32) (t_markTread : Nat → Int32) : Nat → Int32 → Int32 → Option (Int32 × Int32)
  | 0, _, _ => none
  | fu+1, x4, x5 =>
    if t_marks ≤ x5 then
      if x4 = 0 then
        J_X8_findWhose_121 k13 k20 k33 x3 x4 t_whoseMany t_whoseFirst
      else
        if t_whoseMany = 0 then
          J_X8_findWhose_125 k13 k20 k33 x3 x4 (((100 * x1) + (10 * x2)) + x3) t_whoseMany
        else
          J_X8_findWhose_121 k13 k20 k33 x3 x4 t_whoseMany t_whoseFirst
    else
      if x4 = 0 then
        J_X8_findWhose_85 k13 k20 k33 (L_X8_findWhose_44 k13 k20 k33 x1 x2 x3 t_marks t_whoseMany t_whoseFirst t_markStep t_markTread fu) x5
      else
        (rdI t_markStep 6 x5).bind fun v1 =>
        (f_X8_treadBy x1 x2 x3 v1).bind fun r2 =>
        (rdI t_markTread 6 x5).bind fun v5 =>
        if r2 = v5 then
          J_X8_findWhose_86 k13 k20 k33 (L_X8_findWhose_44 k13 k20 k33 x1 x2 x3 t_marks t_whoseMany t_whoseFirst t_markStep t_markTread fu) x5 1
        else
          J_X8_findWhose_85 k13 k20 k33 (L_X8_findWhose_44 k13 k20 k33 x1 x2 x3 t_marks t_whoseMany t_whoseFirst t_markStep t_markTread fu) x5
def L_X8_findWhose_33 (k13 : Int32 → Int32 → Int32 → Option (Int32 × Int32)) (k20 : Int32 → Int32 → Int32 → Option (Int32 × Int32)) (x1 : Int32) (x2 : Int32) (t_marks : Int32) (t_markStep : Nat → Int32) (t_markTread : Nat → Int32) : Nat → Int32 → Int32 → Int32 → Option (Int32 × Int32)
  | 0, _, _, _ => none
  | fu+1, x3, t_whoseMany, t_whoseFirst =>
    if 4 < x3 then
      k20 (x2 + 1) t_whoseMany t_whoseFirst
    else
      L_X8_findWhose_44 k13 k20 (L_X8_findWhose_33 k13 k20 x1 x2 t_marks t_markStep t_markTread fu) x1 x2 x3 t_marks t_whoseMany t_whoseFirst t_markStep t_markTread fuelC 1 0
def L_X8_findWhose_20 (k13 : Int32 → Int32 → Int32 → Option (Int32 × Int32)) (x1 : Int32) (t_marks : Int32) (t_markStep : Nat → Int32) (t_markTread : Nat → Int32) : Nat → Int32 → Int32 → Int32 → Option (Int32 × Int32)
  | 0, _, _, _ => none
  | fu+1, x2, t_whoseMany, t_whoseFirst =>
    if 9 < x2 then
      J_X8_findWhose_159 k13 x1 t_whoseMany t_whoseFirst
    else
      if x1 = 2 then
        J_X8_findWhose_159 k13 x1 t_whoseMany t_whoseFirst
      else
        L_X8_findWhose_33 k13 (L_X8_findWhose_20 k13 x1 t_marks t_markStep t_markTread fu) x1 x2 t_marks t_markStep t_markTread fuelC 1 t_whoseMany t_whoseFirst
def L_X8_findWhose_13 (t_marks : Int32) (t_markStep : Nat → Int32) (t_markTread : Nat → Int32) : Nat → Int32 → Int32 → Int32 → Option (Int32 × Int32)
  | 0, _, _, _ => none
  | fu+1, x1, t_whoseMany, t_whoseFirst =>
    if 4 ≤ x1 then
      some (t_whoseMany, t_whoseFirst)
    else
      L_X8_findWhose_20 (L_X8_findWhose_13 t_marks t_markStep t_markTread fu) x1 t_marks t_markStep t_markTread fuelC 1 t_whoseMany t_whoseFirst
def f_X8_findWhose (t_marks : Int32) (t_whoseMany : Int32) (t_whoseFirst : Int32) (t_markStep : Nat → Int32) (t_markTread : Nat → Int32) : Option (Int32 × Int32) :=
  L_X8_findWhose_13 t_marks t_markStep t_markTread fuelC 0 0 (-9)
def f_X8_whose (x1 : Int32) (t_thrown : Int32) (t_marks : Int32) (t_whoseMany : Int32) (t_whoseFirst : Int32) (t_markStep : Nat → Int32) (t_markTread : Nat → Int32) : Option (Int32 × Int32 × Int32 × Int32) :=
  (f_X8_in ((x1).toInt64) (0 : Int64) (1 : Int64)).bind fun r1 =>
  if r1 = 0 then
    some ((-2), 0, t_whoseMany, t_whoseFirst)
  else
    (f_X8_findWhose t_marks t_whoseMany t_whoseFirst t_markStep t_markTread).bind fun (o4, o5) =>
    if x1 = 0 then
      some (o4, 0, o4, o5)
    else
      some (o5, 0, o4, o5)
def J_X8_layGains_179 (k103 : Int32 → (Nat → Int32) → (Nat → Int32) → Option (Int32 × (Nat → Int32) × (Nat → Int32))) (x4 : Int32) (s0 : Int32) (s1 : Int32) (s2 : Int32) (t_trial : Nat → Int32) (t_gains : Nat → Int32) : Option (Int32 × (Nat → Int32) × (Nat → Int32)) :=
  (wrI t_gains 8 s2 (s1 + s0)).bind fun w1 =>
  k103 (x4 + 1) t_trial w1
def J_X8_layGains_147 (k103 : Int32 → (Nat → Int32) → (Nat → Int32) → Option (Int32 × (Nat → Int32) × (Nat → Int32))) (x2 : Int32) (x3 : Int32) (x4 : Int32) (s0 : Int32) (s1 : Int32) (s2 : Int32) (t_trial : Nat → Int32) (t_gains : Nat → Int32) : Option (Int32 × (Nat → Int32) × (Nat → Int32)) :=
  (wrI t_gains 8 s2 (s1 + s0)).bind fun w2 =>
  (rdI w2 8 ((2 * x3) + 1)).bind fun v3 =>
  (rdI t_trial 17 15).bind fun v4 =>
  (f_X8_has v4 x2).bind fun r5 =>
  if r5 = 0 then
    J_X8_layGains_179 k103 x4 1 v3 ((2 * x3) + 1) t_trial w2
  else
    J_X8_layGains_179 k103 x4 0 v3 ((2 * x3) + 1) t_trial w2
def L_X8_layGains_103 (x1 : Int32) (x2 : Int32) (x3 : Int32) (t_depth : Int32) (t_noon : Int32) (t_later : Int32) (t_walkers : Int32) (t_stumbled : Int32) (t_kind : Nat → Int32) (t_beat : Nat → Int32) : Nat → Int32 → (Nat → Int32) → (Nat → Int32) → Option (Int32 × (Nat → Int32) × (Nat → Int32))
  | 0, _, _, _ => none
  | fu+1, x4, t_trial, t_gains =>
    if 8 ≤ x4 then
      some (t_stumbled, t_trial, t_gains)
    else
      (f_X8_goStep 17 t_depth t_noon t_later t_walkers t_stumbled t_trial t_kind t_beat).bind fun (r8, o9) =>
      (rdI t_gains 8 (2 * x3)).bind fun v12 =>
      (rdI o9 17 15).bind fun v13 =>
      (f_X8_has v13 x1).bind fun r14 =>
      if r14 = 0 then
        J_X8_layGains_147 (L_X8_layGains_103 x1 x2 x3 t_depth t_noon t_later t_walkers t_stumbled t_kind t_beat fu) x2 x3 x4 1 v12 (2 * x3) o9 t_gains
      else
        J_X8_layGains_147 (L_X8_layGains_103 x1 x2 x3 t_depth t_noon t_later t_walkers t_stumbled t_kind t_beat fu) x2 x3 x4 0 v12 (2 * x3) o9 t_gains
def J_X8_layGains_72 (x1 : Int32) (x2 : Int32) (x3 : Int32) (s0 : Int32) (s1 : Int32) (s2 : Int32) (t_depth : Int32) (t_noon : Int32) (t_later : Int32) (t_walkers : Int32) (t_stumbled : Int32) (t_trial : Nat → Int32) (t_gains : Nat → Int32) (t_kind : Nat → Int32) (t_beat : Nat → Int32) : Option (Int32 × (Nat → Int32) × (Nat → Int32)) :=
  (wrI t_trial 17 s2 (s1 + s0)).bind fun w17 =>
  (wrI t_gains 8 (2 * x3) (-(x3 / 2))).bind fun w18 =>
  (wrI w18 8 ((2 * x3) + 1) (-(x3 - x3 / 2 * 2))).bind fun w19 =>
  L_X8_layGains_103 x1 x2 x3 t_depth t_noon t_later t_walkers t_stumbled t_kind t_beat fuelC 0 w17 w19
def J_X8_layGains_71 (x1 : Int32) (x2 : Int32) (x3 : Int32) (s0 : Int32) (s1 : Int32) (t_depth : Int32) (t_noon : Int32) (t_later : Int32) (t_walkers : Int32) (t_stumbled : Int32) (t_trial : Nat → Int32) (t_gains : Nat → Int32) (t_kind : Nat → Int32) (t_beat : Nat → Int32) : Option (Int32 × (Nat → Int32) × (Nat → Int32)) :=
  J_X8_layGains_72 x1 x2 x3 0 s0 s1 t_depth t_noon t_later t_walkers t_stumbled t_trial t_gains t_kind t_beat
def J_X8_layGains_36 (x1 : Int32) (x2 : Int32) (x3 : Int32) (s0 : Int32) (s1 : Int32) (s2 : Int32) (t_depth : Int32) (t_noon : Int32) (t_later : Int32) (t_walkers : Int32) (t_stumbled : Int32) (t_trial : Nat → Int32) (t_gains : Nat → Int32) (t_kind : Nat → Int32) (t_beat : Nat → Int32) : Option (Int32 × (Nat → Int32) × (Nat → Int32)) :=
  (wrI t_trial 17 s2 (s1 + s0)).bind fun w20 =>
  (rdI w20 17 (5 + x2)).bind fun v21 =>
  if (x3 - x3 / 2 * 2) = 1 then
    (rdI w20 17 (5 + x2)).bind fun v22 =>
    if 9 ≤ v22 then
      J_X8_layGains_71 x1 x2 x3 v21 (5 + x2) t_depth t_noon t_later t_walkers t_stumbled w20 t_gains t_kind t_beat
    else
      J_X8_layGains_72 x1 x2 x3 1 v21 (5 + x2) t_depth t_noon t_later t_walkers t_stumbled w20 t_gains t_kind t_beat
  else
    J_X8_layGains_71 x1 x2 x3 v21 (5 + x2) t_depth t_noon t_later t_walkers t_stumbled w20 t_gains t_kind t_beat
def J_X8_layGains_35 (x1 : Int32) (x2 : Int32) (x3 : Int32) (s0 : Int32) (s1 : Int32) (t_depth : Int32) (t_noon : Int32) (t_later : Int32) (t_walkers : Int32) (t_stumbled : Int32) (t_trial : Nat → Int32) (t_gains : Nat → Int32) (t_kind : Nat → Int32) (t_beat : Nat → Int32) : Option (Int32 × (Nat → Int32) × (Nat → Int32)) :=
  J_X8_layGains_36 x1 x2 x3 0 s0 s1 t_depth t_noon t_later t_walkers t_stumbled t_trial t_gains t_kind t_beat
def f_X8_layGains (x1 : Int32) (x2 : Int32) (x3 : Int32) (t_depth : Int32) (t_noon : Int32) (t_later : Int32) (t_walkers : Int32) (t_stumbled : Int32) (t_page : Nat → Int32) (t_trial : Nat → Int32) (t_gains : Nat → Int32) (t_kind : Nat → Int32) (t_beat : Nat → Int32) : Option (Int32 × (Nat → Int32) × (Nat → Int32)) :=
  (f_X8_begin t_stumbled t_page t_trial).bind fun (o23, o24) =>
  (rdI o24 17 (5 + x1)).bind fun v27 =>
  if x3 ≤ 1 then
    J_X8_layGains_35 x1 x2 x3 v27 (5 + x1) t_depth t_noon t_later t_walkers o23 o24 t_gains t_kind t_beat
  else
    (rdI o24 17 (5 + x1)).bind fun v28 =>
    if 9 ≤ v28 then
      J_X8_layGains_35 x1 x2 x3 v27 (5 + x1) t_depth t_noon t_later t_walkers o23 o24 t_gains t_kind t_beat
    else
      J_X8_layGains_36 x1 x2 x3 1 v27 (5 + x1) t_depth t_noon t_later t_walkers o23 o24 t_gains t_kind t_beat
def J_X8_rests_222 (k109 : Int32 → Int32 → Int32 → Option (Int32 × Int32 × Int32 × Int32 × Int32 × (Nat → Int32) × (Nat → Int32))) (x4 : Int32) (s0 : Int32) (s1 : Int32) (t_restFirst : Int32) : Option (Int32 × Int32 × Int32 × Int32 × Int32 × (Nat → Int32) × (Nat → Int32)) :=
  k109 (x4 + 1) (s1 + s0) t_restFirst
def J_X8_rests_204 (k109 : Int32 → Int32 → Int32 → Option (Int32 × Int32 × Int32 × Int32 × Int32 × (Nat → Int32) × (Nat → Int32))) (x4 : Int32) (x5 : Int32) (s0 : Int32) (t_restMany : Int32) : Option (Int32 × Int32 × Int32 × Int32 × Int32 × (Nat → Int32) × (Nat → Int32)) :=
  if x5 = 0 then
    J_X8_rests_222 k109 x4 0 t_restMany s0
  else
    J_X8_rests_222 k109 x4 1 t_restMany s0
def J_X8_rests_200 (k109 : Int32 → Int32 → Int32 → Option (Int32 × Int32 × Int32 × Int32 × Int32 × (Nat → Int32) × (Nat → Int32))) (x4 : Int32) (x5 : Int32) (t_restMany : Int32) (t_restFirst : Int32) : Option (Int32 × Int32 × Int32 × Int32 × Int32 × (Nat → Int32) × (Nat → Int32)) :=
  J_X8_rests_204 k109 x4 x5 t_restFirst t_restMany
def J_X8_rests_170 (k109 : Int32 → Int32 → Int32 → Option (Int32 × Int32 × Int32 × Int32 × Int32 × (Nat → Int32) × (Nat → Int32))) (x4 : Int32) (s0 : Int32) (t_restMany : Int32) (t_restFirst : Int32) : Option (Int32 × Int32 × Int32 × Int32 × Int32 × (Nat → Int32) × (Nat → Int32)) :=
  if s0 = 0 then
    J_X8_rests_200 k109 x4 s0 t_restMany t_restFirst
  else
    if t_restMany = 0 then
      J_X8_rests_204 k109 x4 s0 ((10 * (x4 / 2)) + (x4 - x4 / 2 * 2)) t_restMany
    else
      J_X8_rests_200 k109 x4 s0 t_restMany t_restFirst
def J_X8_rests_169 (k109 : Int32 → Int32 → Int32 → Option (Int32 × Int32 × Int32 × Int32 × Int32 × (Nat → Int32) × (Nat → Int32))) (x4 : Int32) (t_restMany : Int32) (t_restFirst : Int32) : Option (Int32 × Int32 × Int32 × Int32 × Int32 × (Nat → Int32) × (Nat → Int32)) :=
  J_X8_rests_170 k109 x4 0 t_restMany t_restFirst
def L_X8_rests_109 (x3 : Int32) (t_thrown : Int32) (t_stumbled : Int32) (t_trial : Nat → Int32) (t_gains : Nat → Int32) : Nat → Int32 → Int32 → Int32 → Option (Int32 × Int32 × Int32 × Int32 × Int32 × (Nat → Int32) × (Nat → Int32))
  | 0, _, _, _ => none
  | fu+1, x4, t_restMany, t_restFirst =>
    if 4 ≤ x4 then
      if x3 = 0 then
        some (t_restMany, t_thrown, t_stumbled, t_restMany, t_restFirst, t_trial, t_gains)
      else
        some (t_restFirst, t_thrown, t_stumbled, t_restMany, t_restFirst, t_trial, t_gains)
    else
      (rdI t_gains 8 (2 * (x4 ^^^ 2))).bind fun v1 =>
      (rdI t_gains 8 (2 * x4)).bind fun v2 =>
      if v2 < v1 then
        J_X8_rests_169 (L_X8_rests_109 x3 t_thrown t_stumbled t_trial t_gains fu) x4 t_restMany t_restFirst
      else
        (rdI t_gains 8 ((2 * (x4 ^^^ 1)) + 1)).bind fun v3 =>
        (rdI t_gains 8 ((2 * x4) + 1)).bind fun v4 =>
        if v4 < v3 then
          J_X8_rests_169 (L_X8_rests_109 x3 t_thrown t_stumbled t_trial t_gains fu) x4 t_restMany t_restFirst
        else
          J_X8_rests_170 (L_X8_rests_109 x3 t_thrown t_stumbled t_trial t_gains fu) x4 1 t_restMany t_restFirst
def L_X8_rests_75 (x1 : Int32) (x2 : Int32) (x3 : Int32) (t_thrown : Int32) (t_depth : Int32) (t_noon : Int32) (t_later : Int32) (t_walkers : Int32) (t_restMany : Int32) (t_restFirst : Int32) (t_page : Nat → Int32) (t_kind : Nat → Int32) (t_beat : Nat → Int32) : Nat → Int32 → Int32 → (Nat → Int32) → (Nat → Int32) → Option (Int32 × Int32 × Int32 × Int32 × Int32 × (Nat → Int32) × (Nat → Int32))
  | 0, _, _, _, _ => none
  | fu+1, x4, t_stumbled, t_trial, t_gains =>
    if 4 ≤ x4 then
      L_X8_rests_109 x3 t_thrown t_stumbled t_trial t_gains fuelC 0 0 (-9)
    else
      (f_X8_layGains x1 x2 x4 t_depth t_noon t_later t_walkers t_stumbled t_page t_trial t_gains t_kind t_beat).bind fun (o5, o6, o7) =>
      L_X8_rests_75 x1 x2 x3 t_thrown t_depth t_noon t_later t_walkers t_restMany t_restFirst t_page t_kind t_beat fu (x4 + 1) o5 o6 o7
def f_X8_rests (x1 : Int32) (x2 : Int32) (x3 : Int32) (t_thrown : Int32) (t_depth : Int32) (t_noon : Int32) (t_later : Int32) (t_walkers : Int32) (t_stumbled : Int32) (t_restMany : Int32) (t_restFirst : Int32) (t_page : Nat → Int32) (t_trial : Nat → Int32) (t_gains : Nat → Int32) (t_kind : Nat → Int32) (t_beat : Nat → Int32) : Option (Int32 × Int32 × Int32 × Int32 × Int32 × (Nat → Int32) × (Nat → Int32)) :=
  (f_X8_noWalker x1 t_walkers).bind fun r10 =>
  if r10 = 0 then
    (f_X8_noWalker x2 t_walkers).bind fun r13 =>
    if r13 = 0 then
      if x1 = x2 then
        some ((-2), 0, t_stumbled, t_restMany, t_restFirst, t_trial, t_gains)
      else
        (f_X8_in ((x3).toInt64) (0 : Int64) (1 : Int64)).bind fun r16 =>
        if r16 = 0 then
          some ((-2), 0, t_stumbled, t_restMany, t_restFirst, t_trial, t_gains)
        else
          (rdI t_page 17 15).bind fun v19 =>
          (f_X8_has v19 x1).bind fun r20 =>
          if r20 = 0 then
            (rdI t_page 17 15).bind fun v23 =>
            (f_X8_has v23 x2).bind fun r24 =>
            if r24 = 0 then
              L_X8_rests_75 x1 x2 x3 0 t_depth t_noon t_later t_walkers t_restMany t_restFirst t_page t_kind t_beat fuelC 0 t_stumbled t_trial t_gains
            else
              some ((-3), 0, t_stumbled, t_restMany, t_restFirst, t_trial, t_gains)
          else
            some ((-3), 0, t_stumbled, t_restMany, t_restFirst, t_trial, t_gains)
    else
      some ((-1), 0, t_stumbled, t_restMany, t_restFirst, t_trial, t_gains)
  else
    some ((-1), 0, t_stumbled, t_restMany, t_restFirst, t_trial, t_gains)
def J_X8_stumbles_117 (k38 : Int32 → Int32 → Int32 → (Nat → Int32) → Option (Int32 × Int32 × Int32 × (Nat → Int32))) (x5 : Int32) (s0 : Int32) (s1 : Int32) (t_stumbled : Int32) (t_trial : Nat → Int32) : Option (Int32 × Int32 × Int32 × (Nat → Int32)) :=
  k38 (s1 + s0) (x5 + 1) t_stumbled t_trial
def L_X8_stumbles_38 (x1 : Int32) (x2 : Int32) (x3 : Int32) (t_thrown : Int32) (t_depth : Int32) (t_noon : Int32) (t_later : Int32) (t_walkers : Int32) (t_page : Nat → Int32) (t_kind : Nat → Int32) (t_beat : Nat → Int32) : Nat → Int32 → Int32 → Int32 → (Nat → Int32) → Option (Int32 × Int32 × Int32 × (Nat → Int32))
  | 0, _, _, _, _ => none
  | fu+1, x4, x5, t_stumbled, t_trial =>
    if ((1 : Int32) <<< (t_walkers &&& 31)) ≤ x5 then
      (f_X8_power 10 t_walkers).bind fun r1 =>
      (f_X8_fraction x4 r1 x3).bind fun r4 =>
      some (r4, t_thrown, 0, t_trial)
    else
      (f_X8_begin t_stumbled t_page t_trial).bind fun (o7, o8) =>
      (f_X8_goStep 17 t_depth t_noon t_later t_walkers x5 o8 t_kind t_beat).bind fun (r11, o12) =>
      (f_X8_many x5).bind fun r15 =>
      (f_X8_up 17 t_walkers o12).bind fun r18 =>
      (f_X8_many r18).bind fun r21 =>
      if r21 < x1 then
        J_X8_stumbles_117 (L_X8_stumbles_38 x1 x2 x3 t_thrown t_depth t_noon t_later t_walkers t_page t_kind t_beat fu) x5 0 x4 x5 o12
      else
        (f_X8_power x2 r15).bind fun r24 =>
        (f_X8_power (10 - x2) (t_walkers - r15)).bind fun r27 =>
        J_X8_stumbles_117 (L_X8_stumbles_38 x1 x2 x3 t_thrown t_depth t_noon t_later t_walkers t_page t_kind t_beat fu) x5 (r24 * r27) x4 x5 o12
def f_X8_stumbles (x1 : Int32) (x2 : Int32) (x3 : Int32) (t_thrown : Int32) (t_depth : Int32) (t_noon : Int32) (t_later : Int32) (t_walkers : Int32) (t_stumbled : Int32) (t_page : Nat → Int32) (t_trial : Nat → Int32) (t_kind : Nat → Int32) (t_beat : Nat → Int32) : Option (Int32 × Int32 × Int32 × (Nat → Int32)) :=
  (f_X8_in ((x1).toInt64) (0 : Int64) (5 : Int64)).bind fun r30 =>
  if r30 = 0 then
    some ((-2), 0, t_stumbled, t_trial)
  else
    (f_X8_in ((x2).toInt64) (0 : Int64) (10 : Int64)).bind fun r33 =>
    if r33 = 0 then
      some ((-2), 0, t_stumbled, t_trial)
    else
      L_X8_stumbles_38 x1 x2 x3 0 t_depth t_noon t_later t_walkers t_page t_kind t_beat fuelC 0 0 t_stumbled t_trial
def f_X8_seed (x1 : Int64) (t_thrown : Int32) (t_seed : Int64) : Option (Int64 × Int32 × Int64) :=
  some (t_seed, 0, x1)
def J_X8_winters_114 (k28 : Int32 → Int32 → Int64 → (Nat → Int32) → Option (Int32 × Int32 × Int64 × Int32 × (Nat → Int32))) (x2 : Int32) (x3 : Int32) (s0 : Int32) (t_depth : Int32) (t_noon : Int32) (t_later : Int32) (t_walkers : Int32) (t_seed : Int64) (t_stumbled : Int32) (t_trial : Nat → Int32) (t_kind : Nat → Int32) (t_beat : Nat → Int32) : Option (Int32 × Int32 × Int64 × Int32 × (Nat → Int32)) :=
  (f_X8_does s0 t_depth t_noon t_later t_walkers t_stumbled t_trial t_kind t_beat).bind fun (r1, o2) =>
  (f_X8_up 17 t_walkers o2).bind fun r5 =>
  (f_X8_many r5).bind fun r8 =>
  k28 (x2 + r8) (x3 + 1) t_seed o2
def L_X8_winters_28 (x1 : Int32) (t_thrown : Int32) (t_depth : Int32) (t_noon : Int32) (t_later : Int32) (t_walkers : Int32) (t_stumbled : Int32) (t_kind : Nat → Int32) (t_beat : Nat → Int32) : Nat → Int32 → Int32 → Int64 → (Nat → Int32) → Option (Int32 × Int32 × Int64 × Int32 × (Nat → Int32))
  | 0, _, _, _, _ => none
  | fu+1, x2, x3, t_seed, t_trial =>
    if x1 ≤ x3 then
      some (x2, t_thrown, t_seed, t_stumbled, t_trial)
    else
      if 5 ≤ ((((((t_seed * (6364136223846793005 : Int64)) + (1442695040888963407 : Int64))).toUInt64 >>> ((33 : Int32).toInt64.toUInt64 &&& Int64.toUInt64 63)).toInt64 - ((((t_seed * (6364136223846793005 : Int64)) + (1442695040888963407 : Int64))).toUInt64 >>> ((33 : Int32).toInt64.toUInt64 &&& Int64.toUInt64 63)).toInt64 / (20 : Int64) * (20 : Int64))).toInt32 then
        if 9 ≤ ((((((t_seed * (6364136223846793005 : Int64)) + (1442695040888963407 : Int64))).toUInt64 >>> ((33 : Int32).toInt64.toUInt64 &&& Int64.toUInt64 63)).toInt64 - ((((t_seed * (6364136223846793005 : Int64)) + (1442695040888963407 : Int64))).toUInt64 >>> ((33 : Int32).toInt64.toUInt64 &&& Int64.toUInt64 63)).toInt64 / (20 : Int64) * (20 : Int64))).toInt32 then
          if 14 ≤ ((((((t_seed * (6364136223846793005 : Int64)) + (1442695040888963407 : Int64))).toUInt64 >>> ((33 : Int32).toInt64.toUInt64 &&& Int64.toUInt64 63)).toInt64 - ((((t_seed * (6364136223846793005 : Int64)) + (1442695040888963407 : Int64))).toUInt64 >>> ((33 : Int32).toInt64.toUInt64 &&& Int64.toUInt64 63)).toInt64 / (20 : Int64) * (20 : Int64))).toInt32 then
            J_X8_winters_114 (L_X8_winters_28 x1 t_thrown t_depth t_noon t_later t_walkers t_stumbled t_kind t_beat fu) x2 x3 0 t_depth t_noon t_later t_walkers ((t_seed * (6364136223846793005 : Int64)) + (1442695040888963407 : Int64)) t_stumbled t_trial t_kind t_beat
          else
            J_X8_winters_114 (L_X8_winters_28 x1 t_thrown t_depth t_noon t_later t_walkers t_stumbled t_kind t_beat fu) x2 x3 (291 + ((((((t_seed * (6364136223846793005 : Int64)) + (1442695040888963407 : Int64))).toUInt64 >>> ((33 : Int32).toInt64.toUInt64 &&& Int64.toUInt64 63)).toInt64 - ((((t_seed * (6364136223846793005 : Int64)) + (1442695040888963407 : Int64))).toUInt64 >>> ((33 : Int32).toInt64.toUInt64 &&& Int64.toUInt64 63)).toInt64 / (20 : Int64) * (20 : Int64))).toInt32) t_depth t_noon t_later t_walkers ((t_seed * (6364136223846793005 : Int64)) + (1442695040888963407 : Int64)) t_stumbled t_trial t_kind t_beat
        else
          J_X8_winters_114 (L_X8_winters_28 x1 t_thrown t_depth t_noon t_later t_walkers t_stumbled t_kind t_beat fu) x2 x3 (95 + ((((((t_seed * (6364136223846793005 : Int64)) + (1442695040888963407 : Int64))).toUInt64 >>> ((33 : Int32).toInt64.toUInt64 &&& Int64.toUInt64 63)).toInt64 - ((((t_seed * (6364136223846793005 : Int64)) + (1442695040888963407 : Int64))).toUInt64 >>> ((33 : Int32).toInt64.toUInt64 &&& Int64.toUInt64 63)).toInt64 / (20 : Int64) * (20 : Int64))).toInt32) t_depth t_noon t_later t_walkers ((t_seed * (6364136223846793005 : Int64)) + (1442695040888963407 : Int64)) t_stumbled t_trial t_kind t_beat
      else
        J_X8_winters_114 (L_X8_winters_28 x1 t_thrown t_depth t_noon t_later t_walkers t_stumbled t_kind t_beat fu) x2 x3 (201 + (10 * ((((((t_seed * (6364136223846793005 : Int64)) + (1442695040888963407 : Int64))).toUInt64 >>> ((33 : Int32).toInt64.toUInt64 &&& Int64.toUInt64 63)).toInt64 - ((((t_seed * (6364136223846793005 : Int64)) + (1442695040888963407 : Int64))).toUInt64 >>> ((33 : Int32).toInt64.toUInt64 &&& Int64.toUInt64 63)).toInt64 / (20 : Int64) * (20 : Int64))).toInt32)) t_depth t_noon t_later t_walkers ((t_seed * (6364136223846793005 : Int64)) + (1442695040888963407 : Int64)) t_stumbled t_trial t_kind t_beat
def f_X8_winters (x1 : Int32) (t_thrown : Int32) (t_depth : Int32) (t_noon : Int32) (t_later : Int32) (t_walkers : Int32) (t_seed : Int64) (t_stumbled : Int32) (t_page : Nat → Int32) (t_trial : Nat → Int32) (t_kind : Nat → Int32) (t_beat : Nat → Int32) : Option (Int32 × Int32 × Int64 × Int32 × (Nat → Int32)) :=
  (f_X8_in ((x1).toInt64) (1 : Int64) (30 : Int64)).bind fun r11 =>
  if r11 = 0 then
    some ((-2), 0, t_seed, t_stumbled, t_trial)
  else
    (f_X8_begin t_stumbled t_page t_trial).bind fun (o14, o15) =>
    L_X8_winters_28 x1 0 t_depth t_noon t_later t_walkers o14 t_kind t_beat fuelC 0 0 t_seed o15
def L_X8_keep_26 (x1 : Int32) (t_thrown : Int32) (t_isKept : Nat → Int32) (t_page : Nat → Int32) : Nat → Int32 → (Nat → Int32) → Option (Int32 × Int32 × (Nat → Int32) × (Nat → Int32))
  | 0, _, _ => none
  | fu+1, x2, t_kept =>
    if 17 ≤ x2 then
      (rdI t_page 17 16).bind fun v1 =>
      some (v1, t_thrown, t_isKept, t_kept)
    else
      (rdI t_page 17 x2).bind fun v2 =>
      (wrI t_kept 34 ((17 * x1) + x2) v2).bind fun w3 =>
      L_X8_keep_26 x1 t_thrown t_isKept t_page fu (x2 + 1) w3
def f_X8_keep (x1 : Int32) (t_thrown : Int32) (t_isKept : Nat → Int32) (t_page : Nat → Int32) (t_kept : Nat → Int32) : Option (Int32 × Int32 × (Nat → Int32) × (Nat → Int32)) :=
  (f_X8_in ((x1).toInt64) (0 : Int64) (1 : Int64)).bind fun r4 =>
  if r4 = 0 then
    some ((-1), 0, t_isKept, t_kept)
  else
    (wrZ t_isKept 2 x1 1).bind fun w7 =>
    L_X8_keep_26 x1 0 w7 t_page fuelC 0 t_kept
def L_X8_again_31 (x1 : Int32) (t_thrown : Int32) (t_acts : Int32) (t_kept : Nat → Int32) : Nat → Int32 → (Nat → Int32) → Option (Int32 × Int32 × Int32 × (Nat → Int32))
  | 0, _, _ => none
  | fu+1, x2, t_page =>
    if 17 ≤ x2 then
      (rdI t_page 17 16).bind fun v1 =>
      some (v1, t_thrown, 0, t_page)
    else
      (rdI t_kept 34 ((17 * x1) + x2)).bind fun v2 =>
      (wrI t_page 17 x2 v2).bind fun w3 =>
      L_X8_again_31 x1 t_thrown t_acts t_kept fu (x2 + 1) w3
def f_X8_again (x1 : Int32) (t_thrown : Int32) (t_acts : Int32) (t_isKept : Nat → Int32) (t_kept : Nat → Int32) (t_page : Nat → Int32) : Option (Int32 × Int32 × Int32 × (Nat → Int32)) :=
  (f_X8_in ((x1).toInt64) (0 : Int64) (1 : Int64)).bind fun r4 =>
  if r4 = 0 then
    some ((-1), 0, t_acts, t_page)
  else
    (rdI t_isKept 2 x1).bind fun v7 =>
    if v7 = 0 then
      some ((-3), 0, t_acts, t_page)
    else
      L_X8_again_31 x1 0 t_acts t_kept fuelC 0 t_page
