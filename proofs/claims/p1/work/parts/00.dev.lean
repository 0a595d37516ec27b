abbrev xG : Type := Nat → va_E
def xdead : va_E := .inr (99, [])
def xg_f (g : xG) (ci a k : Nat) : Option Value := match g a with
  | .inr (c, fs) => if c = ci then fs[k]? else none
  | .inl _ => none
def xv_i (v : Option Value) : Option Int32 := match v with
  | some (.int x) => some x
  | _ => none
def xv_l (v : Option Value) : Option Int64 := match v with
  | some (.long x) => some x
  | _ => none
def xv_r (v : Option Value) : Option Nat := match v with
  | some (.ref x) => some x
  | _ => none
def xg_i (g : xG) (ci a k : Nat) : Option Int32 := xv_i (xg_f g ci a k)
def xg_l (g : xG) (ci a k : Nat) : Option Int64 := xv_l (xg_f g ci a k)
def xg_r (g : xG) (ci a k : Nat) : Option Nat := xv_r (xg_f g ci a k)
def xp (g : xG) (ci a k : Nat) (v : Value) : Option xG := match g a with
  | .inr (c, fs) => if c = ci ∧ k < fs.length then some (va_up g a (.inr (c, fs.set k v))) else none
  | .inl _ => none
def xp_i (g : xG) (ci a k : Nat) (x : Int32) : Option xG := xp g ci a k (.int x)
def xp_l (g : xG) (ci a k : Nat) (x : Int64) : Option xG := xp g ci a k (.long x)
def xp_r (g : xG) (ci a k : Nat) (x : Nat) : Option xG := xp g ci a k (.ref x)
def xp_z (g : xG) (ci a k : Nat) (x : Int32) : Option xG := if x = 0 ∨ x = 1 then xp g ci a k (.int x) else none
def xk (g : xG) (ci a : Nat) : Option Unit := match g a with
  | .inr (c, _) => if c = ci then some () else none
  | .inl _ => none
def xnar (t : Nat) (x : Int32) : Int32 := if t = 0 then vp_nar .byte x else if t = 3 then vp_nar .boolean x else x
def xa_i (t : Nat) (g : xG) (a : Nat) (i : Int32) : Option Int32 := match g a with
  | .inl (c, n, .inl f) => if c = t ∧ 0 ≤ i ∧ i.toNatClampNeg < n then some (f i.toNatClampNeg) else none
  | _ => none
def xa_l (g : xG) (a : Nat) (i : Int32) : Option Int64 := match g a with
  | .inl (c, n, .inr (.inl f)) => if c = 2 ∧ 0 ≤ i ∧ i.toNatClampNeg < n then some (f i.toNatClampNeg) else none
  | _ => none
def xa_r (t : Nat) (g : xG) (a : Nat) (i : Int32) : Option Nat := match g a with
  | .inl (c, n, .inr (.inr (.inr (.inr f)))) => if c = t ∧ 0 ≤ i ∧ i.toNatClampNeg < n then f i.toNatClampNeg else none
  | _ => none
def xs_i (t : Nat) (g : xG) (a : Nat) (i x : Int32) : Option xG := match g a with
  | .inl (c, n, .inl f) => if c = t ∧ 0 ≤ i ∧ i.toNatClampNeg < n then some (va_up g a (.inl (c, n, .inl (upd f i.toNatClampNeg (xnar t x))))) else none
  | _ => none
def xs_l (g : xG) (a : Nat) (i : Int32) (x : Int64) : Option xG := match g a with
  | .inl (c, n, .inr (.inl f)) => if c = 2 ∧ 0 ≤ i ∧ i.toNatClampNeg < n then some (va_up g a (.inl (c, n, .inr (.inl (vp_updL f i.toNatClampNeg x))))) else none
  | _ => none
def xs_r (t ci : Nat) (g : xG) (a : Nat) (i : Int32) (v : Nat) : Option xG := match g a, g v with
  | .inl (c, n, .inr (.inr (.inr (.inr f)))), .inr (d, _) => if c = t ∧ d = ci ∧ 0 ≤ i ∧ i.toNatClampNeg < n then some (va_up g a (.inl (c, n, .inr (.inr (.inr (.inr (va_up f i.toNatClampNeg (some v)))))))) else none
  | _, _ => none
def xn_a (t : Nat) (g : xG) (a : Nat) : Option Int32 := match g a with
  | .inl (c, n, _) => if c = t then some (Int32.ofNat n) else none
  | .inr _ => none
def xz (x : Int32) : Option Int32 := if x = 0 ∨ x = 1 then some x else none
def xnz (x : Int32) : Option Unit := if x = 0 then none else some ()
def x2 {α β : Type} (o : Option (α × xG)) (k : α → xG → Option β) : Option β := match o with
  | some q => k q.1 q.2
  | none => none
def xFU : Nat := 1000
def xiushr (x y : Int32) : Int32 := (x.toUInt32 >>> (y.toUInt32 &&& Int32.toUInt32 31)).toInt32
def xlushr (x : Int64) (y : Int32) : Int64 := (x.toUInt64 >>> (y.toInt64.toUInt64 &&& Int64.toUInt64 63)).toInt64
def xlshr (x : Int64) (y : Int32) : Int64 := x >>> (y.toInt64 &&& 63)
def xlshl (x : Int64) (y : Int32) : Int64 := x <<< (y.toInt64 &&& 63)
def f_J15_checkIndex_7cf53 (a0 a1 : Int32) : Option Int32 := if a0 < 0 then none else if a0 < a1 then some a0 else none
def xn_t (t : Nat) (g : xG) (a : Nat) : Option Int32 := if a = t then some 0 else xn_a 6 g a
def xcap (x : Int32) : Option Nat := if 0 ≤ x ∧ x.toNatClampNeg ≤ 64 then some x.toNatClampNeg else none
def f_X7_mix (a0 : Int64) (a1 : Int64) : Option Int64 :=
  some (((a0 ^^^ a1) * (-7046029254386353131)) ^^^ (xlushr ((a0 ^^^ a1) * (-7046029254386353131)) 29))
def f_X7_headBehind (a0 : Int64) (a1 : Int32) (a2 : Int32) (a3 : Int32) : Option Int64 :=
  (f_X7_mix 7 a0).bind fun x2 =>
  (f_X7_mix x2 (Int32.toInt64 a1)).bind fun x4 =>
  (f_X7_mix x4 (Int32.toInt64 a2)).bind fun x6 =>
  (f_X7_mix x6 (Int32.toInt64 a3)).bind fun x8 =>
  some x8
def f_X7_signatureOf (a0 : Int32) (a1 : Int32) (a2 : Int64) : Option Int64 :=
  (f_X7_mix 7 (Int32.toInt64 ((-1) - a0))).bind fun x2 =>
  (f_X7_mix x2 (Int32.toInt64 a1)).bind fun x4 =>
  (f_X7_mix x4 a2).bind fun x6 =>
  some x6
def f_X2_hasTwoPlaces (g : xG) (a0 : Nat) : Option Int32 :=
  (xg_i g 3 a0 0).bind fun x1 =>
  if 150 < (x1 + 2) then
    some 0
  else
    some 1
def f_X2_append (g : xG) (a0 : Nat) (a1 : Int32) (a2 : Int32) (a3 : Int32) : Option xG :=
  (xg_i g 3 a0 0).bind fun x1 =>
  if 150 ≤ x1 then
    some g
  else
    (xg_i g 3 a0 0).bind fun x3 =>
    (xp_i g 3 a0 0 (x3 + 1)).bind fun g5 =>
    (xg_r g5 3 a0 1).bind fun x7 =>
    (xg_i g5 3 a0 0).bind fun x9 =>
    (xs_i 1 g5 x7 x9 a1).bind fun g11 =>
    (xg_r g11 3 a0 2).bind fun x13 =>
    (xg_i g11 3 a0 0).bind fun x15 =>
    (xs_i 1 g11 x13 x15 a2).bind fun g17 =>
    (xg_r g17 3 a0 3).bind fun x19 =>
    (xg_i g17 3 a0 0).bind fun x21 =>
    (xs_i 1 g17 x19 x21 a3).bind fun g23 =>
    (xg_r g23 3 a0 4).bind fun x25 =>
    (xg_i g23 3 a0 0).bind fun x27 =>
    (xg_r g23 3 a0 4).bind fun x29 =>
    (xg_i g23 3 a0 0).bind fun x31 =>
    (xa_l g23 x29 (x31 - 1)).bind fun x33 =>
    (f_X7_headBehind x33 a1 a2 a3).bind fun x36 =>
    (xs_l g23 x25 x27 x36).bind fun g37 =>
    some g37
def f_X2_rewrite_9 : Nat → xG → Nat → Int32 → Option xG
  | 0, _, _, _ => none
  | n9 + 1, g, v0, v3 =>
  (xg_i g 3 v0 0).bind fun x1 =>
  if x1 < v3 then
    some g
  else
    (xg_r g 3 v0 4).bind fun x3 =>
    (xg_r g 3 v0 4).bind fun x5 =>
    (xa_l g x5 (v3 - 1)).bind fun x7 =>
    (xg_r g 3 v0 1).bind fun x9 =>
    (xa_i 1 g x9 v3).bind fun x11 =>
    (xg_r g 3 v0 2).bind fun x13 =>
    (xa_i 1 g x13 v3).bind fun x15 =>
    (xg_r g 3 v0 3).bind fun x17 =>
    (xa_i 1 g x17 v3).bind fun x19 =>
    (f_X7_headBehind x7 x11 x15 x19).bind fun x22 =>
    (xs_l g x3 v3 x22).bind fun g23 =>
    f_X2_rewrite_9 n9 g23 v0 (v3 + 1)
def f_X2_rewrite (g : xG) (a0 : Nat) (a1 : Int32) (a2 : Int32) : Option xG :=
  (xg_r g 3 a0 3).bind fun x25 =>
  (xs_i 1 g x25 a1 a2).bind fun g27 =>
  f_X2_rewrite_9 xFU g27 a0 a1
def f_X0_hasByte (g : xG) (a0 : Nat) (a1 : Int32) : Option Int32 :=
  if a1 < 0 then
    some 0
  else
    (xg_i g 1 a0 0).bind fun x1 =>
    if x1 ≤ a1 then
      some 0
    else
      some 1
def f_X0_byteAt (g : xG) (a0 : Nat) (a1 : Int32) : Option Int32 :=
  (xg_r g 1 a0 1).bind fun x1 =>
  (xa_i 0 g x1 a1).bind fun x3 =>
  some (x3 &&& 255)
def f_X0_append_9 : Nat → xG → Nat → Int64 → Int32 → Option xG
  | 0, _, _, _, _ => none
  | n9 + 1, g, v0, v1, v4 =>
  if v4 < 0 then
    some g
  else
    (xg_i g 1 v0 0).bind fun x1 =>
    if 930 ≤ x1 then
      some g
    else
      (xg_r g 1 v0 1).bind fun x3 =>
      (xg_i g 1 v0 0).bind fun x5 =>
      (xs_i 0 g x3 x5 (Int8.toInt32 (Int32.toInt8 (Int64.toInt32 (xlushr v1 v4))))).bind fun g7 =>
      (xg_i g7 1 v0 0).bind fun x9 =>
      (xp_i g7 1 v0 0 (x9 + 1)).bind fun g11 =>
      f_X0_append_9 n9 g11 v0 v1 (v4 + (-8))
def f_X0_append (g : xG) (a0 : Nat) (a1 : Int64) (a2 : Int32) : Option xG :=
  f_X0_append_9 xFU g a0 a1 ((8 * a2) - 8)
def f_X0_numberAt_5 : Nat → xG → Nat → Int32 → Int32 → Int64 → Int32 → Option Int64
  | 0, _, _, _, _, _, _ => none
  | n9 + 1, g, v0, v1, v2, v3, v5 =>
  if (v1 + v2) ≤ v5 then
    some v3
  else
    (xk g 1 v0).bind fun _ =>
    (f_X0_byteAt g v0 v5).bind fun x3 =>
    f_X0_numberAt_5 n9 g v0 v1 v2 ((xlshl v3 8) ||| (Int32.toInt64 x3)) (v5 + 1)
def f_X0_numberAt (g : xG) (a0 : Nat) (a1 : Int32) (a2 : Int32) : Option Int64 :=
  f_X0_numberAt_5 xFU g a0 a1 a2 0 a1
def f_X0_isWhole_28 (g : xG) (v0 : Nat) : Option Int32 :=
  (xk g 1 v0).bind fun _ =>
  (f_X0_byteAt g v0 0).bind fun x3 =>
  if x3 = 1 then
    (xk g 1 v0).bind fun _ =>
    (f_X0_numberAt g v0 2 2).bind fun x11 =>
    (xg_i g 1 v0 0).bind fun x12 =>
    if x12 = (((4 + ((Int64.toInt32 x11) * 6)) + 8) + 18) then
      some 1
    else
      some 0
  else
    (xk g 1 v0).bind fun _ =>
    (f_X0_numberAt g v0 2 2).bind fun x6 =>
    (xg_i g 1 v0 0).bind fun x7 =>
    if x7 = (((4 + ((Int64.toInt32 x6) * 6)) + 8) + 2) then
      some 1
    else
      some 0
def f_X0_isWhole (g : xG) (a0 : Nat) : Option Int32 :=
  (xg_i g 1 a0 0).bind fun x14 =>
  if x14 < 4 then
    some 0
  else
    (xk g 1 a0).bind fun _ =>
    (f_X0_byteAt g a0 0).bind fun x18 =>
    if x18 = 1 then
      f_X0_isWhole_28 g a0
    else
      (xk g 1 a0).bind fun _ =>
      (f_X0_byteAt g a0 0).bind fun x21 =>
      if x21 = 2 then
        f_X0_isWhole_28 g a0
      else
        some 0
def f_X1_address (g : xG) (a0 : Nat) (a1 : Int32) (a2 : Int32) (a3 : Int32) : Option xG :=
  (xp_i g 2 a0 0 a1).bind fun g1 =>
  (xp_i g1 2 a0 1 a2).bind fun g3 =>
  (xp_i g3 2 a0 2 a3).bind fun g5 =>
  some g5
def f_X1_seal (g : xG) (a0 : Nat) (a1 : Int32) (a2 : Int64) (a3 : Int64) : Option xG :=
  (xp_i g 2 a0 4 a1).bind fun g1 =>
  (xp_l g1 2 a0 5 a2).bind fun g3 =>
  (xp_l g3 2 a0 6 a3).bind fun g5 =>
  some g5
def f_X1_becomeLike (g : xG) (a0 : Nat) (a1 : Nat) : Option xG :=
  (xg_i g 2 a1 0).bind fun x1 =>
  (xg_i g 2 a1 1).bind fun x3 =>
  (xg_i g 2 a1 2).bind fun x5 =>
  (xk g 2 a0).bind fun _ =>
  (f_X1_address g a0 x1 x3 x5).bind fun g9 =>
  (xg_i g9 2 a1 3).bind fun x10 =>
  (xp_i g9 2 a0 3 x10).bind fun g12 =>
  (xg_i g12 2 a1 4).bind fun x14 =>
  (xg_l g12 2 a1 5).bind fun x16 =>
  (xg_l g12 2 a1 6).bind fun x18 =>
  (xk g12 2 a0).bind fun _ =>
  (f_X1_seal g12 a0 x14 x16 x18).bind fun g22 =>
  some g22
def f_X3_restart (g : xG) (a0 : Nat) (a1 : Int32) (a2 : Int32) : Option xG :=
  (xp_i g 4 a0 0 a1).bind fun g1 =>
  (xp_i g1 4 a0 1 a2).bind fun g3 =>
  (xp_i g3 4 a0 2 0).bind fun g5 =>
  (xp_i g5 4 a0 3 0).bind fun g7 =>
  (xp_z g7 4 a0 4 0).bind fun g9 =>
  some g9
def f_X3_stepInput_28 (g : xG) (v0 : Nat) (s0 : Nat) (s1 : Int32) : Option xG :=
  (xp_z g 4 s0 4 s1).bind fun g1 =>
  (xg_i g1 4 v0 0).bind fun x3 =>
  (xg_i g1 4 v0 2).bind fun x5 =>
  (xg_i g1 4 v0 1).bind fun x7 =>
  (xnz (x7 - 1)).bind fun _ =>
  (xg_i g1 4 v0 1).bind fun x10 =>
  (xnz x10).bind fun _ =>
  (xp_i g1 4 v0 5 (((x3 + 1) + (((xiushr x5 8) &&& 127) - ((xiushr x5 8) &&& 127) / (x7 - 1) * (x7 - 1))) - ((x3 + 1) + (((xiushr x5 8) &&& 127) - ((xiushr x5 8) &&& 127) / (x7 - 1) * (x7 - 1))) / x10 * x10)).bind fun g13 =>
  (xg_i g13 4 v0 2).bind fun x15 =>
  (xg_i g13 4 v0 3).bind fun x17 =>
  (xp_i g13 4 v0 6 ((xiushr x15 1) ^^^ x17)).bind fun g19 =>
  some g19
def f_X3_stepInput (g : xG) (a0 : Nat) (a1 : Int32) : Option xG :=
  (xg_i g 4 a0 2).bind fun x21 =>
  (xp_i g 4 a0 2 ((31 * x21) + a1)).bind fun g23 =>
  (xg_i g23 4 a0 2).bind fun x25 =>
  if (x25 &&& 1) = 0 then
    f_X3_stepInput_28 g23 a0 a0 1
  else
    f_X3_stepInput_28 g23 a0 a0 0
def f_X3_stepReceipt (g : xG) (a0 : Nat) (a1 : Int32) (a2 : Int32) : Option xG :=
  (xg_i g 4 a0 3).bind fun x1 =>
  (xp_i g 4 a0 3 (((x1 ^^^ (a1 + a2)) <<< (5 &&& 31)) ||| (xiushr (x1 ^^^ (a1 + a2)) 27))).bind fun g3 =>
  (xg_i g3 4 a0 3).bind fun x5 =>
  if (x5 &&& 7) = 0 then
    (xp_z g3 4 a0 4 1).bind fun g15 =>
    (xp_i g15 4 a0 5 a2).bind fun g17 =>
    (xg_i g17 4 a0 3).bind fun x19 =>
    (xp_i g17 4 a0 6 x19).bind fun g21 =>
    some g21
  else
    (xp_z g3 4 a0 4 0).bind fun g7 =>
    (xp_i g7 4 a0 5 a2).bind fun g9 =>
    (xg_i g9 4 a0 3).bind fun x11 =>
    (xp_i g9 4 a0 6 x11).bind fun g13 =>
    some g13
def f_X4_restart_64 : Nat → xG → Nat → Int32 → Option xG
  | 0, _, _, _ => none
  | n9 + 1, g, v0, v2 =>
  (xg_r g 5 v0 5).bind fun x1 =>
  (xn_a 3 g x1).bind fun x3 =>
  if x3 ≤ v2 then
    some g
  else
    (xg_r g 5 v0 5).bind fun x5 =>
    (xs_i 3 g x5 v2 0).bind fun g7 =>
    f_X4_restart_64 n9 g7 v0 (v2 + 1)
def f_X4_restart_40 : Nat → xG → Nat → Int32 → Option xG
  | 0, _, _, _ => none
  | n9 + 1, g, v0, v2 =>
  (xg_r g 5 v0 4).bind fun x9 =>
  (xn_a 1 g x9).bind fun x11 =>
  if x11 ≤ v2 then
    f_X4_restart_64 xFU g v0 0
  else
    (xg_r g 5 v0 4).bind fun x13 =>
    (xs_i 1 g x13 v2 0).bind fun g15 =>
    f_X4_restart_40 n9 g15 v0 (v2 + 1)
def f_X4_restart (g : xG) (a0 : Nat) (a1 : Int32) : Option xG :=
  (xg_r g 5 a0 1).bind fun x17 =>
  (xg_i g 5 a0 0).bind fun x19 =>
  (xk g 4 x17).bind fun _ =>
  (f_X3_restart g x17 x19 a1).bind fun g23 =>
  (xg_r g23 5 a0 2).bind fun x24 =>
  (xp_i g23 3 x24 0 0).bind fun g26 =>
  (xg_r g26 5 a0 3).bind fun x28 =>
  (xp_i g26 7 x28 0 0).bind fun g30 =>
  (xp_i g30 5 a0 6 0).bind fun g32 =>
  (xp_z g32 5 a0 7 0).bind fun g34 =>
  f_X4_restart_40 xFU g34 a0 0
def f_X4_hasTaken (g : xG) (a0 : Nat) (a1 : Int32) (a2 : Int32) : Option Int32 :=
  (xg_r g 5 a0 5).bind fun x1 =>
  (xa_i 3 g x1 ((a1 * 151) + a2)).bind fun x3 =>
  (xz x3).bind fun x6 =>
  some x6
def f_X4_noteTaken (g : xG) (a0 : Nat) (a1 : Int32) (a2 : Int32) : Option xG :=
  (xg_r g 5 a0 5).bind fun x1 =>
  (xs_i 3 g x1 ((a1 * 151) + a2) 1).bind fun g3 =>
  (xg_i g3 5 a0 6).bind fun x5 =>
  (xp_i g3 5 a0 6 (x5 + 1)).bind fun g7 =>
  some g7
def f_X5_hasRoom (g : xG) (a0 : Nat) : Option Int32 :=
  (xg_i g 6 a0 0).bind fun x1 =>
  if 200 ≤ x1 then
    some 0
  else
    some 1
def f_X5_addLast (g : xG) (a0 : Nat) : Option (Nat × xG) :=
  (xg_i g 6 a0 0).bind fun x1 =>
  (xp_i g 6 a0 0 (x1 + 1)).bind fun g3 =>
  (xg_r g3 6 a0 2).bind fun x5 =>
  (xg_i g3 6 a0 0).bind fun x7 =>
  (xa_r 4 g3 x5 (x7 - 1)).bind fun x9 =>
  some (x9, g3)
def f_X5_takeOut_19 : Nat → xG → Nat → Nat → Int32 → Option (Nat × xG)
  | 0, _, _, _, _ => none
  | n9 + 1, g, v0, v2, v3 =>
  (xg_i g 6 v0 0).bind fun x1 =>
  if x1 ≤ v3 then
    (xg_r g 6 v0 2).bind fun x3 =>
    (xg_i g 6 v0 0).bind fun x5 =>
    (xg_r g 6 v0 3).bind fun x7 =>
    (xs_r 4 2 g x3 x5 x7).bind fun g9 =>
    (xp_r g9 6 v0 3 v2).bind fun g11 =>
    some (v2, g11)
  else
    (xg_r g 6 v0 2).bind fun x13 =>
    (xg_r g 6 v0 2).bind fun x15 =>
    (xa_r 4 g x15 (v3 + 1)).bind fun x17 =>
    (xs_r 4 2 g x13 v3 x17).bind fun g19 =>
    f_X5_takeOut_19 n9 g19 v0 v2 (v3 + 1)
def f_X5_takeOut (g : xG) (a0 : Nat) (a1 : Int32) : Option (Nat × xG) :=
  (xg_r g 6 a0 2).bind fun x21 =>
  (xa_r 4 g x21 a1).bind fun x23 =>
  (xg_i g 6 a0 0).bind fun x25 =>
  (xp_i g 6 a0 0 (x25 - 1)).bind fun g27 =>
  f_X5_takeOut_19 xFU g27 a0 x23 a1
def f_X5_repeat (g : xG) (a0 : Nat) (a1 : Int32) : Option (Int32 × xG) :=
  (xk g 6 a0).bind fun _ =>
  (f_X5_hasRoom g a0).bind fun x3 =>
  if x3 = 0 then
    (xz x3).bind fun x5 =>
    some (x5, g)
  else
    (xk g 6 a0).bind fun _ =>
    x2 (f_X5_addLast g a0) fun x8 g9 =>
    (xg_r g9 6 a0 2).bind fun x10 =>
    (xa_r 4 g9 x10 a1).bind fun x12 =>
    (xk g9 2 x8).bind fun _ =>
    (f_X1_becomeLike g9 x8 x12).bind fun g16 =>
    (xz x3).bind fun x18 =>
    some (x18, g16)
def f_X6_keeps_3 : Nat → xG → Nat → Int32 → Int32 → Int64 → Int32 → Option Int32
  | 0, _, _, _, _, _, _ => none
  | n9 + 1, g, v0, v1, v2, v3, v5 =>
  (xg_i g 7 v0 0).bind fun x1 =>
  if x1 ≤ v5 then
    some 0
  else
    (xg_r g 7 v0 1).bind fun x3 =>
    (xa_i 1 g x3 v5).bind fun x5 =>
    if x5 = v1 then
      (xg_r g 7 v0 2).bind fun x7 =>
      (xa_i 1 g x7 v5).bind fun x9 =>
      if x9 = v2 then
        (xg_r g 7 v0 3).bind fun x11 =>
        (xa_l g x11 v5).bind fun x13 =>
        if x13 = v3 then
          some 1
        else
          f_X6_keeps_3 n9 g v0 v1 v2 v3 (v5 + 1)
      else
        f_X6_keeps_3 n9 g v0 v1 v2 v3 (v5 + 1)
    else
      f_X6_keeps_3 n9 g v0 v1 v2 v3 (v5 + 1)
def f_X6_keeps (g : xG) (a0 : Nat) (a1 : Int32) (a2 : Int32) (a3 : Int64) : Option Int32 :=
  f_X6_keeps_3 xFU g a0 a1 a2 a3 0
def f_X6_keep (g : xG) (a0 : Nat) (a1 : Int32) (a2 : Int32) (a3 : Int64) (a4 : Int32) : Option (Int32 × xG) :=
  (xg_i g 7 a0 0).bind fun x1 =>
  if 300 ≤ x1 then
    some (0, g)
  else
    (xk g 7 a0).bind fun _ =>
    (f_X6_keeps g a0 a1 a2 a3).bind fun x5 =>
    if x5 = 0 then
      (xg_r g 7 a0 1).bind fun x6 =>
      (xg_i g 7 a0 0).bind fun x8 =>
      (xs_i 1 g x6 x8 a1).bind fun g10 =>
      (xg_r g10 7 a0 2).bind fun x12 =>
      (xg_i g10 7 a0 0).bind fun x14 =>
      (xs_i 1 g10 x12 x14 a2).bind fun g16 =>
      (xg_r g16 7 a0 3).bind fun x18 =>
      (xg_i g16 7 a0 0).bind fun x20 =>
      (xs_l g16 x18 x20 a3).bind fun g22 =>
      (xg_r g22 7 a0 4).bind fun x24 =>
      (xg_i g22 7 a0 0).bind fun x26 =>
      (xs_i 3 g22 x24 x26 a4).bind fun g28 =>
      (xg_i g28 7 a0 0).bind fun x30 =>
      (xp_i g28 7 a0 0 (x30 + 1)).bind fun g32 =>
      some (1, g32)
    else
      some (0, g)
def f_X6_leastFork_5 : Nat → xG → Nat → Int32 → Nat → Int32 → Int32 → Option Int32
  | 0, _, _, _, _, _, _ => none
  | n9 + 1, g, v0, v1, v2, v3, v4 =>
  (xg_i g 7 v0 0).bind fun x1 =>
  if x1 ≤ v4 then
    some v3
  else
    (xg_r g 7 v0 1).bind fun x3 =>
    (xa_i 1 g x3 v4).bind fun x5 =>
    if x5 = v1 then
      (xg_r g 7 v0 2).bind fun x7 =>
      (xa_i 1 g x7 v4).bind fun x9 =>
      (xg_i g 3 v2 0).bind fun x11 =>
      if x11 < x9 then
        f_X6_leastFork_5 n9 g v0 v1 v2 v3 (v4 + 1)
      else
        (xg_r g 7 v0 3).bind fun x13 =>
        (xa_l g x13 v4).bind fun x15 =>
        (xg_r g 3 v2 4).bind fun x17 =>
        (xg_r g 7 v0 2).bind fun x19 =>
        (xa_i 1 g x19 v4).bind fun x21 =>
        (xa_l g x17 x21).bind fun x23 =>
        if x15 = x23 then
          f_X6_leastFork_5 n9 g v0 v1 v2 v3 (v4 + 1)
        else
          if v3 = (-1) then
            f_X6_leastFork_5 n9 g v0 v1 v2 v4 (v4 + 1)
          else
            (xg_r g 7 v0 2).bind fun x25 =>
            (xa_i 1 g x25 v4).bind fun x27 =>
            (xg_r g 7 v0 2).bind fun x29 =>
            (xa_i 1 g x29 v3).bind fun x31 =>
            if x31 ≤ x27 then
              f_X6_leastFork_5 n9 g v0 v1 v2 v3 (v4 + 1)
            else
              f_X6_leastFork_5 n9 g v0 v1 v2 v4 (v4 + 1)
    else
      f_X6_leastFork_5 n9 g v0 v1 v2 v3 (v4 + 1)
def f_X6_leastFork (g : xG) (a0 : Nat) (a1 : Int32) (a2 : Nat) : Option Int32 :=
  f_X6_leastFork_5 xFU g a0 a1 a2 (-1) 0
def f_X6_keepsBeyond_2 : Nat → xG → Nat → Int32 → Int32 → Int32 → Option Int32
  | 0, _, _, _, _, _ => none
  | n9 + 1, g, v0, v1, v2, v3 =>
  (xg_i g 7 v0 0).bind fun x1 =>
  if x1 ≤ v3 then
    some 0
  else
    (xg_r g 7 v0 1).bind fun x3 =>
    (xa_i 1 g x3 v3).bind fun x5 =>
    if x5 = v1 then
      (xg_r g 7 v0 2).bind fun x7 =>
      (xa_i 1 g x7 v3).bind fun x9 =>
      if x9 ≤ v2 then
        f_X6_keepsBeyond_2 n9 g v0 v1 v2 (v3 + 1)
      else
        some 1
    else
      f_X6_keepsBeyond_2 n9 g v0 v1 v2 (v3 + 1)
def f_X6_keepsBeyond (g : xG) (a0 : Nat) (a1 : Int32) (a2 : Int32) : Option Int32 :=
  f_X6_keepsBeyond_2 xFU g a0 a1 a2 0
def f_X7_startWith_7 : Nat → xG → Nat → Int32 → Int32 → Option xG
  | 0, _, _, _, _ => none
  | n9 + 1, g, v0, v1, v2 =>
  if 6 ≤ v2 then
    (xg_r g 8 v0 2).bind fun x1 =>
    (xp_i g 6 x1 0 0).bind fun g3 =>
    (xg_r g3 8 v0 2).bind fun x5 =>
    (xp_i g3 6 x5 1 0).bind fun g7 =>
    (xp_i g7 8 v0 4 0).bind fun g9 =>
    some g9
  else
    (xg_r g 8 v0 1).bind fun x11 =>
    (xa_r 5 g x11 v2).bind fun x13 =>
    (xk g 5 x13).bind fun _ =>
    (f_X4_restart g x13 v1).bind fun g17 =>
    f_X7_startWith_7 n9 g17 v0 v1 (v2 + 1)
def f_X7_startWith (g : xG) (a0 : Nat) (a1 : Int32) : Option xG :=
  (xp_i g 8 a0 0 a1).bind fun g18 =>
  f_X7_startWith_7 xFU g18 a0 a1 0
def f_X7_isNode (g : xG) (a0 : Nat) (a1 : Int32) : Option Int32 :=
  if a1 < 0 then
    some 0
  else
    (xg_i g 8 a0 0).bind fun x1 =>
    if x1 ≤ a1 then
      some 0
    else
      some 1
def f_X7_isLetter (g : xG) (a0 : Nat) (a1 : Int32) : Option Int32 :=
  if a1 < 0 then
    some 0
  else
    (xg_r g 8 a0 2).bind fun x1 =>
    (xg_i g 6 x1 0).bind fun x3 =>
    if x3 ≤ a1 then
      some 0
    else
      some 1
def f_X7_isEvidence (g : xG) (a0 : Nat) (a1 : Int32) : Option Int32 :=
  if a1 < 0 then
    some 0
  else
    (xg_i g 8 a0 4).bind fun x1 =>
    if x1 ≤ a1 then
      some 0
    else
      some 1
def f_X7_isWitness (g : xG) (a0 : Nat) (a1 : Int32) (a2 : Int32) : Option Int32 :=
  (xg_i g 8 a0 0).bind fun x1 =>
  (xnz x1).bind fun _ =>
  if a1 = ((a2 + 1) - (a2 + 1) / x1 * x1) then
    some 1
  else
    (xg_i g 8 a0 0).bind fun x4 =>
    (xnz x4).bind fun _ =>
    if a1 = ((a2 + 2) - (a2 + 2) / x4 * x4) then
      some 1
    else
      some 0
def f_X7_sendMessage (g : xG) (a0 : Nat) (a1 : Nat) (a2 : Int32) (a3 : Int32) : Option xG :=
  (xg_r g 5 a1 2).bind fun x1 =>
  (xg_r g 3 x1 4).bind fun x3 =>
  (xg_i g 3 x1 0).bind fun x5 =>
  (xa_l g x3 x5).bind fun x7 =>
  (xk g 3 x1).bind fun _ =>
  (f_X2_append g x1 3 a2 a3).bind fun g11 =>
  (xg_r g11 8 a0 2).bind fun x12 =>
  (xg_i g11 6 x12 1).bind fun x14 =>
  (xp_i g11 6 x12 1 (x14 + 1)).bind fun g16 =>
  (xg_r g16 8 a0 2).bind fun x18 =>
  (xk g16 6 x18).bind fun _ =>
  (f_X5_hasRoom g16 x18).bind fun x22 =>
  if x22 = 0 then
    some g16
  else
    (xg_r g16 8 a0 2).bind fun x23 =>
    (xk g16 6 x23).bind fun _ =>
    x2 (f_X5_addLast g16 x23) fun x27 g28 =>
    (xg_i g28 5 a1 0).bind fun x29 =>
    (xk g28 2 x27).bind fun _ =>
    (f_X1_address g28 x27 1 x29 a2).bind fun g33 =>
    (xp_i g33 2 x27 3 a3).bind fun g34 =>
    (xg_i g34 3 x1 0).bind fun x36 =>
    (xg_i g34 5 a1 0).bind fun x38 =>
    (xg_i g34 3 x1 0).bind fun x40 =>
    (xg_r g34 3 x1 4).bind fun x42 =>
    (xg_i g34 3 x1 0).bind fun x44 =>
    (xa_l g34 x42 x44).bind fun x46 =>
    (f_X7_signatureOf x38 x40 x46).bind fun x49 =>
    (xk g34 2 x27).bind fun _ =>
    (f_X1_seal g34 x27 x36 x7 x49).bind fun g52 =>
    some g52
def f_X7_sendWhatIsDue (g : xG) (a0 : Nat) (a1 : Nat) : Option xG :=
  (xg_r g 5 a1 1).bind fun x1 =>
  (xg_i g 4 x1 4).bind fun x3 =>
  if x3 = 0 then
    some g
  else
    (xg_r g 5 a1 1).bind fun x5 =>
    (xg_i g 4 x5 5).bind fun x7 =>
    (xg_r g 5 a1 1).bind fun x9 =>
    (xg_i g 4 x9 6).bind fun x11 =>
    (xk g 8 a0).bind fun _ =>
    (f_X7_sendMessage g a0 a1 x7 x11).bind fun g15 =>
    some g15
def f_X7_sendNote (g : xG) (a0 : Nat) (a1 : Int32) (a2 : Nat) (a3 : Int32) (a4 : Int32) : Option (Int32 × xG) :=
  (xg_r g 7 a2 1).bind fun x1 =>
  (xa_i 1 g x1 a3).bind fun x3 =>
  (xg_i g 8 a0 0).bind fun x5 =>
  (xnz x5).bind fun _ =>
  if ((x3 + a4) - (x3 + a4) / x5 * x5) = a1 then
    some (0, g)
  else
    (xg_r g 8 a0 2).bind fun x8 =>
    (xg_i g 6 x8 1).bind fun x10 =>
    (xp_i g 6 x8 1 (x10 + 1)).bind fun g12 =>
    (xg_r g12 8 a0 2).bind fun x14 =>
    (xk g12 6 x14).bind fun _ =>
    (f_X5_hasRoom g12 x14).bind fun x18 =>
    if x18 = 0 then
      some (1, g12)
    else
      (xg_r g12 8 a0 2).bind fun x19 =>
      (xk g12 6 x19).bind fun _ =>
      x2 (f_X5_addLast g12 x19) fun x23 g24 =>
      (xk g24 2 x23).bind fun _ =>
      (f_X1_address g24 x23 2 x3 ((x3 + a4) - (x3 + a4) / x5 * x5)).bind fun g27 =>
      (xg_r g27 7 a2 2).bind fun x28 =>
      (xa_i 1 g27 x28 a3).bind fun x30 =>
      (xg_r g27 7 a2 3).bind fun x32 =>
      (xa_l g27 x32 a3).bind fun x34 =>
      (xg_r g27 7 a2 2).bind fun x36 =>
      (xa_i 1 g27 x36 a3).bind fun x38 =>
      (xg_r g27 7 a2 3).bind fun x40 =>
      (xa_l g27 x40 a3).bind fun x42 =>
      (f_X7_signatureOf x3 x38 x42).bind fun x45 =>
      (xk g27 2 x23).bind fun _ =>
      (f_X1_seal g27 x23 x30 x34 x45).bind fun g48 =>
      some (1, g48)
def f_X7_takeMessage (g : xG) (a0 : Nat) (a1 : Nat) : Option (Int32 × xG) :=
  (xg_r g 8 a0 1).bind fun x1 =>
  (xg_i g 2 a1 2).bind fun x3 =>
  (xa_r 5 g x1 x3).bind fun x5 =>
  (xg_l g 2 a1 5).bind fun x7 =>
  (xg_i g 2 a1 2).bind fun x9 =>
  (xg_i g 2 a1 3).bind fun x11 =>
  (f_X7_headBehind x7 3 x9 x11).bind fun x14 =>
  (xg_l g 2 a1 6).bind fun x15 =>
  (xg_i g 2 a1 1).bind fun x17 =>
  (xg_i g 2 a1 4).bind fun x19 =>
  (f_X7_signatureOf x17 x19 x14).bind fun x22 =>
  if x15 = x22 then
    (xg_i g 2 a1 1).bind fun x23 =>
    (xg_i g 2 a1 4).bind fun x25 =>
    (xk g 5 x5).bind fun _ =>
    (f_X4_hasTaken g x5 x23 x25).bind fun x29 =>
    if x29 = 0 then
      (xg_r g 5 x5 2).bind fun x30 =>
      (xk g 3 x30).bind fun _ =>
      (f_X2_hasTwoPlaces g x30).bind fun x34 =>
      if x34 = 0 then
        some (0, g)
      else
        (xg_i g 2 a1 1).bind fun x35 =>
        (xg_i g 2 a1 4).bind fun x37 =>
        (xk g 5 x5).bind fun _ =>
        (f_X4_noteTaken g x5 x35 x37).bind fun g41 =>
        (xg_r g41 5 x5 2).bind fun x42 =>
        (xg_i g41 2 a1 1).bind fun x44 =>
        (xg_i g41 2 a1 3).bind fun x46 =>
        (xk g41 3 x42).bind fun _ =>
        (f_X2_append g41 x42 2 x44 x46).bind fun g50 =>
        (xg_r g50 5 x5 3).bind fun x51 =>
        (xg_i g50 2 a1 1).bind fun x53 =>
        (xg_i g50 2 a1 4).bind fun x55 =>
        (xk g50 7 x51).bind fun _ =>
        x2 (f_X6_keep g50 x51 x53 x55 x14 0) fun x59 g60 =>
        (xg_r g60 5 x5 1).bind fun x61 =>
        (xg_i g60 2 a1 3).bind fun x63 =>
        (xg_i g60 2 a1 1).bind fun x65 =>
        (xk g60 4 x61).bind fun _ =>
        (f_X3_stepReceipt g60 x61 x63 x65).bind fun g69 =>
        (xk g69 8 a0).bind fun _ =>
        (f_X7_sendWhatIsDue g69 a0 x5).bind fun g72 =>
        some (1, g72)
    else
      some (0, g)
  else
    some (0, g)
def f_X7_takeNote (g : xG) (a0 : Nat) (a1 : Nat) : Option (Int32 × xG) :=
  (xg_l g 2 a1 6).bind fun x1 =>
  (xg_i g 2 a1 1).bind fun x3 =>
  (xg_i g 2 a1 4).bind fun x5 =>
  (xg_l g 2 a1 5).bind fun x7 =>
  (f_X7_signatureOf x3 x5 x7).bind fun x10 =>
  if x1 = x10 then
    (xg_r g 8 a0 1).bind fun x11 =>
    (xg_i g 2 a1 2).bind fun x13 =>
    (xa_r 5 g x11 x13).bind fun x15 =>
    (xg_r g 5 x15 3).bind fun x17 =>
    (xg_i g 2 a1 1).bind fun x19 =>
    (xg_i g 2 a1 4).bind fun x21 =>
    (xg_l g 2 a1 5).bind fun x23 =>
    (xk g 7 x17).bind fun _ =>
    x2 (f_X6_keep g x17 x19 x21 x23 1) fun x27 g28 =>
    if x27 = 0 then
      some (0, g28)
    else
      some (1, g28)
  else
    some (0, g)
def f_X7_replayEntry (g : xG) (a0 : Nat) (a1 : Int32) (a2 : Nat) (a3 : Int32) : Option (Int32 × xG) :=
  (xg_r g 3 a2 1).bind fun x1 =>
  (xa_i 1 g x1 a3).bind fun x3 =>
  (xg_r g 3 a2 2).bind fun x5 =>
  (xa_i 1 g x5 a3).bind fun x7 =>
  (xg_r g 3 a2 3).bind fun x9 =>
  (xa_i 1 g x9 a3).bind fun x11 =>
  (xg_r g 8 a0 5).bind fun x13 =>
  (xg_i g 4 x13 4).bind fun x15 =>
  if x15 = 0 then
    if x3 = 1 then
      if x7 = 0 then
        (xg_r g 8 a0 5).bind fun x33 =>
        (xk g 4 x33).bind fun _ =>
        (f_X3_stepInput g x33 x11).bind fun g37 =>
        some (1, g37)
      else
        if x3 = 2 then
          (xk g 8 a0).bind fun _ =>
          (f_X7_isNode g a0 x7).bind fun x27 =>
          if x27 = 0 then
            some (0, g)
          else
            if x7 = a1 then
              some (0, g)
            else
              (xg_r g 8 a0 5).bind fun x28 =>
              (xk g 4 x28).bind fun _ =>
              (f_X3_stepReceipt g x28 x11 x7).bind fun g32 =>
              some (1, g32)
        else
          some (0, g)
    else
      if x3 = 2 then
        (xk g 8 a0).bind fun _ =>
        (f_X7_isNode g a0 x7).bind fun x19 =>
        if x19 = 0 then
          some (0, g)
        else
          if x7 = a1 then
            some (0, g)
          else
            (xg_r g 8 a0 5).bind fun x20 =>
            (xk g 4 x20).bind fun _ =>
            (f_X3_stepReceipt g x20 x11 x7).bind fun g24 =>
            some (1, g24)
      else
        some (0, g)
  else
    (xg_r g 8 a0 5).bind fun x38 =>
    (xp_z g 4 x38 4 0).bind fun g40 =>
    if x3 = 3 then
      (xg_r g40 8 a0 5).bind fun x42 =>
      (xg_i g40 4 x42 5).bind fun x44 =>
      if x7 = x44 then
        (xg_r g40 8 a0 5).bind fun x46 =>
        (xg_i g40 4 x46 6).bind fun x48 =>
        if x11 = x48 then
          some (1, g40)
        else
          some (0, g40)
      else
        some (0, g40)
    else
      some (0, g40)
def f_X7_firstWrong_14 : Nat → xG → Nat → Int32 → Nat → Int32 → Option (Int32 × xG)
  | 0, _, _, _, _, _ => none
  | n9 + 1, g, v0, v1, v2, v3 =>
  (xg_i g 3 v2 0).bind fun x1 =>
  if x1 < v3 then
    (xg_r g 8 v0 5).bind fun x3 =>
    (xg_i g 4 x3 4).bind fun x5 =>
    if x5 = 0 then
      some ((-1), g)
    else
      (xg_i g 3 v2 0).bind fun x7 =>
      some ((x7 + 1), g)
  else
    (xk g 8 v0).bind fun _ =>
    x2 (f_X7_replayEntry g v0 v1 v2 v3) fun x11 g12 =>
    if x11 = 0 then
      some (v3, g12)
    else
      f_X7_firstWrong_14 n9 g12 v0 v1 v2 (v3 + 1)
def f_X7_firstWrong (g : xG) (a0 : Nat) (a1 : Int32) (a2 : Nat) : Option (Int32 × xG) :=
  (xg_r g 8 a0 5).bind fun x13 =>
  (xg_i g 8 a0 0).bind fun x15 =>
  (xk g 4 x13).bind fun _ =>
  (f_X3_restart g x13 a1 x15).bind fun g19 =>
  f_X7_firstWrong_14 xFU g19 a0 a1 a2 1
def f_X7_writeLog_35 : Nat → xG → Nat → Nat → Nat → Int32 → Option xG
  | 0, _, _, _, _, _ => none
  | n9 + 1, g, v0, v2, v3, v4 =>
  (xg_i g 3 v3 0).bind fun x1 =>
  if x1 < v4 then
    (xg_i g 5 v2 0).bind fun x3 =>
    (xg_i g 3 v3 0).bind fun x5 =>
    (xg_r g 3 v3 4).bind fun x7 =>
    (xg_i g 3 v3 0).bind fun x9 =>
    (xa_l g x7 x9).bind fun x11 =>
    (f_X7_signatureOf x3 x5 x11).bind fun x14 =>
    (xk g 1 v0).bind fun _ =>
    (f_X0_append g v0 x14 8).bind fun g17 =>
    some g17
  else
    (xg_r g 3 v3 1).bind fun x18 =>
    (xa_i 1 g x18 v4).bind fun x20 =>
    (xk g 1 v0).bind fun _ =>
    (f_X0_append g v0 (Int32.toInt64 x20) 1).bind fun g24 =>
    (xg_r g24 3 v3 2).bind fun x25 =>
    (xa_i 1 g24 x25 v4).bind fun x27 =>
    (xk g24 1 v0).bind fun _ =>
    (f_X0_append g24 v0 (Int32.toInt64 x27) 1).bind fun g31 =>
    (xg_r g31 3 v3 3).bind fun x32 =>
    (xa_i 1 g31 x32 v4).bind fun x34 =>
    (xk g31 1 v0).bind fun _ =>
    (f_X0_append g31 v0 (Int32.toInt64 x34) 4).bind fun g38 =>
    f_X7_writeLog_35 n9 g38 v0 v2 v3 (v4 + 1)
def f_X7_writeLog (g : xG) (a0 : Nat) (a1 : Int32) (a2 : Nat) : Option xG :=
  (xg_r g 5 a2 2).bind fun x39 =>
  (xk g 1 a0).bind fun _ =>
  (f_X0_append g a0 (Int32.toInt64 a1) 1).bind fun g43 =>
  (xg_i g43 5 a2 0).bind fun x44 =>
  (xk g43 1 a0).bind fun _ =>
  (f_X0_append g43 a0 (Int32.toInt64 x44) 1).bind fun g48 =>
  (xg_i g48 3 x39 0).bind fun x49 =>
  (xk g48 1 a0).bind fun _ =>
  (f_X0_append g48 a0 (Int32.toInt64 x49) 2).bind fun g53 =>
  f_X7_writeLog_35 xFU g53 a0 a2 x39 1
def f_X7_readEntries_21 : Nat → xG → Nat → Nat → Int32 → Int32 → Int32 → Option (Int32 × xG)
  | 0, _, _, _, _, _, _ => none
  | n9 + 1, g, v0, v1, v2, v3, v4 =>
  if v2 < v4 then
    some (1, g)
  else
    (xk g 1 v1).bind fun _ =>
    (f_X0_byteAt g v1 v3).bind fun x3 =>
    if x3 < 1 then
      some (0, g)
    else
      if x3 ≤ 3 then
        (xg_r g 8 v0 6).bind fun x4 =>
        (xk g 1 v1).bind fun _ =>
        (f_X0_byteAt g v1 (v3 + 1)).bind fun x8 =>
        (xk g 1 v1).bind fun _ =>
        (f_X0_numberAt g v1 (v3 + 2) 4).bind fun x11 =>
        (xk g 3 x4).bind fun _ =>
        (f_X2_append g x4 x3 x8 (Int64.toInt32 x11)).bind fun g14 =>
        f_X7_readEntries_21 n9 g14 v0 v1 v2 (v3 + 6) (v4 + 1)
      else
        some (0, g)
def f_X7_readEntries (g : xG) (a0 : Nat) (a1 : Nat) : Option (Int32 × xG) :=
  (xk g 1 a1).bind fun _ =>
  (f_X0_numberAt g a1 2 2).bind fun x17 =>
  (xg_r g 8 a0 6).bind fun x18 =>
  (xp_i g 3 x18 0 0).bind fun g20 =>
  f_X7_readEntries_21 xFU g20 a0 a1 (Int64.toInt32 x17) 4 1
def f_X7_provesFork (g : xG) (a0 : Nat) (a1 : Nat) (a2 : Int32) (a3 : Int32) : Option Int32 :=
  (xk g 1 a1).bind fun _ =>
  (f_X0_numberAt g a1 a3 2).bind fun x3 =>
  (xk g 1 a1).bind fun _ =>
  (f_X0_numberAt g a1 (a3 + 2) 8).bind fun x6 =>
  if (Int64.toInt32 x3) < 1 then
    some 0
  else
    (xg_r g 8 a0 6).bind fun x7 =>
    (xg_i g 3 x7 0).bind fun x9 =>
    if x9 < (Int64.toInt32 x3) then
      some 0
    else
      (xk g 1 a1).bind fun _ =>
      (f_X0_numberAt g a1 (a3 + 10) 8).bind fun x13 =>
      (f_X7_signatureOf a2 (Int64.toInt32 x3) x6).bind fun x15 =>
      if x13 = x15 then
        (xg_r g 8 a0 6).bind fun x16 =>
        (xg_r g 3 x16 4).bind fun x18 =>
        (xa_l g x18 (Int64.toInt32 x3)).bind fun x20 =>
        if x6 = x20 then
          some 0
        else
          some 1
      else
        some 0
def f_X7_provesRun (g : xG) (a0 : Nat) (a1 : Nat) (a2 : Int32) (a3 : Int32) : Option (Int32 × xG) :=
  (xg_r g 8 a0 6).bind fun x1 =>
  (xk g 8 a0).bind fun _ =>
  x2 (f_X7_firstWrong g a0 a2 x1) fun x5 g6 =>
  if x5 = (-1) then
    some (0, g6)
  else
    (xk g6 1 a1).bind fun _ =>
    (f_X0_numberAt g6 a1 a3 2).bind fun x9 =>
    if (Int32.toInt64 x5) = x9 then
      some (1, g6)
    else
      some (0, g6)
def f_X7_proves (g : xG) (a0 : Nat) (a1 : Nat) : Option (Int32 × xG) :=
  (xk g 1 a1).bind fun _ =>
  (f_X0_isWhole g a1).bind fun x3 =>
  if x3 = 0 then
    some (0, g)
  else
    (xk g 1 a1).bind fun _ =>
    (f_X0_byteAt g a1 1).bind fun x6 =>
    (xk g 8 a0).bind fun _ =>
    (f_X7_isNode g a0 x6).bind fun x9 =>
    if x9 = 0 then
      some (0, g)
    else
      (xk g 8 a0).bind fun _ =>
      x2 (f_X7_readEntries g a0 a1) fun x12 g13 =>
      if x12 = 0 then
        some (0, g13)
      else
        (xk g13 1 a1).bind fun _ =>
        (f_X0_byteAt g13 a1 1).bind fun x16 =>
        (xg_r g13 8 a0 6).bind fun x17 =>
        (xg_i g13 3 x17 0).bind fun x19 =>
        (xk g13 1 a1).bind fun _ =>
        (f_X0_numberAt g13 a1 (4 + (x19 * 6)) 8).bind fun x23 =>
        (xg_r g13 8 a0 6).bind fun x24 =>
        (xg_i g13 3 x24 0).bind fun x26 =>
        (xg_r g13 8 a0 6).bind fun x28 =>
        (xg_r g13 3 x28 4).bind fun x30 =>
        (xg_r g13 8 a0 6).bind fun x32 =>
        (xg_i g13 3 x32 0).bind fun x34 =>
        (xa_l g13 x30 x34).bind fun x36 =>
        (f_X7_signatureOf x16 x26 x36).bind fun x39 =>
        if x23 = x39 then
          (xk g13 1 a1).bind fun _ =>
          (f_X0_byteAt g13 a1 0).bind fun x42 =>
          if x42 = 1 then
            (xk g13 8 a0).bind fun _ =>
            (f_X7_provesFork g13 a0 a1 x16 ((4 + (x19 * 6)) + 8)).bind fun x51 =>
            (xz x51).bind fun x53 =>
            some (x53, g13)
          else
            (xk g13 8 a0).bind fun _ =>
            x2 (f_X7_provesRun g13 a0 a1 x16 ((4 + (x19 * 6)) + 8)) fun x45 g46 =>
            (xz x45).bind fun x48 =>
            some (x48, g46)
        else
          some (0, g13)
def f_X8_thrown (g : xG) (a0 : Nat) : Option Int32 :=
  (xg_i g 9 a0 0).bind fun x1 =>
  some x1
def f_X8_open_104 : Nat → xG → Nat → Int32 → Option xG
  | 0, _, _, _ => none
  | n9 + 1, g, v0, v2 =>
  if 36 ≤ v2 then
    some g
  else
    (xg_r g 9 v0 9).bind fun x1 =>
    (xs_i 1 g x1 v2 0).bind fun g3 =>
    f_X8_open_104 n9 g3 v0 (v2 + 1)
def f_X8_open_55 : Nat → xG → Nat → Int32 → Option xG
  | 0, _, _, _ => none
  | n9 + 1, g, v0, v2 =>
  if 6 ≤ v2 then
    f_X8_open_104 xFU g v0 0
  else
    (xg_r g 9 v0 2).bind fun x5 =>
    (xs_i 1 g x5 v2 0).bind fun g7 =>
    (xg_r g7 9 v0 3).bind fun x9 =>
    (xs_i 1 g7 x9 v2 0).bind fun g11 =>
    (xg_r g11 9 v0 4).bind fun x13 =>
    (xs_i 1 g11 x13 v2 0).bind fun g15 =>
    (xg_r g15 9 v0 8).bind fun x17 =>
    (xs_i 3 g15 x17 v2 0).bind fun g19 =>
    (xg_r g19 9 v0 23).bind fun x21 =>
    (xs_i 1 g19 x21 v2 0).bind fun g23 =>
    f_X8_open_55 n9 g23 v0 (v2 + 1)
def f_X8_open_17 (g : xG) (v0 : Nat) (v1 : Int32) (s0 : Nat) (s1 : Int32) : Option xG :=
  (xp_i g 9 s0 0 s1).bind fun g25 =>
  (xg_i g25 9 v0 0).bind fun x27 =>
  if x27 ≤ 0 then
    (xp_i g25 9 v0 1 v1).bind fun g29 =>
    (xp_i g29 9 v0 10 0).bind fun g31 =>
    (xp_i g31 9 v0 11 0).bind fun g33 =>
    (xp_i g33 9 v0 19 0).bind fun g35 =>
    (xp_i g35 9 v0 28 0).bind fun g37 =>
    f_X8_open_55 xFU g37 v0 0
  else
    some g25
def f_X8_open_12 (g : xG) (v0 : Nat) (v1 : Int32) (s0 : Nat) : Option xG :=
  f_X8_open_17 g v0 v1 s0 1
def f_X8_open (g : xG) (a0 : Nat) (a1 : Int32) : Option xG :=
  if a1 < 3 then
    f_X8_open_12 g a0 a1 a0
  else
    if a1 ≤ 6 then
      f_X8_open_17 g a0 a1 a0 0
    else
      f_X8_open_12 g a0 a1 a0
def f_X8_mix (a0 : Int64) (a1 : Int64) : Option Int64 :=
  some (((a0 ^^^ a1) * (-7046029254386353131)) ^^^ (xlushr ((a0 ^^^ a1) * (-7046029254386353131)) 29))
def f_X8_headBehind (a0 : Int64) (a1 : Int32) (a2 : Int32) (a3 : Int32) : Option Int64 :=
  (f_X8_mix 7 a0).bind fun x2 =>
  (f_X8_mix x2 (Int32.toInt64 a1)).bind fun x4 =>
  (f_X8_mix x4 (Int32.toInt64 a2)).bind fun x6 =>
  (f_X8_mix x6 (Int32.toInt64 a3)).bind fun x8 =>
  some x8
def f_X8_signature (a0 : Int32) (a1 : Int32) (a2 : Int64) : Option Int64 :=
  (f_X8_mix 7 (Int32.toInt64 ((-1) - a0))).bind fun x2 =>
  (f_X8_mix x2 (Int32.toInt64 a1)).bind fun x4 =>
  (f_X8_mix x4 a2).bind fun x6 =>
  some x6
def f_X8_headOf_5 : Nat → xG → Nat → Int32 → Int32 → Int64 → Int32 → Option Int64
  | 0, _, _, _, _, _, _ => none
  | n9 + 1, g, v0, v1, v2, v3, v5 =>
  if v2 ≤ v5 then
    some v3
  else
    (xg_r g 9 v0 5).bind fun x1 =>
    (xa_i 1 g x1 ((151 * v1) + v5)).bind fun x3 =>
    (xg_r g 9 v0 6).bind fun x5 =>
    (xa_i 1 g x5 ((151 * v1) + v5)).bind fun x7 =>
    (xg_r g 9 v0 7).bind fun x9 =>
    (xa_i 1 g x9 ((151 * v1) + v5)).bind fun x11 =>
    (f_X8_headBehind v3 x3 x7 x11).bind fun x14 =>
    f_X8_headOf_5 n9 g v0 v1 v2 x14 (v5 + 1)
def f_X8_headOf (g : xG) (a0 : Nat) (a1 : Int32) (a2 : Int32) : Option Int64 :=
  f_X8_headOf_5 xFU g a0 a1 a2 0 0
def f_X8_no (g : xG) (a0 : Nat) (a1 : Int32) : Option Int32 :=
  if a1 < 0 then
    some 1
  else
    (xg_i g 9 a0 1).bind fun x1 =>
    if a1 < x1 then
      some 0
    else
      some 1
def f_X8_enter (g : xG) (a0 : Nat) (a1 : Int32) (a2 : Int32) (a3 : Int32) (a4 : Int32) : Option xG :=
  (xg_r g 9 a0 4).bind fun x1 =>
  (xa_i 1 g x1 a1).bind fun x3 =>
  (xg_r g 9 a0 5).bind fun x5 =>
  (xs_i 1 g x5 ((151 * a1) + x3) a2).bind fun g7 =>
  (xg_r g7 9 a0 6).bind fun x9 =>
  (xs_i 1 g7 x9 ((151 * a1) + x3) a3).bind fun g11 =>
  (xg_r g11 9 a0 7).bind fun x13 =>
  (xs_i 1 g11 x13 ((151 * a1) + x3) a4).bind fun g15 =>
  (xg_r g15 9 a0 4).bind fun x17 =>
  (xa_i 1 g15 x17 a1).bind fun x19 =>
  (xs_i 1 g15 x17 a1 (x19 + 1)).bind fun g21 =>
  some g21
def f_X8_letter (g : xG) (a0 : Nat) (a1 : Int32) (a2 : Int32) (a3 : Int32) (a4 : Int32) (a5 : Int32) (a6 : Int64) (a7 : Int64) : Option xG :=
  (xg_i g 9 a0 11).bind fun x1 =>
  (xp_i g 9 a0 11 (x1 + 1)).bind fun g3 =>
  (xg_i g3 9 a0 10).bind fun x5 =>
  if x5 = 200 then
    some g3
  else
    (xg_r g3 9 a0 12).bind fun x7 =>
    (xg_i g3 9 a0 10).bind fun x9 =>
    (xs_i 1 g3 x7 x9 a1).bind fun g11 =>
    (xg_r g11 9 a0 13).bind fun x13 =>
    (xg_i g11 9 a0 10).bind fun x15 =>
    (xs_i 1 g11 x13 x15 a2).bind fun g17 =>
    (xg_r g17 9 a0 14).bind fun x19 =>
    (xg_i g17 9 a0 10).bind fun x21 =>
    (xs_i 1 g17 x19 x21 a3).bind fun g23 =>
    (xg_r g23 9 a0 15).bind fun x25 =>
    (xg_i g23 9 a0 10).bind fun x27 =>
    (xs_i 1 g23 x25 x27 a4).bind fun g29 =>
    (xg_r g29 9 a0 16).bind fun x31 =>
    (xg_i g29 9 a0 10).bind fun x33 =>
    (xs_i 1 g29 x31 x33 a5).bind fun g35 =>
    (xg_r g35 9 a0 17).bind fun x37 =>
    (xg_i g35 9 a0 10).bind fun x39 =>
    (xs_l g35 x37 x39 a6).bind fun g41 =>
    (xg_r g41 9 a0 18).bind fun x43 =>
    (xg_i g41 9 a0 10).bind fun x45 =>
    (xs_l g41 x43 x45 a7).bind fun g47 =>
    (xg_i g47 9 a0 10).bind fun x49 =>
    (xp_i g47 9 a0 10 (x49 + 1)).bind fun g51 =>
    some g51
def f_X8_send (g : xG) (a0 : Nat) (a1 : Int32) (a2 : Int32) (a3 : Int32) : Option xG :=
  (xg_r g 9 a0 4).bind fun x1 =>
  (xa_i 1 g x1 a1).bind fun x3 =>
  (xk g 9 a0).bind fun _ =>
  (f_X8_headOf g a0 a1 x3).bind fun x7 =>
  (xk g 9 a0).bind fun _ =>
  (f_X8_enter g a0 a1 3 a2 a3).bind fun g10 =>
  (xg_r g10 9 a0 4).bind fun x11 =>
  (xa_i 1 g10 x11 a1).bind fun x13 =>
  (xg_r g10 9 a0 4).bind fun x15 =>
  (xa_i 1 g10 x15 a1).bind fun x17 =>
  (xg_r g10 9 a0 4).bind fun x19 =>
  (xa_i 1 g10 x19 a1).bind fun x21 =>
  (xk g10 9 a0).bind fun _ =>
  (f_X8_headOf g10 a0 a1 x21).bind fun x25 =>
  (f_X8_signature a1 x17 x25).bind fun x27 =>
  (xk g10 9 a0).bind fun _ =>
  (f_X8_letter g10 a0 1 a2 a1 a3 x13 x7 x27).bind fun g30 =>
  some g30
def f_X8_sendsByInput (a0 : Int32) : Option Int32 :=
  if (a0 - a0 / 2 * 2) = 0 then
    some 1
  else
    some 0
def f_X8_target (g : xG) (a0 : Nat) (a1 : Int32) (a2 : Int32) : Option Int32 :=
  (xg_i g 9 a0 1).bind fun x1 =>
  (xnz (x1 - 1)).bind fun _ =>
  (xg_i g 9 a0 1).bind fun x4 =>
  (xnz x4).bind fun _ =>
  some (((a1 + 1) + (((xiushr a2 8) &&& 127) - ((xiushr a2 8) &&& 127) / (x1 - 1) * (x1 - 1))) - ((a1 + 1) + (((xiushr a2 8) &&& 127) - ((xiushr a2 8) &&& 127) / (x1 - 1) * (x1 - 1))) / x4 * x4)
def f_X8_turned (a0 : Int32) : Option Int32 :=
  some ((a0 <<< (5 &&& 31)) ||| (xiushr a0 27))
def f_X8_input_30 (g : xG) (v0 : Nat) (v1 : Int32) (v2 : Int32) (s0 : Nat) (s1 : Int32) : Option (Int32 × xG) :=
  (xp_i g 9 s0 0 s1).bind fun g1 =>
  (xg_i g1 9 v0 0).bind fun x3 =>
  if x3 ≤ 0 then
    (xk g1 9 v0).bind fun _ =>
    (f_X8_enter g1 v0 v1 1 0 v2).bind fun g7 =>
    (xg_r g7 9 v0 2).bind fun x8 =>
    (xg_r g7 9 v0 2).bind fun x10 =>
    (xa_i 1 g7 x10 v1).bind fun x12 =>
    (xs_i 1 g7 x8 v1 ((31 * x12) + v2)).bind fun g14 =>
    (xg_r g14 9 v0 2).bind fun x16 =>
    (xa_i 1 g14 x16 v1).bind fun x18 =>
    (f_X8_sendsByInput x18).bind fun x21 =>
    if x21 = 0 then
      (xg_r g14 9 v0 4).bind fun x22 =>
      (xa_i 1 g14 x22 v1).bind fun x24 =>
      some (x24, g14)
    else
      (xg_r g14 9 v0 2).bind fun x26 =>
      (xa_i 1 g14 x26 v1).bind fun x28 =>
      (xk g14 9 v0).bind fun _ =>
      (f_X8_target g14 v0 v1 x28).bind fun x32 =>
      (xg_r g14 9 v0 2).bind fun x33 =>
      (xa_i 1 g14 x33 v1).bind fun x35 =>
      (xg_r g14 9 v0 3).bind fun x37 =>
      (xa_i 1 g14 x37 v1).bind fun x39 =>
      (xk g14 9 v0).bind fun _ =>
      (f_X8_send g14 v0 v1 x32 ((xiushr x35 1) ^^^ x39)).bind fun g43 =>
      (xg_r g43 9 v0 4).bind fun x44 =>
      (xa_i 1 g43 x44 v1).bind fun x46 =>
      some (x46, g43)
  else
    some (0, g1)
def f_X8_input (g : xG) (a0 : Nat) (a1 : Int32) (a2 : Int32) : Option (Int32 × xG) :=
  (xk g 9 a0).bind fun _ =>
  (f_X8_no g a0 a1).bind fun x50 =>
  if x50 = 0 then
    (xg_r g 9 a0 4).bind fun x51 =>
    (xa_i 1 g x51 a1).bind fun x53 =>
    if x53 ≤ 148 then
      f_X8_input_30 g a0 a1 a2 a0 0
    else
      f_X8_input_30 g a0 a1 a2 a0 2
  else
    f_X8_input_30 g a0 a1 a2 a0 1
def f_X8_lie (g : xG) (a0 : Nat) (a1 : Int32) (a2 : Int32) (a3 : Int32) : Option (Int32 × xG) :=
  (xk g 9 a0).bind fun _ =>
  (f_X8_no g a0 a1).bind fun x3 =>
  if x3 = 0 then
    (xk g 9 a0).bind fun _ =>
    (f_X8_no g a0 a2).bind fun x17 =>
    if x17 = 0 then
      if a1 = a2 then
        (xp_i g 9 a0 0 1).bind fun g55 =>
        (xg_i g55 9 a0 0).bind fun x57 =>
        if x57 ≤ 0 then
          (xk g55 9 a0).bind fun _ =>
          (f_X8_send g55 a0 a1 a2 a3).bind fun g61 =>
          (xg_r g61 9 a0 4).bind fun x62 =>
          (xa_i 1 g61 x62 a1).bind fun x64 =>
          some (x64, g61)
        else
          some (0, g55)
      else
        (xg_r g 9 a0 4).bind fun x29 =>
        (xa_i 1 g x29 a1).bind fun x31 =>
        if x31 ≤ 148 then
          (xp_i g 9 a0 0 0).bind fun g33 =>
          (xg_i g33 9 a0 0).bind fun x35 =>
          if x35 ≤ 0 then
            (xk g33 9 a0).bind fun _ =>
            (f_X8_send g33 a0 a1 a2 a3).bind fun g39 =>
            (xg_r g39 9 a0 4).bind fun x40 =>
            (xa_i 1 g39 x40 a1).bind fun x42 =>
            some (x42, g39)
          else
            some (0, g33)
        else
          (xp_i g 9 a0 0 2).bind fun g44 =>
          (xg_i g44 9 a0 0).bind fun x46 =>
          if x46 ≤ 0 then
            (xk g44 9 a0).bind fun _ =>
            (f_X8_send g44 a0 a1 a2 a3).bind fun g50 =>
            (xg_r g50 9 a0 4).bind fun x51 =>
            (xa_i 1 g50 x51 a1).bind fun x53 =>
            some (x53, g50)
          else
            some (0, g44)
    else
      (xp_i g 9 a0 0 1).bind fun g18 =>
      (xg_i g18 9 a0 0).bind fun x20 =>
      if x20 ≤ 0 then
        (xk g18 9 a0).bind fun _ =>
        (f_X8_send g18 a0 a1 a2 a3).bind fun g24 =>
        (xg_r g24 9 a0 4).bind fun x25 =>
        (xa_i 1 g24 x25 a1).bind fun x27 =>
        some (x27, g24)
      else
        some (0, g18)
  else
    (xp_i g 9 a0 0 1).bind fun g4 =>
    (xg_i g4 9 a0 0).bind fun x6 =>
    if x6 ≤ 0 then
      (xk g4 9 a0).bind fun _ =>
      (f_X8_send g4 a0 a1 a2 a3).bind fun g10 =>
      (xg_r g10 9 a0 4).bind fun x11 =>
      (xa_i 1 g10 x11 a1).bind fun x13 =>
      some (x13, g10)
    else
      some (0, g4)
def f_X8_take_2 : Nat → xG → Nat → Int32 → Option xG
  | 0, _, _, _ => none
  | n9 + 1, g, v0, v2 =>
  (xg_i g 9 v0 10).bind fun x1 =>
  if x1 ≤ (v2 + 1) then
    (xg_i g 9 v0 10).bind fun x3 =>
    (xp_i g 9 v0 10 (x3 - 1)).bind fun g5 =>
    some g5
  else
    (xg_r g 9 v0 12).bind fun x7 =>
    (xg_r g 9 v0 12).bind fun x9 =>
    (xa_i 1 g x9 (v2 + 1)).bind fun x11 =>
    (xs_i 1 g x7 v2 x11).bind fun g13 =>
    (xg_r g13 9 v0 13).bind fun x15 =>
    (xg_r g13 9 v0 13).bind fun x17 =>
    (xa_i 1 g13 x17 (v2 + 1)).bind fun x19 =>
    (xs_i 1 g13 x15 v2 x19).bind fun g21 =>
    (xg_r g21 9 v0 14).bind fun x23 =>
    (xg_r g21 9 v0 14).bind fun x25 =>
    (xa_i 1 g21 x25 (v2 + 1)).bind fun x27 =>
    (xs_i 1 g21 x23 v2 x27).bind fun g29 =>
    (xg_r g29 9 v0 15).bind fun x31 =>
    (xg_r g29 9 v0 15).bind fun x33 =>
    (xa_i 1 g29 x33 (v2 + 1)).bind fun x35 =>
    (xs_i 1 g29 x31 v2 x35).bind fun g37 =>
    (xg_r g37 9 v0 16).bind fun x39 =>
    (xg_r g37 9 v0 16).bind fun x41 =>
    (xa_i 1 g37 x41 (v2 + 1)).bind fun x43 =>
    (xs_i 1 g37 x39 v2 x43).bind fun g45 =>
    (xg_r g45 9 v0 17).bind fun x47 =>
    (xg_r g45 9 v0 17).bind fun x49 =>
    (xa_l g45 x49 (v2 + 1)).bind fun x51 =>
    (xs_l g45 x47 v2 x51).bind fun g53 =>
    (xg_r g53 9 v0 18).bind fun x55 =>
    (xg_r g53 9 v0 18).bind fun x57 =>
    (xa_l g53 x57 (v2 + 1)).bind fun x59 =>
    (xs_l g53 x55 v2 x59).bind fun g61 =>
    f_X8_take_2 n9 g61 v0 (v2 + 1)
def f_X8_take (g : xG) (a0 : Nat) (a1 : Int32) : Option xG :=
  f_X8_take_2 xFU g a0 a1
def f_X8_isKept_3 : Nat → xG → Nat → Int32 → Int32 → Int32 → Int64 → Int32 → Option Int32
  | 0, _, _, _, _, _, _, _ => none
  | n9 + 1, g, v0, v1, v2, v3, v4, v6 =>
  (xg_r g 9 v0 23).bind fun x1 =>
  (xa_i 1 g x1 v1).bind fun x3 =>
  if x3 ≤ v6 then
    some 0
  else
    (xg_r g 9 v0 24).bind fun x5 =>
    (xa_i 1 g x5 ((300 * v1) + v6)).bind fun x7 =>
    if x7 = v2 then
      (xg_r g 9 v0 25).bind fun x9 =>
      (xa_i 1 g x9 ((300 * v1) + v6)).bind fun x11 =>
      if x11 = v3 then
        (xg_r g 9 v0 26).bind fun x13 =>
        (xa_l g x13 ((300 * v1) + v6)).bind fun x15 =>
        if x15 = v4 then
          some 1
        else
          f_X8_isKept_3 n9 g v0 v1 v2 v3 v4 (v6 + 1)
      else
        f_X8_isKept_3 n9 g v0 v1 v2 v3 v4 (v6 + 1)
    else
      f_X8_isKept_3 n9 g v0 v1 v2 v3 v4 (v6 + 1)
def f_X8_isKept (g : xG) (a0 : Nat) (a1 : Int32) (a2 : Int32) (a3 : Int32) (a4 : Int64) : Option Int32 :=
  f_X8_isKept_3 xFU g a0 a1 a2 a3 a4 0
def f_X8_keep (g : xG) (a0 : Nat) (a1 : Int32) (a2 : Int32) (a3 : Int32) (a4 : Int64) (a5 : Int32) : Option (Int32 × xG) :=
  (xg_r g 9 a0 23).bind fun x1 =>
  (xa_i 1 g x1 a1).bind fun x3 =>
  if x3 = 300 then
    some (0, g)
  else
    (xk g 9 a0).bind fun _ =>
    (f_X8_isKept g a0 a1 a2 a3 a4).bind fun x7 =>
    if x7 = 0 then
      (xg_r g 9 a0 23).bind fun x8 =>
      (xa_i 1 g x8 a1).bind fun x10 =>
      (xg_r g 9 a0 24).bind fun x12 =>
      (xs_i 1 g x12 ((300 * a1) + x10) a2).bind fun g14 =>
      (xg_r g14 9 a0 25).bind fun x16 =>
      (xs_i 1 g14 x16 ((300 * a1) + x10) a3).bind fun g18 =>
      (xg_r g18 9 a0 26).bind fun x20 =>
      (xs_l g18 x20 ((300 * a1) + x10) a4).bind fun g22 =>
      (xg_r g22 9 a0 27).bind fun x24 =>
      (xs_i 3 g22 x24 ((300 * a1) + x10) a5).bind fun g26 =>
      (xg_r g26 9 a0 23).bind fun x28 =>
      (xa_i 1 g26 x28 a1).bind fun x30 =>
      (xs_i 1 g26 x28 a1 (x30 + 1)).bind fun g32 =>
      some (1, g32)
    else
      some (0, g)
def f_X8_wasTaken_3 : Nat → xG → Nat → Int32 → Int32 → Int32 → Int32 → Option Int32
  | 0, _, _, _, _, _, _ => none
  | n9 + 1, g, v0, v1, v2, v3, v4 =>
  (xg_i g 9 v0 19).bind fun x1 =>
  if x1 ≤ v4 then
    some 0
  else
    (xg_r g 9 v0 20).bind fun x3 =>
    (xa_i 1 g x3 v4).bind fun x5 =>
    if x5 = v1 then
      (xg_r g 9 v0 21).bind fun x7 =>
      (xa_i 1 g x7 v4).bind fun x9 =>
      if x9 = v2 then
        (xg_r g 9 v0 22).bind fun x11 =>
        (xa_i 1 g x11 v4).bind fun x13 =>
        if x13 = v3 then
          some 1
        else
          f_X8_wasTaken_3 n9 g v0 v1 v2 v3 (v4 + 1)
      else
        f_X8_wasTaken_3 n9 g v0 v1 v2 v3 (v4 + 1)
    else
      f_X8_wasTaken_3 n9 g v0 v1 v2 v3 (v4 + 1)
def f_X8_wasTaken (g : xG) (a0 : Nat) (a1 : Int32) (a2 : Int32) (a3 : Int32) : Option Int32 :=
  f_X8_wasTaken_3 xFU g a0 a1 a2 a3 0
def f_X8_deliver_18 (g : xG) (v0 : Nat) (v1 : Int32) (s0 : Nat) (s1 : Int32) : Option (Int32 × xG) :=
  (xp_i g 9 s0 0 s1).bind fun g1 =>
  (xg_i g1 9 v0 0).bind fun x3 =>
  if x3 ≤ 0 then
    (xg_r g1 9 v0 12).bind fun x5 =>
    (xa_i 1 g1 x5 v1).bind fun x7 =>
    (xg_r g1 9 v0 13).bind fun x9 =>
    (xa_i 1 g1 x9 v1).bind fun x11 =>
    (xg_r g1 9 v0 14).bind fun x13 =>
    (xa_i 1 g1 x13 v1).bind fun x15 =>
    (xg_r g1 9 v0 15).bind fun x17 =>
    (xa_i 1 g1 x17 v1).bind fun x19 =>
    (xg_r g1 9 v0 16).bind fun x21 =>
    (xa_i 1 g1 x21 v1).bind fun x23 =>
    (xg_r g1 9 v0 17).bind fun x25 =>
    (xa_l g1 x25 v1).bind fun x27 =>
    (xg_r g1 9 v0 18).bind fun x29 =>
    (xa_l g1 x29 v1).bind fun x31 =>
    (xk g1 9 v0).bind fun _ =>
    (f_X8_take g1 v0 v1).bind fun g35 =>
    if x7 = 2 then
      (f_X8_signature x15 x23 x27).bind fun x102 =>
      if x31 = x102 then
        (xk g35 9 v0).bind fun _ =>
        x2 (f_X8_keep g35 v0 x11 x15 x23 x27 1) fun x105 g106 =>
        if x105 = 0 then
          some (0, g106)
        else
          some (1, g106)
      else
        some (0, g35)
    else
      (f_X8_headBehind x27 3 x11 x19).bind fun x37 =>
      (f_X8_signature x15 x23 x37).bind fun x39 =>
      if x31 = x39 then
        (xk g35 9 v0).bind fun _ =>
        (f_X8_wasTaken g35 v0 x11 x15 x23).bind fun x42 =>
        if x42 = 0 then
          (xg_r g35 9 v0 4).bind fun x43 =>
          (xa_i 1 g35 x43 x11).bind fun x45 =>
          if x45 ≤ 148 then
            (xg_r g35 9 v0 20).bind fun x47 =>
            (xg_i g35 9 v0 19).bind fun x49 =>
            (xs_i 1 g35 x47 x49 x11).bind fun g51 =>
            (xg_r g51 9 v0 21).bind fun x53 =>
            (xg_i g51 9 v0 19).bind fun x55 =>
            (xs_i 1 g51 x53 x55 x15).bind fun g57 =>
            (xg_r g57 9 v0 22).bind fun x59 =>
            (xg_i g57 9 v0 19).bind fun x61 =>
            (xs_i 1 g57 x59 x61 x23).bind fun g63 =>
            (xg_i g63 9 v0 19).bind fun x65 =>
            (xp_i g63 9 v0 19 (x65 + 1)).bind fun g67 =>
            (xk g67 9 v0).bind fun _ =>
            (f_X8_enter g67 v0 x11 2 x15 x19).bind fun g71 =>
            (xg_r g71 9 v0 3).bind fun x72 =>
            (xg_r g71 9 v0 3).bind fun x74 =>
            (xa_i 1 g71 x74 x11).bind fun x76 =>
            (f_X8_turned (x76 ^^^ (x19 + x15))).bind fun x79 =>
            (xs_i 1 g71 x72 x11 x79).bind fun g80 =>
            (xg_r g80 9 v0 3).bind fun x82 =>
            (xa_i 1 g80 x82 x11).bind fun x84 =>
            if (x84 - x84 / 8 * 8) = 0 then
              (xg_r g80 9 v0 3).bind fun x90 =>
              (xa_i 1 g80 x90 x11).bind fun x92 =>
              (xk g80 9 v0).bind fun _ =>
              (f_X8_send g80 v0 x11 x15 x92).bind fun g96 =>
              (xk g96 9 v0).bind fun _ =>
              x2 (f_X8_keep g96 v0 x11 x15 x23 x37 0) fun x99 g100 =>
              some (1, g100)
            else
              (xk g80 9 v0).bind fun _ =>
              x2 (f_X8_keep g80 v0 x11 x15 x23 x37 0) fun x88 g89 =>
              some (1, g89)
          else
            some (0, g35)
        else
          some (0, g35)
      else
        some (0, g35)
  else
    some (0, g1)
def f_X8_deliver_13 (g : xG) (v0 : Nat) (v1 : Int32) (s0 : Nat) : Option (Int32 × xG) :=
  f_X8_deliver_18 g v0 v1 s0 1
def f_X8_deliver (g : xG) (a0 : Nat) (a1 : Int32) : Option (Int32 × xG) :=
  if a1 < 0 then
    f_X8_deliver_13 g a0 a1 a0
  else
    (xg_i g 9 a0 10).bind fun x107 =>
    if a1 < x107 then
      f_X8_deliver_18 g a0 a1 a0 0
    else
      f_X8_deliver_13 g a0 a1 a0
def f_X8_drop (g : xG) (a0 : Nat) (a1 : Int32) : Option (Int32 × xG) :=
  if a1 < 0 then
    (xp_i g 9 a0 0 1).bind fun g1 =>
    (xg_i g1 9 a0 0).bind fun x3 =>
    if x3 ≤ 0 then
      (xg_r g1 9 a0 12).bind fun x5 =>
      (xa_i 1 g1 x5 a1).bind fun x7 =>
      (xk g1 9 a0).bind fun _ =>
      (f_X8_take g1 a0 a1).bind fun g11 =>
      some (x7, g11)
    else
      some (0, g1)
  else
    (xg_i g 9 a0 10).bind fun x12 =>
    if a1 < x12 then
      (xp_i g 9 a0 0 0).bind fun g14 =>
      (xg_i g14 9 a0 0).bind fun x16 =>
      if x16 ≤ 0 then
        (xg_r g14 9 a0 12).bind fun x18 =>
        (xa_i 1 g14 x18 a1).bind fun x20 =>
        (xk g14 9 a0).bind fun _ =>
        (f_X8_take g14 a0 a1).bind fun g24 =>
        some (x20, g24)
      else
        some (0, g14)
    else
      (xp_i g 9 a0 0 1).bind fun g25 =>
      (xg_i g25 9 a0 0).bind fun x27 =>
      if x27 ≤ 0 then
        (xg_r g25 9 a0 12).bind fun x29 =>
        (xa_i 1 g25 x29 a1).bind fun x31 =>
        (xk g25 9 a0).bind fun _ =>
        (f_X8_take g25 a0 a1).bind fun g35 =>
        some (x31, g35)
      else
        some (0, g25)
def f_X8_copy_18 (g : xG) (v0 : Nat) (v1 : Int32) (s0 : Nat) (s1 : Int32) : Option (Int32 × xG) :=
  (xp_i g 9 s0 0 s1).bind fun g1 =>
  (xg_i g1 9 v0 0).bind fun x3 =>
  if 0 < x3 then
    some (0, g1)
  else
    (xg_i g1 9 v0 10).bind fun x5 =>
    if x5 = 200 then
      some (0, g1)
    else
      (xg_r g1 9 v0 12).bind fun x7 =>
      (xa_i 1 g1 x7 v1).bind fun x9 =>
      (xg_r g1 9 v0 13).bind fun x11 =>
      (xa_i 1 g1 x11 v1).bind fun x13 =>
      (xg_r g1 9 v0 14).bind fun x15 =>
      (xa_i 1 g1 x15 v1).bind fun x17 =>
      (xg_r g1 9 v0 15).bind fun x19 =>
      (xa_i 1 g1 x19 v1).bind fun x21 =>
      (xg_r g1 9 v0 16).bind fun x23 =>
      (xa_i 1 g1 x23 v1).bind fun x25 =>
      (xg_r g1 9 v0 17).bind fun x27 =>
      (xa_l g1 x27 v1).bind fun x29 =>
      (xg_r g1 9 v0 18).bind fun x31 =>
      (xa_l g1 x31 v1).bind fun x33 =>
      (xk g1 9 v0).bind fun _ =>
      (f_X8_letter g1 v0 x9 x13 x17 x21 x25 x29 x33).bind fun g37 =>
      (xg_i g37 9 v0 11).bind fun x38 =>
      (xp_i g37 9 v0 11 (x38 - 1)).bind fun g40 =>
      some (1, g40)
def f_X8_copy_13 (g : xG) (v0 : Nat) (v1 : Int32) (s0 : Nat) : Option (Int32 × xG) :=
  f_X8_copy_18 g v0 v1 s0 1
def f_X8_copy (g : xG) (a0 : Nat) (a1 : Int32) : Option (Int32 × xG) :=
  if a1 < 0 then
    f_X8_copy_13 g a0 a1 a0
  else
    (xg_i g 9 a0 10).bind fun x42 =>
    if a1 < x42 then
      f_X8_copy_18 g a0 a1 a0 0
    else
      f_X8_copy_13 g a0 a1 a0
def f_X8_spoil (g : xG) (a0 : Nat) (a1 : Int32) (a2 : Int32) : Option (Int32 × xG) :=
  if a1 < 0 then
    (xp_i g 9 a0 0 1).bind fun g1 =>
    (xg_i g1 9 a0 0).bind fun x3 =>
    if x3 ≤ 0 then
      (xg_r g1 9 a0 15).bind fun x5 =>
      (xa_i 1 g1 x5 a1).bind fun x7 =>
      (xg_r g1 9 a0 15).bind fun x9 =>
      (xs_i 1 g1 x9 a1 a2).bind fun g11 =>
      some (x7, g11)
    else
      some (0, g1)
  else
    (xg_i g 9 a0 10).bind fun x13 =>
    if a1 < x13 then
      (xg_r g 9 a0 12).bind fun x15 =>
      (xa_i 1 g x15 a1).bind fun x17 =>
      if x17 = 1 then
        (xp_i g 9 a0 0 0).bind fun g19 =>
        (xg_i g19 9 a0 0).bind fun x21 =>
        if x21 ≤ 0 then
          (xg_r g19 9 a0 15).bind fun x23 =>
          (xa_i 1 g19 x23 a1).bind fun x25 =>
          (xg_r g19 9 a0 15).bind fun x27 =>
          (xs_i 1 g19 x27 a1 a2).bind fun g29 =>
          some (x25, g29)
        else
          some (0, g19)
      else
        (xp_i g 9 a0 0 1).bind fun g31 =>
        (xg_i g31 9 a0 0).bind fun x33 =>
        if x33 ≤ 0 then
          (xg_r g31 9 a0 15).bind fun x35 =>
          (xa_i 1 g31 x35 a1).bind fun x37 =>
          (xg_r g31 9 a0 15).bind fun x39 =>
          (xs_i 1 g31 x39 a1 a2).bind fun g41 =>
          some (x37, g41)
        else
          some (0, g31)
    else
      (xp_i g 9 a0 0 1).bind fun g43 =>
      (xg_i g43 9 a0 0).bind fun x45 =>
      if x45 ≤ 0 then
        (xg_r g43 9 a0 15).bind fun x47 =>
        (xa_i 1 g43 x47 a1).bind fun x49 =>
        (xg_r g43 9 a0 15).bind fun x51 =>
        (xs_i 1 g43 x51 a1 a2).bind fun g53 =>
        some (x49, g53)
      else
        some (0, g43)
def f_X8_forward_82 (k21 : xG → Nat → Int32 → Int32 → Int32 → Option (Int32 × xG)) : Nat → xG → Nat → Int32 → Int32 → Int32 → Int32 → Int32 → Option (Int32 × xG)
  | 0, _, _, _, _, _, _, _ => none
  | n9 + 1, g, v0, v1, v2, v3, v4, v5 =>
  if 3 ≤ v5 then
    k21 g v0 v1 v2 (v3 + 1)
  else
    (xg_r g 9 v0 24).bind fun x1 =>
    (xa_i 1 g x1 v4).bind fun x3 =>
    (xg_i g 9 v0 1).bind fun x5 =>
    (xnz x5).bind fun _ =>
    if ((x3 + v5) - (x3 + v5) / x5 * x5) = v1 then
      f_X8_forward_82 k21 n9 g v0 v1 v2 v3 v4 (v5 + 1)
    else
      (xg_r g 9 v0 24).bind fun x8 =>
      (xa_i 1 g x8 v4).bind fun x10 =>
      (xg_r g 9 v0 25).bind fun x12 =>
      (xa_i 1 g x12 v4).bind fun x14 =>
      (xg_r g 9 v0 26).bind fun x16 =>
      (xa_l g x16 v4).bind fun x18 =>
      (xg_r g 9 v0 24).bind fun x20 =>
      (xa_i 1 g x20 v4).bind fun x22 =>
      (xg_r g 9 v0 25).bind fun x24 =>
      (xa_i 1 g x24 v4).bind fun x26 =>
      (xg_r g 9 v0 26).bind fun x28 =>
      (xa_l g x28 v4).bind fun x30 =>
      (f_X8_signature x22 x26 x30).bind fun x33 =>
      (xk g 9 v0).bind fun _ =>
      (f_X8_letter g v0 2 ((x3 + v5) - (x3 + v5) / x5 * x5) x10 0 x14 x18 x33).bind fun g36 =>
      f_X8_forward_82 k21 n9 g36 v0 v1 (v2 + 1) v3 v4 (v5 + 1)
def f_X8_forward_38 (k21 : xG → Nat → Int32 → Int32 → Int32 → Option (Int32 × xG)) (g : xG) (v0 : Nat) (v1 : Int32) (v2 : Int32) (v3 : Int32) (s0 : Int32) (s1 : Nat) (s2 : Int32) : Option (Int32 × xG) :=
  (xa_i 1 g s1 s2).bind fun x37 =>
  if x37 ≤ s0 then
    some (v2, g)
  else
    (xg_i g 9 v0 0).bind fun x39 =>
    if x39 = 0 then
      (xg_r g 9 v0 27).bind fun x41 =>
      (xa_i 3 g x41 ((300 * v1) + v3)).bind fun x43 =>
      if x43 = 0 then
        (xg_r g 9 v0 27).bind fun x45 =>
        (xs_i 3 g x45 ((300 * v1) + v3) 1).bind fun g47 =>
        f_X8_forward_82 k21 xFU g47 v0 v1 v2 v3 ((300 * v1) + v3) 1
      else
        k21 g v0 v1 v2 (v3 + 1)
    else
      some (v2, g)
def f_X8_forward_21 : Nat → xG → Nat → Int32 → Int32 → Int32 → Option (Int32 × xG)
  | 0, _, _, _, _, _ => none
  | n9 + 1, g, v0, v1, v2, v3 =>
  (xg_r g 9 v0 23).bind fun x49 =>
  (xg_i g 9 v0 0).bind fun x51 =>
  if x51 ≤ 0 then
    f_X8_forward_38 (f_X8_forward_21 n9) g v0 v1 v2 v3 v3 x49 v1
  else
    f_X8_forward_38 (f_X8_forward_21 n9) g v0 v1 v2 v3 v3 x49 0
def f_X8_forward_14 (g : xG) (v0 : Nat) (v1 : Int32) (s0 : Nat) (s1 : Int32) : Option (Int32 × xG) :=
  (xp_i g 9 s0 0 s1).bind fun g53 =>
  f_X8_forward_21 xFU g53 v0 v1 0 0
def f_X8_forward (g : xG) (a0 : Nat) (a1 : Int32) : Option (Int32 × xG) :=
  (xk g 9 a0).bind fun _ =>
  (f_X8_no g a0 a1).bind fun x57 =>
  if x57 = 0 then
    f_X8_forward_14 g a0 a1 a0 0
  else
    f_X8_forward_14 g a0 a1 a0 1
def f_X8_bend_14 (g : xG) (v0 : Nat) (v1 : Int32) (v2 : Int32) (v3 : Int32) (s0 : Nat) : Option (Int32 × xG) :=
  (xp_i g 9 s0 0 1).bind fun g1 =>
  (xg_i g1 9 v0 0).bind fun x3 =>
  if x3 ≤ 0 then
    (xg_r g1 9 v0 7).bind fun x5 =>
    (xa_i 1 g1 x5 (((151 * v1) + v2) - 1)).bind fun x7 =>
    (xg_r g1 9 v0 7).bind fun x9 =>
    (xs_i 1 g1 x9 (((151 * v1) + v2) - 1) v3).bind fun g11 =>
    some (x7, g11)
  else
    some (0, g1)
def f_X8_bend (g : xG) (a0 : Nat) (a1 : Int32) (a2 : Int32) (a3 : Int32) : Option (Int32 × xG) :=
  (xk g 9 a0).bind fun _ =>
  (f_X8_no g a0 a1).bind fun x15 =>
  if x15 = 0 then
    if 1 ≤ a2 then
      (xg_r g 9 a0 4).bind fun x16 =>
      (xa_i 1 g x16 a1).bind fun x18 =>
      if a2 ≤ x18 then
        (xp_i g 9 a0 0 0).bind fun g20 =>
        (xg_i g20 9 a0 0).bind fun x22 =>
        if x22 ≤ 0 then
          (xg_r g20 9 a0 7).bind fun x24 =>
          (xa_i 1 g20 x24 (((151 * a1) + a2) - 1)).bind fun x26 =>
          (xg_r g20 9 a0 7).bind fun x28 =>
          (xs_i 1 g20 x28 (((151 * a1) + a2) - 1) a3).bind fun g30 =>
          some (x26, g30)
        else
          some (0, g20)
      else
        (xp_i g 9 a0 0 1).bind fun g32 =>
        (xg_i g32 9 a0 0).bind fun x34 =>
        if x34 ≤ 0 then
          (xg_r g32 9 a0 7).bind fun x36 =>
          (xa_i 1 g32 x36 (((151 * a1) + a2) - 1)).bind fun x38 =>
          (xg_r g32 9 a0 7).bind fun x40 =>
          (xs_i 1 g32 x40 (((151 * a1) + a2) - 1) a3).bind fun g42 =>
          some (x38, g42)
        else
          some (0, g32)
    else
      f_X8_bend_14 g a0 a1 a2 a3 a0
  else
    f_X8_bend_14 g a0 a1 a2 a3 a0
def f_X8_cut (g : xG) (a0 : Nat) (a1 : Int32) (a2 : Int32) : Option (Int32 × xG) :=
  (xk g 9 a0).bind fun _ =>
  (f_X8_no g a0 a1).bind fun x3 =>
  if x3 = 0 then
    if 0 ≤ a2 then
      (xg_r g 9 a0 4).bind fun x16 =>
      (xa_i 1 g x16 a1).bind fun x18 =>
      if a2 ≤ x18 then
        (xp_i g 9 a0 0 0).bind fun g20 =>
        (xg_i g20 9 a0 0).bind fun x22 =>
        if x22 ≤ 0 then
          (xg_r g20 9 a0 4).bind fun x24 =>
          (xa_i 1 g20 x24 a1).bind fun x26 =>
          (xg_r g20 9 a0 4).bind fun x28 =>
          (xs_i 1 g20 x28 a1 a2).bind fun g30 =>
          some ((x26 - a2), g30)
        else
          some (0, g20)
      else
        (xp_i g 9 a0 0 1).bind fun g32 =>
        (xg_i g32 9 a0 0).bind fun x34 =>
        if x34 ≤ 0 then
          (xg_r g32 9 a0 4).bind fun x36 =>
          (xa_i 1 g32 x36 a1).bind fun x38 =>
          (xg_r g32 9 a0 4).bind fun x40 =>
          (xs_i 1 g32 x40 a1 a2).bind fun g42 =>
          some ((x38 - a2), g42)
        else
          some (0, g32)
    else
      (xp_i g 9 a0 0 1).bind fun g44 =>
      (xg_i g44 9 a0 0).bind fun x46 =>
      if x46 ≤ 0 then
        (xg_r g44 9 a0 4).bind fun x48 =>
        (xa_i 1 g44 x48 a1).bind fun x50 =>
        (xg_r g44 9 a0 4).bind fun x52 =>
        (xs_i 1 g44 x52 a1 a2).bind fun g54 =>
        some ((x50 - a2), g54)
      else
        some (0, g44)
  else
    (xp_i g 9 a0 0 1).bind fun g4 =>
    (xg_i g4 9 a0 0).bind fun x6 =>
    if x6 ≤ 0 then
      (xg_r g4 9 a0 4).bind fun x8 =>
      (xa_i 1 g4 x8 a1).bind fun x10 =>
      (xg_r g4 9 a0 4).bind fun x12 =>
      (xs_i 1 g4 x12 a1 a2).bind fun g14 =>
      some ((x10 - a2), g14)
    else
      some (0, g4)
def f_X8_hide (g : xG) (a0 : Nat) (a1 : Int32) (a2 : Int32) : Option (Int32 × xG) :=
  (xk g 9 a0).bind fun _ =>
  (f_X8_no g a0 a1).bind fun x3 =>
  if x3 = 0 then
    (xp_i g 9 a0 0 0).bind fun g4 =>
    (xg_i g4 9 a0 0).bind fun x6 =>
    if x6 ≤ 0 then
      (xg_r g4 9 a0 8).bind fun x8 =>
      (xa_i 3 g4 x8 a1).bind fun x10 =>
      (xg_r g4 9 a0 8).bind fun x12 =>
      (xs_i 3 g4 x12 a1 a2).bind fun g14 =>
      (xz x10).bind fun x17 =>
      some (x17, g14)
    else
      some (0, g4)
  else
    (xp_i g 9 a0 0 1).bind fun g18 =>
    (xg_i g18 9 a0 0).bind fun x20 =>
    if x20 ≤ 0 then
      (xg_r g18 9 a0 8).bind fun x22 =>
      (xa_i 3 g18 x22 a1).bind fun x24 =>
      (xg_r g18 9 a0 8).bind fun x26 =>
      (xs_i 3 g18 x26 a1 a2).bind fun g28 =>
      (xz x24).bind fun x31 =>
      some (x31, g28)
    else
      some (0, g18)
def f_X8_look_12 : Nat → xG → Nat → Int32 → Int32 → Option xG
  | 0, _, _, _, _ => none
  | n9 + 1, g, v0, v1, v2 =>
  (xg_i g 9 v0 31).bind fun x1 =>
  if x1 ≤ v2 then
    some g
  else
    (xg_r g 9 v0 32).bind fun x3 =>
    (xg_r g 9 v0 5).bind fun x5 =>
    (xa_i 1 g x5 ((151 * v1) + v2)).bind fun x7 =>
    (xs_i 1 g x3 v2 x7).bind fun g9 =>
    (xg_r g9 9 v0 33).bind fun x11 =>
    (xg_r g9 9 v0 6).bind fun x13 =>
    (xa_i 1 g9 x13 ((151 * v1) + v2)).bind fun x15 =>
    (xs_i 1 g9 x11 v2 x15).bind fun g17 =>
    (xg_r g17 9 v0 34).bind fun x19 =>
    (xg_r g17 9 v0 7).bind fun x21 =>
    (xa_i 1 g17 x21 ((151 * v1) + v2)).bind fun x23 =>
    (xs_i 1 g17 x19 v2 x23).bind fun g25 =>
    f_X8_look_12 n9 g25 v0 v1 (v2 + 1)
def f_X8_look (g : xG) (a0 : Nat) (a1 : Int32) : Option xG :=
  (xg_r g 9 a0 4).bind fun x27 =>
  (xa_i 1 g x27 a1).bind fun x29 =>
  (xp_i g 9 a0 31 x29).bind fun g31 =>
  f_X8_look_12 xFU g31 a0 a1 0
def f_X8_seenHead_5 : Nat → xG → Nat → Int32 → Int64 → Int32 → Option Int64
  | 0, _, _, _, _, _ => none
  | n9 + 1, g, v0, v1, v2, v4 =>
  if v1 ≤ v4 then
    some v2
  else
    (xg_r g 9 v0 32).bind fun x1 =>
    (xa_i 1 g x1 v4).bind fun x3 =>
    (xg_r g 9 v0 33).bind fun x5 =>
    (xa_i 1 g x5 v4).bind fun x7 =>
    (xg_r g 9 v0 34).bind fun x9 =>
    (xa_i 1 g x9 v4).bind fun x11 =>
    (f_X8_headBehind v2 x3 x7 x11).bind fun x14 =>
    f_X8_seenHead_5 n9 g v0 v1 x14 (v4 + 1)
def f_X8_seenHead (g : xG) (a0 : Nat) (a1 : Int32) : Option Int64 :=
  f_X8_seenHead_5 xFU g a0 a1 0 0
def f_X8_firstWrong_166 (k16 : xG → Nat → Int32 → Int32 → Int32 → Int32 → Int32 → Int32 → Int32 → Option Int32) (g : xG) (v0 : Nat) (v1 : Int32) (v2 : Int32) (v3 : Int32) (v4 : Int32) (v5 : Int32) (v6 : Int32) (v7 : Int32) (v9 : Int32) : Option Int32 :=
  if v4 = 0 then
    if v9 = 0 then
      (xg_r g 9 v0 34).bind fun x1 =>
      (xa_i 1 g x1 v7).bind fun x3 =>
      (xg_r g 9 v0 33).bind fun x5 =>
      (xa_i 1 g x5 v7).bind fun x7 =>
      (f_X8_turned (v3 ^^^ (x3 + x7))).bind fun x10 =>
      if (x10 - x10 / 8 * 8) = 0 then
        (xg_r g 9 v0 33).bind fun x15 =>
        (xa_i 1 g x15 v7).bind fun x17 =>
        k16 g v0 v1 v2 x10 1 x17 x10 (v7 + 1)
      else
        (xg_r g 9 v0 33).bind fun x11 =>
        (xa_i 1 g x11 v7).bind fun x13 =>
        k16 g v0 v1 v2 x10 0 x13 x10 (v7 + 1)
    else
      (xg_r g 9 v0 34).bind fun x19 =>
      (xa_i 1 g x19 v7).bind fun x21 =>
      (f_X8_sendsByInput ((31 * v2) + x21)).bind fun x24 =>
      (xk g 9 v0).bind fun _ =>
      (f_X8_target g v0 v1 ((31 * v2) + x21)).bind fun x27 =>
      k16 g v0 v1 ((31 * v2) + x21) v3 x24 x27 ((xiushr ((31 * v2) + x21) 1) ^^^ v3) (v7 + 1)
  else
    k16 g v0 v1 v2 v3 0 v5 v6 (v7 + 1)
def f_X8_firstWrong_136 (k16 : xG → Nat → Int32 → Int32 → Int32 → Int32 → Int32 → Int32 → Int32 → Option Int32) (g : xG) (v0 : Nat) (v1 : Int32) (v2 : Int32) (v3 : Int32) (v4 : Int32) (v5 : Int32) (v6 : Int32) (v7 : Int32) (v8 : Int32) (v9 : Int32) (s0 : Int32) : Option Int32 :=
  if v4 = 0 then
    if v9 = 0 then
      if s0 = 0 then
        some (v7 + 1)
      else
        f_X8_firstWrong_166 k16 g v0 v1 v2 v3 v4 v5 v6 v7 v9
    else
      f_X8_firstWrong_166 k16 g v0 v1 v2 v3 v4 v5 v6 v7 v9
  else
    if v8 = 0 then
      some (v7 + 1)
    else
      f_X8_firstWrong_166 k16 g v0 v1 v2 v3 v4 v5 v6 v7 v9
def f_X8_firstWrong_135 (k16 : xG → Nat → Int32 → Int32 → Int32 → Int32 → Int32 → Int32 → Int32 → Option Int32) (g : xG) (v0 : Nat) (v1 : Int32) (v2 : Int32) (v3 : Int32) (v4 : Int32) (v5 : Int32) (v6 : Int32) (v7 : Int32) (v8 : Int32) (v9 : Int32) : Option Int32 :=
  f_X8_firstWrong_136 k16 g v0 v1 v2 v3 v4 v5 v6 v7 v8 v9 0
def f_X8_firstWrong_93 (k16 : xG → Nat → Int32 → Int32 → Int32 → Int32 → Int32 → Int32 → Int32 → Option Int32) (g : xG) (v0 : Nat) (v1 : Int32) (v2 : Int32) (v3 : Int32) (v4 : Int32) (v5 : Int32) (v6 : Int32) (v7 : Int32) (v8 : Int32) (s0 : Int32) : Option Int32 :=
  (xg_r g 9 v0 32).bind fun x28 =>
  (xa_i 1 g x28 v7).bind fun x30 =>
  if x30 = 2 then
    (xg_r g 9 v0 33).bind fun x32 =>
    (xa_i 1 g x32 v7).bind fun x34 =>
    if x34 = v1 then
      f_X8_firstWrong_135 k16 g v0 v1 v2 v3 v4 v5 v6 v7 v8 s0
    else
      (xg_r g 9 v0 33).bind fun x36 =>
      (xa_i 1 g x36 v7).bind fun x38 =>
      (xg_i g 9 v0 1).bind fun x40 =>
      if x40 ≤ x38 then
        f_X8_firstWrong_135 k16 g v0 v1 v2 v3 v4 v5 v6 v7 v8 s0
      else
        f_X8_firstWrong_136 k16 g v0 v1 v2 v3 v4 v5 v6 v7 v8 s0 1
  else
    f_X8_firstWrong_135 k16 g v0 v1 v2 v3 v4 v5 v6 v7 v8 s0
def f_X8_firstWrong_92 (k16 : xG → Nat → Int32 → Int32 → Int32 → Int32 → Int32 → Int32 → Int32 → Option Int32) (g : xG) (v0 : Nat) (v1 : Int32) (v2 : Int32) (v3 : Int32) (v4 : Int32) (v5 : Int32) (v6 : Int32) (v7 : Int32) (v8 : Int32) : Option Int32 :=
  f_X8_firstWrong_93 k16 g v0 v1 v2 v3 v4 v5 v6 v7 v8 0
def f_X8_firstWrong_65 (k16 : xG → Nat → Int32 → Int32 → Int32 → Int32 → Int32 → Int32 → Int32 → Option Int32) (g : xG) (v0 : Nat) (v1 : Int32) (v2 : Int32) (v3 : Int32) (v4 : Int32) (v5 : Int32) (v6 : Int32) (v7 : Int32) (s0 : Int32) : Option Int32 :=
  (xg_r g 9 v0 32).bind fun x42 =>
  (xa_i 1 g x42 v7).bind fun x44 =>
  if x44 = 1 then
    (xg_r g 9 v0 33).bind fun x46 =>
    (xa_i 1 g x46 v7).bind fun x48 =>
    if x48 = 0 then
      f_X8_firstWrong_93 k16 g v0 v1 v2 v3 v4 v5 v6 v7 s0 1
    else
      f_X8_firstWrong_92 k16 g v0 v1 v2 v3 v4 v5 v6 v7 s0
  else
    f_X8_firstWrong_92 k16 g v0 v1 v2 v3 v4 v5 v6 v7 s0
def f_X8_firstWrong_64 (k16 : xG → Nat → Int32 → Int32 → Int32 → Int32 → Int32 → Int32 → Int32 → Option Int32) (g : xG) (v0 : Nat) (v1 : Int32) (v2 : Int32) (v3 : Int32) (v4 : Int32) (v5 : Int32) (v6 : Int32) (v7 : Int32) : Option Int32 :=
  f_X8_firstWrong_65 k16 g v0 v1 v2 v3 v4 v5 v6 v7 0
def f_X8_firstWrong_16 : Nat → xG → Nat → Int32 → Int32 → Int32 → Int32 → Int32 → Int32 → Int32 → Option Int32
  | 0, _, _, _, _, _, _, _, _, _ => none
  | n9 + 1, g, v0, v1, v2, v3, v4, v5, v6, v7 =>
  (xg_i g 9 v0 31).bind fun x50 =>
  if x50 ≤ v7 then
    if v4 = 0 then
      some 0
    else
      (xg_i g 9 v0 31).bind fun x52 =>
      some (x52 + 1)
  else
    (xg_r g 9 v0 32).bind fun x54 =>
    (xa_i 1 g x54 v7).bind fun x56 =>
    if x56 = 3 then
      (xg_r g 9 v0 33).bind fun x58 =>
      (xa_i 1 g x58 v7).bind fun x60 =>
      if x60 = v5 then
        (xg_r g 9 v0 34).bind fun x62 =>
        (xa_i 1 g x62 v7).bind fun x64 =>
        if x64 = v6 then
          f_X8_firstWrong_65 (f_X8_firstWrong_16 n9) g v0 v1 v2 v3 v4 v5 v6 v7 1
        else
          f_X8_firstWrong_64 (f_X8_firstWrong_16 n9) g v0 v1 v2 v3 v4 v5 v6 v7
      else
        f_X8_firstWrong_64 (f_X8_firstWrong_16 n9) g v0 v1 v2 v3 v4 v5 v6 v7
    else
      f_X8_firstWrong_64 (f_X8_firstWrong_16 n9) g v0 v1 v2 v3 v4 v5 v6 v7
def f_X8_firstWrong (g : xG) (a0 : Nat) (a1 : Int32) : Option Int32 :=
  f_X8_firstWrong_16 xFU g a0 a1 0 0 0 0 0 0
def f_X8_fork_92 (k5 : xG → Nat → Int32 → Int32 → Int32 → Int32 → Option Int32) (g : xG) (v0 : Nat) (v1 : Int32) (v2 : Int32) (v3 : Int32) (v4 : Int32) (v5 : Int32) : Option Int32 :=
  k5 g v0 v1 v2 v3 (v4 + 1)
def f_X8_fork_58 (k5 : xG → Nat → Int32 → Int32 → Int32 → Int32 → Option Int32) (g : xG) (v0 : Nat) (v1 : Int32) (v2 : Int32) (v3 : Int32) (v4 : Int32) (v5 : Int32) (s0 : Int32) : Option Int32 :=
  if s0 = 0 then
    f_X8_fork_92 k5 g v0 v1 v2 v3 v4 v5
  else
    (xg_r g 9 v0 26).bind fun x1 =>
    (xa_l g x1 v5).bind fun x3 =>
    (xg_r g 9 v0 25).bind fun x5 =>
    (xa_i 1 g x5 v5).bind fun x7 =>
    (xk g 9 v0).bind fun _ =>
    (f_X8_headOf g v0 v2 x7).bind fun x11 =>
    if x3 = x11 then
      f_X8_fork_92 k5 g v0 v1 v2 v3 v4 v5
    else
      if v3 < 0 then
        k5 g v0 v1 v2 v5 (v4 + 1)
      else
        (xg_r g 9 v0 25).bind fun x12 =>
        (xa_i 1 g x12 v5).bind fun x14 =>
        (xg_r g 9 v0 25).bind fun x16 =>
        (xa_i 1 g x16 v3).bind fun x18 =>
        if x18 ≤ x14 then
          k5 g v0 v1 v2 v3 (v4 + 1)
        else
          k5 g v0 v1 v2 v5 (v4 + 1)
def f_X8_fork_57 (k5 : xG → Nat → Int32 → Int32 → Int32 → Int32 → Option Int32) (g : xG) (v0 : Nat) (v1 : Int32) (v2 : Int32) (v3 : Int32) (v4 : Int32) (v5 : Int32) : Option Int32 :=
  f_X8_fork_58 k5 g v0 v1 v2 v3 v4 v5 0
def f_X8_fork_5 : Nat → xG → Nat → Int32 → Int32 → Int32 → Int32 → Option Int32
  | 0, _, _, _, _, _, _ => none
  | n9 + 1, g, v0, v1, v2, v3, v4 =>
  (xg_r g 9 v0 23).bind fun x20 =>
  (xa_i 1 g x20 v1).bind fun x22 =>
  if x22 ≤ v4 then
    some v3
  else
    (xg_r g 9 v0 24).bind fun x24 =>
    (xa_i 1 g x24 ((300 * v1) + v4)).bind fun x26 =>
    if x26 = v2 then
      (xg_r g 9 v0 25).bind fun x28 =>
      (xa_i 1 g x28 ((300 * v1) + v4)).bind fun x30 =>
      (xg_r g 9 v0 4).bind fun x32 =>
      (xa_i 1 g x32 v2).bind fun x34 =>
      if x34 < x30 then
        f_X8_fork_57 (f_X8_fork_5 n9) g v0 v1 v2 v3 v4 ((300 * v1) + v4)
      else
        f_X8_fork_58 (f_X8_fork_5 n9) g v0 v1 v2 v3 v4 ((300 * v1) + v4) 1
    else
      f_X8_fork_57 (f_X8_fork_5 n9) g v0 v1 v2 v3 v4 ((300 * v1) + v4)
def f_X8_fork (g : xG) (a0 : Nat) (a1 : Int32) (a2 : Int32) : Option Int32 :=
  f_X8_fork_5 xFU g a0 a1 a2 (-1) 0
def f_X8_isBehind_2 : Nat → xG → Nat → Int32 → Int32 → Int32 → Option Int32
  | 0, _, _, _, _, _ => none
  | n9 + 1, g, v0, v1, v2, v3 =>
  (xg_r g 9 v0 23).bind fun x1 =>
  (xa_i 1 g x1 v1).bind fun x3 =>
  if x3 ≤ v3 then
    some 0
  else
    (xg_r g 9 v0 24).bind fun x5 =>
    (xa_i 1 g x5 ((300 * v1) + v3)).bind fun x7 =>
    if x7 = v2 then
      (xg_r g 9 v0 25).bind fun x9 =>
      (xa_i 1 g x9 ((300 * v1) + v3)).bind fun x11 =>
      (xg_r g 9 v0 4).bind fun x13 =>
      (xa_i 1 g x13 v2).bind fun x15 =>
      if x11 ≤ x15 then
        f_X8_isBehind_2 n9 g v0 v1 v2 (v3 + 1)
      else
        some 1
    else
      f_X8_isBehind_2 n9 g v0 v1 v2 (v3 + 1)
def f_X8_isBehind (g : xG) (a0 : Nat) (a1 : Int32) (a2 : Int32) : Option Int32 :=
  f_X8_isBehind_2 xFU g a0 a1 a2 0
def f_X8_put_5 : Nat → xG → Nat → Int64 → Int32 → Option xG
  | 0, _, _, _, _ => none
  | n9 + 1, g, v0, v1, v4 =>
  if v4 < 0 then
    some g
  else
    (xg_r g 9 v0 30).bind fun x1 =>
    (xg_i g 9 v0 28).bind fun x3 =>
    (xg_r g 9 v0 29).bind fun x5 =>
    (xg_i g 9 v0 28).bind fun x7 =>
    (xa_i 1 g x5 x7).bind fun x9 =>
    (xs_i 0 g x1 ((940 * x3) + x9) (Int8.toInt32 (Int32.toInt8 (Int64.toInt32 (xlshr v1 (8 * v4)))))).bind fun g11 =>
    (xg_r g11 9 v0 29).bind fun x13 =>
    (xg_i g11 9 v0 28).bind fun x15 =>
    (xa_i 1 g11 x13 x15).bind fun x17 =>
    (xs_i 1 g11 x13 x15 (x17 + 1)).bind fun g19 =>
    f_X8_put_5 n9 g19 v0 v1 (v4 + (-1))
def f_X8_put (g : xG) (a0 : Nat) (a1 : Int64) (a2 : Int32) : Option xG :=
  f_X8_put_5 xFU g a0 a1 (a2 - 1)
def f_X8_beginPiece_36 : Nat → xG → Nat → Int32 → Int32 → Option xG
  | 0, _, _, _, _ => none
  | n9 + 1, g, v0, v2, v3 =>
  (xg_i g 9 v0 31).bind fun x1 =>
  if x1 ≤ v3 then
    (xg_i g 9 v0 31).bind fun x3 =>
    (xg_i g 9 v0 31).bind fun x5 =>
    (xk g 9 v0).bind fun _ =>
    (f_X8_seenHead g v0 x5).bind fun x9 =>
    (f_X8_signature v2 x3 x9).bind fun x11 =>
    (xk g 9 v0).bind fun _ =>
    (f_X8_put g v0 x11 8).bind fun g14 =>
    some g14
  else
    (xg_r g 9 v0 32).bind fun x15 =>
    (xa_i 1 g x15 v3).bind fun x17 =>
    (xk g 9 v0).bind fun _ =>
    (f_X8_put g v0 (Int32.toInt64 x17) 1).bind fun g21 =>
    (xg_r g21 9 v0 33).bind fun x22 =>
    (xa_i 1 g21 x22 v3).bind fun x24 =>
    (xk g21 9 v0).bind fun _ =>
    (f_X8_put g21 v0 (Int32.toInt64 x24) 1).bind fun g28 =>
    (xg_r g28 9 v0 34).bind fun x29 =>
    (xa_i 1 g28 x29 v3).bind fun x31 =>
    (xk g28 9 v0).bind fun _ =>
    (f_X8_put g28 v0 (Int32.toInt64 x31) 4).bind fun g35 =>
    f_X8_beginPiece_36 n9 g35 v0 v2 (v3 + 1)
def f_X8_beginPiece (g : xG) (a0 : Nat) (a1 : Int32) (a2 : Int32) : Option xG :=
  (xg_r g 9 a0 29).bind fun x36 =>
  (xg_i g 9 a0 28).bind fun x38 =>
  (xs_i 1 g x36 x38 0).bind fun g40 =>
  (xk g40 9 a0).bind fun _ =>
  (f_X8_put g40 a0 (Int32.toInt64 a1) 1).bind fun g44 =>
  (xk g44 9 a0).bind fun _ =>
  (f_X8_put g44 a0 (Int32.toInt64 a2) 1).bind fun g47 =>
  (xg_i g47 9 a0 31).bind fun x48 =>
  (xk g47 9 a0).bind fun _ =>
  (f_X8_put g47 a0 (Int32.toInt64 x48) 2).bind fun g52 =>
  f_X8_beginPiece_36 xFU g52 a0 a2 0
def f_X8_said (g : xG) (a0 : Nat) (a1 : Int32) (a2 : Int32) (a3 : Int32) : Option (Int32 × xG) :=
  (xg_r g 9 a0 9).bind fun x1 =>
  (xs_i 1 g x1 ((6 * a1) + a2) a3).bind fun g3 =>
  some (a3, g3)
def f_X8_audit_69 (g : xG) (v0 : Nat) (v1 : Int32) (v2 : Int32) (s0 : Nat) (s1 : Int32) : Option (Int32 × xG) :=
  (xp_i g 9 s0 0 s1).bind fun g1 =>
  (xg_i g1 9 v0 0).bind fun x3 =>
  if x3 ≤ 0 then
    (xg_r g1 9 v0 9).bind fun x5 =>
    (xa_i 1 g1 x5 ((6 * v1) + v2)).bind fun x7 =>
    if x7 = 2 then
      some (2, g1)
    else
      (xg_r g1 9 v0 8).bind fun x9 =>
      (xa_i 3 g1 x9 v2).bind fun x11 =>
      if x11 = 0 then
        (xk g1 9 v0).bind fun _ =>
        (f_X8_look g1 v0 v2).bind fun g15 =>
        (xk g15 9 v0).bind fun _ =>
        (f_X8_fork g15 v0 v1 v2).bind fun x18 =>
        (xk g15 9 v0).bind fun _ =>
        (f_X8_firstWrong g15 v0 v2).bind fun x21 =>
        if x18 < 0 then
          if x21 ≤ 0 then
            (xk g15 9 v0).bind fun _ =>
            (f_X8_isBehind g15 v0 v1 v2).bind fun x24 =>
            if x24 = 0 then
              (xg_r g15 9 v0 4).bind fun x25 =>
              (xa_i 1 g15 x25 v2).bind fun x27 =>
              if x27 ≤ 0 then
                (xk g15 9 v0).bind fun _ =>
                x2 (f_X8_said g15 v0 v1 v2 0) fun x31 g32 =>
                some (x31, g32)
              else
                (xg_r g15 9 v0 4).bind fun x33 =>
                (xa_i 1 g15 x33 v2).bind fun x35 =>
                (xg_r g15 9 v0 4).bind fun x37 =>
                (xa_i 1 g15 x37 v2).bind fun x39 =>
                (xk g15 9 v0).bind fun _ =>
                (f_X8_headOf g15 v0 v2 x39).bind fun x43 =>
                (xk g15 9 v0).bind fun _ =>
                x2 (f_X8_keep g15 v0 v1 v2 x35 x43 0) fun x46 g47 =>
                if x46 = 0 then
                  (xk g47 9 v0).bind fun _ =>
                  x2 (f_X8_said g47 v0 v1 v2 0) fun x50 g51 =>
                  some (x50, g51)
                else
                  (xk g47 9 v0).bind fun _ =>
                  x2 (f_X8_said g47 v0 v1 v2 0) fun x54 g55 =>
                  some (x54, g55)
            else
              (xk g15 9 v0).bind fun _ =>
              x2 (f_X8_said g15 v0 v1 v2 1) fun x58 g59 =>
              some (x58, g59)
          else
            (xk g15 9 v0).bind fun _ =>
            (f_X8_beginPiece g15 v0 2 v2).bind fun g62 =>
            (xk g62 9 v0).bind fun _ =>
            (f_X8_put g62 v0 (Int32.toInt64 x21) 2).bind fun g65 =>
            (xg_i g65 9 v0 28).bind fun x66 =>
            (xp_i g65 9 v0 28 (x66 + 1)).bind fun g68 =>
            (xk g68 9 v0).bind fun _ =>
            x2 (f_X8_said g68 v0 v1 v2 2) fun x72 g73 =>
            some (x72, g73)
        else
          (xk g15 9 v0).bind fun _ =>
          (f_X8_beginPiece g15 v0 1 v2).bind fun g76 =>
          (xg_r g76 9 v0 25).bind fun x77 =>
          (xa_i 1 g76 x77 x18).bind fun x79 =>
          (xk g76 9 v0).bind fun _ =>
          (f_X8_put g76 v0 (Int32.toInt64 x79) 2).bind fun g83 =>
          (xg_r g83 9 v0 26).bind fun x84 =>
          (xa_l g83 x84 x18).bind fun x86 =>
          (xk g83 9 v0).bind fun _ =>
          (f_X8_put g83 v0 x86 8).bind fun g90 =>
          (xg_r g90 9 v0 25).bind fun x91 =>
          (xa_i 1 g90 x91 x18).bind fun x93 =>
          (xg_r g90 9 v0 26).bind fun x95 =>
          (xa_l g90 x95 x18).bind fun x97 =>
          (f_X8_signature v2 x93 x97).bind fun x100 =>
          (xk g90 9 v0).bind fun _ =>
          (f_X8_put g90 v0 x100 8).bind fun g103 =>
          (xg_i g103 9 v0 28).bind fun x104 =>
          (xp_i g103 9 v0 28 (x104 + 1)).bind fun g106 =>
          (xk g106 9 v0).bind fun _ =>
          x2 (f_X8_said g106 v0 v1 v2 2) fun x110 g111 =>
          some (x110, g111)
      else
        (xk g1 9 v0).bind fun _ =>
        x2 (f_X8_said g1 v0 v1 v2 1) fun x114 g115 =>
        some (x114, g115)
  else
    some (0, g1)
def f_X8_audit_45 (g : xG) (v0 : Nat) (v1 : Int32) (v2 : Int32) (s0 : Int32) : Option (Int32 × xG) :=
  if s0 = 0 then
    f_X8_audit_69 g v0 v1 v2 v0 1
  else
    (xg_i g 9 v0 28).bind fun x116 =>
    if x116 = 40 then
      f_X8_audit_69 g v0 v1 v2 v0 2
    else
      f_X8_audit_69 g v0 v1 v2 v0 0
def f_X8_audit_44 (g : xG) (v0 : Nat) (v1 : Int32) (v2 : Int32) : Option (Int32 × xG) :=
  f_X8_audit_45 g v0 v1 v2 0
def f_X8_audit_40 (g : xG) (v0 : Nat) (v1 : Int32) (v2 : Int32) : Option (Int32 × xG) :=
  f_X8_audit_45 g v0 v1 v2 1
def f_X8_audit (g : xG) (a0 : Nat) (a1 : Int32) (a2 : Int32) : Option (Int32 × xG) :=
  (xk g 9 a0).bind fun _ =>
  (f_X8_no g a0 a1).bind fun x120 =>
  if x120 = 0 then
    (xk g 9 a0).bind fun _ =>
    (f_X8_no g a0 a2).bind fun x123 =>
    if x123 = 0 then
      (xg_i g 9 a0 1).bind fun x124 =>
      (xnz x124).bind fun _ =>
      if ((a2 + 1) - (a2 + 1) / x124 * x124) = a1 then
        f_X8_audit_40 g a0 a1 a2
      else
        (xg_i g 9 a0 1).bind fun x127 =>
        (xnz x127).bind fun _ =>
        if ((a2 + 2) - (a2 + 2) / x127 * x127) = a1 then
          f_X8_audit_40 g a0 a1 a2
        else
          f_X8_audit_44 g a0 a1 a2
    else
      f_X8_audit_44 g a0 a1 a2
  else
    f_X8_audit_44 g a0 a1 a2
def f_X8_read_6 : Nat → xG → Nat → Int32 → Int32 → Int32 → Int64 → Int32 → Option Int64
  | 0, _, _, _, _, _, _, _ => none
  | n9 + 1, g, v0, v1, v2, v3, v4, v6 =>
  if v3 ≤ v6 then
    some v4
  else
    (xg_r g 9 v0 30).bind fun x1 =>
    (xa_i 0 g x1 (((940 * v1) + v2) + v6)).bind fun x3 =>
    f_X8_read_6 n9 g v0 v1 v2 v3 ((xlshl v4 8) ||| (Int32.toInt64 (x3 &&& 255))) (v6 + 1)
def f_X8_read (g : xG) (a0 : Nat) (a1 : Int32) (a2 : Int32) (a3 : Int32) : Option Int64 :=
  f_X8_read_6 xFU g a0 a1 a2 a3 0 0
def f_X8_isPiece (g : xG) (a0 : Nat) (a1 : Int32) : Option Int32 :=
  if a1 < 0 then
    some 0
  else
    (xg_i g 9 a0 28).bind fun x1 =>
    if x1 ≤ a1 then
      some 0
    else
      some 1
def f_X8_doesHold_86 : Nat → xG → Nat → Int32 → Int32 → Int32 → Int32 → Int32 → Option (Int32 × xG)
  | 0, _, _, _, _, _, _, _ => none
  | n9 + 1, g, v0, v1, v2, v3, v4, v5 =>
  if v4 ≤ v5 then
    (xk g 9 v0).bind fun _ =>
    (f_X8_read g v0 v1 (4 + (6 * v4)) 8).bind fun x3 =>
    (xk g 9 v0).bind fun _ =>
    (f_X8_seenHead g v0 v4).bind fun x6 =>
    (f_X8_signature v3 v4 x6).bind fun x8 =>
    if x3 = x8 then
      (xk g 9 v0).bind fun _ =>
      (f_X8_read g v0 v1 ((4 + (6 * v4)) + 8) 2).bind fun x11 =>
      if v2 = 2 then
        (xk g 9 v0).bind fun _ =>
        (f_X8_firstWrong g v0 v3).bind fun x25 =>
        if x25 ≤ 0 then
          some (0, g)
        else
          if (Int64.toInt32 x11) = x25 then
            some (1, g)
          else
            some (0, g)
      else
        (xk g 9 v0).bind fun _ =>
        (f_X8_read g v0 v1 ((4 + (6 * v4)) + 10) 8).bind fun x14 =>
        if (Int64.toInt32 x11) < 1 then
          some (0, g)
        else
          if v4 < (Int64.toInt32 x11) then
            some (0, g)
          else
            (xk g 9 v0).bind fun _ =>
            (f_X8_read g v0 v1 ((4 + (6 * v4)) + 18) 8).bind fun x17 =>
            (f_X8_signature v3 (Int64.toInt32 x11) x14).bind fun x19 =>
            if x17 = x19 then
              (xk g 9 v0).bind fun _ =>
              (f_X8_seenHead g v0 (Int64.toInt32 x11)).bind fun x22 =>
              if x14 = x22 then
                some (0, g)
              else
                some (1, g)
            else
              some (0, g)
    else
      some (0, g)
  else
    (xg_r g 9 v0 32).bind fun x26 =>
    (xk g 9 v0).bind fun _ =>
    (f_X8_read g v0 v1 (4 + (6 * v5)) 1).bind fun x30 =>
    (xs_i 1 g x26 v5 (Int64.toInt32 x30)).bind fun g31 =>
    (xg_r g31 9 v0 33).bind fun x33 =>
    (xk g31 9 v0).bind fun _ =>
    (f_X8_read g31 v0 v1 (5 + (6 * v5)) 1).bind fun x37 =>
    (xs_i 1 g31 x33 v5 (Int64.toInt32 x37)).bind fun g38 =>
    (xg_r g38 9 v0 34).bind fun x40 =>
    (xk g38 9 v0).bind fun _ =>
    (f_X8_read g38 v0 v1 (6 + (6 * v5)) 4).bind fun x44 =>
    (xs_i 1 g38 x40 v5 (Int64.toInt32 x44)).bind fun g45 =>
    (xg_r g45 9 v0 32).bind fun x47 =>
    (xa_i 1 g45 x47 v5).bind fun x49 =>
    if x49 < 1 then
      some (0, g45)
    else
      (xg_r g45 9 v0 32).bind fun x51 =>
      (xa_i 1 g45 x51 v5).bind fun x53 =>
      if x53 ≤ 3 then
        f_X8_doesHold_86 n9 g45 v0 v1 v2 v3 v4 (v5 + 1)
      else
        some (0, g45)
def f_X8_doesHold_71 (g : xG) (v0 : Nat) (v1 : Int32) (v2 : Int32) (v3 : Int32) (v4 : Int32) (s0 : Int32) (s1 : Int32) (s2 : Int32) : Option (Int32 × xG) :=
  if s0 = (s1 + s2) then
    (xp_i g 9 v0 31 v4).bind fun g55 =>
    f_X8_doesHold_86 xFU g55 v0 v1 v2 v3 v4 0
  else
    some (0, g)
def f_X8_doesHold (g : xG) (a0 : Nat) (a1 : Int32) : Option (Int32 × xG) :=
  (xk g 9 a0).bind fun _ =>
  (f_X8_read g a0 a1 0 1).bind fun x59 =>
  (xk g 9 a0).bind fun _ =>
  (f_X8_read g a0 a1 1 1).bind fun x62 =>
  (xk g 9 a0).bind fun _ =>
  (f_X8_read g a0 a1 2 2).bind fun x65 =>
  if (Int64.toInt32 x59) < 1 then
    some (0, g)
  else
    if 2 < (Int64.toInt32 x59) then
      some (0, g)
    else
      (xg_i g 9 a0 1).bind fun x66 =>
      if x66 ≤ (Int64.toInt32 x62) then
        some (0, g)
      else
        (xg_r g 9 a0 29).bind fun x68 =>
        (xa_i 1 g x68 a1).bind fun x70 =>
        if (Int64.toInt32 x59) = 1 then
          f_X8_doesHold_71 g a0 a1 (Int64.toInt32 x59) (Int64.toInt32 x62) (Int64.toInt32 x65) x70 (12 + (6 * (Int64.toInt32 x65))) 18
        else
          f_X8_doesHold_71 g a0 a1 (Int64.toInt32 x59) (Int64.toInt32 x62) (Int64.toInt32 x65) x70 (12 + (6 * (Int64.toInt32 x65))) 2
def f_X8_holds (g : xG) (a0 : Nat) (a1 : Int32) : Option (Int32 × xG) :=
  (xk g 9 a0).bind fun _ =>
  (f_X8_isPiece g a0 a1).bind fun x3 =>
  if x3 = 0 then
    (xp_i g 9 a0 0 1).bind fun g4 =>
    (xg_i g4 9 a0 0).bind fun x6 =>
    if x6 = 0 then
      (xk g4 9 a0).bind fun _ =>
      x2 (f_X8_doesHold g4 a0 a1) fun x10 g11 =>
      if x10 = 0 then
        some (0, g11)
      else
        some (1, g11)
    else
      some (0, g4)
  else
    (xp_i g 9 a0 0 0).bind fun g12 =>
    (xg_i g12 9 a0 0).bind fun x14 =>
    if x14 = 0 then
      (xk g12 9 a0).bind fun _ =>
      x2 (f_X8_doesHold g12 a0 a1) fun x18 g19 =>
      if x18 = 0 then
        some (0, g19)
      else
        some (1, g19)
    else
      some (0, g12)
def f_X8_judge (g : xG) (a0 : Nat) (a1 : Int32) (a2 : Int32) : Option (Int32 × xG) :=
  (xk g 9 a0).bind fun _ =>
  (f_X8_no g a0 a1).bind fun x3 =>
  if x3 = 0 then
    (xk g 9 a0).bind fun _ =>
    (f_X8_isPiece g a0 a2).bind fun x21 =>
    if x21 = 0 then
      (xp_i g 9 a0 0 1).bind fun g37 =>
      (xg_i g37 9 a0 0).bind fun x39 =>
      if 0 < x39 then
        some (0, g37)
      else
        (xk g37 9 a0).bind fun _ =>
        x2 (f_X8_doesHold g37 a0 a2) fun x43 g44 =>
        if x43 = 0 then
          some (0, g44)
        else
          (xg_r g44 9 a0 9).bind fun x45 =>
          (xk g44 9 a0).bind fun _ =>
          (f_X8_read g44 a0 a2 1 1).bind fun x49 =>
          (xs_i 1 g44 x45 ((6 * a1) + (Int64.toInt32 x49)) 2).bind fun g50 =>
          some (1, g50)
    else
      (xp_i g 9 a0 0 0).bind fun g22 =>
      (xg_i g22 9 a0 0).bind fun x24 =>
      if 0 < x24 then
        some (0, g22)
      else
        (xk g22 9 a0).bind fun _ =>
        x2 (f_X8_doesHold g22 a0 a2) fun x28 g29 =>
        if x28 = 0 then
          some (0, g29)
        else
          (xg_r g29 9 a0 9).bind fun x30 =>
          (xk g29 9 a0).bind fun _ =>
          (f_X8_read g29 a0 a2 1 1).bind fun x34 =>
          (xs_i 1 g29 x30 ((6 * a1) + (Int64.toInt32 x34)) 2).bind fun g35 =>
          some (1, g35)
  else
    (xp_i g 9 a0 0 1).bind fun g4 =>
    (xg_i g4 9 a0 0).bind fun x6 =>
    if 0 < x6 then
      some (0, g4)
    else
      (xk g4 9 a0).bind fun _ =>
      x2 (f_X8_doesHold g4 a0 a2) fun x10 g11 =>
      if x10 = 0 then
        some (0, g11)
      else
        (xg_r g11 9 a0 9).bind fun x12 =>
        (xk g11 9 a0).bind fun _ =>
        (f_X8_read g11 a0 a2 1 1).bind fun x16 =>
        (xs_i 1 g11 x12 ((6 * a1) + (Int64.toInt32 x16)) 2).bind fun g17 =>
        some (1, g17)
def f_X8_byteOf_14 (g : xG) (v0 : Nat) (v1 : Int32) (v2 : Int32) (s0 : Nat) (s1 : Int32) : Option (Int32 × xG) :=
  (xp_i g 9 s0 0 s1).bind fun g1 =>
  (xg_i g1 9 v0 0).bind fun x3 =>
  if x3 ≤ 0 then
    if v2 < 0 then
      some ((-1), g1)
    else
      (xg_r g1 9 v0 29).bind fun x5 =>
      (xa_i 1 g1 x5 v1).bind fun x7 =>
      if v2 < x7 then
        (xg_r g1 9 v0 30).bind fun x9 =>
        (xa_i 0 g1 x9 ((940 * v1) + v2)).bind fun x11 =>
        some ((x11 &&& 255), g1)
      else
        some ((-1), g1)
  else
    some (0, g1)
def f_X8_byteOf (g : xG) (a0 : Nat) (a1 : Int32) (a2 : Int32) : Option (Int32 × xG) :=
  (xk g 9 a0).bind fun _ =>
  (f_X8_isPiece g a0 a1).bind fun x15 =>
  if x15 = 0 then
    f_X8_byteOf_14 g a0 a1 a2 a0 1
  else
    f_X8_byteOf_14 g a0 a1 a2 a0 0
def f_X8_smudge_24 (g : xG) (v0 : Nat) (v1 : Int32) (v2 : Int32) (v3 : Int32) (s0 : Nat) : Option (Int32 × xG) :=
  (xp_i g 9 s0 0 1).bind fun g1 =>
  (xg_i g1 9 v0 0).bind fun x3 =>
  if x3 ≤ 0 then
    (xg_r g1 9 v0 30).bind fun x5 =>
    (xa_i 0 g1 x5 ((940 * v1) + v2)).bind fun x7 =>
    (xg_r g1 9 v0 30).bind fun x9 =>
    (xs_i 0 g1 x9 ((940 * v1) + v2) (Int8.toInt32 (Int32.toInt8 v3))).bind fun g11 =>
    some ((x7 &&& 255), g11)
  else
    some (0, g1)
def f_X8_smudge (g : xG) (a0 : Nat) (a1 : Int32) (a2 : Int32) (a3 : Int32) : Option (Int32 × xG) :=
  (xk g 9 a0).bind fun _ =>
  (f_X8_isPiece g a0 a1).bind fun x15 =>
  if x15 = 0 then
    f_X8_smudge_24 g a0 a1 a2 a3 a0
  else
    if a2 < 0 then
      f_X8_smudge_24 g a0 a1 a2 a3 a0
    else
      if a3 < 0 then
        f_X8_smudge_24 g a0 a1 a2 a3 a0
      else
        if a3 ≤ 255 then
          (xg_r g 9 a0 29).bind fun x16 =>
          (xa_i 1 g x16 a1).bind fun x18 =>
          if a2 < x18 then
            (xp_i g 9 a0 0 0).bind fun g20 =>
            (xg_i g20 9 a0 0).bind fun x22 =>
            if x22 ≤ 0 then
              (xg_r g20 9 a0 30).bind fun x24 =>
              (xa_i 0 g20 x24 ((940 * a1) + a2)).bind fun x26 =>
              (xg_r g20 9 a0 30).bind fun x28 =>
              (xs_i 0 g20 x28 ((940 * a1) + a2) (Int8.toInt32 (Int32.toInt8 a3))).bind fun g30 =>
              some ((x26 &&& 255), g30)
            else
              some (0, g20)
          else
            (xp_i g 9 a0 0 1).bind fun g32 =>
            (xg_i g32 9 a0 0).bind fun x34 =>
            if x34 ≤ 0 then
              (xg_r g32 9 a0 30).bind fun x36 =>
              (xa_i 0 g32 x36 ((940 * a1) + a2)).bind fun x38 =>
              (xg_r g32 9 a0 30).bind fun x40 =>
              (xs_i 0 g32 x40 ((940 * a1) + a2) (Int8.toInt32 (Int32.toInt8 a3))).bind fun g42 =>
              some ((x38 &&& 255), g42)
            else
              some (0, g32)
        else
          f_X8_smudge_24 g a0 a1 a2 a3 a0
def f_X8_verdict (g : xG) (a0 : Nat) (a1 : Int32) (a2 : Int32) : Option (Int32 × xG) :=
  (xk g 9 a0).bind fun _ =>
  (f_X8_no g a0 a1).bind fun x3 =>
  if x3 = 0 then
    (xk g 9 a0).bind fun _ =>
    (f_X8_no g a0 a2).bind fun x14 =>
    if x14 = 0 then
      if a1 = a2 then
        (xp_i g 9 a0 0 1).bind fun g31 =>
        (xg_i g31 9 a0 0).bind fun x33 =>
        if x33 ≤ 0 then
          (xg_r g31 9 a0 9).bind fun x35 =>
          (xa_i 1 g31 x35 ((6 * a1) + a2)).bind fun x37 =>
          some (x37, g31)
        else
          some (0, g31)
      else
        (xp_i g 9 a0 0 0).bind fun g23 =>
        (xg_i g23 9 a0 0).bind fun x25 =>
        if x25 ≤ 0 then
          (xg_r g23 9 a0 9).bind fun x27 =>
          (xa_i 1 g23 x27 ((6 * a1) + a2)).bind fun x29 =>
          some (x29, g23)
        else
          some (0, g23)
    else
      (xp_i g 9 a0 0 1).bind fun g15 =>
      (xg_i g15 9 a0 0).bind fun x17 =>
      if x17 ≤ 0 then
        (xg_r g15 9 a0 9).bind fun x19 =>
        (xa_i 1 g15 x19 ((6 * a1) + a2)).bind fun x21 =>
        some (x21, g15)
      else
        some (0, g15)
  else
    (xp_i g 9 a0 0 1).bind fun g4 =>
    (xg_i g4 9 a0 0).bind fun x6 =>
    if x6 ≤ 0 then
      (xg_r g4 9 a0 9).bind fun x8 =>
      (xa_i 1 g4 x8 ((6 * a1) + a2)).bind fun x10 =>
      some (x10, g4)
    else
      some (0, g4)
def f_X8_entry_42 (g : xG) (v0 : Nat) (v1 : Int32) (v2 : Int32) (v3 : Int32) (s0 : Nat) (s1 : Int32) : Option (Int32 × xG) :=
  (xp_i g 9 s0 0 s1).bind fun g1 =>
  (xg_i g1 9 v0 0).bind fun x3 =>
  if x3 ≤ 0 then
    if v3 = 0 then
      (xg_r g1 9 v0 5).bind fun x13 =>
      (xa_i 1 g1 x13 (((151 * v1) + v2) - 1)).bind fun x15 =>
      some (x15, g1)
    else
      if v3 = 1 then
        (xg_r g1 9 v0 6).bind fun x9 =>
        (xa_i 1 g1 x9 (((151 * v1) + v2) - 1)).bind fun x11 =>
        some (x11, g1)
      else
        (xg_r g1 9 v0 7).bind fun x5 =>
        (xa_i 1 g1 x5 (((151 * v1) + v2) - 1)).bind fun x7 =>
        some (x7, g1)
  else
    some (0, g1)
def f_X8_entry_23 (g : xG) (v0 : Nat) (v1 : Int32) (v2 : Int32) (v3 : Int32) (s0 : Nat) : Option (Int32 × xG) :=
  f_X8_entry_42 g v0 v1 v2 v3 s0 1
def f_X8_entry (g : xG) (a0 : Nat) (a1 : Int32) (a2 : Int32) (a3 : Int32) : Option (Int32 × xG) :=
  (xk g 9 a0).bind fun _ =>
  (f_X8_no g a0 a1).bind fun x19 =>
  if x19 = 0 then
    if a2 < 1 then
      f_X8_entry_23 g a0 a1 a2 a3 a0
    else
      if a3 < 0 then
        f_X8_entry_23 g a0 a1 a2 a3 a0
      else
        if a3 ≤ 2 then
          (xg_r g 9 a0 4).bind fun x20 =>
          (xa_i 1 g x20 a1).bind fun x22 =>
          if a2 ≤ x22 then
            f_X8_entry_42 g a0 a1 a2 a3 a0 0
          else
            f_X8_entry_42 g a0 a1 a2 a3 a0 1
        else
          f_X8_entry_23 g a0 a1 a2 a3 a0
  else
    f_X8_entry_23 g a0 a1 a2 a3 a0
def f_X8_head (g : xG) (a0 : Nat) (a1 : Int32) (a2 : Int32) : Option (Int64 × xG) :=
  (xk g 9 a0).bind fun _ =>
  (f_X8_no g a0 a1).bind fun x3 =>
  if x3 = 0 then
    if 0 ≤ a2 then
      (xg_r g 9 a0 4).bind fun x11 =>
      (xa_i 1 g x11 a1).bind fun x13 =>
      if a2 ≤ x13 then
        (xp_i g 9 a0 0 0).bind fun g15 =>
        (xg_i g15 9 a0 0).bind fun x17 =>
        if x17 ≤ 0 then
          (xk g15 9 a0).bind fun _ =>
          (f_X8_headOf g15 a0 a1 a2).bind fun x21 =>
          some (x21, g15)
        else
          some (0, g15)
      else
        (xp_i g 9 a0 0 1).bind fun g22 =>
        (xg_i g22 9 a0 0).bind fun x24 =>
        if x24 ≤ 0 then
          (xk g22 9 a0).bind fun _ =>
          (f_X8_headOf g22 a0 a1 a2).bind fun x28 =>
          some (x28, g22)
        else
          some (0, g22)
    else
      (xp_i g 9 a0 0 1).bind fun g29 =>
      (xg_i g29 9 a0 0).bind fun x31 =>
      if x31 ≤ 0 then
        (xk g29 9 a0).bind fun _ =>
        (f_X8_headOf g29 a0 a1 a2).bind fun x35 =>
        some (x35, g29)
      else
        some (0, g29)
  else
    (xp_i g 9 a0 0 1).bind fun g4 =>
    (xg_i g4 9 a0 0).bind fun x6 =>
    if x6 ≤ 0 then
      (xk g4 9 a0).bind fun _ =>
      (f_X8_headOf g4 a0 a1 a2).bind fun x10 =>
      some (x10, g4)
    else
      some (0, g4)
def f_X8_about_87 : Nat → xG → Nat → Int32 → Int32 → Int32 → Option (Int32 × xG)
  | 0, _, _, _, _, _ => none
  | n9 + 1, g, v0, v1, v3, v4 =>
  (xg_i g 9 v0 19).bind fun x1 =>
  if x1 ≤ v4 then
    some (v3, g)
  else
    (xg_r g 9 v0 20).bind fun x3 =>
    (xa_i 1 g x3 v4).bind fun x5 =>
    if x5 = v1 then
      f_X8_about_87 n9 g v0 v1 (v3 + 1) (v4 + 1)
    else
      f_X8_about_87 n9 g v0 v1 v3 (v4 + 1)
def f_X8_about_23 (g : xG) (v0 : Nat) (v1 : Int32) (v2 : Int32) (s0 : Nat) (s1 : Int32) : Option (Int32 × xG) :=
  (xp_i g 9 s0 0 s1).bind fun g7 =>
  (xg_i g7 9 v0 0).bind fun x9 =>
  if x9 ≤ 0 then
    if v2 = 0 then
      (xg_r g7 9 v0 4).bind fun x23 =>
      (xa_i 1 g7 x23 v1).bind fun x25 =>
      some (x25, g7)
    else
      if v2 = 1 then
        (xg_r g7 9 v0 2).bind fun x19 =>
        (xa_i 1 g7 x19 v1).bind fun x21 =>
        some (x21, g7)
      else
        if v2 = 2 then
          (xg_r g7 9 v0 3).bind fun x15 =>
          (xa_i 1 g7 x15 v1).bind fun x17 =>
          some (x17, g7)
        else
          if v2 = 3 then
            (xg_r g7 9 v0 23).bind fun x11 =>
            (xa_i 1 g7 x11 v1).bind fun x13 =>
            some (x13, g7)
          else
            f_X8_about_87 xFU g7 v0 v1 0 0
  else
    some (0, g7)
def f_X8_about_18 (g : xG) (v0 : Nat) (v1 : Int32) (v2 : Int32) (s0 : Nat) : Option (Int32 × xG) :=
  f_X8_about_23 g v0 v1 v2 s0 1
def f_X8_about (g : xG) (a0 : Nat) (a1 : Int32) (a2 : Int32) : Option (Int32 × xG) :=
  (xk g 9 a0).bind fun _ =>
  (f_X8_no g a0 a1).bind fun x29 =>
  if x29 = 0 then
    if a2 < 0 then
      f_X8_about_18 g a0 a1 a2 a0
    else
      if a2 ≤ 4 then
        f_X8_about_23 g a0 a1 a2 a0 0
      else
        f_X8_about_18 g a0 a1 a2 a0
  else
    f_X8_about_18 g a0 a1 a2 a0
def f_X8_total_10 (g : xG) (v0 : Nat) (v1 : Int32) (s0 : Nat) : Option (Int32 × xG) :=
  (xp_i g 9 s0 0 1).bind fun g1 =>
  (xg_i g1 9 v0 0).bind fun x3 =>
  if x3 ≤ 0 then
    if v1 = 0 then
      (xg_i g1 9 v0 10).bind fun x11 =>
      some (x11, g1)
    else
      if v1 = 1 then
        (xg_i g1 9 v0 11).bind fun x9 =>
        some (x9, g1)
      else
        if v1 = 2 then
          (xg_i g1 9 v0 28).bind fun x7 =>
          some (x7, g1)
        else
          (xg_i g1 9 v0 1).bind fun x5 =>
          some (x5, g1)
  else
    some (0, g1)
def f_X8_total (g : xG) (a0 : Nat) (a1 : Int32) : Option (Int32 × xG) :=
  if a1 < 0 then
    f_X8_total_10 g a0 a1 a0
  else
    if a1 ≤ 3 then
      (xp_i g 9 a0 0 0).bind fun g13 =>
      (xg_i g13 9 a0 0).bind fun x15 =>
      if x15 ≤ 0 then
        if a1 = 0 then
          (xg_i g13 9 a0 10).bind fun x23 =>
          some (x23, g13)
        else
          if a1 = 1 then
            (xg_i g13 9 a0 11).bind fun x21 =>
            some (x21, g13)
          else
            if a1 = 2 then
              (xg_i g13 9 a0 28).bind fun x19 =>
              some (x19, g13)
            else
              (xg_i g13 9 a0 1).bind fun x17 =>
              some (x17, g13)
      else
        some (0, g13)
    else
      f_X8_total_10 g a0 a1 a0
def f_Jx4a65c_size_8abf5 (g : xG) (a0 : Nat) : Option Int32 :=
  (xg_i g 0 a0 2).bind fun x1 =>
  some x1
def f_Jx4a65c_elementData_915e3 (g : xG) (a0 : Nat) (a1 : Int32) : Option Nat :=
  (xg_r g 0 a0 1).bind fun x1 =>
  (xa_r 6 g x1 a1).bind fun x3 =>
  some x3
def f_Jx4a65c_get_915e3 (g : xG) (a0 : Nat) (a1 : Int32) : Option Nat :=
  (xg_i g 0 a0 2).bind fun x1 =>
  (f_J15_checkIndex_7cf53 a1 x1).bind fun x4 =>
  (xk g 0 a0).bind fun _ =>
  (f_Jx4a65c_elementData_915e3 g a0 a1).bind fun x7 =>
  some x7
def f_X7_open (g : xG) (a0 : Nat) (a1 : Int32) : Option (Nat ⊕ xG) :=
  if a1 < 3 then
    some (.inl 1)
  else
    if 6 < a1 then
      some (.inl 1)
    else
      (xk g 8 a0).bind fun _ =>
      (f_X7_startWith g a0 a1).bind fun g3 =>
      some (.inr g3)
def f_X7_input (g : xG) (a0 : Nat) (a1 : Int32) (a2 : Int32) : Option (Nat ⊕ (Int32 × xG)) :=
  (xk g 8 a0).bind fun _ =>
  (f_X7_isNode g a0 a1).bind fun x3 =>
  if x3 = 0 then
    some (.inl 1)
  else
  (xg_r g 8 a0 1).bind fun x4 =>
  (xa_r 5 g x4 a1).bind fun x6 =>
  (xg_r g 5 x6 2).bind fun x8 =>
  (xk g 3 x8).bind fun _ =>
  (f_X2_hasTwoPlaces g x8).bind fun x12 =>
  if x12 = 0 then
    some (.inl 2)
  else
  (xg_r g 8 a0 1).bind fun x13 =>
  (xa_r 5 g x13 a1).bind fun x15 =>
  (xg_r g 5 x15 2).bind fun x17 =>
  (xk g 3 x17).bind fun _ =>
  (f_X2_append g x17 1 0 a2).bind fun g21 =>
  (xg_r g21 8 a0 1).bind fun x22 =>
  (xa_r 5 g21 x22 a1).bind fun x24 =>
  (xg_r g21 5 x24 1).bind fun x26 =>
  (xk g21 4 x26).bind fun _ =>
  (f_X3_stepInput g21 x26 a2).bind fun g30 =>
  (xg_r g30 8 a0 1).bind fun x31 =>
  (xa_r 5 g30 x31 a1).bind fun x33 =>
  (xk g30 8 a0).bind fun _ =>
  (f_X7_sendWhatIsDue g30 a0 x33).bind fun g37 =>
  (xg_r g37 8 a0 1).bind fun x38 =>
  (xa_r 5 g37 x38 a1).bind fun x40 =>
  (xg_r g37 5 x40 2).bind fun x42 =>
  (xg_i g37 3 x42 0).bind fun x44 =>
  some (.inr (x44, g37))
def f_X7_deliver (g : xG) (a0 : Nat) (a1 : Int32) : Option (Nat ⊕ (Int32 × xG)) :=
  (xk g 8 a0).bind fun _ =>
  (f_X7_isLetter g a0 a1).bind fun x3 =>
  if x3 = 0 then
    some (.inl 1)
  else
  (xg_r g 8 a0 2).bind fun x4 =>
  (xk g 6 x4).bind fun _ =>
  x2 (f_X5_takeOut g x4 a1) fun x8 g9 =>
  (xg_i g9 2 x8 0).bind fun x10 =>
  if x10 = 1 then
    (xk g9 8 a0).bind fun _ =>
    x2 (f_X7_takeMessage g9 a0 x8) fun x20 g21 =>
    (xz x20).bind fun x23 =>
    some (.inr (x23, g21))
  else
    (xk g9 8 a0).bind fun _ =>
    x2 (f_X7_takeNote g9 a0 x8) fun x14 g15 =>
    (xz x14).bind fun x17 =>
    some (.inr (x17, g15))
def f_X7_drop (g : xG) (a0 : Nat) (a1 : Int32) : Option (Nat ⊕ (Int32 × xG)) :=
  (xk g 8 a0).bind fun _ =>
  (f_X7_isLetter g a0 a1).bind fun x3 =>
  if x3 = 0 then
    some (.inl 1)
  else
  (xg_r g 8 a0 2).bind fun x4 =>
  (xk g 6 x4).bind fun _ =>
  x2 (f_X5_takeOut g x4 a1) fun x8 g9 =>
  (xg_i g9 2 x8 0).bind fun x10 =>
  some (.inr (x10, g9))
def f_X7_copy (g : xG) (a0 : Nat) (a1 : Int32) : Option (Nat ⊕ (Int32 × xG)) :=
  (xk g 8 a0).bind fun _ =>
  (f_X7_isLetter g a0 a1).bind fun x3 =>
  if x3 = 0 then
    some (.inl 1)
  else
  (xg_r g 8 a0 2).bind fun x4 =>
  (xk g 6 x4).bind fun _ =>
  x2 (f_X5_repeat g x4 a1) fun x8 g9 =>
  (xz x8).bind fun x11 =>
  some (.inr (x11, g9))
def f_X7_spoil (g : xG) (a0 : Nat) (a1 : Int32) (a2 : Int32) : Option (Nat ⊕ (Int32 × xG)) :=
  (xk g 8 a0).bind fun _ =>
  (f_X7_isLetter g a0 a1).bind fun x3 =>
  if x3 = 0 then
    some (.inl 1)
  else
    (xg_r g 8 a0 2).bind fun x4 =>
    (xg_r g 6 x4 2).bind fun x6 =>
    (xa_r 4 g x6 a1).bind fun x8 =>
    (xg_i g 2 x8 0).bind fun x10 =>
    if x10 = 1 then
      (xg_r g 8 a0 2).bind fun x12 =>
      (xg_r g 6 x12 2).bind fun x14 =>
      (xa_r 4 g x14 a1).bind fun x16 =>
      (xg_i g 2 x16 3).bind fun x18 =>
      (xg_r g 8 a0 2).bind fun x20 =>
      (xg_r g 6 x20 2).bind fun x22 =>
      (xa_r 4 g x22 a1).bind fun x24 =>
      (xp_i g 2 x24 3 a2).bind fun g26 =>
      some (.inr (x18, g26))
    else
      some (.inl 1)
def f_X7_forward_23 : Nat → xG → Nat → Int32 → Nat → Int32 → Int32 → Option (Nat ⊕ (Int32 × xG))
  | 0, _, _, _, _, _, _ => none
  | n9 + 1, g, v0, v1, v2, v3, v4 =>
  (xg_i g 7 v2 0).bind fun x1 =>
  if x1 ≤ v4 then
    some (.inr (v3, g))
  else
    (xg_r g 7 v2 4).bind fun x3 =>
    (xa_i 3 g x3 v4).bind fun x5 =>
    if x5 = 0 then
      (xg_r g 7 v2 4).bind fun x7 =>
      (xs_i 3 g x7 v4 1).bind fun g9 =>
      (xk g9 8 v0).bind fun _ =>
      x2 (f_X7_sendNote g9 v0 v1 v2 v4 1) fun x13 g14 =>
      (xk g14 8 v0).bind fun _ =>
      x2 (f_X7_sendNote g14 v0 v1 v2 v4 2) fun x17 g18 =>
      f_X7_forward_23 n9 g18 v0 v1 v2 (v3 + (x13 + x17)) (v4 + 1)
    else
      f_X7_forward_23 n9 g v0 v1 v2 v3 (v4 + 1)
def f_X7_forward (g : xG) (a0 : Nat) (a1 : Int32) : Option (Nat ⊕ (Int32 × xG)) :=
  (xk g 8 a0).bind fun _ =>
  (f_X7_isNode g a0 a1).bind fun x21 =>
  if x21 = 0 then
    some (.inl 1)
  else
  (xg_r g 8 a0 1).bind fun x22 =>
  (xa_r 5 g x22 a1).bind fun x24 =>
  (xg_r g 5 x24 3).bind fun x26 =>
  f_X7_forward_23 xFU g a0 a1 x26 0 0
def f_X7_lie (g : xG) (a0 : Nat) (a1 : Int32) (a2 : Int32) (a3 : Int32) : Option (Nat ⊕ (Int32 × xG)) :=
  (xk g 8 a0).bind fun _ =>
  (f_X7_isNode g a0 a1).bind fun x3 =>
  if x3 = 0 then
    some (.inl 1)
  else
    (xk g 8 a0).bind fun _ =>
    (f_X7_isNode g a0 a2).bind fun x6 =>
    if x6 = 0 then
      some (.inl 1)
    else
      if a2 = a1 then
        some (.inl 1)
      else
        (xg_r g 8 a0 1).bind fun x7 =>
        (xa_r 5 g x7 a1).bind fun x9 =>
        (xg_r g 5 x9 2).bind fun x11 =>
        (xk g 3 x11).bind fun _ =>
        (f_X2_hasTwoPlaces g x11).bind fun x15 =>
        if x15 = 0 then
          some (.inl 2)
        else
        (xg_r g 8 a0 1).bind fun x16 =>
        (xa_r 5 g x16 a1).bind fun x18 =>
        (xk g 8 a0).bind fun _ =>
        (f_X7_sendMessage g a0 x18 a2 a3).bind fun g22 =>
        (xg_r g22 8 a0 1).bind fun x23 =>
        (xa_r 5 g22 x23 a1).bind fun x25 =>
        (xg_r g22 5 x25 2).bind fun x27 =>
        (xg_i g22 3 x27 0).bind fun x29 =>
        some (.inr (x29, g22))
def f_X7_bend (g : xG) (a0 : Nat) (a1 : Int32) (a2 : Int32) (a3 : Int32) : Option (Nat ⊕ (Int32 × xG)) :=
  (xk g 8 a0).bind fun _ =>
  (f_X7_isNode g a0 a1).bind fun x3 =>
  if x3 = 0 then
    some (.inl 1)
  else
    if a2 < 1 then
      some (.inl 1)
    else
      (xg_r g 8 a0 1).bind fun x4 =>
      (xa_r 5 g x4 a1).bind fun x6 =>
      (xg_r g 5 x6 2).bind fun x8 =>
      (xg_i g 3 x8 0).bind fun x10 =>
      if x10 < a2 then
        some (.inl 1)
      else
        (xg_r g 8 a0 1).bind fun x12 =>
        (xa_r 5 g x12 a1).bind fun x14 =>
        (xg_r g 5 x14 2).bind fun x16 =>
        (xg_r g 3 x16 3).bind fun x18 =>
        (xa_i 1 g x18 a2).bind fun x20 =>
        (xg_r g 8 a0 1).bind fun x22 =>
        (xa_r 5 g x22 a1).bind fun x24 =>
        (xg_r g 5 x24 2).bind fun x26 =>
        (xk g 3 x26).bind fun _ =>
        (f_X2_rewrite g x26 a2 a3).bind fun g30 =>
        some (.inr (x20, g30))
def f_X7_cut (g : xG) (a0 : Nat) (a1 : Int32) (a2 : Int32) : Option (Nat ⊕ (Int32 × xG)) :=
  (xk g 8 a0).bind fun _ =>
  (f_X7_isNode g a0 a1).bind fun x3 =>
  if x3 = 0 then
    some (.inl 1)
  else
    if a2 < 0 then
      some (.inl 1)
    else
      (xg_r g 8 a0 1).bind fun x4 =>
      (xa_r 5 g x4 a1).bind fun x6 =>
      (xg_r g 5 x6 2).bind fun x8 =>
      (xg_i g 3 x8 0).bind fun x10 =>
      if x10 < a2 then
        some (.inl 1)
      else
        (xg_r g 8 a0 1).bind fun x12 =>
        (xa_r 5 g x12 a1).bind fun x14 =>
        (xg_r g 5 x14 2).bind fun x16 =>
        (xg_i g 3 x16 0).bind fun x18 =>
        (xg_r g 8 a0 1).bind fun x20 =>
        (xa_r 5 g x20 a1).bind fun x22 =>
        (xg_r g 5 x22 2).bind fun x24 =>
        (xp_i g 3 x24 0 a2).bind fun g26 =>
        some (.inr ((x18 - a2), g26))
def f_X7_hide (g : xG) (a0 : Nat) (a1 : Int32) (a2 : Int32) : Option (Nat ⊕ (Int32 × xG)) :=
  (xk g 8 a0).bind fun _ =>
  (f_X7_isNode g a0 a1).bind fun x3 =>
  if x3 = 0 then
    some (.inl 1)
  else
  (xg_r g 8 a0 1).bind fun x4 =>
  (xa_r 5 g x4 a1).bind fun x6 =>
  (xg_i g 5 x6 7).bind fun x8 =>
  (xg_r g 8 a0 1).bind fun x10 =>
  (xa_r 5 g x10 a1).bind fun x12 =>
  (xp_z g 5 x12 7 a2).bind fun g14 =>
  (xz x8).bind fun x17 =>
  some (.inr (x17, g14))
def f_X7_judge (g : xG) (a0 : Nat) (a1 : Int32) (a2 : Int32) : Option (Nat ⊕ (Int32 × xG)) :=
  (xk g 8 a0).bind fun _ =>
  (f_X7_isNode g a0 a1).bind fun x3 =>
  if x3 = 0 then
    some (.inl 1)
  else
    (xk g 8 a0).bind fun _ =>
    (f_X7_isEvidence g a0 a2).bind fun x6 =>
    if x6 = 0 then
      some (.inl 1)
    else
      (xg_r g 8 a0 3).bind fun x7 =>
      (xk g 0 x7).bind fun _ =>
      (f_Jx4a65c_get_915e3 g x7 a2).bind fun x11 =>
      (xk g 1 x11).bind fun _ =>
      (xk g 8 a0).bind fun _ =>
      x2 (f_X7_proves g a0 x11) fun x15 g16 =>
      if x15 = 0 then
        (xz x15).bind fun x18 =>
        some (.inr (x18, g16))
      else
        (xg_r g16 8 a0 1).bind fun x19 =>
        (xa_r 5 g16 x19 a1).bind fun x21 =>
        (xg_r g16 5 x21 4).bind fun x23 =>
        (xk g16 1 x11).bind fun _ =>
        (f_X0_byteAt g16 x11 1).bind fun x27 =>
        (xs_i 1 g16 x23 x27 2).bind fun g28 =>
        (xz x15).bind fun x31 =>
        some (.inr (x31, g28))
def f_X7_holds (g : xG) (a0 : Nat) (a1 : Int32) : Option (Nat ⊕ (Int32 × xG)) :=
  (xk g 8 a0).bind fun _ =>
  (f_X7_isEvidence g a0 a1).bind fun x3 =>
  if x3 = 0 then
    some (.inl 1)
  else
  (xg_r g 8 a0 3).bind fun x4 =>
  (xk g 0 x4).bind fun _ =>
  (f_Jx4a65c_get_915e3 g x4 a1).bind fun x8 =>
  (xk g 1 x8).bind fun _ =>
  (xk g 8 a0).bind fun _ =>
  x2 (f_X7_proves g a0 x8) fun x12 g13 =>
  (xz x12).bind fun x15 =>
  some (.inr (x15, g13))
def f_X7_byteOf (g : xG) (a0 : Nat) (a1 : Int32) (a2 : Int32) : Option (Nat ⊕ (Int32 × xG)) :=
  (xk g 8 a0).bind fun _ =>
  (f_X7_isEvidence g a0 a1).bind fun x3 =>
  if x3 = 0 then
    some (.inl 1)
  else
  (xg_r g 8 a0 3).bind fun x4 =>
  (xk g 0 x4).bind fun _ =>
  (f_Jx4a65c_get_915e3 g x4 a1).bind fun x8 =>
  (xk g 1 x8).bind fun _ =>
  (xk g 1 x8).bind fun _ =>
  (f_X0_hasByte g x8 a2).bind fun x12 =>
  if x12 = 0 then
    some (.inr ((-1), g))
  else
    (xk g 1 x8).bind fun _ =>
    (f_X0_byteAt g x8 a2).bind fun x15 =>
    some (.inr (x15, g))
def f_X7_smudge (g : xG) (a0 : Nat) (a1 : Int32) (a2 : Int32) (a3 : Int32) : Option (Nat ⊕ (Int32 × xG)) :=
  (xk g 8 a0).bind fun _ =>
  (f_X7_isEvidence g a0 a1).bind fun x3 =>
  if x3 = 0 then
    some (.inl 1)
  else
    (xg_r g 8 a0 3).bind fun x4 =>
    (xk g 0 x4).bind fun _ =>
    (f_Jx4a65c_get_915e3 g x4 a1).bind fun x8 =>
    (xk g 1 x8).bind fun _ =>
    (xk g 1 x8).bind fun _ =>
    (f_X0_hasByte g x8 a2).bind fun x12 =>
    if x12 = 0 then
      some (.inl 1)
    else
      if a3 < 0 then
        some (.inl 1)
      else
        if 255 < a3 then
          some (.inl 1)
        else
          (xg_r g 8 a0 3).bind fun x13 =>
          (xk g 0 x13).bind fun _ =>
          (f_Jx4a65c_get_915e3 g x13 a1).bind fun x17 =>
          (xk g 1 x17).bind fun _ =>
          (xk g 1 x17).bind fun _ =>
          (f_X0_byteAt g x17 a2).bind fun x21 =>
          (xg_r g 1 x17 1).bind fun x22 =>
          (xs_i 0 g x22 a2 (Int8.toInt32 (Int32.toInt8 a3))).bind fun g24 =>
          some (.inr (x21, g24))
def f_X7_verdict (g : xG) (a0 : Nat) (a1 : Int32) (a2 : Int32) : Option (Nat ⊕ (Int32 × xG)) :=
  (xk g 8 a0).bind fun _ =>
  (f_X7_isNode g a0 a1).bind fun x3 =>
  if x3 = 0 then
    some (.inl 1)
  else
    (xk g 8 a0).bind fun _ =>
    (f_X7_isNode g a0 a2).bind fun x6 =>
    if x6 = 0 then
      some (.inl 1)
    else
      if a1 = a2 then
        some (.inl 1)
      else
        (xg_r g 8 a0 1).bind fun x7 =>
        (xa_r 5 g x7 a1).bind fun x9 =>
        (xg_r g 5 x9 4).bind fun x11 =>
        (xa_i 1 g x11 a2).bind fun x13 =>
        some (.inr (x13, g))
def f_X7_entry (g : xG) (a0 : Nat) (a1 : Int32) (a2 : Int32) (a3 : Int32) : Option (Nat ⊕ (Int32 × xG)) :=
  (xk g 8 a0).bind fun _ =>
  (f_X7_isNode g a0 a1).bind fun x3 =>
  if x3 = 0 then
    some (.inl 1)
  else
    if a2 < 1 then
      some (.inl 1)
    else
      (xg_r g 8 a0 1).bind fun x4 =>
      (xa_r 5 g x4 a1).bind fun x6 =>
      (xg_r g 5 x6 2).bind fun x8 =>
      (xg_i g 3 x8 0).bind fun x10 =>
      if x10 < a2 then
        some (.inl 1)
      else
        if a3 = 0 then
          (xg_r g 8 a0 1).bind fun x12 =>
          (xa_r 5 g x12 a1).bind fun x14 =>
          (xg_r g 5 x14 2).bind fun x16 =>
          (xg_r g 3 x16 1).bind fun x18 =>
          (xa_i 1 g x18 a2).bind fun x20 =>
          some (.inr (x20, g))
        else
        if a3 = 1 then
          (xg_r g 8 a0 1).bind fun x22 =>
          (xa_r 5 g x22 a1).bind fun x24 =>
          (xg_r g 5 x24 2).bind fun x26 =>
          (xg_r g 3 x26 2).bind fun x28 =>
          (xa_i 1 g x28 a2).bind fun x30 =>
          some (.inr (x30, g))
        else
        if a3 = 2 then
          (xg_r g 8 a0 1).bind fun x32 =>
          (xa_r 5 g x32 a1).bind fun x34 =>
          (xg_r g 5 x34 2).bind fun x36 =>
          (xg_r g 3 x36 3).bind fun x38 =>
          (xa_i 1 g x38 a2).bind fun x40 =>
          some (.inr (x40, g))
        else
        some (.inl 1)
def f_X7_head (g : xG) (a0 : Nat) (a1 : Int32) (a2 : Int32) : Option (Nat ⊕ (Int64 × xG)) :=
  (xk g 8 a0).bind fun _ =>
  (f_X7_isNode g a0 a1).bind fun x3 =>
  if x3 = 0 then
    some (.inl 1)
  else
    if a2 < 0 then
      some (.inl 1)
    else
      (xg_r g 8 a0 1).bind fun x4 =>
      (xa_r 5 g x4 a1).bind fun x6 =>
      (xg_r g 5 x6 2).bind fun x8 =>
      (xg_i g 3 x8 0).bind fun x10 =>
      if x10 < a2 then
        some (.inl 1)
      else
        (xg_r g 8 a0 1).bind fun x12 =>
        (xa_r 5 g x12 a1).bind fun x14 =>
        (xg_r g 5 x14 2).bind fun x16 =>
        (xg_r g 3 x16 4).bind fun x18 =>
        (xa_l g x18 a2).bind fun x20 =>
        some (.inr (x20, g))
def f_X7_about (g : xG) (a0 : Nat) (a1 : Int32) (a2 : Int32) : Option (Nat ⊕ (Int32 × xG)) :=
  (xk g 8 a0).bind fun _ =>
  (f_X7_isNode g a0 a1).bind fun x3 =>
  if x3 = 0 then
    some (.inl 1)
  else
  if a2 = 0 then
    (xg_r g 8 a0 1).bind fun x4 =>
    (xa_r 5 g x4 a1).bind fun x6 =>
    (xg_r g 5 x6 2).bind fun x8 =>
    (xg_i g 3 x8 0).bind fun x10 =>
    some (.inr (x10, g))
  else
  if a2 = 1 then
    (xg_r g 8 a0 1).bind fun x12 =>
    (xa_r 5 g x12 a1).bind fun x14 =>
    (xg_r g 5 x14 1).bind fun x16 =>
    (xg_i g 4 x16 2).bind fun x18 =>
    some (.inr (x18, g))
  else
  if a2 = 2 then
    (xg_r g 8 a0 1).bind fun x20 =>
    (xa_r 5 g x20 a1).bind fun x22 =>
    (xg_r g 5 x22 1).bind fun x24 =>
    (xg_i g 4 x24 3).bind fun x26 =>
    some (.inr (x26, g))
  else
  if a2 = 3 then
    (xg_r g 8 a0 1).bind fun x28 =>
    (xa_r 5 g x28 a1).bind fun x30 =>
    (xg_r g 5 x30 3).bind fun x32 =>
    (xg_i g 7 x32 0).bind fun x34 =>
    some (.inr (x34, g))
  else
  if a2 = 4 then
    (xg_r g 8 a0 1).bind fun x36 =>
    (xa_r 5 g x36 a1).bind fun x38 =>
    (xg_i g 5 x38 6).bind fun x40 =>
    some (.inr (x40, g))
  else
  some (.inl 1)
def f_X7_total (g : xG) (a0 : Nat) (a1 : Int32) : Option (Nat ⊕ (Int32 × xG)) :=
  if a1 = 0 then
    (xg_r g 8 a0 2).bind fun x1 =>
    (xg_i g 6 x1 0).bind fun x3 =>
    some (.inr (x3, g))
  else
  if a1 = 1 then
    (xg_r g 8 a0 2).bind fun x5 =>
    (xg_i g 6 x5 1).bind fun x7 =>
    some (.inr (x7, g))
  else
  if a1 = 2 then
    (xg_i g 8 a0 4).bind fun x9 =>
    some (.inr (x9, g))
  else
  if a1 = 3 then
    (xg_i g 8 a0 0).bind fun x11 =>
    some (.inr (x11, g))
  else
  some (.inl 1)
def w_X0_init (P : List Nat → xG → Prop) (L : List Nat) (g : xG) (a0 : Nat) : Prop :=
  ∀ (q1 : Nat) (L1 : List Nat) (g1 : xG), q1 ∉ L → L1 = L ++ [q1] → g1 = va_up g q1 (.inl (0, 930, .inl (fun _ => 0))) →
  ∃ g2, (xp g1 1 a0 1 (.ref q1)) = some g2 ∧
  P L1 g2
def w_X1_init (P : List Nat → xG → Prop) (L : List Nat) (g : xG) (a0 : Nat) : Prop :=
  P L g
def w_X2_init (P : List Nat → xG → Prop) (L : List Nat) (g : xG) (a0 : Nat) : Prop :=
  ∀ (q1 : Nat) (L1 : List Nat) (g1 : xG), q1 ∉ L → L1 = L ++ [q1] → g1 = va_up g q1 (.inl (1, 151, .inl (fun _ => 0))) →
  ∃ g2, (xp g1 3 a0 1 (.ref q1)) = some g2 ∧
  ∀ (q4 : Nat) (L4 : List Nat) (g4 : xG), q4 ∉ L1 → L4 = L1 ++ [q4] → g4 = va_up g2 q4 (.inl (1, 151, .inl (fun _ => 0))) →
  ∃ g5, (xp g4 3 a0 2 (.ref q4)) = some g5 ∧
  ∀ (q7 : Nat) (L7 : List Nat) (g7 : xG), q7 ∉ L4 → L7 = L4 ++ [q7] → g7 = va_up g5 q7 (.inl (1, 151, .inl (fun _ => 0))) →
  ∃ g8, (xp g7 3 a0 3 (.ref q7)) = some g8 ∧
  ∀ (q10 : Nat) (L10 : List Nat) (g10 : xG), q10 ∉ L7 → L10 = L7 ++ [q10] → g10 = va_up g8 q10 (.inl (2, 151, .inr (.inl (fun _ => 0)))) →
  ∃ g11, (xp g10 3 a0 4 (.ref q10)) = some g11 ∧
  P L10 g11
def w_X3_init (P : List Nat → xG → Prop) (L : List Nat) (g : xG) (a0 : Nat) : Prop :=
  P L g
def w_X6_init (P : List Nat → xG → Prop) (L : List Nat) (g : xG) (a0 : Nat) : Prop :=
  ∀ (q1 : Nat) (L1 : List Nat) (g1 : xG), q1 ∉ L → L1 = L ++ [q1] → g1 = va_up g q1 (.inl (1, 300, .inl (fun _ => 0))) →
  ∃ g2, (xp g1 7 a0 1 (.ref q1)) = some g2 ∧
  ∀ (q4 : Nat) (L4 : List Nat) (g4 : xG), q4 ∉ L1 → L4 = L1 ++ [q4] → g4 = va_up g2 q4 (.inl (1, 300, .inl (fun _ => 0))) →
  ∃ g5, (xp g4 7 a0 2 (.ref q4)) = some g5 ∧
  ∀ (q7 : Nat) (L7 : List Nat) (g7 : xG), q7 ∉ L4 → L7 = L4 ++ [q7] → g7 = va_up g5 q7 (.inl (2, 300, .inr (.inl (fun _ => 0)))) →
  ∃ g8, (xp g7 7 a0 3 (.ref q7)) = some g8 ∧
  ∀ (q10 : Nat) (L10 : List Nat) (g10 : xG), q10 ∉ L7 → L10 = L7 ++ [q10] → g10 = va_up g8 q10 (.inl (3, 300, .inl (fun _ => 0))) →
  ∃ g11, (xp g10 7 a0 4 (.ref q10)) = some g11 ∧
  P L10 g11
def w_X4_init (P : List Nat → xG → Prop) (L : List Nat) (g : xG) (a0 : Nat) (a1 : Int32) : Prop :=
  ∀ (q1 : Nat) (L1 : List Nat) (g1 : xG), q1 ∉ L → L1 = L ++ [q1] → g1 = va_up g q1 (.inr (4, [.int 0, .int 0, .int 0, .int 0, .int 0, .int 0, .int 0])) →
  w_X3_init (fun L2 g2 =>
    ∃ g3, (xp g2 5 a0 1 (.ref q1)) = some g3 ∧
    ∀ (q5 : Nat) (L5 : List Nat) (g5 : xG), q5 ∉ L2 → L5 = L2 ++ [q5] → g5 = va_up g3 q5 (.inr (3, [.int 0, .null, .null, .null, .null])) →
    w_X2_init (fun L6 g6 =>
      ∃ g7, (xp g6 5 a0 2 (.ref q5)) = some g7 ∧
      ∀ (q9 : Nat) (L9 : List Nat) (g9 : xG), q9 ∉ L6 → L9 = L6 ++ [q9] → g9 = va_up g7 q9 (.inr (7, [.int 0, .null, .null, .null, .null])) →
      w_X6_init (fun L10 g10 =>
        ∃ g11, (xp g10 5 a0 3 (.ref q9)) = some g11 ∧
        ∀ (q13 : Nat) (L13 : List Nat) (g13 : xG), q13 ∉ L10 → L13 = L10 ++ [q13] → g13 = va_up g11 q13 (.inl (1, 6, .inl (fun _ => 0))) →
        ∃ g14, (xp g13 5 a0 4 (.ref q13)) = some g14 ∧
        ∀ (q16 : Nat) (L16 : List Nat) (g16 : xG), q16 ∉ L13 → L16 = L13 ++ [q16] → g16 = va_up g14 q16 (.inl (3, 906, .inl (fun _ => 0))) →
        ∃ g17, (xp g16 5 a0 5 (.ref q16)) = some g17 ∧
        ∃ g19, (xp g17 5 a0 0 (.int a1)) = some g19 ∧
        P L16 g19
      ) L9 g9 q9
    ) L5 g5 q5
  ) L1 g1 q1
def w_X5_init_27 (P : List Nat → xG → Prop) : Nat → List Nat → xG → Nat → Int32 → Prop
  | 0, _, _, _, _ => False
  | n9 + 1, L, g, v0, v1 =>
  if 200 ≤ v1 then
    P L g
  else
    ∃ x1, (xg_r g 6 v0 2) = some x1 ∧
    ∀ (q3 : Nat) (L3 : List Nat) (g3 : xG), q3 ∉ L → L3 = L ++ [q3] → g3 = va_up g q3 (.inr (2, [.int 0, .int 0, .int 0, .int 0, .int 0, .long 0, .long 0])) →
    w_X1_init (fun L4 g4 =>
      ∃ g5, (xs_r 4 2 g4 x1 v1 q3) = some g5 ∧
      w_X5_init_27 P n9 L4 g5 v0 (v1 + 1)
    ) L3 g3 q3
def w_X5_init (P : List Nat → xG → Prop) (L : List Nat) (g : xG) (a0 : Nat) : Prop :=
  ∀ (q7 : Nat) (L7 : List Nat) (g7 : xG), q7 ∉ L → L7 = L ++ [q7] → g7 = va_up g q7 (.inl (4, 200, .inr (.inr (.inr (.inr (fun _ => none)))))) →
  ∃ g8, (xp g7 6 a0 2 (.ref q7)) = some g8 ∧
  ∀ (q10 : Nat) (L10 : List Nat) (g10 : xG), q10 ∉ L7 → L10 = L7 ++ [q10] → g10 = va_up g8 q10 (.inr (2, [.int 0, .int 0, .int 0, .int 0, .int 0, .long 0, .long 0])) →
  w_X1_init (fun L11 g11 =>
    ∃ g12, (xp_r g11 6 a0 3 q10) = some g12 ∧
    w_X5_init_27 P 201 L11 g12 a0 0
  ) L10 g10 q10
def w_X8_init (P : List Nat → xG → Prop) (L : List Nat) (g : xG) (a0 : Nat) : Prop :=
  ∃ g1, (xp_i g 9 a0 1 3) = some g1 ∧
  ∀ (q3 : Nat) (L3 : List Nat) (g3 : xG), q3 ∉ L → L3 = L ++ [q3] → g3 = va_up g1 q3 (.inl (1, 6, .inl (fun _ => 0))) →
  ∃ g4, (xp g3 9 a0 2 (.ref q3)) = some g4 ∧
  ∀ (q6 : Nat) (L6 : List Nat) (g6 : xG), q6 ∉ L3 → L6 = L3 ++ [q6] → g6 = va_up g4 q6 (.inl (1, 6, .inl (fun _ => 0))) →
  ∃ g7, (xp g6 9 a0 3 (.ref q6)) = some g7 ∧
  ∀ (q9 : Nat) (L9 : List Nat) (g9 : xG), q9 ∉ L6 → L9 = L6 ++ [q9] → g9 = va_up g7 q9 (.inl (1, 6, .inl (fun _ => 0))) →
  ∃ g10, (xp g9 9 a0 4 (.ref q9)) = some g10 ∧
  ∀ (q12 : Nat) (L12 : List Nat) (g12 : xG), q12 ∉ L9 → L12 = L9 ++ [q12] → g12 = va_up g10 q12 (.inl (1, 906, .inl (fun _ => 0))) →
  ∃ g13, (xp g12 9 a0 5 (.ref q12)) = some g13 ∧
  ∀ (q15 : Nat) (L15 : List Nat) (g15 : xG), q15 ∉ L12 → L15 = L12 ++ [q15] → g15 = va_up g13 q15 (.inl (1, 906, .inl (fun _ => 0))) →
  ∃ g16, (xp g15 9 a0 6 (.ref q15)) = some g16 ∧
  ∀ (q18 : Nat) (L18 : List Nat) (g18 : xG), q18 ∉ L15 → L18 = L15 ++ [q18] → g18 = va_up g16 q18 (.inl (1, 906, .inl (fun _ => 0))) →
  ∃ g19, (xp g18 9 a0 7 (.ref q18)) = some g19 ∧
  ∀ (q21 : Nat) (L21 : List Nat) (g21 : xG), q21 ∉ L18 → L21 = L18 ++ [q21] → g21 = va_up g19 q21 (.inl (3, 6, .inl (fun _ => 0))) →
  ∃ g22, (xp g21 9 a0 8 (.ref q21)) = some g22 ∧
  ∀ (q24 : Nat) (L24 : List Nat) (g24 : xG), q24 ∉ L21 → L24 = L21 ++ [q24] → g24 = va_up g22 q24 (.inl (1, 36, .inl (fun _ => 0))) →
  ∃ g25, (xp g24 9 a0 9 (.ref q24)) = some g25 ∧
  ∀ (q27 : Nat) (L27 : List Nat) (g27 : xG), q27 ∉ L24 → L27 = L24 ++ [q27] → g27 = va_up g25 q27 (.inl (1, 200, .inl (fun _ => 0))) →
  ∃ g28, (xp g27 9 a0 12 (.ref q27)) = some g28 ∧
  ∀ (q30 : Nat) (L30 : List Nat) (g30 : xG), q30 ∉ L27 → L30 = L27 ++ [q30] → g30 = va_up g28 q30 (.inl (1, 200, .inl (fun _ => 0))) →
  ∃ g31, (xp g30 9 a0 13 (.ref q30)) = some g31 ∧
  ∀ (q33 : Nat) (L33 : List Nat) (g33 : xG), q33 ∉ L30 → L33 = L30 ++ [q33] → g33 = va_up g31 q33 (.inl (1, 200, .inl (fun _ => 0))) →
  ∃ g34, (xp g33 9 a0 14 (.ref q33)) = some g34 ∧
  ∀ (q36 : Nat) (L36 : List Nat) (g36 : xG), q36 ∉ L33 → L36 = L33 ++ [q36] → g36 = va_up g34 q36 (.inl (1, 200, .inl (fun _ => 0))) →
  ∃ g37, (xp g36 9 a0 15 (.ref q36)) = some g37 ∧
  ∀ (q39 : Nat) (L39 : List Nat) (g39 : xG), q39 ∉ L36 → L39 = L36 ++ [q39] → g39 = va_up g37 q39 (.inl (1, 200, .inl (fun _ => 0))) →
  ∃ g40, (xp g39 9 a0 16 (.ref q39)) = some g40 ∧
  ∀ (q42 : Nat) (L42 : List Nat) (g42 : xG), q42 ∉ L39 → L42 = L39 ++ [q42] → g42 = va_up g40 q42 (.inl (2, 200, .inr (.inl (fun _ => 0)))) →
  ∃ g43, (xp g42 9 a0 17 (.ref q42)) = some g43 ∧
  ∀ (q45 : Nat) (L45 : List Nat) (g45 : xG), q45 ∉ L42 → L45 = L42 ++ [q45] → g45 = va_up g43 q45 (.inl (2, 200, .inr (.inl (fun _ => 0)))) →
  ∃ g46, (xp g45 9 a0 18 (.ref q45)) = some g46 ∧
  ∀ (q48 : Nat) (L48 : List Nat) (g48 : xG), q48 ∉ L45 → L48 = L45 ++ [q48] → g48 = va_up g46 q48 (.inl (1, 600, .inl (fun _ => 0))) →
  ∃ g49, (xp g48 9 a0 20 (.ref q48)) = some g49 ∧
  ∀ (q51 : Nat) (L51 : List Nat) (g51 : xG), q51 ∉ L48 → L51 = L48 ++ [q51] → g51 = va_up g49 q51 (.inl (1, 600, .inl (fun _ => 0))) →
  ∃ g52, (xp g51 9 a0 21 (.ref q51)) = some g52 ∧
  ∀ (q54 : Nat) (L54 : List Nat) (g54 : xG), q54 ∉ L51 → L54 = L51 ++ [q54] → g54 = va_up g52 q54 (.inl (1, 600, .inl (fun _ => 0))) →
  ∃ g55, (xp g54 9 a0 22 (.ref q54)) = some g55 ∧
  ∀ (q57 : Nat) (L57 : List Nat) (g57 : xG), q57 ∉ L54 → L57 = L54 ++ [q57] → g57 = va_up g55 q57 (.inl (1, 6, .inl (fun _ => 0))) →
  ∃ g58, (xp g57 9 a0 23 (.ref q57)) = some g58 ∧
  ∀ (q60 : Nat) (L60 : List Nat) (g60 : xG), q60 ∉ L57 → L60 = L57 ++ [q60] → g60 = va_up g58 q60 (.inl (1, 1800, .inl (fun _ => 0))) →
  ∃ g61, (xp g60 9 a0 24 (.ref q60)) = some g61 ∧
  ∀ (q63 : Nat) (L63 : List Nat) (g63 : xG), q63 ∉ L60 → L63 = L60 ++ [q63] → g63 = va_up g61 q63 (.inl (1, 1800, .inl (fun _ => 0))) →
  ∃ g64, (xp g63 9 a0 25 (.ref q63)) = some g64 ∧
  ∀ (q66 : Nat) (L66 : List Nat) (g66 : xG), q66 ∉ L63 → L66 = L63 ++ [q66] → g66 = va_up g64 q66 (.inl (2, 1800, .inr (.inl (fun _ => 0)))) →
  ∃ g67, (xp g66 9 a0 26 (.ref q66)) = some g67 ∧
  ∀ (q69 : Nat) (L69 : List Nat) (g69 : xG), q69 ∉ L66 → L69 = L66 ++ [q69] → g69 = va_up g67 q69 (.inl (3, 1800, .inl (fun _ => 0))) →
  ∃ g70, (xp g69 9 a0 27 (.ref q69)) = some g70 ∧
  ∀ (q72 : Nat) (L72 : List Nat) (g72 : xG), q72 ∉ L69 → L72 = L69 ++ [q72] → g72 = va_up g70 q72 (.inl (1, 40, .inl (fun _ => 0))) →
  ∃ g73, (xp g72 9 a0 29 (.ref q72)) = some g73 ∧
  ∀ (q75 : Nat) (L75 : List Nat) (g75 : xG), q75 ∉ L72 → L75 = L72 ++ [q75] → g75 = va_up g73 q75 (.inl (0, 37600, .inl (fun _ => 0))) →
  ∃ g76, (xp g75 9 a0 30 (.ref q75)) = some g76 ∧
  ∀ (q78 : Nat) (L78 : List Nat) (g78 : xG), q78 ∉ L75 → L78 = L75 ++ [q78] → g78 = va_up g76 q78 (.inl (1, 151, .inl (fun _ => 0))) →
  ∃ g79, (xp g78 9 a0 32 (.ref q78)) = some g79 ∧
  ∀ (q81 : Nat) (L81 : List Nat) (g81 : xG), q81 ∉ L78 → L81 = L78 ++ [q81] → g81 = va_up g79 q81 (.inl (1, 151, .inl (fun _ => 0))) →
  ∃ g82, (xp g81 9 a0 33 (.ref q81)) = some g82 ∧
  ∀ (q84 : Nat) (L84 : List Nat) (g84 : xG), q84 ∉ L81 → L84 = L81 ++ [q84] → g84 = va_up g82 q84 (.inl (1, 151, .inl (fun _ => 0))) →
  ∃ g85, (xp g84 9 a0 34 (.ref q84)) = some g85 ∧
  P L84 g85
def w_J7_copyOf_1904c (t : Nat) (P : Nat → List Nat → xG → Prop) (L : List Nat) (g : xG) (a0 : Nat) (a1 : Int32) : Prop :=
  ∃ (n : Nat) (f : Nat → Option Nat) (N1 : Nat), g a0 = .inl (6, n, .inr (.inr (.inr (.inr f)))) ∧ xcap a1 = some N1 ∧ n ≤ N1 ∧ (∀ i, i < n → ∀ y, f i = some y → ∃ fs, g y = .inr (1, fs)) ∧
  ∀ (q : Nat) (L1 : List Nat) (g1 : xG), q ∉ L → q ≠ t → L1 = L ++ [q] → g1 = va_up g q (.inl (6, N1, .inr (.inr (.inr (.inr (va_cpy f (fun _ => none) 0 0 n)))))) → P q L1 g1
def f_J8_newLength_cabcc (a0 : Int32) (a1 : Int32) (a2 : Int32) : Option Int32 :=
  if (a0 + (if a1 < a2 then a2 else a1)) ≤ 0 then
    none
  else
    if 2147483639 < (a0 + (if a1 < a2 then a2 else a1)) then
      none
    else
      some (a0 + (if a1 < a2 then a2 else a1))
def w_Jxa1e45_init_da8c8 (P : List Nat → xG → Prop) (L : List Nat) (g : xG) (a0 : Nat) : Prop :=
  P L g
def w_Jxc12de_init_da8c8 (P : List Nat → xG → Prop) (L : List Nat) (g : xG) (a0 : Nat) : Prop :=
  w_Jxa1e45_init_da8c8 (fun L1 g1 =>
    ∃ g2, (xp_i g1 0 a0 0 0) = some g2 ∧
    P L1 g2
  ) L g a0
def w_Jx4a65c_init_da8c8 (t : Nat) (P : List Nat → xG → Prop) (L : List Nat) (g : xG) (a0 : Nat) : Prop :=
  w_Jxc12de_init_da8c8 (fun L1 g1 =>
    ∃ g2, (xp_r g1 0 a0 1 t) = some g2 ∧
    P L1 g2
  ) L g a0
def w_Jx4a65c_grow_92f84 (t : Nat) (P : Nat → List Nat → xG → Prop) (L : List Nat) (g : xG) (a0 : Nat) (a1 : Int32) : Prop :=
  ∃ x1, (xg_r g 0 a0 1) = some x1 ∧
  ∃ x3, (xn_t t g x1) = some x3 ∧
  if 0 < x3 then
    ∃ x6, (f_J8_newLength_cabcc x3 (a1 - x3) (x3 >>> (1 &&& 31))) = some x6 ∧
    ∃ x7, (xg_r g 0 a0 1) = some x7 ∧
    w_J7_copyOf_1904c t (fun x9 L9 g9 =>
      ∃ g10, (xp_r g9 0 a0 1 x9) = some g10 ∧
      P x9 L9 g10
    ) L g x7 x6
  else
    ∃ x12, (xg_r g 0 a0 1) = some x12 ∧
    if x12 = t then
      ∃ N14, (xcap (if 10 < a1 then a1 else 10)) = some N14 ∧
      ∀ (q14 : Nat) (L14 : List Nat) (g14 : xG), q14 ∉ L → q14 ≠ t → L14 = L ++ [q14] → g14 = va_up g q14 (.inl (6, N14, .inr (.inr (.inr (.inr (fun _ => none)))))) →
      ∃ g16, (xp_r g14 0 a0 1 q14) = some g16 ∧
      P q14 L14 g16
    else
      ∃ x19, (f_J8_newLength_cabcc x3 (a1 - x3) (x3 >>> (1 &&& 31))) = some x19 ∧
      ∃ x20, (xg_r g 0 a0 1) = some x20 ∧
      w_J7_copyOf_1904c t (fun x22 L22 g22 =>
        ∃ g23, (xp_r g22 0 a0 1 x22) = some g23 ∧
        P x22 L22 g23
      ) L g x20 x19
def w_Jx4a65c_grow_d5877 (t : Nat) (P : Nat → List Nat → xG → Prop) (L : List Nat) (g : xG) (a0 : Nat) : Prop :=
  ∃ x1, (xg_i g 0 a0 2) = some x1 ∧
  ∃ u9, (xk g 0 a0) = some u9 ∧
  w_Jx4a65c_grow_92f84 t (fun x4 L4 g4 =>
    P x4 L4 g4
  ) L g a0 (x1 + 1)
def w_Jx4a65c_add_72be8 (t : Nat) (P : List Nat → xG → Prop) (L : List Nat) (g : xG) (a0 : Nat) (a1 : Nat) (a2 : Nat) (a3 : Int32) : Prop :=
  ∃ x1, (xn_t t g a2) = some x1 ∧
  if a3 = x1 then
    ∃ u9, (xk g 0 a0) = some u9 ∧
    w_Jx4a65c_grow_d5877 t (fun x8 L8 g8 =>
      ∃ g9, (xs_r 6 1 g8 x8 a3 a1) = some g9 ∧
      ∃ g11, (xp_i g9 0 a0 2 (a3 + 1)) = some g11 ∧
      P L8 g11
    ) L g a0
  else
    ∃ g3, (xs_r 6 1 g a2 a3 a1) = some g3 ∧
    ∃ g5, (xp_i g3 0 a0 2 (a3 + 1)) = some g5 ∧
    P L g5
def w_Jx4a65c_add_9ea2d (t : Nat) (P : Int32 → List Nat → xG → Prop) (L : List Nat) (g : xG) (a0 : Nat) (a1 : Nat) : Prop :=
  ∃ x1, (xg_i g 0 a0 0) = some x1 ∧
  ∃ g3, (xp_i g 0 a0 0 (x1 + 1)) = some g3 ∧
  ∃ x5, (xg_r g3 0 a0 1) = some x5 ∧
  ∃ x7, (xg_i g3 0 a0 2) = some x7 ∧
  ∃ u9, (xk g3 0 a0) = some u9 ∧
  w_Jx4a65c_add_72be8 t (fun L10 g10 =>
    P 1 L10 g10
  ) L g3 a0 a1 x5 x7
def w_X7_init_59 (t : Nat) (P : List Nat → xG → Prop) : Nat → List Nat → xG → Nat → Int32 → Prop
  | 0, _, _, _, _ => False
  | n9 + 1, L, g, v0, v1 =>
  if 6 ≤ v1 then
    ∃ u9, (xk g 8 v0) = some u9 ∧
    ∃ g3, (f_X7_startWith g v0 3) = some g3 ∧
    P L g3
  else
    ∃ x4, (xg_r g 8 v0 1) = some x4 ∧
    ∀ (q6 : Nat) (L6 : List Nat) (g6 : xG), q6 ∉ L → L6 = L ++ [q6] → g6 = va_up g q6 (.inr (5, [.int 0, .null, .null, .null, .null, .null, .int 0, .int 0])) →
    w_X4_init (fun L7 g7 =>
      ∃ g8, (xs_r 5 5 g7 x4 v1 q6) = some g8 ∧
      w_X7_init_59 t P n9 L7 g8 v0 (v1 + 1)
    ) L6 g6 q6 v1
def w_X7_init (t : Nat) (P : List Nat → xG → Prop) (L : List Nat) (g : xG) (a0 : Nat) : Prop :=
  ∀ (q10 : Nat) (L10 : List Nat) (g10 : xG), q10 ∉ L → L10 = L ++ [q10] → g10 = va_up g q10 (.inl (5, 6, .inr (.inr (.inr (.inr (fun _ => none)))))) →
  ∃ g11, (xp g10 8 a0 1 (.ref q10)) = some g11 ∧
  ∀ (q13 : Nat) (L13 : List Nat) (g13 : xG), q13 ∉ L10 → L13 = L10 ++ [q13] → g13 = va_up g11 q13 (.inr (6, [.int 0, .int 0, .null, .null])) →
  w_X5_init (fun L14 g14 =>
    ∃ g15, (xp g14 8 a0 2 (.ref q13)) = some g15 ∧
    ∀ (q17 : Nat) (L17 : List Nat) (g17 : xG), q17 ∉ L14 → L17 = L14 ++ [q17] → g17 = va_up g15 q17 (.inr (0, [.int 0, .null, .int 0])) →
    w_Jx4a65c_init_da8c8 t (fun L18 g18 =>
      ∃ g19, (xp g18 8 a0 3 (.ref q17)) = some g19 ∧
      ∀ (q21 : Nat) (L21 : List Nat) (g21 : xG), q21 ∉ L18 → L21 = L18 ++ [q21] → g21 = va_up g19 q21 (.inr (4, [.int 0, .int 0, .int 0, .int 0, .int 0, .int 0, .int 0])) →
      w_X3_init (fun L22 g22 =>
        ∃ g23, (xp g22 8 a0 5 (.ref q21)) = some g23 ∧
        ∀ (q25 : Nat) (L25 : List Nat) (g25 : xG), q25 ∉ L22 → L25 = L22 ++ [q25] → g25 = va_up g23 q25 (.inr (3, [.int 0, .null, .null, .null, .null])) →
        w_X2_init (fun L26 g26 =>
          ∃ g27, (xp g26 8 a0 6 (.ref q25)) = some g27 ∧
          w_X7_init_59 t P 7 L26 g27 a0 0
        ) L25 g25 q25
      ) L21 g21 q21
    ) L17 g17 q17
  ) L13 g13 q13
def w_X7_newPiece (t : Nat) (P : Nat → List Nat → xG → Prop) (L : List Nat) (g : xG) (a0 : Nat) : Prop :=
  ∃ x1, (xg_i g 8 a0 4) = some x1 ∧
  ∃ x3, (xg_r g 8 a0 3) = some x3 ∧
  ∃ u9, (xk g 0 x3) = some u9 ∧
  ∃ x7, (f_Jx4a65c_size_8abf5 g x3) = some x7 ∧
  if x1 = x7 then
    ∃ x22, (xg_r g 8 a0 3) = some x22 ∧
    ∀ (q24 : Nat) (L24 : List Nat) (g24 : xG), q24 ∉ L → L24 = L ++ [q24] → g24 = va_up g q24 (.inr (1, [.int 0, .null])) →
    w_X0_init (fun L25 g25 =>
      ∃ u9, (xk g25 0 x22) = some u9 ∧
      w_Jx4a65c_add_9ea2d t (fun x27 L27 g27 =>
        ∃ x28, (xg_r g27 8 a0 3) = some x28 ∧
        ∃ x30, (xg_i g27 8 a0 4) = some x30 ∧
        ∃ u9, (xk g27 0 x28) = some u9 ∧
        ∃ x34, (f_Jx4a65c_get_915e3 g27 x28 x30) = some x34 ∧
        ∃ u9, (xk g27 1 x34) = some u9 ∧
        ∃ g36, (xp_i g27 1 x34 0 0) = some g36 ∧
        ∃ x38, (xg_i g36 8 a0 4) = some x38 ∧
        ∃ g40, (xp_i g36 8 a0 4 (x38 + 1)) = some g40 ∧
        P x34 L27 g40
      ) L25 g25 x22 q24
    ) L24 g24 q24
  else
    ∃ x8, (xg_r g 8 a0 3) = some x8 ∧
    ∃ x10, (xg_i g 8 a0 4) = some x10 ∧
    ∃ u9, (xk g 0 x8) = some u9 ∧
    ∃ x14, (f_Jx4a65c_get_915e3 g x8 x10) = some x14 ∧
    ∃ u9, (xk g 1 x14) = some u9 ∧
    ∃ g16, (xp_i g 1 x14 0 0) = some g16 ∧
    ∃ x18, (xg_i g16 8 a0 4) = some x18 ∧
    ∃ g20, (xp_i g16 8 a0 4 (x18 + 1)) = some g20 ∧
    P x14 L g20
def w_X7_writeFork (t : Nat) (P : List Nat → xG → Prop) (L : List Nat) (g : xG) (a0 : Nat) (a1 : Nat) (a2 : Nat) (a3 : Int32) : Prop :=
  ∃ u9, (xk g 8 a0) = some u9 ∧
  w_X7_newPiece t (fun x2 L2 g2 =>
    ∃ x3, (xg_r g2 7 a2 2) = some x3 ∧
    ∃ x5, (xa_i 1 g2 x3 a3) = some x5 ∧
    ∃ x7, (xg_r g2 7 a2 3) = some x7 ∧
    ∃ x9, (xa_l g2 x7 a3) = some x9 ∧
    ∃ g12, (f_X7_writeLog g2 x2 1 a1) = some g12 ∧
    ∃ u9, (xk g12 1 x2) = some u9 ∧
    ∃ g15, (f_X0_append g12 x2 (Int32.toInt64 x5) 2) = some g15 ∧
    ∃ u9, (xk g15 1 x2) = some u9 ∧
    ∃ g18, (f_X0_append g15 x2 x9 8) = some g18 ∧
    ∃ x19, (xg_i g18 5 a1 0) = some x19 ∧
    ∃ x22, (f_X7_signatureOf x19 x5 x9) = some x22 ∧
    ∃ u9, (xk g18 1 x2) = some u9 ∧
    ∃ g25, (f_X0_append g18 x2 x22 8) = some g25 ∧
    P L2 g25
  ) L g a0
def w_X7_writeRun (t : Nat) (P : List Nat → xG → Prop) (L : List Nat) (g : xG) (a0 : Nat) (a1 : Nat) (a2 : Int32) : Prop :=
  ∃ u9, (xk g 8 a0) = some u9 ∧
  w_X7_newPiece t (fun x2 L2 g2 =>
    ∃ g4, (f_X7_writeLog g2 x2 2 a1) = some g4 ∧
    ∃ u9, (xk g4 1 x2) = some u9 ∧
    ∃ g7, (f_X0_append g4 x2 (Int32.toInt64 a2) 2) = some g7 ∧
    P L2 g7
  ) L g a0
def w_X7_examine (t : Nat) (P : Int32 → List Nat → xG → Prop) (L : List Nat) (g : xG) (a0 : Nat) (a1 : Nat) (a2 : Nat) : Prop :=
  ∃ x1, (xg_i g 5 a2 7) = some x1 ∧
  if x1 = 0 then
    ∃ x3, (xg_i g 5 a2 0) = some x3 ∧
    ∃ x5, (xg_r g 5 a2 2) = some x5 ∧
    ∃ u9, (xk g 7 a1) = some u9 ∧
    ∃ x9, (f_X6_leastFork g a1 x3 x5) = some x9 ∧
    if x9 = (-1) then
      ∃ x10, (xg_i g 5 a2 0) = some x10 ∧
      ∃ x12, (xg_r g 5 a2 2) = some x12 ∧
      ∃ u9, (xk g 8 a0) = some u9 ∧
      ∃ x16 g17, (f_X7_firstWrong g a0 x10 x12) = some (x16, g17) ∧
      if x16 = (-1) then
        ∃ x18, (xg_i g17 5 a2 0) = some x18 ∧
        ∃ x20, (xg_r g17 5 a2 2) = some x20 ∧
        ∃ x22, (xg_i g17 3 x20 0) = some x22 ∧
        ∃ u9, (xk g17 7 a1) = some u9 ∧
        ∃ x26, (f_X6_keepsBeyond g17 a1 x18 x22) = some x26 ∧
        if x26 = 0 then
          ∃ x27, (xg_r g17 5 a2 2) = some x27 ∧
          ∃ x29, (xg_i g17 3 x27 0) = some x29 ∧
          if x29 ≤ 0 then
            P 0 L g17
          else
            ∃ x31, (xg_i g17 5 a2 0) = some x31 ∧
            ∃ x33, (xg_r g17 5 a2 2) = some x33 ∧
            ∃ x35, (xg_i g17 3 x33 0) = some x35 ∧
            ∃ x37, (xg_r g17 5 a2 2) = some x37 ∧
            ∃ x39, (xg_r g17 3 x37 4) = some x39 ∧
            ∃ x41, (xg_r g17 5 a2 2) = some x41 ∧
            ∃ x43, (xg_i g17 3 x41 0) = some x43 ∧
            ∃ x45, (xa_l g17 x39 x43) = some x45 ∧
            ∃ u9, (xk g17 7 a1) = some u9 ∧
            ∃ x49 g50, (f_X6_keep g17 a1 x31 x35 x45 0) = some (x49, g50) ∧
            P 0 L g50
        else
          P 1 L g17
      else
        ∃ u9, (xk g17 8 a0) = some u9 ∧
        w_X7_writeRun t (fun L52 g52 =>
          P 2 L52 g52
        ) L g17 a0 a2 x16
    else
      ∃ u9, (xk g 8 a0) = some u9 ∧
      w_X7_writeFork t (fun L54 g54 =>
        P 2 L54 g54
      ) L g a0 a2 a1 x9
  else
    P 1 L g
def w_X7_audit (t : Nat) (P : (Nat ⊕ Int32) → List Nat → xG → Prop) (L : List Nat) (g : xG) (a0 : Nat) (a1 : Int32) (a2 : Int32) : Prop :=
  ∃ u9, (xk g 8 a0) = some u9 ∧
  ∃ x3, (f_X7_isNode g a0 a1) = some x3 ∧
  if x3 = 0 then
    P (.inl 1) L g
  else
    ∃ u9, (xk g 8 a0) = some u9 ∧
    ∃ x6, (f_X7_isNode g a0 a2) = some x6 ∧
    if x6 = 0 then
      P (.inl 1) L g
    else
      ∃ u9, (xk g 8 a0) = some u9 ∧
      ∃ x9, (f_X7_isWitness g a0 a1 a2) = some x9 ∧
      if x9 = 0 then
        P (.inl 1) L g
      else
        ∃ x10, (xg_i g 8 a0 4) = some x10 ∧
        if 40 ≤ x10 then
          P (.inl 2) L g
        else
          ∃ x12, (xg_r g 8 a0 1) = some x12 ∧
          ∃ x14, (xa_r 5 g x12 a1) = some x14 ∧
          ∃ x16, (xg_r g 5 x14 4) = some x16 ∧
          ∃ x18, (xa_i 1 g x16 a2) = some x18 ∧
          if x18 = 2 then
            ∃ x20, (xa_i 1 g x16 a2) = some x20 ∧
            P (.inr x20) L g
          else
            ∃ x22, (xg_r g 8 a0 1) = some x22 ∧
            ∃ x24, (xa_r 5 g x22 a1) = some x24 ∧
            ∃ x26, (xg_r g 5 x24 3) = some x26 ∧
            ∃ x28, (xg_r g 8 a0 1) = some x28 ∧
            ∃ x30, (xa_r 5 g x28 a2) = some x30 ∧
            ∃ u9, (xk g 8 a0) = some u9 ∧
            w_X7_examine t (fun x33 L33 g33 =>
              ∃ g34, (xs_i 1 g33 x16 a2 x33) = some g34 ∧
              ∃ x36, (xa_i 1 g34 x16 a2) = some x36 ∧
              P (.inr x36) L33 g34
            ) L g a0 x26 x30
def w_L_open (P : Int32 → List Nat → xG → Prop) (L : List Nat) (g : xG) (a0 : Nat) (a1 : Int32) : Prop :=
  ∃ u9, (xk g 8 a0) = some u9 ∧
  ∃ oc, f_X7_open g a0 a1 = some oc ∧
  (∀ k : Nat, oc = .inl k → k = 1 ∧ P 1 L g) ∧
  ∀ (g2 : xG), oc = .inr g2 →
  P 0 L g2
def w_L_input (P : Int32 → List Nat → xG → Prop) (L : List Nat) (g : xG) (a0 : Nat) (a1 : Int32) (a2 : Int32) (a3 : Nat) : Prop :=
  ∃ u9, (xk g 8 a0) = some u9 ∧
  ∃ oc, f_X7_input g a0 a1 a2 = some oc ∧
  (∀ k : Nat, oc = .inl k → k = 1 ∧ P 1 L g ∨ k = 2 ∧ P 2 L g) ∧
  ∀ (x2 : Int32) (g2 : xG), oc = .inr (x2, g2) →
  ∃ g3, (xs_l g2 a3 0 (Int32.toInt64 x2)) = some g3 ∧
  P 0 L g3
def w_L_deliver (P : Int32 → List Nat → xG → Prop) (L : List Nat) (g : xG) (a0 : Nat) (a1 : Int32) (a2 : Nat) : Prop :=
  ∃ u9, (xk g 8 a0) = some u9 ∧
  ∃ oc, f_X7_deliver g a0 a1 = some oc ∧
  (∀ k : Nat, oc = .inl k → k = 1 ∧ P 1 L g) ∧
  ∀ (x2 : Int32) (g2 : xG), oc = .inr (x2, g2) →
  if x2 = 0 then
    ∃ g3, (xs_l g2 a2 0 0) = some g3 ∧
    P 0 L g3
  else
    ∃ g5, (xs_l g2 a2 0 1) = some g5 ∧
    P 0 L g5
def w_L_drop (P : Int32 → List Nat → xG → Prop) (L : List Nat) (g : xG) (a0 : Nat) (a1 : Int32) (a2 : Nat) : Prop :=
  ∃ u9, (xk g 8 a0) = some u9 ∧
  ∃ oc, f_X7_drop g a0 a1 = some oc ∧
  (∀ k : Nat, oc = .inl k → k = 1 ∧ P 1 L g) ∧
  ∀ (x2 : Int32) (g2 : xG), oc = .inr (x2, g2) →
  ∃ g3, (xs_l g2 a2 0 (Int32.toInt64 x2)) = some g3 ∧
  P 0 L g3
def w_L_copy (P : Int32 → List Nat → xG → Prop) (L : List Nat) (g : xG) (a0 : Nat) (a1 : Int32) (a2 : Nat) : Prop :=
  ∃ u9, (xk g 8 a0) = some u9 ∧
  ∃ oc, f_X7_copy g a0 a1 = some oc ∧
  (∀ k : Nat, oc = .inl k → k = 1 ∧ P 1 L g) ∧
  ∀ (x2 : Int32) (g2 : xG), oc = .inr (x2, g2) →
  if x2 = 0 then
    ∃ g3, (xs_l g2 a2 0 0) = some g3 ∧
    P 0 L g3
  else
    ∃ g5, (xs_l g2 a2 0 1) = some g5 ∧
    P 0 L g5
def w_L_spoil (P : Int32 → List Nat → xG → Prop) (L : List Nat) (g : xG) (a0 : Nat) (a1 : Int32) (a2 : Int32) (a3 : Nat) : Prop :=
  ∃ u9, (xk g 8 a0) = some u9 ∧
  ∃ oc, f_X7_spoil g a0 a1 a2 = some oc ∧
  (∀ k : Nat, oc = .inl k → k = 1 ∧ P 1 L g) ∧
  ∀ (x2 : Int32) (g2 : xG), oc = .inr (x2, g2) →
  ∃ g3, (xs_l g2 a3 0 (Int32.toInt64 x2)) = some g3 ∧
  P 0 L g3
def w_L_forward (P : Int32 → List Nat → xG → Prop) (L : List Nat) (g : xG) (a0 : Nat) (a1 : Int32) (a2 : Nat) : Prop :=
  ∃ u9, (xk g 8 a0) = some u9 ∧
  ∃ oc, f_X7_forward g a0 a1 = some oc ∧
  (∀ k : Nat, oc = .inl k → k = 1 ∧ P 1 L g) ∧
  ∀ (x2 : Int32) (g2 : xG), oc = .inr (x2, g2) →
  ∃ g3, (xs_l g2 a2 0 (Int32.toInt64 x2)) = some g3 ∧
  P 0 L g3
def w_L_lie (P : Int32 → List Nat → xG → Prop) (L : List Nat) (g : xG) (a0 : Nat) (a1 : Int32) (a2 : Int32) (a3 : Int32) (a4 : Nat) : Prop :=
  ∃ u9, (xk g 8 a0) = some u9 ∧
  ∃ oc, f_X7_lie g a0 a1 a2 a3 = some oc ∧
  (∀ k : Nat, oc = .inl k → k = 1 ∧ P 1 L g ∨ k = 2 ∧ P 2 L g) ∧
  ∀ (x2 : Int32) (g2 : xG), oc = .inr (x2, g2) →
  ∃ g3, (xs_l g2 a4 0 (Int32.toInt64 x2)) = some g3 ∧
  P 0 L g3
def w_L_bend (P : Int32 → List Nat → xG → Prop) (L : List Nat) (g : xG) (a0 : Nat) (a1 : Int32) (a2 : Int32) (a3 : Int32) (a4 : Nat) : Prop :=
  ∃ u9, (xk g 8 a0) = some u9 ∧
  ∃ oc, f_X7_bend g a0 a1 a2 a3 = some oc ∧
  (∀ k : Nat, oc = .inl k → k = 1 ∧ P 1 L g) ∧
  ∀ (x2 : Int32) (g2 : xG), oc = .inr (x2, g2) →
  ∃ g3, (xs_l g2 a4 0 (Int32.toInt64 x2)) = some g3 ∧
  P 0 L g3
def w_L_cut (P : Int32 → List Nat → xG → Prop) (L : List Nat) (g : xG) (a0 : Nat) (a1 : Int32) (a2 : Int32) (a3 : Nat) : Prop :=
  ∃ u9, (xk g 8 a0) = some u9 ∧
  ∃ oc, f_X7_cut g a0 a1 a2 = some oc ∧
  (∀ k : Nat, oc = .inl k → k = 1 ∧ P 1 L g) ∧
  ∀ (x2 : Int32) (g2 : xG), oc = .inr (x2, g2) →
  ∃ g3, (xs_l g2 a3 0 (Int32.toInt64 x2)) = some g3 ∧
  P 0 L g3
def w_L_hide (P : Int32 → List Nat → xG → Prop) (L : List Nat) (g : xG) (a0 : Nat) (a1 : Int32) (a2 : Int32) (a3 : Nat) : Prop :=
  ∃ u9, (xk g 8 a0) = some u9 ∧
  ∃ oc, f_X7_hide g a0 a1 a2 = some oc ∧
  (∀ k : Nat, oc = .inl k → k = 1 ∧ P 1 L g) ∧
  ∀ (x2 : Int32) (g2 : xG), oc = .inr (x2, g2) →
  if x2 = 0 then
    ∃ g3, (xs_l g2 a3 0 0) = some g3 ∧
    P 0 L g3
  else
    ∃ g5, (xs_l g2 a3 0 1) = some g5 ∧
    P 0 L g5
def w_L_audit (t : Nat) (P : Int32 → List Nat → xG → Prop) (L : List Nat) (g : xG) (a0 : Nat) (a1 : Int32) (a2 : Int32) (a3 : Nat) : Prop :=
  ∃ u9, (xk g 8 a0) = some u9 ∧
  w_X7_audit t (fun oc L2 g2 =>
    (∀ k : Nat, oc = .inl k → k = 1 ∧ P 1 L2 g2 ∨ k = 2 ∧ P 2 L2 g2) ∧
    ∀ x2 : Int32, oc = .inr x2 →
    ∃ g3, (xs_l g2 a3 0 (Int32.toInt64 x2)) = some g3 ∧
    P 0 L2 g3
  ) L g a0 a1 a2
def w_L_judge (P : Int32 → List Nat → xG → Prop) (L : List Nat) (g : xG) (a0 : Nat) (a1 : Int32) (a2 : Int32) (a3 : Nat) : Prop :=
  ∃ u9, (xk g 8 a0) = some u9 ∧
  ∃ oc, f_X7_judge g a0 a1 a2 = some oc ∧
  (∀ k : Nat, oc = .inl k → k = 1 ∧ P 1 L g) ∧
  ∀ (x2 : Int32) (g2 : xG), oc = .inr (x2, g2) →
  if x2 = 0 then
    ∃ g3, (xs_l g2 a3 0 0) = some g3 ∧
    P 0 L g3
  else
    ∃ g5, (xs_l g2 a3 0 1) = some g5 ∧
    P 0 L g5
def w_L_holds (P : Int32 → List Nat → xG → Prop) (L : List Nat) (g : xG) (a0 : Nat) (a1 : Int32) (a2 : Nat) : Prop :=
  ∃ u9, (xk g 8 a0) = some u9 ∧
  ∃ oc, f_X7_holds g a0 a1 = some oc ∧
  (∀ k : Nat, oc = .inl k → k = 1 ∧ P 1 L g) ∧
  ∀ (x2 : Int32) (g2 : xG), oc = .inr (x2, g2) →
  if x2 = 0 then
    ∃ g3, (xs_l g2 a2 0 0) = some g3 ∧
    P 0 L g3
  else
    ∃ g5, (xs_l g2 a2 0 1) = some g5 ∧
    P 0 L g5
def w_L_byteOf (P : Int32 → List Nat → xG → Prop) (L : List Nat) (g : xG) (a0 : Nat) (a1 : Int32) (a2 : Int32) (a3 : Nat) : Prop :=
  ∃ u9, (xk g 8 a0) = some u9 ∧
  ∃ oc, f_X7_byteOf g a0 a1 a2 = some oc ∧
  (∀ k : Nat, oc = .inl k → k = 1 ∧ P 1 L g) ∧
  ∀ (x2 : Int32) (g2 : xG), oc = .inr (x2, g2) →
  ∃ g3, (xs_l g2 a3 0 (Int32.toInt64 x2)) = some g3 ∧
  P 0 L g3
def w_L_smudge (P : Int32 → List Nat → xG → Prop) (L : List Nat) (g : xG) (a0 : Nat) (a1 : Int32) (a2 : Int32) (a3 : Int32) (a4 : Nat) : Prop :=
  ∃ u9, (xk g 8 a0) = some u9 ∧
  ∃ oc, f_X7_smudge g a0 a1 a2 a3 = some oc ∧
  (∀ k : Nat, oc = .inl k → k = 1 ∧ P 1 L g) ∧
  ∀ (x2 : Int32) (g2 : xG), oc = .inr (x2, g2) →
  ∃ g3, (xs_l g2 a4 0 (Int32.toInt64 x2)) = some g3 ∧
  P 0 L g3
def w_L_verdict (P : Int32 → List Nat → xG → Prop) (L : List Nat) (g : xG) (a0 : Nat) (a1 : Int32) (a2 : Int32) (a3 : Nat) : Prop :=
  ∃ u9, (xk g 8 a0) = some u9 ∧
  ∃ oc, f_X7_verdict g a0 a1 a2 = some oc ∧
  (∀ k : Nat, oc = .inl k → k = 1 ∧ P 1 L g) ∧
  ∀ (x2 : Int32) (g2 : xG), oc = .inr (x2, g2) →
  ∃ g3, (xs_l g2 a3 0 (Int32.toInt64 x2)) = some g3 ∧
  P 0 L g3
def w_L_entry (P : Int32 → List Nat → xG → Prop) (L : List Nat) (g : xG) (a0 : Nat) (a1 : Int32) (a2 : Int32) (a3 : Int32) (a4 : Nat) : Prop :=
  ∃ u9, (xk g 8 a0) = some u9 ∧
  ∃ oc, f_X7_entry g a0 a1 a2 a3 = some oc ∧
  (∀ k : Nat, oc = .inl k → k = 1 ∧ P 1 L g) ∧
  ∀ (x2 : Int32) (g2 : xG), oc = .inr (x2, g2) →
  ∃ g3, (xs_l g2 a4 0 (Int32.toInt64 x2)) = some g3 ∧
  P 0 L g3
def w_L_head (P : Int32 → List Nat → xG → Prop) (L : List Nat) (g : xG) (a0 : Nat) (a1 : Int32) (a2 : Int32) (a3 : Nat) : Prop :=
  ∃ u9, (xk g 8 a0) = some u9 ∧
  ∃ oc, f_X7_head g a0 a1 a2 = some oc ∧
  (∀ k : Nat, oc = .inl k → k = 1 ∧ P 1 L g) ∧
  ∀ (x2 : Int64) (g2 : xG), oc = .inr (x2, g2) →
  ∃ g3, (xs_l g2 a3 0 x2) = some g3 ∧
  P 0 L g3
def w_L_about (P : Int32 → List Nat → xG → Prop) (L : List Nat) (g : xG) (a0 : Nat) (a1 : Int32) (a2 : Int32) (a3 : Nat) : Prop :=
  ∃ u9, (xk g 8 a0) = some u9 ∧
  ∃ oc, f_X7_about g a0 a1 a2 = some oc ∧
  (∀ k : Nat, oc = .inl k → k = 1 ∧ P 1 L g) ∧
  ∀ (x2 : Int32) (g2 : xG), oc = .inr (x2, g2) →
  ∃ g3, (xs_l g2 a3 0 (Int32.toInt64 x2)) = some g3 ∧
  P 0 L g3
def w_L_total (P : Int32 → List Nat → xG → Prop) (L : List Nat) (g : xG) (a0 : Nat) (a1 : Int32) (a2 : Nat) : Prop :=
  ∃ u9, (xk g 8 a0) = some u9 ∧
  ∃ oc, f_X7_total g a0 a1 = some oc ∧
  (∀ k : Nat, oc = .inl k → k = 1 ∧ P 1 L g) ∧
  ∀ (x2 : Int32) (g2 : xG), oc = .inr (x2, g2) →
  ∃ g3, (xs_l g2 a2 0 (Int32.toInt64 x2)) = some g3 ∧
  P 0 L g3
def xsc (Ln : Nat) (xs : Nat → Int32) (i : Int32) : Option Int32 := if 0 ≤ i ∧ i.toNatClampNeg < Ln then some (xs i.toNatClampNeg) else none
def w_L_law_23 (t Ln : Nat) (xs : Nat → Int32) : Nat → List Nat → xG → Nat → Nat → Nat → Int32 → Prop
  | 0, _, _, _, _, _, _ => False
  | n9 + 1, L, g, v1, v2, v3, v4 =>
  if ((Int32.ofNat Ln) - 4) < v4 then
    True
  else
    ∃ x1, (xsc Ln xs v4) = some x1 ∧
    if (x1 &&& 31) = 0 then
      ∃ x3, (xsc Ln xs (v4 + 1)) = some x3 ∧
      w_L_open (fun x5 L5 g5 =>
        ∃ x6, (xsc Ln xs (v4 + 1)) = some x6 ∧
        ∃ u9, (xk g5 9 v2) = some u9 ∧
        ∃ g10, (f_X8_open g5 v2 x6) = some g10 ∧
        ∃ u9, (xk g10 9 v2) = some u9 ∧
        ∃ x13, (f_X8_thrown g10 v2) = some x13 ∧
        if x13 = x5 then
          w_L_law_23 t Ln xs n9 L5 g10 v1 v2 v3 (v4 + 4)
        else
          False
      ) L g v1 x3
    else
    if (x1 &&& 31) = 1 then
      ∃ x14, (xsc Ln xs (v4 + 1)) = some x14 ∧
      ∃ x16, (xsc Ln xs (v4 + 2)) = some x16 ∧
      w_L_input (fun x18 L18 g18 =>
        ∃ x19, (xsc Ln xs (v4 + 1)) = some x19 ∧
        ∃ x21, (xsc Ln xs (v4 + 2)) = some x21 ∧
        ∃ u9, (xk g18 9 v2) = some u9 ∧
        ∃ x25 g26, (f_X8_input g18 v2 x19 x21) = some (x25, g26) ∧
        ∃ u9, (xk g26 9 v2) = some u9 ∧
        ∃ x29, (f_X8_thrown g26 v2) = some x29 ∧
        if x29 = x18 then
          if x18 = 0 then
            ∃ x30, (xa_l g26 v3 0) = some x30 ∧
            if x30 = (Int32.toInt64 x25) then
              w_L_law_23 t Ln xs n9 L18 g26 v1 v2 v3 (v4 + 4)
            else
              False
          else
            w_L_law_23 t Ln xs n9 L18 g26 v1 v2 v3 (v4 + 4)
        else
          False
      ) L g v1 x14 x16 v3
    else
    if (x1 &&& 31) = 2 then
      ∃ x32, (xsc Ln xs (v4 + 1)) = some x32 ∧
      w_L_deliver (fun x34 L34 g34 =>
        ∃ x35, (xsc Ln xs (v4 + 1)) = some x35 ∧
        ∃ u9, (xk g34 9 v2) = some u9 ∧
        ∃ x39 g40, (f_X8_deliver g34 v2 x35) = some (x39, g40) ∧
        ∃ u9, (xk g40 9 v2) = some u9 ∧
        ∃ x43, (f_X8_thrown g40 v2) = some x43 ∧
        if x43 = x34 then
          if x34 = 0 then
            ∃ x44, (xa_l g40 v3 0) = some x44 ∧
            if x39 = 0 then
              if x44 = 0 then
                w_L_law_23 t Ln xs n9 L34 g40 v1 v2 v3 (v4 + 4)
              else
                False
            else
              if x44 = 1 then
                w_L_law_23 t Ln xs n9 L34 g40 v1 v2 v3 (v4 + 4)
              else
                False
          else
            w_L_law_23 t Ln xs n9 L34 g40 v1 v2 v3 (v4 + 4)
        else
          False
      ) L g v1 x32 v3
    else
    if (x1 &&& 31) = 3 then
      ∃ x46, (xsc Ln xs (v4 + 1)) = some x46 ∧
      w_L_drop (fun x48 L48 g48 =>
        ∃ x49, (xsc Ln xs (v4 + 1)) = some x49 ∧
        ∃ u9, (xk g48 9 v2) = some u9 ∧
        ∃ x53 g54, (f_X8_drop g48 v2 x49) = some (x53, g54) ∧
        ∃ u9, (xk g54 9 v2) = some u9 ∧
        ∃ x57, (f_X8_thrown g54 v2) = some x57 ∧
        if x57 = x48 then
          if x48 = 0 then
            ∃ x58, (xa_l g54 v3 0) = some x58 ∧
            if x58 = (Int32.toInt64 x53) then
              w_L_law_23 t Ln xs n9 L48 g54 v1 v2 v3 (v4 + 4)
            else
              False
          else
            w_L_law_23 t Ln xs n9 L48 g54 v1 v2 v3 (v4 + 4)
        else
          False
      ) L g v1 x46 v3
    else
    if (x1 &&& 31) = 4 then
      ∃ x60, (xsc Ln xs (v4 + 1)) = some x60 ∧
      w_L_copy (fun x62 L62 g62 =>
        ∃ x63, (xsc Ln xs (v4 + 1)) = some x63 ∧
        ∃ u9, (xk g62 9 v2) = some u9 ∧
        ∃ x67 g68, (f_X8_copy g62 v2 x63) = some (x67, g68) ∧
        ∃ u9, (xk g68 9 v2) = some u9 ∧
        ∃ x71, (f_X8_thrown g68 v2) = some x71 ∧
        if x71 = x62 then
          if x62 = 0 then
            ∃ x72, (xa_l g68 v3 0) = some x72 ∧
            if x67 = 0 then
              if x72 = 0 then
                w_L_law_23 t Ln xs n9 L62 g68 v1 v2 v3 (v4 + 4)
              else
                False
            else
              if x72 = 1 then
                w_L_law_23 t Ln xs n9 L62 g68 v1 v2 v3 (v4 + 4)
              else
                False
          else
            w_L_law_23 t Ln xs n9 L62 g68 v1 v2 v3 (v4 + 4)
        else
          False
      ) L g v1 x60 v3
    else
    if (x1 &&& 31) = 5 then
      ∃ x74, (xsc Ln xs (v4 + 1)) = some x74 ∧
      ∃ x76, (xsc Ln xs (v4 + 2)) = some x76 ∧
      w_L_spoil (fun x78 L78 g78 =>
        ∃ x79, (xsc Ln xs (v4 + 1)) = some x79 ∧
        ∃ x81, (xsc Ln xs (v4 + 2)) = some x81 ∧
        ∃ u9, (xk g78 9 v2) = some u9 ∧
        ∃ x85 g86, (f_X8_spoil g78 v2 x79 x81) = some (x85, g86) ∧
        ∃ u9, (xk g86 9 v2) = some u9 ∧
        ∃ x89, (f_X8_thrown g86 v2) = some x89 ∧
        if x89 = x78 then
          if x78 = 0 then
            ∃ x90, (xa_l g86 v3 0) = some x90 ∧
            if x90 = (Int32.toInt64 x85) then
              w_L_law_23 t Ln xs n9 L78 g86 v1 v2 v3 (v4 + 4)
            else
              False
          else
            w_L_law_23 t Ln xs n9 L78 g86 v1 v2 v3 (v4 + 4)
        else
          False
      ) L g v1 x74 x76 v3
    else
    if (x1 &&& 31) = 6 then
      ∃ x92, (xsc Ln xs (v4 + 1)) = some x92 ∧
      w_L_forward (fun x94 L94 g94 =>
        ∃ x95, (xsc Ln xs (v4 + 1)) = some x95 ∧
        ∃ u9, (xk g94 9 v2) = some u9 ∧
        ∃ x99 g100, (f_X8_forward g94 v2 x95) = some (x99, g100) ∧
        ∃ u9, (xk g100 9 v2) = some u9 ∧
        ∃ x103, (f_X8_thrown g100 v2) = some x103 ∧
        if x103 = x94 then
          if x94 = 0 then
            ∃ x104, (xa_l g100 v3 0) = some x104 ∧
            if x104 = (Int32.toInt64 x99) then
              w_L_law_23 t Ln xs n9 L94 g100 v1 v2 v3 (v4 + 4)
            else
              False
          else
            w_L_law_23 t Ln xs n9 L94 g100 v1 v2 v3 (v4 + 4)
        else
          False
      ) L g v1 x92 v3
    else
    if (x1 &&& 31) = 7 then
      ∃ x106, (xsc Ln xs (v4 + 1)) = some x106 ∧
      ∃ x108, (xsc Ln xs (v4 + 2)) = some x108 ∧
      ∃ x110, (xsc Ln xs (v4 + 3)) = some x110 ∧
      w_L_lie (fun x112 L112 g112 =>
        ∃ x113, (xsc Ln xs (v4 + 1)) = some x113 ∧
        ∃ x115, (xsc Ln xs (v4 + 2)) = some x115 ∧
        ∃ x117, (xsc Ln xs (v4 + 3)) = some x117 ∧
        ∃ u9, (xk g112 9 v2) = some u9 ∧
        ∃ x121 g122, (f_X8_lie g112 v2 x113 x115 x117) = some (x121, g122) ∧
        ∃ u9, (xk g122 9 v2) = some u9 ∧
        ∃ x125, (f_X8_thrown g122 v2) = some x125 ∧
        if x125 = x112 then
          if x112 = 0 then
            ∃ x126, (xa_l g122 v3 0) = some x126 ∧
            if x126 = (Int32.toInt64 x121) then
              w_L_law_23 t Ln xs n9 L112 g122 v1 v2 v3 (v4 + 4)
            else
              False
          else
            w_L_law_23 t Ln xs n9 L112 g122 v1 v2 v3 (v4 + 4)
        else
          False
      ) L g v1 x106 x108 x110 v3
    else
    if (x1 &&& 31) = 8 then
      ∃ x128, (xsc Ln xs (v4 + 1)) = some x128 ∧
      ∃ x130, (xsc Ln xs (v4 + 2)) = some x130 ∧
      ∃ x132, (xsc Ln xs (v4 + 3)) = some x132 ∧
      w_L_bend (fun x134 L134 g134 =>
        ∃ x135, (xsc Ln xs (v4 + 1)) = some x135 ∧
        ∃ x137, (xsc Ln xs (v4 + 2)) = some x137 ∧
        ∃ x139, (xsc Ln xs (v4 + 3)) = some x139 ∧
        ∃ u9, (xk g134 9 v2) = some u9 ∧
        ∃ x143 g144, (f_X8_bend g134 v2 x135 x137 x139) = some (x143, g144) ∧
        ∃ u9, (xk g144 9 v2) = some u9 ∧
        ∃ x147, (f_X8_thrown g144 v2) = some x147 ∧
        if x147 = x134 then
          if x134 = 0 then
            ∃ x148, (xa_l g144 v3 0) = some x148 ∧
            if x148 = (Int32.toInt64 x143) then
              w_L_law_23 t Ln xs n9 L134 g144 v1 v2 v3 (v4 + 4)
            else
              False
          else
            w_L_law_23 t Ln xs n9 L134 g144 v1 v2 v3 (v4 + 4)
        else
          False
      ) L g v1 x128 x130 x132 v3
    else
    if (x1 &&& 31) = 9 then
      ∃ x150, (xsc Ln xs (v4 + 1)) = some x150 ∧
      ∃ x152, (xsc Ln xs (v4 + 2)) = some x152 ∧
      w_L_cut (fun x154 L154 g154 =>
        ∃ x155, (xsc Ln xs (v4 + 1)) = some x155 ∧
        ∃ x157, (xsc Ln xs (v4 + 2)) = some x157 ∧
        ∃ u9, (xk g154 9 v2) = some u9 ∧
        ∃ x161 g162, (f_X8_cut g154 v2 x155 x157) = some (x161, g162) ∧
        ∃ u9, (xk g162 9 v2) = some u9 ∧
        ∃ x165, (f_X8_thrown g162 v2) = some x165 ∧
        if x165 = x154 then
          if x154 = 0 then
            ∃ x166, (xa_l g162 v3 0) = some x166 ∧
            if x166 = (Int32.toInt64 x161) then
              w_L_law_23 t Ln xs n9 L154 g162 v1 v2 v3 (v4 + 4)
            else
              False
          else
            w_L_law_23 t Ln xs n9 L154 g162 v1 v2 v3 (v4 + 4)
        else
          False
      ) L g v1 x150 x152 v3
    else
    if (x1 &&& 31) = 10 then
      ∃ x168, (xsc Ln xs (v4 + 1)) = some x168 ∧
      ∃ x170, (xsc Ln xs (v4 + 2)) = some x170 ∧
      if x170 = 0 then
        w_L_hide (fun x172 L172 g172 =>
          ∃ x173, (xsc Ln xs (v4 + 1)) = some x173 ∧
          ∃ x175, (xsc Ln xs (v4 + 2)) = some x175 ∧
          if x175 = 0 then
            ∃ u9, (xk g172 9 v2) = some u9 ∧
            ∃ x179 g180, (f_X8_hide g172 v2 x173 0) = some (x179, g180) ∧
            ∃ u9, (xk g180 9 v2) = some u9 ∧
            ∃ x183, (f_X8_thrown g180 v2) = some x183 ∧
            if x183 = x172 then
              if x172 = 0 then
                ∃ x184, (xa_l g180 v3 0) = some x184 ∧
                if x179 = 0 then
                  if x184 = 0 then
                    w_L_law_23 t Ln xs n9 L172 g180 v1 v2 v3 (v4 + 4)
                  else
                    False
                else
                  if x184 = 1 then
                    w_L_law_23 t Ln xs n9 L172 g180 v1 v2 v3 (v4 + 4)
                  else
                    False
              else
                w_L_law_23 t Ln xs n9 L172 g180 v1 v2 v3 (v4 + 4)
            else
              False
          else
            ∃ u9, (xk g172 9 v2) = some u9 ∧
            ∃ x188 g189, (f_X8_hide g172 v2 x173 1) = some (x188, g189) ∧
            ∃ u9, (xk g189 9 v2) = some u9 ∧
            ∃ x192, (f_X8_thrown g189 v2) = some x192 ∧
            if x192 = x172 then
              if x172 = 0 then
                ∃ x193, (xa_l g189 v3 0) = some x193 ∧
                if x188 = 0 then
                  if x193 = 0 then
                    w_L_law_23 t Ln xs n9 L172 g189 v1 v2 v3 (v4 + 4)
                  else
                    False
                else
                  if x193 = 1 then
                    w_L_law_23 t Ln xs n9 L172 g189 v1 v2 v3 (v4 + 4)
                  else
                    False
              else
                w_L_law_23 t Ln xs n9 L172 g189 v1 v2 v3 (v4 + 4)
            else
              False
        ) L g v1 x168 0 v3
      else
        w_L_hide (fun x195 L195 g195 =>
          ∃ x196, (xsc Ln xs (v4 + 1)) = some x196 ∧
          ∃ x198, (xsc Ln xs (v4 + 2)) = some x198 ∧
          if x198 = 0 then
            ∃ u9, (xk g195 9 v2) = some u9 ∧
            ∃ x202 g203, (f_X8_hide g195 v2 x196 0) = some (x202, g203) ∧
            ∃ u9, (xk g203 9 v2) = some u9 ∧
            ∃ x206, (f_X8_thrown g203 v2) = some x206 ∧
            if x206 = x195 then
              if x195 = 0 then
                ∃ x207, (xa_l g203 v3 0) = some x207 ∧
                if x202 = 0 then
                  if x207 = 0 then
                    w_L_law_23 t Ln xs n9 L195 g203 v1 v2 v3 (v4 + 4)
                  else
                    False
                else
                  if x207 = 1 then
                    w_L_law_23 t Ln xs n9 L195 g203 v1 v2 v3 (v4 + 4)
                  else
                    False
              else
                w_L_law_23 t Ln xs n9 L195 g203 v1 v2 v3 (v4 + 4)
            else
              False
          else
            ∃ u9, (xk g195 9 v2) = some u9 ∧
            ∃ x211 g212, (f_X8_hide g195 v2 x196 1) = some (x211, g212) ∧
            ∃ u9, (xk g212 9 v2) = some u9 ∧
            ∃ x215, (f_X8_thrown g212 v2) = some x215 ∧
            if x215 = x195 then
              if x195 = 0 then
                ∃ x216, (xa_l g212 v3 0) = some x216 ∧
                if x211 = 0 then
                  if x216 = 0 then
                    w_L_law_23 t Ln xs n9 L195 g212 v1 v2 v3 (v4 + 4)
                  else
                    False
                else
                  if x216 = 1 then
                    w_L_law_23 t Ln xs n9 L195 g212 v1 v2 v3 (v4 + 4)
                  else
                    False
              else
                w_L_law_23 t Ln xs n9 L195 g212 v1 v2 v3 (v4 + 4)
            else
              False
        ) L g v1 x168 1 v3
    else
    if (x1 &&& 31) = 11 then
      ∃ x218, (xsc Ln xs (v4 + 1)) = some x218 ∧
      ∃ x220, (xsc Ln xs (v4 + 2)) = some x220 ∧
      w_L_audit t (fun x222 L222 g222 =>
        ∃ x223, (xsc Ln xs (v4 + 1)) = some x223 ∧
        ∃ x225, (xsc Ln xs (v4 + 2)) = some x225 ∧
        ∃ u9, (xk g222 9 v2) = some u9 ∧
        ∃ x229 g230, (f_X8_audit g222 v2 x223 x225) = some (x229, g230) ∧
        ∃ u9, (xk g230 9 v2) = some u9 ∧
        ∃ x233, (f_X8_thrown g230 v2) = some x233 ∧
        if x233 = x222 then
          if x222 = 0 then
            ∃ x234, (xa_l g230 v3 0) = some x234 ∧
            if x234 = (Int32.toInt64 x229) then
              w_L_law_23 t Ln xs n9 L222 g230 v1 v2 v3 (v4 + 4)
            else
              False
          else
            w_L_law_23 t Ln xs n9 L222 g230 v1 v2 v3 (v4 + 4)
        else
          False
      ) L g v1 x218 x220 v3
    else
    if (x1 &&& 31) = 12 then
      ∃ x236, (xsc Ln xs (v4 + 1)) = some x236 ∧
      ∃ x238, (xsc Ln xs (v4 + 2)) = some x238 ∧
      w_L_judge (fun x240 L240 g240 =>
        ∃ x241, (xsc Ln xs (v4 + 1)) = some x241 ∧
        ∃ x243, (xsc Ln xs (v4 + 2)) = some x243 ∧
        ∃ u9, (xk g240 9 v2) = some u9 ∧
        ∃ x247 g248, (f_X8_judge g240 v2 x241 x243) = some (x247, g248) ∧
        ∃ u9, (xk g248 9 v2) = some u9 ∧
        ∃ x251, (f_X8_thrown g248 v2) = some x251 ∧
        if x251 = x240 then
          if x240 = 0 then
            ∃ x252, (xa_l g248 v3 0) = some x252 ∧
            if x247 = 0 then
              if x252 = 0 then
                w_L_law_23 t Ln xs n9 L240 g248 v1 v2 v3 (v4 + 4)
              else
                False
            else
              if x252 = 1 then
                w_L_law_23 t Ln xs n9 L240 g248 v1 v2 v3 (v4 + 4)
              else
                False
          else
            w_L_law_23 t Ln xs n9 L240 g248 v1 v2 v3 (v4 + 4)
        else
          False
      ) L g v1 x236 x238 v3
    else
    if (x1 &&& 31) = 13 then
      ∃ x254, (xsc Ln xs (v4 + 1)) = some x254 ∧
      w_L_holds (fun x256 L256 g256 =>
        ∃ x257, (xsc Ln xs (v4 + 1)) = some x257 ∧
        ∃ u9, (xk g256 9 v2) = some u9 ∧
        ∃ x261 g262, (f_X8_holds g256 v2 x257) = some (x261, g262) ∧
        ∃ u9, (xk g262 9 v2) = some u9 ∧
        ∃ x265, (f_X8_thrown g262 v2) = some x265 ∧
        if x265 = x256 then
          if x256 = 0 then
            ∃ x266, (xa_l g262 v3 0) = some x266 ∧
            if x261 = 0 then
              if x266 = 0 then
                w_L_law_23 t Ln xs n9 L256 g262 v1 v2 v3 (v4 + 4)
              else
                False
            else
              if x266 = 1 then
                w_L_law_23 t Ln xs n9 L256 g262 v1 v2 v3 (v4 + 4)
              else
                False
          else
            w_L_law_23 t Ln xs n9 L256 g262 v1 v2 v3 (v4 + 4)
        else
          False
      ) L g v1 x254 v3
    else
    if (x1 &&& 31) = 14 then
      ∃ x268, (xsc Ln xs (v4 + 1)) = some x268 ∧
      ∃ x270, (xsc Ln xs (v4 + 2)) = some x270 ∧
      w_L_byteOf (fun x272 L272 g272 =>
        ∃ x273, (xsc Ln xs (v4 + 1)) = some x273 ∧
        ∃ x275, (xsc Ln xs (v4 + 2)) = some x275 ∧
        ∃ u9, (xk g272 9 v2) = some u9 ∧
        ∃ x279 g280, (f_X8_byteOf g272 v2 x273 x275) = some (x279, g280) ∧
        ∃ u9, (xk g280 9 v2) = some u9 ∧
        ∃ x283, (f_X8_thrown g280 v2) = some x283 ∧
        if x283 = x272 then
          if x272 = 0 then
            ∃ x284, (xa_l g280 v3 0) = some x284 ∧
            if x284 = (Int32.toInt64 x279) then
              w_L_law_23 t Ln xs n9 L272 g280 v1 v2 v3 (v4 + 4)
            else
              False
          else
            w_L_law_23 t Ln xs n9 L272 g280 v1 v2 v3 (v4 + 4)
        else
          False
      ) L g v1 x268 x270 v3
    else
    if (x1 &&& 31) = 15 then
      ∃ x286, (xsc Ln xs (v4 + 1)) = some x286 ∧
      ∃ x288, (xsc Ln xs (v4 + 2)) = some x288 ∧
      ∃ x290, (xsc Ln xs (v4 + 3)) = some x290 ∧
      w_L_smudge (fun x292 L292 g292 =>
        ∃ x293, (xsc Ln xs (v4 + 1)) = some x293 ∧
        ∃ x295, (xsc Ln xs (v4 + 2)) = some x295 ∧
        ∃ x297, (xsc Ln xs (v4 + 3)) = some x297 ∧
        ∃ u9, (xk g292 9 v2) = some u9 ∧
        ∃ x301 g302, (f_X8_smudge g292 v2 x293 x295 x297) = some (x301, g302) ∧
        ∃ u9, (xk g302 9 v2) = some u9 ∧
        ∃ x305, (f_X8_thrown g302 v2) = some x305 ∧
        if x305 = x292 then
          if x292 = 0 then
            ∃ x306, (xa_l g302 v3 0) = some x306 ∧
            if x306 = (Int32.toInt64 x301) then
              w_L_law_23 t Ln xs n9 L292 g302 v1 v2 v3 (v4 + 4)
            else
              False
          else
            w_L_law_23 t Ln xs n9 L292 g302 v1 v2 v3 (v4 + 4)
        else
          False
      ) L g v1 x286 x288 x290 v3
    else
    if (x1 &&& 31) = 16 then
      ∃ x308, (xsc Ln xs (v4 + 1)) = some x308 ∧
      ∃ x310, (xsc Ln xs (v4 + 2)) = some x310 ∧
      w_L_verdict (fun x312 L312 g312 =>
        ∃ x313, (xsc Ln xs (v4 + 1)) = some x313 ∧
        ∃ x315, (xsc Ln xs (v4 + 2)) = some x315 ∧
        ∃ u9, (xk g312 9 v2) = some u9 ∧
        ∃ x319 g320, (f_X8_verdict g312 v2 x313 x315) = some (x319, g320) ∧
        ∃ u9, (xk g320 9 v2) = some u9 ∧
        ∃ x323, (f_X8_thrown g320 v2) = some x323 ∧
        if x323 = x312 then
          if x312 = 0 then
            ∃ x324, (xa_l g320 v3 0) = some x324 ∧
            if x324 = (Int32.toInt64 x319) then
              w_L_law_23 t Ln xs n9 L312 g320 v1 v2 v3 (v4 + 4)
            else
              False
          else
            w_L_law_23 t Ln xs n9 L312 g320 v1 v2 v3 (v4 + 4)
        else
          False
      ) L g v1 x308 x310 v3
    else
    if (x1 &&& 31) = 17 then
      ∃ x326, (xsc Ln xs (v4 + 1)) = some x326 ∧
      ∃ x328, (xsc Ln xs (v4 + 2)) = some x328 ∧
      ∃ x330, (xsc Ln xs (v4 + 3)) = some x330 ∧
      w_L_entry (fun x332 L332 g332 =>
        ∃ x333, (xsc Ln xs (v4 + 1)) = some x333 ∧
        ∃ x335, (xsc Ln xs (v4 + 2)) = some x335 ∧
        ∃ x337, (xsc Ln xs (v4 + 3)) = some x337 ∧
        ∃ u9, (xk g332 9 v2) = some u9 ∧
        ∃ x341 g342, (f_X8_entry g332 v2 x333 x335 x337) = some (x341, g342) ∧
        ∃ u9, (xk g342 9 v2) = some u9 ∧
        ∃ x345, (f_X8_thrown g342 v2) = some x345 ∧
        if x345 = x332 then
          if x332 = 0 then
            ∃ x346, (xa_l g342 v3 0) = some x346 ∧
            if x346 = (Int32.toInt64 x341) then
              w_L_law_23 t Ln xs n9 L332 g342 v1 v2 v3 (v4 + 4)
            else
              False
          else
            w_L_law_23 t Ln xs n9 L332 g342 v1 v2 v3 (v4 + 4)
        else
          False
      ) L g v1 x326 x328 x330 v3
    else
    if (x1 &&& 31) = 18 then
      ∃ x348, (xsc Ln xs (v4 + 1)) = some x348 ∧
      ∃ x350, (xsc Ln xs (v4 + 2)) = some x350 ∧
      w_L_head (fun x352 L352 g352 =>
        ∃ x353, (xsc Ln xs (v4 + 1)) = some x353 ∧
        ∃ x355, (xsc Ln xs (v4 + 2)) = some x355 ∧
        ∃ u9, (xk g352 9 v2) = some u9 ∧
        ∃ x359 g360, (f_X8_head g352 v2 x353 x355) = some (x359, g360) ∧
        ∃ u9, (xk g360 9 v2) = some u9 ∧
        ∃ x363, (f_X8_thrown g360 v2) = some x363 ∧
        if x363 = x352 then
          if x352 = 0 then
            ∃ x364, (xa_l g360 v3 0) = some x364 ∧
            if x364 = x359 then
              w_L_law_23 t Ln xs n9 L352 g360 v1 v2 v3 (v4 + 4)
            else
              False
          else
            w_L_law_23 t Ln xs n9 L352 g360 v1 v2 v3 (v4 + 4)
        else
          False
      ) L g v1 x348 x350 v3
    else
    if (x1 &&& 31) = 19 then
      ∃ x366, (xsc Ln xs (v4 + 1)) = some x366 ∧
      ∃ x368, (xsc Ln xs (v4 + 2)) = some x368 ∧
      w_L_about (fun x370 L370 g370 =>
        ∃ x371, (xsc Ln xs (v4 + 1)) = some x371 ∧
        ∃ x373, (xsc Ln xs (v4 + 2)) = some x373 ∧
        ∃ u9, (xk g370 9 v2) = some u9 ∧
        ∃ x377 g378, (f_X8_about g370 v2 x371 x373) = some (x377, g378) ∧
        ∃ u9, (xk g378 9 v2) = some u9 ∧
        ∃ x381, (f_X8_thrown g378 v2) = some x381 ∧
        if x381 = x370 then
          if x370 = 0 then
            ∃ x382, (xa_l g378 v3 0) = some x382 ∧
            if x382 = (Int32.toInt64 x377) then
              w_L_law_23 t Ln xs n9 L370 g378 v1 v2 v3 (v4 + 4)
            else
              False
          else
            w_L_law_23 t Ln xs n9 L370 g378 v1 v2 v3 (v4 + 4)
        else
          False
      ) L g v1 x366 x368 v3
    else
    if (x1 &&& 31) = 20 then
      ∃ x384, (xsc Ln xs (v4 + 1)) = some x384 ∧
      w_L_total (fun x386 L386 g386 =>
        ∃ x387, (xsc Ln xs (v4 + 1)) = some x387 ∧
        ∃ u9, (xk g386 9 v2) = some u9 ∧
        ∃ x391 g392, (f_X8_total g386 v2 x387) = some (x391, g392) ∧
        ∃ u9, (xk g392 9 v2) = some u9 ∧
        ∃ x395, (f_X8_thrown g392 v2) = some x395 ∧
        if x395 = x386 then
          if x386 = 0 then
            ∃ x396, (xa_l g392 v3 0) = some x396 ∧
            if x396 = (Int32.toInt64 x391) then
              w_L_law_23 t Ln xs n9 L386 g392 v1 v2 v3 (v4 + 4)
            else
              False
          else
            w_L_law_23 t Ln xs n9 L386 g392 v1 v2 v3 (v4 + 4)
        else
          False
      ) L g v1 x384 v3
    else
    w_L_law_23 t Ln xs n9 L g v1 v2 v3 (v4 + 4)
def w_L_law (t Ln : Nat) (xs : Nat → Int32) (L : List Nat) (g : xG) : Prop :=
  ∀ (q398 : Nat) (L398 : List Nat) (g398 : xG), q398 ∉ L → L398 = L ++ [q398] → g398 = va_up g q398 (.inr (8, [.int 0, .null, .null, .null, .int 0, .null, .null])) →
  w_X7_init t (fun L399 g399 =>
    ∀ (q400 : Nat) (L400 : List Nat) (g400 : xG), q400 ∉ L399 → L400 = L399 ++ [q400] → g400 = va_up g399 q400 (.inr (9, [.int 0, .int 0, .null, .null, .null, .null, .null, .null, .null, .null, .int 0, .int 0, .null, .null, .null, .null, .null, .null, .null, .int 0, .null, .null, .null, .null, .null, .null, .null, .null, .int 0, .null, .null, .int 0, .null, .null, .null])) →
    w_X8_init (fun L401 g401 =>
      ∀ (q402 : Nat) (L402 : List Nat) (g402 : xG), q402 ∉ L401 → L402 = L401 ++ [q402] → g402 = va_up g401 q402 (.inl (2, 1, .inr (.inl (fun _ => 0)))) →
      w_L_law_23 t Ln xs 65 L402 g402 q398 q400 q402 0
    ) L400 g400 q400
  ) L398 g398 q398
