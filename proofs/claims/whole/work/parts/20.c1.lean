theorem xc_X7_mix_218 : Cond.constantLong RX7 218 (-7046029254386353131) ∈ wsX7_mix := by decide +kernel
def f_X7_mix (a0 : Int64) (a1 : Int64) : Option Int64 :=
  some (((a0 ^^^ a1) * (-7046029254386353131)) ^^^ (xlushr ((a0 ^^^ a1) * (-7046029254386353131)) 29))
set_option maxHeartbeats 4000000 in
set_option maxRecDepth 100000 in
theorem c_X7_mix (l : Launch) (D : va_G) (cy : Nat → ClassId) (L : List Nat) (g : xG) (a0 : Int64) (a1 : Int64) {r1 : Int64} (h : f_X7_mix a0 a1 = some r1) : xMl l yX7_mix wsX7_mix ({ frames := 0, cells := 0, slots := 0, locals := 0 }) D cy L g [.long a0, .long a1] r1 g := by
  refine xm_l (cc := cX7_mix) (maxL := 6) RX7 rfl rfl rfl (by decide +kernel) rfl (Nat.le_of_ble_eq_true rfl) ?_
  intro p e s m args below meth c Q A S w hA hN ret ls hl
  have hl : lv_has ls 6 [(0, .long a0), (2, .long a1)] := hl
  rw [f_X7_mix] at h
  refine lv_lload_n S.1 S.2.1 dX7_mix_0 rfl (lv_at hl 0 rfl) ?_
  refine lv_lload_n S.1 S.2.1 dX7_mix_1 rfl (lv_at hl 1 rfl) ?_
  refine lv_lxor S.1 S.2.1 dX7_mix_2 ?_
  refine xr_ldc2 S xc_X7_mix_218 dX7_mix_3 ?_
  refine lv_lmul S.1 S.2.1 dX7_mix_6 ?_
  refine lv_lstore (lv' := [(4, .long ((a0 ^^^ a1) * (-7046029254386353131))), (0, .long a0), (2, .long a1)]) S.1 S.2.1 dX7_mix_7 hl (by decide) rfl (fun ls hl => ?_)
  refine lv_lload S.1 S.2.1 dX7_mix_9 (lv_at hl 0 rfl) ?_
  refine lv_lload S.1 S.2.1 dX7_mix_11 (lv_at hl 0 rfl) ?_
  refine lv_bipush (v := 29) S.1 S.2.1 dX7_mix_13 (by decide) ?_
  refine lv_lushr (v := (xlushr ((a0 ^^^ a1) * (-7046029254386353131)) 29)) S.1 S.2.1 dX7_mix_15 rfl ?_
  refine lv_lxor S.1 S.2.1 dX7_mix_16 ?_
  exact ret _ _ _ _ _ _ (congrArg (fun z => some (z, g)) (Option.some.inj h)) w dX7_mix_17
theorem xc_X7_headBehind_220 : Cond.constantLong RX7 220 (7) ∈ wsX7_headBehind := by decide +kernel
def f_X7_headBehind (a0 : Int64) (a1 : Int32) (a2 : Int32) (a3 : Int32) : Option Int64 :=
  (f_X7_mix 7 a0).bind fun x2 =>
  (f_X7_mix x2 (Int32.toInt64 a1)).bind fun x4 =>
  (f_X7_mix x4 (Int32.toInt64 a2)).bind fun x6 =>
  (f_X7_mix x6 (Int32.toInt64 a3)).bind fun x8 =>
  some x8
set_option maxHeartbeats 4000000 in
set_option maxRecDepth 100000 in
theorem c_X7_headBehind (l : Launch) (D : va_G) (cy : Nat → ClassId) (L : List Nat) (g : xG) (a0 : Int64) (a1 : Int32) (a2 : Int32) (a3 : Int32) {r1 : Int64} (h : f_X7_headBehind a0 a1 a2 a3 = some r1) : xMl l yX7_headBehind wsX7_headBehind ({ frames := 1, cells := 0, slots := 0, locals := 25 }) D cy L g [.long a0, .int a1, .int a2, .int a3] r1 g := by
  refine xm_l (cc := cX7_headBehind) (maxL := 5) RX7 rfl rfl rfl (by decide +kernel) rfl (Nat.le_of_ble_eq_true rfl) ?_
  intro p e s m args below meth c Q A S w hA hN ret ls hl
  have hl : lv_has ls 5 [(0, .long a0), (2, .int a1), (3, .int a2), (4, .int a3)] := hl
  rw [f_X7_headBehind] at h
  refine xr_ldc2 S xc_X7_headBehind_220 dX7_headBehind_0 ?_
  refine lv_lload_n S.1 S.2.1 dX7_headBehind_3 rfl (lv_at hl 0 rfl) ?_
  obtain ⟨x2, h1, h⟩ := xb h
  refine xr_callS_l S w hA hN (c_X7_mix l D cy L g 7 a0 h1) (va_cwS 2 S.2.2.2.2 gX7_headBehind_X7_mix rfl rfl rfl (by decide +kernel) ⟨Nat.le_of_ble_eq_true rfl, Nat.le_of_ble_eq_true rfl⟩) rfl rfl hl.1 (Nat.le_of_ble_eq_true rfl) dX7_headBehind_4 ⟨Nat.le_of_ble_eq_true rfl, Nat.le_of_ble_eq_true rfl⟩ (fun H locs w => ?_)
  refine lv_iload_n S.1 S.2.1 dX7_headBehind_7 rfl (lv_at hl 1 rfl) ?_
  refine lv_i2l (v := (Int32.toInt64 a1)) S.1 S.2.1 dX7_headBehind_8 rfl ?_
  obtain ⟨x4, h3, h⟩ := xb h
  refine xr_callS_l S w hA hN (c_X7_mix l D cy L g x2 (Int32.toInt64 a1) h3) (va_cwS 2 S.2.2.2.2 gX7_headBehind_X7_mix rfl rfl rfl (by decide +kernel) ⟨Nat.le_of_ble_eq_true rfl, Nat.le_of_ble_eq_true rfl⟩) rfl rfl hl.1 (Nat.le_of_ble_eq_true rfl) dX7_headBehind_9 ⟨Nat.le_of_ble_eq_true rfl, Nat.le_of_ble_eq_true rfl⟩ (fun H locs w => ?_)
  refine lv_iload_n S.1 S.2.1 dX7_headBehind_12 rfl (lv_at hl 2 rfl) ?_
  refine lv_i2l (v := (Int32.toInt64 a2)) S.1 S.2.1 dX7_headBehind_13 rfl ?_
  obtain ⟨x6, h5, h⟩ := xb h
  refine xr_callS_l S w hA hN (c_X7_mix l D cy L g x4 (Int32.toInt64 a2) h5) (va_cwS 2 S.2.2.2.2 gX7_headBehind_X7_mix rfl rfl rfl (by decide +kernel) ⟨Nat.le_of_ble_eq_true rfl, Nat.le_of_ble_eq_true rfl⟩) rfl rfl hl.1 (Nat.le_of_ble_eq_true rfl) dX7_headBehind_14 ⟨Nat.le_of_ble_eq_true rfl, Nat.le_of_ble_eq_true rfl⟩ (fun H locs w => ?_)
  refine lv_iload S.1 S.2.1 dX7_headBehind_17 (lv_at hl 3 rfl) ?_
  refine lv_i2l (v := (Int32.toInt64 a3)) S.1 S.2.1 dX7_headBehind_19 rfl ?_
  obtain ⟨x8, h7, h⟩ := xb h
  refine xr_callS_l S w hA hN (c_X7_mix l D cy L g x6 (Int32.toInt64 a3) h7) (va_cwS 2 S.2.2.2.2 gX7_headBehind_X7_mix rfl rfl rfl (by decide +kernel) ⟨Nat.le_of_ble_eq_true rfl, Nat.le_of_ble_eq_true rfl⟩) rfl rfl hl.1 (Nat.le_of_ble_eq_true rfl) dX7_headBehind_20 ⟨Nat.le_of_ble_eq_true rfl, Nat.le_of_ble_eq_true rfl⟩ (fun H locs w => ?_)
  exact ret _ _ _ _ _ _ (congrArg (fun z => some (z, g)) (Option.some.inj h)) w dX7_headBehind_23
theorem xc_X7_signatureOf_220 : Cond.constantLong RX7 220 (7) ∈ wsX7_signatureOf := by decide +kernel
def f_X7_signatureOf (a0 : Int32) (a1 : Int32) (a2 : Int64) : Option Int64 :=
  (f_X7_mix 7 (Int32.toInt64 ((-1) - a0))).bind fun x2 =>
  (f_X7_mix x2 (Int32.toInt64 a1)).bind fun x4 =>
  (f_X7_mix x4 a2).bind fun x6 =>
  some x6
set_option maxHeartbeats 4000000 in
set_option maxRecDepth 100000 in
theorem c_X7_signatureOf (l : Launch) (D : va_G) (cy : Nat → ClassId) (L : List Nat) (g : xG) (a0 : Int32) (a1 : Int32) (a2 : Int64) {r1 : Int64} (h : f_X7_signatureOf a0 a1 a2 = some r1) : xMl l yX7_signatureOf wsX7_signatureOf ({ frames := 1, cells := 0, slots := 0, locals := 25 }) D cy L g [.int a0, .int a1, .long a2] r1 g := by
  refine xm_l (cc := cX7_signatureOf) (maxL := 4) RX7 rfl rfl rfl (by decide +kernel) rfl (Nat.le_of_ble_eq_true rfl) ?_
  intro p e s m args below meth c Q A S w hA hN ret ls hl
  have hl : lv_has ls 4 [(0, .int a0), (1, .int a1), (2, .long a2)] := hl
  rw [f_X7_signatureOf] at h
  refine xr_ldc2 S xc_X7_signatureOf_220 dX7_signatureOf_0 ?_
  refine lv_iconst (v := (-1)) S.1 S.2.1 dX7_signatureOf_3 (by decide) ?_
  refine lv_iload_n S.1 S.2.1 dX7_signatureOf_4 rfl (lv_at hl 0 rfl) ?_
  refine lv_isub S.1 S.2.1 dX7_signatureOf_5 ?_
  refine lv_i2l (v := (Int32.toInt64 ((-1) - a0))) S.1 S.2.1 dX7_signatureOf_6 rfl ?_
  obtain ⟨x2, h1, h⟩ := xb h
  refine xr_callS_l S w hA hN (c_X7_mix l D cy L g 7 (Int32.toInt64 ((-1) - a0)) h1) (va_cwS 2 S.2.2.2.2 gX7_signatureOf_X7_mix rfl rfl rfl (by decide +kernel) ⟨Nat.le_of_ble_eq_true rfl, Nat.le_of_ble_eq_true rfl⟩) rfl rfl hl.1 (Nat.le_of_ble_eq_true rfl) dX7_signatureOf_7 ⟨Nat.le_of_ble_eq_true rfl, Nat.le_of_ble_eq_true rfl⟩ (fun H locs w => ?_)
  refine lv_iload_n S.1 S.2.1 dX7_signatureOf_10 rfl (lv_at hl 1 rfl) ?_
  refine lv_i2l (v := (Int32.toInt64 a1)) S.1 S.2.1 dX7_signatureOf_11 rfl ?_
  obtain ⟨x4, h3, h⟩ := xb h
  refine xr_callS_l S w hA hN (c_X7_mix l D cy L g x2 (Int32.toInt64 a1) h3) (va_cwS 2 S.2.2.2.2 gX7_signatureOf_X7_mix rfl rfl rfl (by decide +kernel) ⟨Nat.le_of_ble_eq_true rfl, Nat.le_of_ble_eq_true rfl⟩) rfl rfl hl.1 (Nat.le_of_ble_eq_true rfl) dX7_signatureOf_12 ⟨Nat.le_of_ble_eq_true rfl, Nat.le_of_ble_eq_true rfl⟩ (fun H locs w => ?_)
  refine lv_lload_n S.1 S.2.1 dX7_signatureOf_15 rfl (lv_at hl 2 rfl) ?_
  obtain ⟨x6, h5, h⟩ := xb h
  refine xr_callS_l S w hA hN (c_X7_mix l D cy L g x4 a2 h5) (va_cwS 2 S.2.2.2.2 gX7_signatureOf_X7_mix rfl rfl rfl (by decide +kernel) ⟨Nat.le_of_ble_eq_true rfl, Nat.le_of_ble_eq_true rfl⟩) rfl rfl hl.1 (Nat.le_of_ble_eq_true rfl) dX7_signatureOf_16 ⟨Nat.le_of_ble_eq_true rfl, Nat.le_of_ble_eq_true rfl⟩ (fun H locs w => ?_)
  exact ret _ _ _ _ _ _ (congrArg (fun z => some (z, g)) (Option.some.inj h)) w dX7_signatureOf_19
theorem xi_X2_hasTwoPlaces_X2 : ∀ w ∈ wsX20, w ∈ wsX2_hasTwoPlaces := by decide +kernel
theorem xl_X2_hasTwoPlaces_25 : Cond.fieldLink RX2 25 (TX2 0).1 (TX2 0).2.1 (TX2 0).2.2.1 ∈ wsX2_hasTwoPlaces := by decide +kernel
def f_X2_hasTwoPlaces (g : xG) (a0 : Nat) : Option Int32 :=
  (xg_i g 3 a0 0).bind fun x1 =>
  if 150 < (x1 + 2) then
    some 0
  else
    some 1
set_option maxHeartbeats 4000000 in
set_option maxRecDepth 100000 in
theorem c_X2_hasTwoPlaces (l : Launch) (D : va_G) (cy : Nat → ClassId) (L : List Nat) (g : xG) (a0 : Nat) {r1 : Int32} (h : f_X2_hasTwoPlaces g a0 = some r1) : xMi l yX2_hasTwoPlaces wsX2_hasTwoPlaces ({ frames := 0, cells := 0, slots := 0, locals := 0 }) D cy L g [.ref a0] r1 g := by
  refine xm_z (cc := cX2_hasTwoPlaces) (maxL := 1) RX2 rfl rfl rfl (by decide +kernel) rfl (Nat.le_of_ble_eq_true rfl) ?_
  intro p e s m args below meth c Q A S w hA hN ret ls hl
  have hl : lv_has ls 1 [(0, .ref a0)] := hl
  rw [f_X2_hasTwoPlaces] at h
  refine lv_aload_n S.1 S.2.1 dX2_hasTwoPlaces_0 rfl (lv_at hl 0 rfl) ?_
  obtain ⟨x1, h2, h⟩ := xb h
  refine xr_geti S w 3 xi_X2_hasTwoPlaces_X2 rfl 0 (by decide) xl_X2_hasTwoPlaces_25 h2 dX2_hasTwoPlaces_1 ?_
  refine lv_iconst (v := 2) S.1 S.2.1 dX2_hasTwoPlaces_4 (by decide) ?_
  refine lv_iadd S.1 S.2.1 dX2_hasTwoPlaces_5 ?_
  refine lv_sipush (v := 150) S.1 S.2.1 dX2_hasTwoPlaces_6 (by decide) ?_
  refine lv_icmp_gt (tgt := 16) S.1 S.2.1 dX2_hasTwoPlaces_9 (by decide) (fun c9 => ?_) (fun c9 => ?_)
  · rw [if_pos c9] at h
    refine lv_iconst (v := 0) S.1 S.2.1 dX2_hasTwoPlaces_16 (by decide) ?_
    exact ret _ _ _ _ 0 0 _ (by decide) (congrArg (fun z => some (z, g)) (Option.some.inj h)) w dX2_hasTwoPlaces_17
  · rw [if_neg c9] at h
    refine lv_iconst (v := 1) S.1 S.2.1 dX2_hasTwoPlaces_12 (by decide) ?_
    refine lv_goto (tgt := 17) S.1 S.2.1 dX2_hasTwoPlaces_13 (by decide) ?_
    exact ret _ _ _ _ 1 1 _ (by decide) (congrArg (fun z => some (z, g)) (Option.some.inj h)) w dX2_hasTwoPlaces_17
theorem xi_X2_append_X2 : ∀ w ∈ wsX20, w ∈ wsX2_append := by decide +kernel
theorem xl_X2_append_25 : Cond.fieldLink RX2 25 (TX2 0).1 (TX2 0).2.1 (TX2 0).2.2.1 ∈ wsX2_append := by decide +kernel
theorem xl_X2_append_9 : Cond.fieldLink RX2 9 (TX2 1).1 (TX2 1).2.1 (TX2 1).2.2.1 ∈ wsX2_append := by decide +kernel
theorem xl_X2_append_15 : Cond.fieldLink RX2 15 (TX2 2).1 (TX2 2).2.1 (TX2 2).2.2.1 ∈ wsX2_append := by decide +kernel
theorem xl_X2_append_18 : Cond.fieldLink RX2 18 (TX2 3).1 (TX2 3).2.1 (TX2 3).2.2.1 ∈ wsX2_append := by decide +kernel
theorem xl_X2_append_21 : Cond.fieldLink RX2 21 (TX2 4).1 (TX2 4).2.1 (TX2 4).2.2.1 ∈ wsX2_append := by decide +kernel
def f_X2_append (g : xG) (a0 : Nat) (a1 : Int32) (a2 : Int32) (a3 : Int32) : Option xG :=
  (xg_i g 3 a0 0).bind fun x1 =>
  if 150 ≤ x1 then
    some g
  else
    (xg_i g 3 a0 0).bind fun x3 =>
    (xp_i g 3 a0 0 (x3 + 1)).bind fun g5 =>
    (xg_r g5 3 a0 1).bind fun x7 =>
    (xg_i g5 3 a0 0).bind fun x9 =>
    (xs_i 1 g5 x7 x9 a1).bind fun g11 =>
    (xg_r g11 3 a0 2).bind fun x13 =>
    (xg_i g11 3 a0 0).bind fun x15 =>
    (xs_i 1 g11 x13 x15 a2).bind fun g17 =>
    (xg_r g17 3 a0 3).bind fun x19 =>
    (xg_i g17 3 a0 0).bind fun x21 =>
    (xs_i 1 g17 x19 x21 a3).bind fun g23 =>
    (xg_r g23 3 a0 4).bind fun x25 =>
    (xg_i g23 3 a0 0).bind fun x27 =>
    (xg_r g23 3 a0 4).bind fun x29 =>
    (xg_i g23 3 a0 0).bind fun x31 =>
    (xa_l g23 x29 (x31 - 1)).bind fun x33 =>
    (f_X7_headBehind x33 a1 a2 a3).bind fun x36 =>
    (xs_l g23 x25 x27 x36).bind fun g37 =>
    some g37
set_option maxHeartbeats 4000000 in
set_option maxRecDepth 100000 in
theorem c_X2_append (l : Launch) (D : va_G) (cy : Nat → ClassId) (L : List Nat) (g : xG) (a0 : Nat) (a1 : Int32) (a2 : Int32) (a3 : Int32) {g1 : xG} (h : f_X2_append g a0 a1 a2 a3 = some g1) : xMv l yX2_append wsX2_append ({ frames := 2, cells := 0, slots := 0, locals := 49 }) D cy L g [.ref a0, .int a1, .int a2, .int a3] g1 := by
  refine xm_v (cc := cX2_append) (maxL := 4) RX2 rfl rfl rfl (by decide +kernel) rfl (Nat.le_of_ble_eq_true rfl) ?_
  intro p e s m args below meth c Q A S w hA hN ret ls hl
  have hl : lv_has ls 4 [(0, .ref a0), (1, .int a1), (2, .int a2), (3, .int a3)] := hl
  rw [f_X2_append] at h
  refine lv_aload_n S.1 S.2.1 dX2_append_0 rfl (lv_at hl 0 rfl) ?_
  obtain ⟨x1, h2, h⟩ := xb h
  refine xr_geti S w 3 xi_X2_append_X2 rfl 0 (by decide) xl_X2_append_25 h2 dX2_append_1 ?_
  refine lv_sipush (v := 150) S.1 S.2.1 dX2_append_4 (by decide) ?_
  refine lv_icmp_ge (tgt := 76) S.1 S.2.1 dX2_append_7 (by decide) (fun c7 => ?_) (fun c7 => ?_)
  · rw [if_pos c7] at h
    exact ret _ _ _ _ _ h w dX2_append_76
  · rw [if_neg c7] at h
    refine lv_aload_n S.1 S.2.1 dX2_append_10 rfl (lv_at hl 0 rfl) ?_
    refine lv_dup S.1 S.2.1 dX2_append_11 rfl ?_
    obtain ⟨x3, h4, h⟩ := xb h
    refine xr_geti S w 3 xi_X2_append_X2 rfl 0 (by decide) xl_X2_append_25 h4 dX2_append_12 ?_
    refine lv_iconst (v := 1) S.1 S.2.1 dX2_append_15 (by decide) ?_
    refine lv_iadd S.1 S.2.1 dX2_append_16 ?_
    obtain ⟨g5, h6, h⟩ := xb h
    refine xr_puti S w 3 xi_X2_append_X2 rfl tyX2 tyX2_ok nmX2 0 (by decide) xl_X2_append_25 rfl (tyX2_ok 0 (by decide)) h6 dX2_append_17 (fun H locs w => ?_)
    refine lv_aload_n S.1 S.2.1 dX2_append_20 rfl (lv_at hl 0 rfl) ?_
    obtain ⟨x7, h8, h⟩ := xb h
    refine xr_getr S w 3 xi_X2_append_X2 rfl 1 (by decide) xl_X2_append_9 h8 dX2_append_21 ?_
    refine lv_aload_n S.1 S.2.1 dX2_append_24 rfl (lv_at hl 0 rfl) ?_
    obtain ⟨x9, h10, h⟩ := xb h
    refine xr_geti S w 3 xi_X2_append_X2 rfl 0 (by decide) xl_X2_append_25 h10 dX2_append_25 ?_
    refine lv_iload_n S.1 S.2.1 dX2_append_28 rfl (lv_at hl 1 rfl) ?_
    obtain ⟨g11, h12, h⟩ := xb h
    refine xr_iast S w h12 dX2_append_29 (fun H locs w => ?_)
    refine lv_aload_n S.1 S.2.1 dX2_append_30 rfl (lv_at hl 0 rfl) ?_
    obtain ⟨x13, h14, h⟩ := xb h
    refine xr_getr S w 3 xi_X2_append_X2 rfl 2 (by decide) xl_X2_append_15 h14 dX2_append_31 ?_
    refine lv_aload_n S.1 S.2.1 dX2_append_34 rfl (lv_at hl 0 rfl) ?_
    obtain ⟨x15, h16, h⟩ := xb h
    refine xr_geti S w 3 xi_X2_append_X2 rfl 0 (by decide) xl_X2_append_25 h16 dX2_append_35 ?_
    refine lv_iload_n S.1 S.2.1 dX2_append_38 rfl (lv_at hl 2 rfl) ?_
    obtain ⟨g17, h18, h⟩ := xb h
    refine xr_iast S w h18 dX2_append_39 (fun H locs w => ?_)
    refine lv_aload_n S.1 S.2.1 dX2_append_40 rfl (lv_at hl 0 rfl) ?_
    obtain ⟨x19, h20, h⟩ := xb h
    refine xr_getr S w 3 xi_X2_append_X2 rfl 3 (by decide) xl_X2_append_18 h20 dX2_append_41 ?_
    refine lv_aload_n S.1 S.2.1 dX2_append_44 rfl (lv_at hl 0 rfl) ?_
    obtain ⟨x21, h22, h⟩ := xb h
    refine xr_geti S w 3 xi_X2_append_X2 rfl 0 (by decide) xl_X2_append_25 h22 dX2_append_45 ?_
    refine lv_iload_n S.1 S.2.1 dX2_append_48 rfl (lv_at hl 3 rfl) ?_
    obtain ⟨g23, h24, h⟩ := xb h
    refine xr_iast S w h24 dX2_append_49 (fun H locs w => ?_)
    refine lv_aload_n S.1 S.2.1 dX2_append_50 rfl (lv_at hl 0 rfl) ?_
    obtain ⟨x25, h26, h⟩ := xb h
    refine xr_getr S w 3 xi_X2_append_X2 rfl 4 (by decide) xl_X2_append_21 h26 dX2_append_51 ?_
    refine lv_aload_n S.1 S.2.1 dX2_append_54 rfl (lv_at hl 0 rfl) ?_
    obtain ⟨x27, h28, h⟩ := xb h
    refine xr_geti S w 3 xi_X2_append_X2 rfl 0 (by decide) xl_X2_append_25 h28 dX2_append_55 ?_
    refine lv_aload_n S.1 S.2.1 dX2_append_58 rfl (lv_at hl 0 rfl) ?_
    obtain ⟨x29, h30, h⟩ := xb h
    refine xr_getr S w 3 xi_X2_append_X2 rfl 4 (by decide) xl_X2_append_21 h30 dX2_append_59 ?_
    refine lv_aload_n S.1 S.2.1 dX2_append_62 rfl (lv_at hl 0 rfl) ?_
    obtain ⟨x31, h32, h⟩ := xb h
    refine xr_geti S w 3 xi_X2_append_X2 rfl 0 (by decide) xl_X2_append_25 h32 dX2_append_63 ?_
    refine lv_iconst (v := 1) S.1 S.2.1 dX2_append_66 (by decide) ?_
    refine lv_isub S.1 S.2.1 dX2_append_67 ?_
    obtain ⟨x33, h34, h⟩ := xb h
    refine xr_lald S w h34 dX2_append_68 ?_
    refine lv_iload_n S.1 S.2.1 dX2_append_69 rfl (lv_at hl 1 rfl) ?_
    refine lv_iload_n S.1 S.2.1 dX2_append_70 rfl (lv_at hl 2 rfl) ?_
    refine lv_iload_n S.1 S.2.1 dX2_append_71 rfl (lv_at hl 3 rfl) ?_
    obtain ⟨x36, h35, h⟩ := xb h
    refine xr_callSN_l S w hA hN (c_X7_headBehind l D cy L g23 x33 a1 a2 a3 h35) ⟨va_cnB 4 S.2.2.2.2 gX2_append_X7_headBehind_n29 rfl rfl rfl hN.2.2.2.2.2.2.1 (S.2.2.2.2 _ (by decide +kernel)) (by decide +kernel) ⟨Nat.le_of_ble_eq_true rfl, Nat.le_of_ble_eq_true rfl⟩, S.2.2.2.2 _ (by decide +kernel), trivial⟩ rfl rfl hl.1 (Nat.le_of_ble_eq_true rfl) dX2_append_72 ⟨Nat.le_of_ble_eq_true rfl, Nat.le_of_ble_eq_true rfl⟩ (fun H locs w => ?_)
    obtain ⟨g37, h38, h⟩ := xb h
    refine xr_last S w h38 dX2_append_75 (fun H locs w => ?_)
    exact ret _ _ _ _ _ h w dX2_append_76
theorem xi_X2_rewrite_X2 : ∀ w ∈ wsX20, w ∈ wsX2_rewrite := by decide +kernel
theorem xl_X2_rewrite_25 : Cond.fieldLink RX2 25 (TX2 0).1 (TX2 0).2.1 (TX2 0).2.2.1 ∈ wsX2_rewrite := by decide +kernel
theorem xl_X2_rewrite_21 : Cond.fieldLink RX2 21 (TX2 4).1 (TX2 4).2.1 (TX2 4).2.2.1 ∈ wsX2_rewrite := by decide +kernel
theorem xl_X2_rewrite_9 : Cond.fieldLink RX2 9 (TX2 1).1 (TX2 1).2.1 (TX2 1).2.2.1 ∈ wsX2_rewrite := by decide +kernel
theorem xl_X2_rewrite_15 : Cond.fieldLink RX2 15 (TX2 2).1 (TX2 2).2.1 (TX2 2).2.2.1 ∈ wsX2_rewrite := by decide +kernel
theorem xl_X2_rewrite_18 : Cond.fieldLink RX2 18 (TX2 3).1 (TX2 3).2.1 (TX2 3).2.2.1 ∈ wsX2_rewrite := by decide +kernel
def f_X2_rewrite_9 : Nat → xG → Nat → Int32 → Option xG
  | 0, _, _, _ => none
  | n9 + 1, g, v0, v3 =>
  (xg_i g 3 v0 0).bind fun x1 =>
  if x1 < v3 then
    some g
  else
    (xg_r g 3 v0 4).bind fun x3 =>
    (xg_r g 3 v0 4).bind fun x5 =>
    (xa_l g x5 (v3 - 1)).bind fun x7 =>
    (xg_r g 3 v0 1).bind fun x9 =>
    (xa_i 1 g x9 v3).bind fun x11 =>
    (xg_r g 3 v0 2).bind fun x13 =>
    (xa_i 1 g x13 v3).bind fun x15 =>
    (xg_r g 3 v0 3).bind fun x17 =>
    (xa_i 1 g x17 v3).bind fun x19 =>
    (f_X7_headBehind x7 x11 x15 x19).bind fun x22 =>
    (xs_l g x3 v3 x22).bind fun g23 =>
    f_X2_rewrite_9 n9 g23 v0 (v3 + 1)
def f_X2_rewrite (g : xG) (a0 : Nat) (a1 : Int32) (a2 : Int32) : Option xG :=
  (xg_r g 3 a0 3).bind fun x25 =>
  (xs_i 1 g x25 a1 a2).bind fun g27 =>
  f_X2_rewrite_9 xFU g27 a0 a1
set_option maxHeartbeats 4000000 in
set_option maxRecDepth 100000 in
theorem c_X2_rewrite (l : Launch) (D : va_G) (cy : Nat → ClassId) (L : List Nat) (g : xG) (a0 : Nat) (a1 : Int32) (a2 : Int32) {g1 : xG} (h : f_X2_rewrite g a0 a1 a2 = some g1) : xMv l yX2_rewrite wsX2_rewrite ({ frames := 2, cells := 0, slots := 0, locals := 49 }) D cy L g [.ref a0, .int a1, .int a2] g1 := by
  refine xm_v (cc := cX2_rewrite) (maxL := 4) RX2 rfl rfl rfl (by decide +kernel) rfl (Nat.le_of_ble_eq_true rfl) ?_
  intro p e s m args below meth c Q A S w hA hN ret ls hl
  have hl : lv_has ls 4 [(0, .ref a0), (1, .int a1), (2, .int a2)] := hl
  obtain ⟨rr, hrr⟩ : ∃ z, z = g1 := ⟨_, rfl⟩
  rw [← hrr] at h
  have hb9 : ∀ (n9 : Nat), ∀ (g : xG) (v0 : Nat) (v3 : Int32) , f_X2_rewrite_9 n9 g v0 v3 = some rr → ∀ (H : Heap) (locs : List Loc) (ls : Array Slot), xOK D cy A s.heap s L g H locs → lv_has ls 4 [(0, .ref v0), (3, .int v3)] → W p l e { frames := 2, cells := 0, slots := 0, locals := 49 } s m args below meth c H locs 0 0 Q (F0 m 9 ls []) := by
    intro n9
    induction n9 with
    | zero => intro g v0 v3 h; cases h
    | succ n9 ih =>
      intro g v0 v3 h H locs ls w hl
      rw [f_X2_rewrite_9] at h
      refine lv_iload_n S.1 S.2.1 dX2_rewrite_9 rfl (lv_at hl 1 rfl) ?_
      refine lv_aload_n S.1 S.2.1 dX2_rewrite_10 rfl (lv_at hl 0 rfl) ?_
      obtain ⟨x1, h2, h⟩ := xb h
      refine xr_geti S w 3 xi_X2_rewrite_X2 rfl 0 (by decide) xl_X2_rewrite_25 h2 dX2_rewrite_11 ?_
      refine lv_icmp_gt (tgt := 58) S.1 S.2.1 dX2_rewrite_14 (by decide) (fun c14 => ?_) (fun c14 => ?_)
      · rw [if_pos c14] at h
        exact ret _ _ _ _ _ (h.trans (congrArg some hrr)) w dX2_rewrite_58
      · rw [if_neg c14] at h
        refine lv_aload_n S.1 S.2.1 dX2_rewrite_17 rfl (lv_at hl 0 rfl) ?_
        obtain ⟨x3, h4, h⟩ := xb h
        refine xr_getr S w 3 xi_X2_rewrite_X2 rfl 4 (by decide) xl_X2_rewrite_21 h4 dX2_rewrite_18 ?_
        refine lv_iload_n S.1 S.2.1 dX2_rewrite_21 rfl (lv_at hl 1 rfl) ?_
        refine lv_aload_n S.1 S.2.1 dX2_rewrite_22 rfl (lv_at hl 0 rfl) ?_
        obtain ⟨x5, h6, h⟩ := xb h
        refine xr_getr S w 3 xi_X2_rewrite_X2 rfl 4 (by decide) xl_X2_rewrite_21 h6 dX2_rewrite_23 ?_
        refine lv_iload_n S.1 S.2.1 dX2_rewrite_26 rfl (lv_at hl 1 rfl) ?_
        refine lv_iconst (v := 1) S.1 S.2.1 dX2_rewrite_27 (by decide) ?_
        refine lv_isub S.1 S.2.1 dX2_rewrite_28 ?_
        obtain ⟨x7, h8, h⟩ := xb h
        refine xr_lald S w h8 dX2_rewrite_29 ?_
        refine lv_aload_n S.1 S.2.1 dX2_rewrite_30 rfl (lv_at hl 0 rfl) ?_
        obtain ⟨x9, h10, h⟩ := xb h
        refine xr_getr S w 3 xi_X2_rewrite_X2 rfl 1 (by decide) xl_X2_rewrite_9 h10 dX2_rewrite_31 ?_
        refine lv_iload_n S.1 S.2.1 dX2_rewrite_34 rfl (lv_at hl 1 rfl) ?_
        obtain ⟨x11, h12, h⟩ := xb h
        refine xr_iald S w h12 dX2_rewrite_35 ?_
        refine lv_aload_n S.1 S.2.1 dX2_rewrite_36 rfl (lv_at hl 0 rfl) ?_
        obtain ⟨x13, h14, h⟩ := xb h
        refine xr_getr S w 3 xi_X2_rewrite_X2 rfl 2 (by decide) xl_X2_rewrite_15 h14 dX2_rewrite_37 ?_
        refine lv_iload_n S.1 S.2.1 dX2_rewrite_40 rfl (lv_at hl 1 rfl) ?_
        obtain ⟨x15, h16, h⟩ := xb h
        refine xr_iald S w h16 dX2_rewrite_41 ?_
        refine lv_aload_n S.1 S.2.1 dX2_rewrite_42 rfl (lv_at hl 0 rfl) ?_
        obtain ⟨x17, h18, h⟩ := xb h
        refine xr_getr S w 3 xi_X2_rewrite_X2 rfl 3 (by decide) xl_X2_rewrite_18 h18 dX2_rewrite_43 ?_
        refine lv_iload_n S.1 S.2.1 dX2_rewrite_46 rfl (lv_at hl 1 rfl) ?_
        obtain ⟨x19, h20, h⟩ := xb h
        refine xr_iald S w h20 dX2_rewrite_47 ?_
        obtain ⟨x22, h21, h⟩ := xb h
        refine xr_callSN_l S w hA hN (c_X7_headBehind l D cy L g x7 x11 x15 x19 h21) ⟨va_cnB 4 S.2.2.2.2 gX2_rewrite_X7_headBehind_n29 rfl rfl rfl hN.2.2.2.2.2.2.1 (S.2.2.2.2 _ (by decide +kernel)) (by decide +kernel) ⟨Nat.le_of_ble_eq_true rfl, Nat.le_of_ble_eq_true rfl⟩, S.2.2.2.2 _ (by decide +kernel), trivial⟩ rfl rfl hl.1 (Nat.le_of_ble_eq_true rfl) dX2_rewrite_48 ⟨Nat.le_of_ble_eq_true rfl, Nat.le_of_ble_eq_true rfl⟩ (fun H locs w => ?_)
        obtain ⟨g23, h24, h⟩ := xb h
        refine xr_last S w h24 dX2_rewrite_51 (fun H locs w => ?_)
        refine lv_iinc (v := (v3 + 1)) (lv' := [(3, .int (v3 + 1)), (0, .ref v0)]) S.1 S.2.1 dX2_rewrite_52 hl (k := 1) rfl rfl (by decide) rfl (fun ls hl => ?_)
        refine lv_goto (tgt := 9) S.1 S.2.1 dX2_rewrite_55 (by decide) ?_
        exact ih g23 v0 (v3 + 1) h _ _ _ w (lv_sub hl [1, 0] rfl)
  rw [f_X2_rewrite] at h
  refine lv_aload_n S.1 S.2.1 dX2_rewrite_0 rfl (lv_at hl 0 rfl) ?_
  obtain ⟨x25, h26, h⟩ := xb h
  refine xr_getr S w 3 xi_X2_rewrite_X2 rfl 3 (by decide) xl_X2_rewrite_18 h26 dX2_rewrite_1 ?_
  refine lv_iload_n S.1 S.2.1 dX2_rewrite_4 rfl (lv_at hl 1 rfl) ?_
  refine lv_iload_n S.1 S.2.1 dX2_rewrite_5 rfl (lv_at hl 2 rfl) ?_
  obtain ⟨g27, h28, h⟩ := xb h
  refine xr_iast S w h28 dX2_rewrite_6 (fun H locs w => ?_)
  refine lv_iload_n S.1 S.2.1 dX2_rewrite_7 rfl (lv_at hl 1 rfl) ?_
  refine lv_istore_n (lv' := [(3, .int a1), (0, .ref a0), (1, .int a1), (2, .int a2)]) S.1 S.2.1 dX2_rewrite_8 rfl hl (by decide) rfl (fun ls hl => ?_)
  exact hb9 xFU g27 a0 a1 h _ _ _ w (lv_sub hl [1, 0] rfl)
theorem xi_X0_hasByte_X0 : ∀ w ∈ wsX00, w ∈ wsX0_hasByte := by decide +kernel
theorem xl_X0_hasByte_15 : Cond.fieldLink RX0 15 (TX0 0).1 (TX0 0).2.1 (TX0 0).2.2.1 ∈ wsX0_hasByte := by decide +kernel
def f_X0_hasByte (g : xG) (a0 : Nat) (a1 : Int32) : Option Int32 :=
  if a1 < 0 then
    some 0
  else
    (xg_i g 1 a0 0).bind fun x1 =>
    if x1 ≤ a1 then
      some 0
    else
      some 1
set_option maxHeartbeats 4000000 in
set_option maxRecDepth 100000 in
theorem c_X0_hasByte (l : Launch) (D : va_G) (cy : Nat → ClassId) (L : List Nat) (g : xG) (a0 : Nat) (a1 : Int32) {r1 : Int32} (h : f_X0_hasByte g a0 a1 = some r1) : xMi l yX0_hasByte wsX0_hasByte ({ frames := 0, cells := 0, slots := 0, locals := 0 }) D cy L g [.ref a0, .int a1] r1 g := by
  refine xm_z (cc := cX0_hasByte) (maxL := 2) RX0 rfl rfl rfl (by decide +kernel) rfl (Nat.le_of_ble_eq_true rfl) ?_
  intro p e s m args below meth c Q A S w hA hN ret ls hl
  have hl : lv_has ls 2 [(0, .ref a0), (1, .int a1)] := hl
  rw [f_X0_hasByte] at h
  refine lv_iload_n S.1 S.2.1 dX0_hasByte_0 rfl (lv_at hl 1 rfl) ?_
  refine lv_if_lt (tgt := 16) S.1 S.2.1 dX0_hasByte_1 (by decide) (fun c1 => ?_) (fun c1 => ?_)
  · rw [if_pos c1] at h
    refine lv_iconst (v := 0) S.1 S.2.1 dX0_hasByte_16 (by decide) ?_
    exact ret _ _ _ _ 0 0 _ (by decide) (congrArg (fun z => some (z, g)) (Option.some.inj h)) w dX0_hasByte_17
  · rw [if_neg c1] at h
    refine lv_iload_n S.1 S.2.1 dX0_hasByte_4 rfl (lv_at hl 1 rfl) ?_
    refine lv_aload_n S.1 S.2.1 dX0_hasByte_5 rfl (lv_at hl 0 rfl) ?_
    obtain ⟨x1, h2, h⟩ := xb h
    refine xr_geti S w 1 xi_X0_hasByte_X0 rfl 0 (by decide) xl_X0_hasByte_15 h2 dX0_hasByte_6 ?_
    refine lv_icmp_ge (tgt := 16) S.1 S.2.1 dX0_hasByte_9 (by decide) (fun c9 => ?_) (fun c9 => ?_)
    · rw [if_pos c9] at h
      refine lv_iconst (v := 0) S.1 S.2.1 dX0_hasByte_16 (by decide) ?_
      exact ret _ _ _ _ 0 0 _ (by decide) (congrArg (fun z => some (z, g)) (Option.some.inj h)) w dX0_hasByte_17
    · rw [if_neg c9] at h
      refine lv_iconst (v := 1) S.1 S.2.1 dX0_hasByte_12 (by decide) ?_
      refine lv_goto (tgt := 17) S.1 S.2.1 dX0_hasByte_13 (by decide) ?_
      exact ret _ _ _ _ 1 1 _ (by decide) (congrArg (fun z => some (z, g)) (Option.some.inj h)) w dX0_hasByte_17
theorem xi_X0_byteAt_X0 : ∀ w ∈ wsX00, w ∈ wsX0_byteAt := by decide +kernel
theorem xl_X0_byteAt_9 : Cond.fieldLink RX0 9 (TX0 1).1 (TX0 1).2.1 (TX0 1).2.2.1 ∈ wsX0_byteAt := by decide +kernel
def f_X0_byteAt (g : xG) (a0 : Nat) (a1 : Int32) : Option Int32 :=
  (xg_r g 1 a0 1).bind fun x1 =>
  (xa_i 0 g x1 a1).bind fun x3 =>
  some (x3 &&& 255)
set_option maxHeartbeats 4000000 in
set_option maxRecDepth 100000 in
theorem c_X0_byteAt (l : Launch) (D : va_G) (cy : Nat → ClassId) (L : List Nat) (g : xG) (a0 : Nat) (a1 : Int32) {r1 : Int32} (h : f_X0_byteAt g a0 a1 = some r1) : xMi l yX0_byteAt wsX0_byteAt ({ frames := 0, cells := 0, slots := 0, locals := 0 }) D cy L g [.ref a0, .int a1] r1 g := by
  refine xm_i (cc := cX0_byteAt) (maxL := 2) RX0 rfl rfl rfl (by decide +kernel) rfl (Nat.le_of_ble_eq_true rfl) ?_
  intro p e s m args below meth c Q A S w hA hN ret ls hl
  have hl : lv_has ls 2 [(0, .ref a0), (1, .int a1)] := hl
  rw [f_X0_byteAt] at h
  refine lv_aload_n S.1 S.2.1 dX0_byteAt_0 rfl (lv_at hl 0 rfl) ?_
  obtain ⟨x1, h2, h⟩ := xb h
  refine xr_getr S w 1 xi_X0_byteAt_X0 rfl 1 (by decide) xl_X0_byteAt_9 h2 dX0_byteAt_1 ?_
  refine lv_iload_n S.1 S.2.1 dX0_byteAt_4 rfl (lv_at hl 1 rfl) ?_
  obtain ⟨x3, h4, h⟩ := xb h
  refine xr_bald S w h4 dX0_byteAt_5 ?_
  refine lv_sipush (v := 255) S.1 S.2.1 dX0_byteAt_6 (by decide) ?_
  refine lv_iand S.1 S.2.1 dX0_byteAt_9 ?_
  exact ret _ _ _ _ _ _ (congrArg (fun z => some (z, g)) (Option.some.inj h)) w dX0_byteAt_10
theorem xi_X0_append_X0 : ∀ w ∈ wsX00, w ∈ wsX0_append := by decide +kernel
theorem xl_X0_append_15 : Cond.fieldLink RX0 15 (TX0 0).1 (TX0 0).2.1 (TX0 0).2.2.1 ∈ wsX0_append := by decide +kernel
theorem xl_X0_append_9 : Cond.fieldLink RX0 9 (TX0 1).1 (TX0 1).2.1 (TX0 1).2.2.1 ∈ wsX0_append := by decide +kernel
def f_X0_append_9 : Nat → xG → Nat → Int64 → Int32 → Option xG
  | 0, _, _, _, _ => none
  | n9 + 1, g, v0, v1, v4 =>
  if v4 < 0 then
    some g
  else
    (xg_i g 1 v0 0).bind fun x1 =>
    if 930 ≤ x1 then
      some g
    else
      (xg_r g 1 v0 1).bind fun x3 =>
      (xg_i g 1 v0 0).bind fun x5 =>
      (xs_i 0 g x3 x5 (Int8.toInt32 (Int32.toInt8 (Int64.toInt32 (xlushr v1 v4))))).bind fun g7 =>
      (xg_i g7 1 v0 0).bind fun x9 =>
      (xp_i g7 1 v0 0 (x9 + 1)).bind fun g11 =>
      f_X0_append_9 n9 g11 v0 v1 (v4 + (-8))
def f_X0_append (g : xG) (a0 : Nat) (a1 : Int64) (a2 : Int32) : Option xG :=
  f_X0_append_9 xFU g a0 a1 ((8 * a2) - 8)
set_option maxHeartbeats 4000000 in
set_option maxRecDepth 100000 in
theorem c_X0_append (l : Launch) (D : va_G) (cy : Nat → ClassId) (L : List Nat) (g : xG) (a0 : Nat) (a1 : Int64) (a2 : Int32) {g1 : xG} (h : f_X0_append g a0 a1 a2 = some g1) : xMv l yX0_append wsX0_append ({ frames := 0, cells := 0, slots := 0, locals := 0 }) D cy L g [.ref a0, .long a1, .int a2] g1 := by
  refine xm_v (cc := cX0_append) (maxL := 5) RX0 rfl rfl rfl (by decide +kernel) rfl (Nat.le_of_ble_eq_true rfl) ?_
  intro p e s m args below meth c Q A S w hA hN ret ls hl
  have hl : lv_has ls 5 [(0, .ref a0), (1, .long a1), (3, .int a2)] := hl
  obtain ⟨rr, hrr⟩ : ∃ z, z = g1 := ⟨_, rfl⟩
  rw [← hrr] at h
  have hb9 : ∀ (n9 : Nat), ∀ (g : xG) (v0 : Nat) (v1 : Int64) (v4 : Int32) , f_X0_append_9 n9 g v0 v1 v4 = some rr → ∀ (H : Heap) (locs : List Loc) (ls : Array Slot), xOK D cy A s.heap s L g H locs → lv_has ls 5 [(0, .ref v0), (1, .long v1), (4, .int v4)] → W p l e { frames := 0, cells := 0, slots := 0, locals := 0 } s m args below meth c H locs 0 0 Q (F0 m 9 ls []) := by
    intro n9
    induction n9 with
    | zero => intro g v0 v1 v4 h; cases h
    | succ n9 ih =>
      intro g v0 v1 v4 h H locs ls w hl
      rw [f_X0_append_9] at h
      refine lv_iload S.1 S.2.1 dX0_append_9 (lv_at hl 2 rfl) ?_
      refine lv_if_lt (tgt := 55) S.1 S.2.1 dX0_append_11 (by decide) (fun c11 => ?_) (fun c11 => ?_)
      · rw [if_pos c11] at h
        exact ret _ _ _ _ _ (h.trans (congrArg some hrr)) w dX0_append_55
      · rw [if_neg c11] at h
        refine lv_aload_n S.1 S.2.1 dX0_append_14 rfl (lv_at hl 0 rfl) ?_
        obtain ⟨x1, h2, h⟩ := xb h
        refine xr_geti S w 1 xi_X0_append_X0 rfl 0 (by decide) xl_X0_append_15 h2 dX0_append_15 ?_
        refine lv_sipush (v := 930) S.1 S.2.1 dX0_append_18 (by decide) ?_
        refine lv_icmp_ge (tgt := 55) S.1 S.2.1 dX0_append_21 (by decide) (fun c21 => ?_) (fun c21 => ?_)
        · rw [if_pos c21] at h
          exact ret _ _ _ _ _ (h.trans (congrArg some hrr)) w dX0_append_55
        · rw [if_neg c21] at h
          refine lv_aload_n S.1 S.2.1 dX0_append_24 rfl (lv_at hl 0 rfl) ?_
          obtain ⟨x3, h4, h⟩ := xb h
          refine xr_getr S w 1 xi_X0_append_X0 rfl 1 (by decide) xl_X0_append_9 h4 dX0_append_25 ?_
          refine lv_aload_n S.1 S.2.1 dX0_append_28 rfl (lv_at hl 0 rfl) ?_
          obtain ⟨x5, h6, h⟩ := xb h
          refine xr_geti S w 1 xi_X0_append_X0 rfl 0 (by decide) xl_X0_append_15 h6 dX0_append_29 ?_
          refine lv_lload_n S.1 S.2.1 dX0_append_32 rfl (lv_at hl 1 rfl) ?_
          refine lv_iload S.1 S.2.1 dX0_append_33 (lv_at hl 2 rfl) ?_
          refine lv_lushr (v := (xlushr v1 v4)) S.1 S.2.1 dX0_append_35 rfl ?_
          refine lv_l2i (v := (Int64.toInt32 (xlushr v1 v4))) S.1 S.2.1 dX0_append_36 rfl ?_
          refine lv_i2b (v := (Int8.toInt32 (Int32.toInt8 (Int64.toInt32 (xlushr v1 v4))))) S.1 S.2.1 dX0_append_37 rfl ?_
          obtain ⟨g7, h8, h⟩ := xb h
          refine xr_bast S w h8 dX0_append_38 (fun H locs w => ?_)
          refine lv_aload_n S.1 S.2.1 dX0_append_39 rfl (lv_at hl 0 rfl) ?_
          refine lv_dup S.1 S.2.1 dX0_append_40 rfl ?_
          obtain ⟨x9, h10, h⟩ := xb h
          refine xr_geti S w 1 xi_X0_append_X0 rfl 0 (by decide) xl_X0_append_15 h10 dX0_append_41 ?_
          refine lv_iconst (v := 1) S.1 S.2.1 dX0_append_44 (by decide) ?_
          refine lv_iadd S.1 S.2.1 dX0_append_45 ?_
          obtain ⟨g11, h12, h⟩ := xb h
          refine xr_puti S w 1 xi_X0_append_X0 rfl tyX0 tyX0_ok nmX0 0 (by decide) xl_X0_append_15 rfl (tyX0_ok 0 (by decide)) h12 dX0_append_46 (fun H locs w => ?_)
          refine lv_iinc (v := (v4 + (-8))) (lv' := [(4, .int (v4 + (-8))), (0, .ref v0), (1, .long v1)]) S.1 S.2.1 dX0_append_49 hl (k := 2) rfl rfl (by decide) rfl (fun ls hl => ?_)
          refine lv_goto (tgt := 9) S.1 S.2.1 dX0_append_52 (by decide) ?_
          exact ih g11 v0 v1 (v4 + (-8)) h _ _ _ w (lv_sub hl [1, 2, 0] rfl)
  rw [f_X0_append] at h
  refine lv_bipush (v := 8) S.1 S.2.1 dX0_append_0 (by decide) ?_
  refine lv_iload_n S.1 S.2.1 dX0_append_2 rfl (lv_at hl 2 rfl) ?_
  refine lv_imul S.1 S.2.1 dX0_append_3 ?_
  refine lv_bipush (v := 8) S.1 S.2.1 dX0_append_4 (by decide) ?_
  refine lv_isub S.1 S.2.1 dX0_append_6 ?_
  refine lv_istore (lv' := [(4, .int ((8 * a2) - 8)), (0, .ref a0), (1, .long a1), (3, .int a2)]) S.1 S.2.1 dX0_append_7 hl (by decide) rfl (fun ls hl => ?_)
  exact hb9 xFU g a0 a1 ((8 * a2) - 8) h _ _ _ w (lv_sub hl [1, 2, 0] rfl)
def f_X0_numberAt_5 : Nat → xG → Nat → Int32 → Int32 → Int64 → Int32 → Option Int64
  | 0, _, _, _, _, _, _ => none
  | n9 + 1, g, v0, v1, v2, v3, v5 =>
  if (v1 + v2) ≤ v5 then
    some v3
  else
    (xk g 1 v0).bind fun _ =>
    (f_X0_byteAt g v0 v5).bind fun x3 =>
    f_X0_numberAt_5 n9 g v0 v1 v2 ((xlshl v3 8) ||| (Int32.toInt64 x3)) (v5 + 1)
def f_X0_numberAt (g : xG) (a0 : Nat) (a1 : Int32) (a2 : Int32) : Option Int64 :=
  f_X0_numberAt_5 xFU g a0 a1 a2 0 a1
set_option maxHeartbeats 4000000 in
set_option maxRecDepth 100000 in
theorem c_X0_numberAt (l : Launch) (D : va_G) (cy : Nat → ClassId) (L : List Nat) (g : xG) (a0 : Nat) (a1 : Int32) (a2 : Int32) {r1 : Int64} (h : f_X0_numberAt g a0 a1 a2 = some r1) : xMl l yX0_numberAt wsX0_numberAt ({ frames := 1, cells := 0, slots := 0, locals := 21 }) D cy L g [.ref a0, .int a1, .int a2] r1 g := by
  refine xm_l (cc := cX0_numberAt) (maxL := 6) RX0 rfl rfl rfl (by decide +kernel) rfl (Nat.le_of_ble_eq_true rfl) ?_
  intro p e s m args below meth c Q A S w hA hN ret ls hl
  have hl : lv_has ls 6 [(0, .ref a0), (1, .int a1), (2, .int a2)] := hl
  obtain ⟨rr, hrr⟩ : ∃ z, z = r1 := ⟨_, rfl⟩
  rw [← hrr] at h
  have hb5 : ∀ (n9 : Nat), ∀ (v0 : Nat) (v1 : Int32) (v2 : Int32) (v3 : Int64) (v5 : Int32) , f_X0_numberAt_5 n9 g v0 v1 v2 v3 v5 = some rr → ∀ (H : Heap) (locs : List Loc) (ls : Array Slot), xOK D cy A s.heap s L g H locs → lv_has ls 6 [(0, .ref v0), (1, .int v1), (2, .int v2), (3, .long v3), (5, .int v5)] → W p l e { frames := 1, cells := 0, slots := 0, locals := 21 } s m args below meth c H locs 0 0 Q (F0 m 5 ls []) := by
    intro n9
    induction n9 with
    | zero => intro v0 v1 v2 v3 v5 h; cases h
    | succ n9 ih =>
      intro v0 v1 v2 v3 v5 h H locs ls w hl
      rw [f_X0_numberAt_5] at h
      refine lv_iload S.1 S.2.1 dX0_numberAt_5 (lv_at hl 4 rfl) ?_
      refine lv_iload_n S.1 S.2.1 dX0_numberAt_7 rfl (lv_at hl 1 rfl) ?_
      refine lv_iload_n S.1 S.2.1 dX0_numberAt_8 rfl (lv_at hl 2 rfl) ?_
      refine lv_iadd S.1 S.2.1 dX0_numberAt_9 ?_
      refine lv_icmp_ge (tgt := 32) S.1 S.2.1 dX0_numberAt_10 (by decide) (fun c10 => ?_) (fun c10 => ?_)
      · rw [if_pos c10] at h
        refine lv_lload_n S.1 S.2.1 dX0_numberAt_32 rfl (lv_at hl 3 rfl) ?_
        exact ret _ _ _ _ _ _ (congrArg (fun z => some (z, g)) ((Option.some.inj h).trans hrr)) w dX0_numberAt_33
      · rw [if_neg c10] at h
        refine lv_lload_n S.1 S.2.1 dX0_numberAt_13 rfl (lv_at hl 3 rfl) ?_
        refine lv_bipush (v := 8) S.1 S.2.1 dX0_numberAt_14 (by decide) ?_
        refine lv_lshl (v := (xlshl v3 8)) S.1 S.2.1 dX0_numberAt_16 rfl ?_
        refine lv_aload_n S.1 S.2.1 dX0_numberAt_17 rfl (lv_at hl 0 rfl) ?_
        refine lv_iload S.1 S.2.1 dX0_numberAt_18 (lv_at hl 4 rfl) ?_
        obtain ⟨_, h1, h⟩ := xb h
        obtain ⟨x3, h2, h⟩ := xb h
        refine xr_callV_i S w hA hN 1 rfl h1 (c_X0_byteAt l D cy L g v0 v5 h2) (cwV 1 S.2.2.2.2 gX0_numberAt_X0_byteAt rfl rfl rfl (by decide +kernel) ⟨Nat.le_of_ble_eq_true rfl, Nat.le_of_ble_eq_true rfl⟩) rfl rfl hl.1 (Nat.le_of_ble_eq_true rfl) dX0_numberAt_20 ⟨Nat.le_of_ble_eq_true rfl, Nat.le_of_ble_eq_true rfl⟩ (fun H locs w => ?_)
        refine lv_i2l (v := (Int32.toInt64 x3)) S.1 S.2.1 dX0_numberAt_23 rfl ?_
        refine lv_lor S.1 S.2.1 dX0_numberAt_24 ?_
        refine lv_lstore_n (lv' := [(3, .long ((xlshl v3 8) ||| (Int32.toInt64 x3))), (0, .ref v0), (1, .int v1), (2, .int v2), (5, .int v5)]) S.1 S.2.1 dX0_numberAt_25 rfl hl (by decide) rfl (fun ls hl => ?_)
        refine lv_iinc (v := (v5 + 1)) (lv' := [(5, .int (v5 + 1)), (3, .long ((xlshl v3 8) ||| (Int32.toInt64 x3))), (0, .ref v0), (1, .int v1), (2, .int v2)]) S.1 S.2.1 dX0_numberAt_26 hl (k := 4) rfl rfl (by decide) rfl (fun ls hl => ?_)
        refine lv_goto (tgt := 5) S.1 S.2.1 dX0_numberAt_29 (by decide) ?_
        exact ih v0 v1 v2 ((xlshl v3 8) ||| (Int32.toInt64 x3)) (v5 + 1) h _ _ _ w (lv_sub hl [2, 3, 4, 1, 0] rfl)
  rw [f_X0_numberAt] at h
  refine lv_lconst (v := 0) S.1 S.2.1 dX0_numberAt_0 (by decide) ?_
  refine lv_lstore_n (lv' := [(3, .long 0), (0, .ref a0), (1, .int a1), (2, .int a2)]) S.1 S.2.1 dX0_numberAt_1 rfl hl (by decide) rfl (fun ls hl => ?_)
  refine lv_iload_n S.1 S.2.1 dX0_numberAt_2 rfl (lv_at hl 2 rfl) ?_
  refine lv_istore (lv' := [(5, .int a1), (3, .long 0), (0, .ref a0), (1, .int a1), (2, .int a2)]) S.1 S.2.1 dX0_numberAt_3 hl (by decide) rfl (fun ls hl => ?_)
  exact hb5 xFU a0 a1 a2 0 a1 h _ _ _ w (lv_sub hl [2, 3, 4, 1, 0] rfl)
theorem xi_X0_isWhole_X0 : ∀ w ∈ wsX00, w ∈ wsX0_isWhole := by decide +kernel
theorem xl_X0_isWhole_15 : Cond.fieldLink RX0 15 (TX0 0).1 (TX0 0).2.1 (TX0 0).2.2.1 ∈ wsX0_isWhole := by decide +kernel
def f_X0_isWhole_28 (g : xG) (v0 : Nat) : Option Int32 :=
  (xk g 1 v0).bind fun _ =>
  (f_X0_byteAt g v0 0).bind fun x3 =>
  if x3 = 1 then
    (xk g 1 v0).bind fun _ =>
    (f_X0_numberAt g v0 2 2).bind fun x11 =>
    (xg_i g 1 v0 0).bind fun x12 =>
    if x12 = (((4 + ((Int64.toInt32 x11) * 6)) + 8) + 18) then
      some 1
    else
      some 0
  else
    (xk g 1 v0).bind fun _ =>
    (f_X0_numberAt g v0 2 2).bind fun x6 =>
    (xg_i g 1 v0 0).bind fun x7 =>
    if x7 = (((4 + ((Int64.toInt32 x6) * 6)) + 8) + 2) then
      some 1
    else
      some 0
def f_X0_isWhole (g : xG) (a0 : Nat) : Option Int32 :=
  (xg_i g 1 a0 0).bind fun x14 =>
  if x14 < 4 then
    some 0
  else
    (xk g 1 a0).bind fun _ =>
    (f_X0_byteAt g a0 0).bind fun x18 =>
    if x18 = 1 then
      f_X0_isWhole_28 g a0
    else
      (xk g 1 a0).bind fun _ =>
      (f_X0_byteAt g a0 0).bind fun x21 =>
      if x21 = 2 then
        f_X0_isWhole_28 g a0
      else
        some 0
set_option maxHeartbeats 4000000 in
set_option maxRecDepth 100000 in
theorem c_X0_isWhole (l : Launch) (D : va_G) (cy : Nat → ClassId) (L : List Nat) (g : xG) (a0 : Nat) {r1 : Int32} (h : f_X0_isWhole g a0 = some r1) : xMi l yX0_isWhole wsX0_isWhole ({ frames := 2, cells := 0, slots := 0, locals := 46 }) D cy L g [.ref a0] r1 g := by
  refine xm_z (cc := cX0_isWhole) (maxL := 3) RX0 rfl rfl rfl (by decide +kernel) rfl (Nat.le_of_ble_eq_true rfl) ?_
  intro p e s m args below meth c Q A S w hA hN ret ls hl
  have hl : lv_has ls 3 [(0, .ref a0)] := hl
  obtain ⟨rr, hrr⟩ : ∃ z, z = r1 := ⟨_, rfl⟩
  rw [← hrr] at h
  have hb28 : ∀ (v0 : Nat) , f_X0_isWhole_28 g v0 = some rr → ∀ (H : Heap) (locs : List Loc) (ls : Array Slot), xOK D cy A s.heap s L g H locs → lv_has ls 3 [(0, .ref v0)] → W p l e { frames := 2, cells := 0, slots := 0, locals := 46 } s m args below meth c H locs 0 0 Q (F0 m 28 ls []) := by
    intro v0 h H locs ls w hl
    rw [f_X0_isWhole_28] at h
    refine lv_aload_n S.1 S.2.1 dX0_isWhole_28 rfl (lv_at hl 0 rfl) ?_
    refine lv_iconst (v := 0) S.1 S.2.1 dX0_isWhole_29 (by decide) ?_
    obtain ⟨_, h1, h⟩ := xb h
    obtain ⟨x3, h2, h⟩ := xb h
    refine xr_callV_i S w hA hN 1 rfl h1 (c_X0_byteAt l D cy L g v0 0 h2) (cwV 1 S.2.2.2.2 gX0_isWhole_X0_byteAt rfl rfl rfl (by decide +kernel) ⟨Nat.le_of_ble_eq_true rfl, Nat.le_of_ble_eq_true rfl⟩) rfl rfl hl.1 (Nat.le_of_ble_eq_true rfl) dX0_isWhole_30 ⟨Nat.le_of_ble_eq_true rfl, Nat.le_of_ble_eq_true rfl⟩ (fun H locs w => ?_)
    refine lv_iconst (v := 1) S.1 S.2.1 dX0_isWhole_33 (by decide) ?_
    refine lv_icmp_ne (tgt := 42) S.1 S.2.1 dX0_isWhole_34 (by decide) (fun c34 => ?_) (fun c34 => ?_)
    · rw [if_neg c34] at h
      refine lv_iconst (v := 2) S.1 S.2.1 dX0_isWhole_42 (by decide) ?_
      refine lv_istore_n (lv' := [(1, .int 2), (0, .ref v0)]) S.1 S.2.1 dX0_isWhole_43 rfl hl (by decide) rfl (fun ls hl => ?_)
      refine lv_aload_n S.1 S.2.1 dX0_isWhole_44 rfl (lv_at hl 1 rfl) ?_
      refine lv_iconst (v := 2) S.1 S.2.1 dX0_isWhole_45 (by decide) ?_
      refine lv_iconst (v := 2) S.1 S.2.1 dX0_isWhole_46 (by decide) ?_
      obtain ⟨_, h4, h⟩ := xb h
      obtain ⟨x6, h5, h⟩ := xb h
      refine xr_callV_l S w hA hN 1 rfl h4 (c_X0_numberAt l D cy L g v0 2 2 h5) (cwV 2 S.2.2.2.2 gX0_isWhole_X0_numberAt rfl rfl rfl (by decide +kernel) ⟨Nat.le_of_ble_eq_true rfl, Nat.le_of_ble_eq_true rfl⟩) rfl rfl hl.1 (Nat.le_of_ble_eq_true rfl) dX0_isWhole_47 ⟨Nat.le_of_ble_eq_true rfl, Nat.le_of_ble_eq_true rfl⟩ (fun H locs w => ?_)
      refine lv_l2i (v := (Int64.toInt32 x6)) S.1 S.2.1 dX0_isWhole_50 rfl ?_
      refine lv_istore_n (lv' := [(2, .int (Int64.toInt32 x6)), (1, .int 2), (0, .ref v0)]) S.1 S.2.1 dX0_isWhole_51 rfl hl (by decide) rfl (fun ls hl => ?_)
      refine lv_aload_n S.1 S.2.1 dX0_isWhole_52 rfl (lv_at hl 2 rfl) ?_
      obtain ⟨x7, h8, h⟩ := xb h
      refine xr_geti S w 1 xi_X0_isWhole_X0 rfl 0 (by decide) xl_X0_isWhole_15 h8 dX0_isWhole_53 ?_
      refine lv_iconst (v := 4) S.1 S.2.1 dX0_isWhole_56 (by decide) ?_
      refine lv_iload_n S.1 S.2.1 dX0_isWhole_57 rfl (lv_at hl 0 rfl) ?_
      refine lv_bipush (v := 6) S.1 S.2.1 dX0_isWhole_58 (by decide) ?_
      refine lv_imul S.1 S.2.1 dX0_isWhole_60 ?_
      refine lv_iadd S.1 S.2.1 dX0_isWhole_61 ?_
      refine lv_bipush (v := 8) S.1 S.2.1 dX0_isWhole_62 (by decide) ?_
      refine lv_iadd S.1 S.2.1 dX0_isWhole_64 ?_
      refine lv_iload_n S.1 S.2.1 dX0_isWhole_65 rfl (lv_at hl 1 rfl) ?_
      refine lv_iadd S.1 S.2.1 dX0_isWhole_66 ?_
      refine lv_icmp_ne (tgt := 74) S.1 S.2.1 dX0_isWhole_67 (by decide) (fun c67 => ?_) (fun c67 => ?_)
      · rw [if_neg c67] at h
        refine lv_iconst (v := 0) S.1 S.2.1 dX0_isWhole_74 (by decide) ?_
        exact ret _ _ _ _ 0 0 _ (by decide) (congrArg (fun z => some (z, g)) ((Option.some.inj h).trans hrr)) w dX0_isWhole_75
      · rw [if_pos c67] at h
        refine lv_iconst (v := 1) S.1 S.2.1 dX0_isWhole_70 (by decide) ?_
        refine lv_goto (tgt := 75) S.1 S.2.1 dX0_isWhole_71 (by decide) ?_
        exact ret _ _ _ _ 1 1 _ (by decide) (congrArg (fun z => some (z, g)) ((Option.some.inj h).trans hrr)) w dX0_isWhole_75
    · rw [if_pos c34] at h
      refine lv_bipush (v := 18) S.1 S.2.1 dX0_isWhole_37 (by decide) ?_
      refine lv_goto (tgt := 43) S.1 S.2.1 dX0_isWhole_39 (by decide) ?_
      refine lv_istore_n (lv' := [(1, .int 18), (0, .ref v0)]) S.1 S.2.1 dX0_isWhole_43 rfl hl (by decide) rfl (fun ls hl => ?_)
      refine lv_aload_n S.1 S.2.1 dX0_isWhole_44 rfl (lv_at hl 1 rfl) ?_
      refine lv_iconst (v := 2) S.1 S.2.1 dX0_isWhole_45 (by decide) ?_
      refine lv_iconst (v := 2) S.1 S.2.1 dX0_isWhole_46 (by decide) ?_
      obtain ⟨_, h9, h⟩ := xb h
      obtain ⟨x11, h10, h⟩ := xb h
      refine xr_callV_l S w hA hN 1 rfl h9 (c_X0_numberAt l D cy L g v0 2 2 h10) (cwV 2 S.2.2.2.2 gX0_isWhole_X0_numberAt rfl rfl rfl (by decide +kernel) ⟨Nat.le_of_ble_eq_true rfl, Nat.le_of_ble_eq_true rfl⟩) rfl rfl hl.1 (Nat.le_of_ble_eq_true rfl) dX0_isWhole_47 ⟨Nat.le_of_ble_eq_true rfl, Nat.le_of_ble_eq_true rfl⟩ (fun H locs w => ?_)
      refine lv_l2i (v := (Int64.toInt32 x11)) S.1 S.2.1 dX0_isWhole_50 rfl ?_
      refine lv_istore_n (lv' := [(2, .int (Int64.toInt32 x11)), (1, .int 18), (0, .ref v0)]) S.1 S.2.1 dX0_isWhole_51 rfl hl (by decide) rfl (fun ls hl => ?_)
      refine lv_aload_n S.1 S.2.1 dX0_isWhole_52 rfl (lv_at hl 2 rfl) ?_
      obtain ⟨x12, h13, h⟩ := xb h
      refine xr_geti S w 1 xi_X0_isWhole_X0 rfl 0 (by decide) xl_X0_isWhole_15 h13 dX0_isWhole_53 ?_
      refine lv_iconst (v := 4) S.1 S.2.1 dX0_isWhole_56 (by decide) ?_
      refine lv_iload_n S.1 S.2.1 dX0_isWhole_57 rfl (lv_at hl 0 rfl) ?_
      refine lv_bipush (v := 6) S.1 S.2.1 dX0_isWhole_58 (by decide) ?_
      refine lv_imul S.1 S.2.1 dX0_isWhole_60 ?_
      refine lv_iadd S.1 S.2.1 dX0_isWhole_61 ?_
      refine lv_bipush (v := 8) S.1 S.2.1 dX0_isWhole_62 (by decide) ?_
      refine lv_iadd S.1 S.2.1 dX0_isWhole_64 ?_
      refine lv_iload_n S.1 S.2.1 dX0_isWhole_65 rfl (lv_at hl 1 rfl) ?_
      refine lv_iadd S.1 S.2.1 dX0_isWhole_66 ?_
      refine lv_icmp_ne (tgt := 74) S.1 S.2.1 dX0_isWhole_67 (by decide) (fun c67 => ?_) (fun c67 => ?_)
      · rw [if_neg c67] at h
        refine lv_iconst (v := 0) S.1 S.2.1 dX0_isWhole_74 (by decide) ?_
        exact ret _ _ _ _ 0 0 _ (by decide) (congrArg (fun z => some (z, g)) ((Option.some.inj h).trans hrr)) w dX0_isWhole_75
      · rw [if_pos c67] at h
        refine lv_iconst (v := 1) S.1 S.2.1 dX0_isWhole_70 (by decide) ?_
        refine lv_goto (tgt := 75) S.1 S.2.1 dX0_isWhole_71 (by decide) ?_
        exact ret _ _ _ _ 1 1 _ (by decide) (congrArg (fun z => some (z, g)) ((Option.some.inj h).trans hrr)) w dX0_isWhole_75
  rw [f_X0_isWhole] at h
  refine lv_aload_n S.1 S.2.1 dX0_isWhole_0 rfl (lv_at hl 0 rfl) ?_
  obtain ⟨x14, h15, h⟩ := xb h
  refine xr_geti S w 1 xi_X0_isWhole_X0 rfl 0 (by decide) xl_X0_isWhole_15 h15 dX0_isWhole_1 ?_
  refine lv_iconst (v := 4) S.1 S.2.1 dX0_isWhole_4 (by decide) ?_
  refine lv_icmp_lt (tgt := 26) S.1 S.2.1 dX0_isWhole_5 (by decide) (fun c5 => ?_) (fun c5 => ?_)
  · rw [if_pos c5] at h
    refine lv_iconst (v := 0) S.1 S.2.1 dX0_isWhole_26 (by decide) ?_
    exact ret _ _ _ _ 0 0 _ (by decide) (congrArg (fun z => some (z, g)) ((Option.some.inj h).trans hrr)) w dX0_isWhole_27
  · rw [if_neg c5] at h
    refine lv_aload_n S.1 S.2.1 dX0_isWhole_8 rfl (lv_at hl 0 rfl) ?_
    refine lv_iconst (v := 0) S.1 S.2.1 dX0_isWhole_9 (by decide) ?_
    obtain ⟨_, h16, h⟩ := xb h
    obtain ⟨x18, h17, h⟩ := xb h
    refine xr_callV_i S w hA hN 1 rfl h16 (c_X0_byteAt l D cy L g a0 0 h17) (cwV 1 S.2.2.2.2 gX0_isWhole_X0_byteAt rfl rfl rfl (by decide +kernel) ⟨Nat.le_of_ble_eq_true rfl, Nat.le_of_ble_eq_true rfl⟩) rfl rfl hl.1 (Nat.le_of_ble_eq_true rfl) dX0_isWhole_10 ⟨Nat.le_of_ble_eq_true rfl, Nat.le_of_ble_eq_true rfl⟩ (fun H locs w => ?_)
    refine lv_iconst (v := 1) S.1 S.2.1 dX0_isWhole_13 (by decide) ?_
    refine lv_icmp_eq (tgt := 28) S.1 S.2.1 dX0_isWhole_14 (by decide) (fun c14 => ?_) (fun c14 => ?_)
    · rw [if_pos c14] at h
      exact hb28 a0 h _ _ _ w hl
    · rw [if_neg c14] at h
      refine lv_aload_n S.1 S.2.1 dX0_isWhole_17 rfl (lv_at hl 0 rfl) ?_
      refine lv_iconst (v := 0) S.1 S.2.1 dX0_isWhole_18 (by decide) ?_
      obtain ⟨_, h19, h⟩ := xb h
      obtain ⟨x21, h20, h⟩ := xb h
      refine xr_callV_i S w hA hN 1 rfl h19 (c_X0_byteAt l D cy L g a0 0 h20) (cwV 1 S.2.2.2.2 gX0_isWhole_X0_byteAt rfl rfl rfl (by decide +kernel) ⟨Nat.le_of_ble_eq_true rfl, Nat.le_of_ble_eq_true rfl⟩) rfl rfl hl.1 (Nat.le_of_ble_eq_true rfl) dX0_isWhole_19 ⟨Nat.le_of_ble_eq_true rfl, Nat.le_of_ble_eq_true rfl⟩ (fun H locs w => ?_)
      refine lv_iconst (v := 2) S.1 S.2.1 dX0_isWhole_22 (by decide) ?_
      refine lv_icmp_eq (tgt := 28) S.1 S.2.1 dX0_isWhole_23 (by decide) (fun c23 => ?_) (fun c23 => ?_)
      · rw [if_pos c23] at h
        exact hb28 a0 h _ _ _ w hl
      · rw [if_neg c23] at h
        refine lv_iconst (v := 0) S.1 S.2.1 dX0_isWhole_26 (by decide) ?_
        exact ret _ _ _ _ 0 0 _ (by decide) (congrArg (fun z => some (z, g)) ((Option.some.inj h).trans hrr)) w dX0_isWhole_27
theorem xi_X1_address_X1 : ∀ w ∈ wsX10, w ∈ wsX1_address := by decide +kernel
theorem xl_X1_address_7 : Cond.fieldLink RX1 7 (TX1 0).1 (TX1 0).2.1 (TX1 0).2.2.1 ∈ wsX1_address := by decide +kernel
theorem xl_X1_address_13 : Cond.fieldLink RX1 13 (TX1 1).1 (TX1 1).2.1 (TX1 1).2.2.1 ∈ wsX1_address := by decide +kernel
theorem xl_X1_address_16 : Cond.fieldLink RX1 16 (TX1 2).1 (TX1 2).2.1 (TX1 2).2.2.1 ∈ wsX1_address := by decide +kernel
def f_X1_address (g : xG) (a0 : Nat) (a1 : Int32) (a2 : Int32) (a3 : Int32) : Option xG :=
  (xp_i g 2 a0 0 a1).bind fun g1 =>
  (xp_i g1 2 a0 1 a2).bind fun g3 =>
  (xp_i g3 2 a0 2 a3).bind fun g5 =>
  some g5
set_option maxHeartbeats 4000000 in
set_option maxRecDepth 100000 in
theorem c_X1_address (l : Launch) (D : va_G) (cy : Nat → ClassId) (L : List Nat) (g : xG) (a0 : Nat) (a1 : Int32) (a2 : Int32) (a3 : Int32) {g1 : xG} (h : f_X1_address g a0 a1 a2 a3 = some g1) : xMv l yX1_address wsX1_address ({ frames := 0, cells := 0, slots := 0, locals := 0 }) D cy L g [.ref a0, .int a1, .int a2, .int a3] g1 := by
  refine xm_v (cc := cX1_address) (maxL := 4) RX1 rfl rfl rfl (by decide +kernel) rfl (Nat.le_of_ble_eq_true rfl) ?_
  intro p e s m args below meth c Q A S w hA hN ret ls hl
  have hl : lv_has ls 4 [(0, .ref a0), (1, .int a1), (2, .int a2), (3, .int a3)] := hl
  rw [f_X1_address] at h
  refine lv_aload_n S.1 S.2.1 dX1_address_0 rfl (lv_at hl 0 rfl) ?_
  refine lv_iload_n S.1 S.2.1 dX1_address_1 rfl (lv_at hl 1 rfl) ?_
  obtain ⟨g1, h2, h⟩ := xb h
  refine xr_puti S w 2 xi_X1_address_X1 rfl tyX1 tyX1_ok nmX1 0 (by decide) xl_X1_address_7 rfl (tyX1_ok 0 (by decide)) h2 dX1_address_2 (fun H locs w => ?_)
  refine lv_aload_n S.1 S.2.1 dX1_address_5 rfl (lv_at hl 0 rfl) ?_
  refine lv_iload_n S.1 S.2.1 dX1_address_6 rfl (lv_at hl 2 rfl) ?_
  obtain ⟨g3, h4, h⟩ := xb h
  refine xr_puti S w 2 xi_X1_address_X1 rfl tyX1 tyX1_ok nmX1 1 (by decide) xl_X1_address_13 rfl (tyX1_ok 1 (by decide)) h4 dX1_address_7 (fun H locs w => ?_)
  refine lv_aload_n S.1 S.2.1 dX1_address_10 rfl (lv_at hl 0 rfl) ?_
  refine lv_iload_n S.1 S.2.1 dX1_address_11 rfl (lv_at hl 3 rfl) ?_
  obtain ⟨g5, h6, h⟩ := xb h
  refine xr_puti S w 2 xi_X1_address_X1 rfl tyX1 tyX1_ok nmX1 2 (by decide) xl_X1_address_16 rfl (tyX1_ok 2 (by decide)) h6 dX1_address_12 (fun H locs w => ?_)
  exact ret _ _ _ _ _ h w dX1_address_15
theorem xi_X1_seal_X1 : ∀ w ∈ wsX10, w ∈ wsX1_seal := by decide +kernel
theorem xl_X1_seal_19 : Cond.fieldLink RX1 19 (TX1 4).1 (TX1 4).2.1 (TX1 4).2.2.1 ∈ wsX1_seal := by decide +kernel
theorem xl_X1_seal_22 : Cond.fieldLink RX1 22 (TX1 5).1 (TX1 5).2.1 (TX1 5).2.2.1 ∈ wsX1_seal := by decide +kernel
theorem xl_X1_seal_26 : Cond.fieldLink RX1 26 (TX1 6).1 (TX1 6).2.1 (TX1 6).2.2.1 ∈ wsX1_seal := by decide +kernel
def f_X1_seal (g : xG) (a0 : Nat) (a1 : Int32) (a2 : Int64) (a3 : Int64) : Option xG :=
  (xp_i g 2 a0 4 a1).bind fun g1 =>
  (xp_l g1 2 a0 5 a2).bind fun g3 =>
  (xp_l g3 2 a0 6 a3).bind fun g5 =>
  some g5
set_option maxHeartbeats 4000000 in
set_option maxRecDepth 100000 in
theorem c_X1_seal (l : Launch) (D : va_G) (cy : Nat → ClassId) (L : List Nat) (g : xG) (a0 : Nat) (a1 : Int32) (a2 : Int64) (a3 : Int64) {g1 : xG} (h : f_X1_seal g a0 a1 a2 a3 = some g1) : xMv l yX1_seal wsX1_seal ({ frames := 0, cells := 0, slots := 0, locals := 0 }) D cy L g [.ref a0, .int a1, .long a2, .long a3] g1 := by
  refine xm_v (cc := cX1_seal) (maxL := 6) RX1 rfl rfl rfl (by decide +kernel) rfl (Nat.le_of_ble_eq_true rfl) ?_
  intro p e s m args below meth c Q A S w hA hN ret ls hl
  have hl : lv_has ls 6 [(0, .ref a0), (1, .int a1), (2, .long a2), (4, .long a3)] := hl
  rw [f_X1_seal] at h
  refine lv_aload_n S.1 S.2.1 dX1_seal_0 rfl (lv_at hl 0 rfl) ?_
  refine lv_iload_n S.1 S.2.1 dX1_seal_1 rfl (lv_at hl 1 rfl) ?_
  obtain ⟨g1, h2, h⟩ := xb h
  refine xr_puti S w 2 xi_X1_seal_X1 rfl tyX1 tyX1_ok nmX1 4 (by decide) xl_X1_seal_19 rfl (tyX1_ok 4 (by decide)) h2 dX1_seal_2 (fun H locs w => ?_)
  refine lv_aload_n S.1 S.2.1 dX1_seal_5 rfl (lv_at hl 0 rfl) ?_
  refine lv_lload_n S.1 S.2.1 dX1_seal_6 rfl (lv_at hl 2 rfl) ?_
  obtain ⟨g3, h4, h⟩ := xb h
  refine xr_putl S w 2 xi_X1_seal_X1 rfl tyX1 tyX1_ok nmX1 5 (by decide) xl_X1_seal_22 rfl (tyX1_ok 5 (by decide)) h4 dX1_seal_7 (fun H locs w => ?_)
  refine lv_aload_n S.1 S.2.1 dX1_seal_10 rfl (lv_at hl 0 rfl) ?_
  refine lv_lload S.1 S.2.1 dX1_seal_11 (lv_at hl 3 rfl) ?_
  obtain ⟨g5, h6, h⟩ := xb h
  refine xr_putl S w 2 xi_X1_seal_X1 rfl tyX1 tyX1_ok nmX1 6 (by decide) xl_X1_seal_26 rfl (tyX1_ok 6 (by decide)) h6 dX1_seal_13 (fun H locs w => ?_)
  exact ret _ _ _ _ _ h w dX1_seal_16
theorem xi_X1_becomeLike_X1 : ∀ w ∈ wsX10, w ∈ wsX1_becomeLike := by decide +kernel
theorem xl_X1_becomeLike_7 : Cond.fieldLink RX1 7 (TX1 0).1 (TX1 0).2.1 (TX1 0).2.2.1 ∈ wsX1_becomeLike := by decide +kernel
theorem xl_X1_becomeLike_13 : Cond.fieldLink RX1 13 (TX1 1).1 (TX1 1).2.1 (TX1 1).2.2.1 ∈ wsX1_becomeLike := by decide +kernel
theorem xl_X1_becomeLike_16 : Cond.fieldLink RX1 16 (TX1 2).1 (TX1 2).2.1 (TX1 2).2.2.1 ∈ wsX1_becomeLike := by decide +kernel
theorem xl_X1_becomeLike_33 : Cond.fieldLink RX1 33 (TX1 3).1 (TX1 3).2.1 (TX1 3).2.2.1 ∈ wsX1_becomeLike := by decide +kernel
theorem xl_X1_becomeLike_19 : Cond.fieldLink RX1 19 (TX1 4).1 (TX1 4).2.1 (TX1 4).2.2.1 ∈ wsX1_becomeLike := by decide +kernel
theorem xl_X1_becomeLike_22 : Cond.fieldLink RX1 22 (TX1 5).1 (TX1 5).2.1 (TX1 5).2.2.1 ∈ wsX1_becomeLike := by decide +kernel
theorem xl_X1_becomeLike_26 : Cond.fieldLink RX1 26 (TX1 6).1 (TX1 6).2.1 (TX1 6).2.2.1 ∈ wsX1_becomeLike := by decide +kernel
def f_X1_becomeLike (g : xG) (a0 : Nat) (a1 : Nat) : Option xG :=
  (xg_i g 2 a1 0).bind fun x1 =>
  (xg_i g 2 a1 1).bind fun x3 =>
  (xg_i g 2 a1 2).bind fun x5 =>
  (xk g 2 a0).bind fun _ =>
  (f_X1_address g a0 x1 x3 x5).bind fun g9 =>
  (xg_i g9 2 a1 3).bind fun x10 =>
  (xp_i g9 2 a0 3 x10).bind fun g12 =>
  (xg_i g12 2 a1 4).bind fun x14 =>
  (xg_l g12 2 a1 5).bind fun x16 =>
  (xg_l g12 2 a1 6).bind fun x18 =>
  (xk g12 2 a0).bind fun _ =>
  (f_X1_seal g12 a0 x14 x16 x18).bind fun g22 =>
  some g22
set_option maxHeartbeats 4000000 in
set_option maxRecDepth 100000 in
theorem c_X1_becomeLike (l : Launch) (D : va_G) (cy : Nat → ClassId) (L : List Nat) (g : xG) (a0 : Nat) (a1 : Nat) {g1 : xG} (h : f_X1_becomeLike g a0 a1 = some g1) : xMv l yX1_becomeLike wsX1_becomeLike ({ frames := 1, cells := 0, slots := 0, locals := 25 }) D cy L g [.ref a0, .ref a1] g1 := by
  refine xm_v (cc := cX1_becomeLike) (maxL := 2) RX1 rfl rfl rfl (by decide +kernel) rfl (Nat.le_of_ble_eq_true rfl) ?_
  intro p e s m args below meth c Q A S w hA hN ret ls hl
  have hl : lv_has ls 2 [(0, .ref a0), (1, .ref a1)] := hl
  rw [f_X1_becomeLike] at h
  refine lv_aload_n S.1 S.2.1 dX1_becomeLike_0 rfl (lv_at hl 0 rfl) ?_
  refine lv_aload_n S.1 S.2.1 dX1_becomeLike_1 rfl (lv_at hl 1 rfl) ?_
  obtain ⟨x1, h2, h⟩ := xb h
  refine xr_geti S w 2 xi_X1_becomeLike_X1 rfl 0 (by decide) xl_X1_becomeLike_7 h2 dX1_becomeLike_2 ?_
  refine lv_aload_n S.1 S.2.1 dX1_becomeLike_5 rfl (lv_at hl 1 rfl) ?_
  obtain ⟨x3, h4, h⟩ := xb h
  refine xr_geti S w 2 xi_X1_becomeLike_X1 rfl 1 (by decide) xl_X1_becomeLike_13 h4 dX1_becomeLike_6 ?_
  refine lv_aload_n S.1 S.2.1 dX1_becomeLike_9 rfl (lv_at hl 1 rfl) ?_
  obtain ⟨x5, h6, h⟩ := xb h
  refine xr_geti S w 2 xi_X1_becomeLike_X1 rfl 2 (by decide) xl_X1_becomeLike_16 h6 dX1_becomeLike_10 ?_
  obtain ⟨_, h7, h⟩ := xb h
  obtain ⟨g9, h8, h⟩ := xb h
  refine xr_callV_v S w hA hN 2 rfl h7 (c_X1_address l D cy L g a0 x1 x3 x5 h8) (cwV 3 S.2.2.2.2 gX1_becomeLike_X1_address rfl rfl rfl (by decide +kernel) ⟨Nat.le_of_ble_eq_true rfl, Nat.le_of_ble_eq_true rfl⟩) rfl rfl hl.1 (Nat.le_of_ble_eq_true rfl) dX1_becomeLike_13 ⟨Nat.le_of_ble_eq_true rfl, Nat.le_of_ble_eq_true rfl⟩ (fun H locs w => ?_)
  refine lv_aload_n S.1 S.2.1 dX1_becomeLike_16 rfl (lv_at hl 0 rfl) ?_
  refine lv_aload_n S.1 S.2.1 dX1_becomeLike_17 rfl (lv_at hl 1 rfl) ?_
  obtain ⟨x10, h11, h⟩ := xb h
  refine xr_geti S w 2 xi_X1_becomeLike_X1 rfl 3 (by decide) xl_X1_becomeLike_33 h11 dX1_becomeLike_18 ?_
  obtain ⟨g12, h13, h⟩ := xb h
  refine xr_puti S w 2 xi_X1_becomeLike_X1 rfl tyX1 tyX1_ok nmX1 3 (by decide) xl_X1_becomeLike_33 rfl (tyX1_ok 3 (by decide)) h13 dX1_becomeLike_21 (fun H locs w => ?_)
  refine lv_aload_n S.1 S.2.1 dX1_becomeLike_24 rfl (lv_at hl 0 rfl) ?_
  refine lv_aload_n S.1 S.2.1 dX1_becomeLike_25 rfl (lv_at hl 1 rfl) ?_
  obtain ⟨x14, h15, h⟩ := xb h
  refine xr_geti S w 2 xi_X1_becomeLike_X1 rfl 4 (by decide) xl_X1_becomeLike_19 h15 dX1_becomeLike_26 ?_
  refine lv_aload_n S.1 S.2.1 dX1_becomeLike_29 rfl (lv_at hl 1 rfl) ?_
  obtain ⟨x16, h17, h⟩ := xb h
  refine xr_getl S w 2 xi_X1_becomeLike_X1 rfl 5 (by decide) xl_X1_becomeLike_22 h17 dX1_becomeLike_30 ?_
  refine lv_aload_n S.1 S.2.1 dX1_becomeLike_33 rfl (lv_at hl 1 rfl) ?_
  obtain ⟨x18, h19, h⟩ := xb h
  refine xr_getl S w 2 xi_X1_becomeLike_X1 rfl 6 (by decide) xl_X1_becomeLike_26 h19 dX1_becomeLike_34 ?_
  obtain ⟨_, h20, h⟩ := xb h
  obtain ⟨g22, h21, h⟩ := xb h
  refine xr_callV_v S w hA hN 2 rfl h20 (c_X1_seal l D cy L g12 a0 x14 x16 x18 h21) (cwV 3 S.2.2.2.2 gX1_becomeLike_X1_seal rfl rfl rfl (by decide +kernel) ⟨Nat.le_of_ble_eq_true rfl, Nat.le_of_ble_eq_true rfl⟩) rfl rfl hl.1 (Nat.le_of_ble_eq_true rfl) dX1_becomeLike_37 ⟨Nat.le_of_ble_eq_true rfl, Nat.le_of_ble_eq_true rfl⟩ (fun H locs w => ?_)
  exact ret _ _ _ _ _ h w dX1_becomeLike_40
theorem xi_X3_restart_X3 : ∀ w ∈ wsX30, w ∈ wsX3_restart := by decide +kernel
theorem xl_X3_restart_7 : Cond.fieldLink RX3 7 (TX3 0).1 (TX3 0).2.1 (TX3 0).2.2.1 ∈ wsX3_restart := by decide +kernel
theorem xl_X3_restart_13 : Cond.fieldLink RX3 13 (TX3 1).1 (TX3 1).2.1 (TX3 1).2.2.1 ∈ wsX3_restart := by decide +kernel
theorem xl_X3_restart_16 : Cond.fieldLink RX3 16 (TX3 2).1 (TX3 2).2.1 (TX3 2).2.2.1 ∈ wsX3_restart := by decide +kernel
theorem xl_X3_restart_19 : Cond.fieldLink RX3 19 (TX3 3).1 (TX3 3).2.1 (TX3 3).2.2.1 ∈ wsX3_restart := by decide +kernel
theorem xl_X3_restart_22 : Cond.fieldLink RX3 22 (TX3 4).1 (TX3 4).2.1 (TX3 4).2.2.1 ∈ wsX3_restart := by decide +kernel
def f_X3_restart (g : xG) (a0 : Nat) (a1 : Int32) (a2 : Int32) : Option xG :=
  (xp_i g 4 a0 0 a1).bind fun g1 =>
  (xp_i g1 4 a0 1 a2).bind fun g3 =>
  (xp_i g3 4 a0 2 0).bind fun g5 =>
  (xp_i g5 4 a0 3 0).bind fun g7 =>
  (xp_z g7 4 a0 4 0).bind fun g9 =>
  some g9
set_option maxHeartbeats 4000000 in
set_option maxRecDepth 100000 in
theorem c_X3_restart (l : Launch) (D : va_G) (cy : Nat → ClassId) (L : List Nat) (g : xG) (a0 : Nat) (a1 : Int32) (a2 : Int32) {g1 : xG} (h : f_X3_restart g a0 a1 a2 = some g1) : xMv l yX3_restart wsX3_restart ({ frames := 0, cells := 0, slots := 0, locals := 0 }) D cy L g [.ref a0, .int a1, .int a2] g1 := by
  refine xm_v (cc := cX3_restart) (maxL := 3) RX3 rfl rfl rfl (by decide +kernel) rfl (Nat.le_of_ble_eq_true rfl) ?_
  intro p e s m args below meth c Q A S w hA hN ret ls hl
  have hl : lv_has ls 3 [(0, .ref a0), (1, .int a1), (2, .int a2)] := hl
  rw [f_X3_restart] at h
  refine lv_aload_n S.1 S.2.1 dX3_restart_0 rfl (lv_at hl 0 rfl) ?_
  refine lv_iload_n S.1 S.2.1 dX3_restart_1 rfl (lv_at hl 1 rfl) ?_
  obtain ⟨g1, h2, h⟩ := xb h
  refine xr_puti S w 4 xi_X3_restart_X3 rfl tyX3 tyX3_ok nmX3 0 (by decide) xl_X3_restart_7 rfl (tyX3_ok 0 (by decide)) h2 dX3_restart_2 (fun H locs w => ?_)
  refine lv_aload_n S.1 S.2.1 dX3_restart_5 rfl (lv_at hl 0 rfl) ?_
  refine lv_iload_n S.1 S.2.1 dX3_restart_6 rfl (lv_at hl 2 rfl) ?_
  obtain ⟨g3, h4, h⟩ := xb h
  refine xr_puti S w 4 xi_X3_restart_X3 rfl tyX3 tyX3_ok nmX3 1 (by decide) xl_X3_restart_13 rfl (tyX3_ok 1 (by decide)) h4 dX3_restart_7 (fun H locs w => ?_)
  refine lv_aload_n S.1 S.2.1 dX3_restart_10 rfl (lv_at hl 0 rfl) ?_
  refine lv_iconst (v := 0) S.1 S.2.1 dX3_restart_11 (by decide) ?_
  obtain ⟨g5, h6, h⟩ := xb h
  refine xr_puti S w 4 xi_X3_restart_X3 rfl tyX3 tyX3_ok nmX3 2 (by decide) xl_X3_restart_16 rfl (tyX3_ok 2 (by decide)) h6 dX3_restart_12 (fun H locs w => ?_)
  refine lv_aload_n S.1 S.2.1 dX3_restart_15 rfl (lv_at hl 0 rfl) ?_
  refine lv_iconst (v := 0) S.1 S.2.1 dX3_restart_16 (by decide) ?_
  obtain ⟨g7, h8, h⟩ := xb h
  refine xr_puti S w 4 xi_X3_restart_X3 rfl tyX3 tyX3_ok nmX3 3 (by decide) xl_X3_restart_19 rfl (tyX3_ok 3 (by decide)) h8 dX3_restart_17 (fun H locs w => ?_)
  refine lv_aload_n S.1 S.2.1 dX3_restart_20 rfl (lv_at hl 0 rfl) ?_
  refine lv_iconst (v := 0) S.1 S.2.1 dX3_restart_21 (by decide) ?_
  obtain ⟨g9, h10, h⟩ := xb h
  refine xr_putz S w 4 xi_X3_restart_X3 rfl tyX3 tyX3_ok nmX3 4 (by decide) xl_X3_restart_22 rfl (tyX3_ok 4 (by decide)) h10 dX3_restart_22 (fun H locs w => ?_)
  exact ret _ _ _ _ _ h w dX3_restart_25
theorem xi_X3_stepInput_X3 : ∀ w ∈ wsX30, w ∈ wsX3_stepInput := by decide +kernel
theorem xl_X3_stepInput_22 : Cond.fieldLink RX3 22 (TX3 4).1 (TX3 4).2.1 (TX3 4).2.2.1 ∈ wsX3_stepInput := by decide +kernel
theorem xl_X3_stepInput_7 : Cond.fieldLink RX3 7 (TX3 0).1 (TX3 0).2.1 (TX3 0).2.2.1 ∈ wsX3_stepInput := by decide +kernel
theorem xl_X3_stepInput_16 : Cond.fieldLink RX3 16 (TX3 2).1 (TX3 2).2.1 (TX3 2).2.2.1 ∈ wsX3_stepInput := by decide +kernel
theorem xl_X3_stepInput_13 : Cond.fieldLink RX3 13 (TX3 1).1 (TX3 1).2.1 (TX3 1).2.2.1 ∈ wsX3_stepInput := by decide +kernel
theorem xl_X3_stepInput_26 : Cond.fieldLink RX3 26 (TX3 5).1 (TX3 5).2.1 (TX3 5).2.2.1 ∈ wsX3_stepInput := by decide +kernel
theorem xl_X3_stepInput_19 : Cond.fieldLink RX3 19 (TX3 3).1 (TX3 3).2.1 (TX3 3).2.2.1 ∈ wsX3_stepInput := by decide +kernel
theorem xl_X3_stepInput_29 : Cond.fieldLink RX3 29 (TX3 6).1 (TX3 6).2.1 (TX3 6).2.2.1 ∈ wsX3_stepInput := by decide +kernel
def f_X3_stepInput_28 (g : xG) (v0 : Nat) (s0 : Nat) (s1 : Int32) : Option xG :=
  (xp_z g 4 s0 4 s1).bind fun g1 =>
  (xg_i g1 4 v0 0).bind fun x3 =>
  (xg_i g1 4 v0 2).bind fun x5 =>
  (xg_i g1 4 v0 1).bind fun x7 =>
  (xnz (x7 - 1)).bind fun _ =>
  (xg_i g1 4 v0 1).bind fun x10 =>
  (xnz x10).bind fun _ =>
  (xp_i g1 4 v0 5 (((x3 + 1) + (((xiushr x5 8) &&& 127) - ((xiushr x5 8) &&& 127) / (x7 - 1) * (x7 - 1))) - ((x3 + 1) + (((xiushr x5 8) &&& 127) - ((xiushr x5 8) &&& 127) / (x7 - 1) * (x7 - 1))) / x10 * x10)).bind fun g13 =>
  (xg_i g13 4 v0 2).bind fun x15 =>
  (xg_i g13 4 v0 3).bind fun x17 =>
  (xp_i g13 4 v0 6 ((xiushr x15 1) ^^^ x17)).bind fun g19 =>
  some g19
def f_X3_stepInput (g : xG) (a0 : Nat) (a1 : Int32) : Option xG :=
  (xg_i g 4 a0 2).bind fun x21 =>
  (xp_i g 4 a0 2 ((31 * x21) + a1)).bind fun g23 =>
  (xg_i g23 4 a0 2).bind fun x25 =>
  if (x25 &&& 1) = 0 then
    f_X3_stepInput_28 g23 a0 a0 1
  else
    f_X3_stepInput_28 g23 a0 a0 0
set_option maxHeartbeats 4000000 in
set_option maxRecDepth 100000 in
theorem c_X3_stepInput (l : Launch) (D : va_G) (cy : Nat → ClassId) (L : List Nat) (g : xG) (a0 : Nat) (a1 : Int32) {g1 : xG} (h : f_X3_stepInput g a0 a1 = some g1) : xMv l yX3_stepInput wsX3_stepInput ({ frames := 0, cells := 0, slots := 0, locals := 0 }) D cy L g [.ref a0, .int a1] g1 := by
  refine xm_v (cc := cX3_stepInput) (maxL := 2) RX3 rfl rfl rfl (by decide +kernel) rfl (Nat.le_of_ble_eq_true rfl) ?_
  intro p e s m args below meth c Q A S w hA hN ret ls hl
  have hl : lv_has ls 2 [(0, .ref a0), (1, .int a1)] := hl
  obtain ⟨rr, hrr⟩ : ∃ z, z = g1 := ⟨_, rfl⟩
  rw [← hrr] at h
  have hb28 : ∀ (g : xG) (v0 : Nat) (s0 : Nat) (s1 : Int32) , f_X3_stepInput_28 g v0 s0 s1 = some rr → ∀ (H : Heap) (locs : List Loc) (ls : Array Slot), xOK D cy A s.heap s L g H locs → lv_has ls 2 [(0, .ref v0)] → W p l e { frames := 0, cells := 0, slots := 0, locals := 0 } s m args below meth c H locs 0 0 Q (F0 m 28 ls [.int s1, .ref s0]) := by
    intro g v0 s0 s1 h H locs ls w hl
    rw [f_X3_stepInput_28] at h
    obtain ⟨g1, h2, h⟩ := xb h
    refine xr_putz S w 4 xi_X3_stepInput_X3 rfl tyX3 tyX3_ok nmX3 4 (by decide) xl_X3_stepInput_22 rfl (tyX3_ok 4 (by decide)) h2 dX3_stepInput_28 (fun H locs w => ?_)
    refine lv_aload_n S.1 S.2.1 dX3_stepInput_31 rfl (lv_at hl 0 rfl) ?_
    refine lv_aload_n S.1 S.2.1 dX3_stepInput_32 rfl (lv_at hl 0 rfl) ?_
    obtain ⟨x3, h4, h⟩ := xb h
    refine xr_geti S w 4 xi_X3_stepInput_X3 rfl 0 (by decide) xl_X3_stepInput_7 h4 dX3_stepInput_33 ?_
    refine lv_iconst (v := 1) S.1 S.2.1 dX3_stepInput_36 (by decide) ?_
    refine lv_iadd S.1 S.2.1 dX3_stepInput_37 ?_
    refine lv_aload_n S.1 S.2.1 dX3_stepInput_38 rfl (lv_at hl 0 rfl) ?_
    obtain ⟨x5, h6, h⟩ := xb h
    refine xr_geti S w 4 xi_X3_stepInput_X3 rfl 2 (by decide) xl_X3_stepInput_16 h6 dX3_stepInput_39 ?_
    refine lv_bipush (v := 8) S.1 S.2.1 dX3_stepInput_42 (by decide) ?_
    refine lv_iushr (v := (xiushr x5 8)) S.1 S.2.1 dX3_stepInput_44 rfl ?_
    refine lv_bipush (v := 127) S.1 S.2.1 dX3_stepInput_45 (by decide) ?_
    refine lv_iand S.1 S.2.1 dX3_stepInput_47 ?_
    refine lv_aload_n S.1 S.2.1 dX3_stepInput_48 rfl (lv_at hl 0 rfl) ?_
    obtain ⟨x7, h8, h⟩ := xb h
    refine xr_geti S w 4 xi_X3_stepInput_X3 rfl 1 (by decide) xl_X3_stepInput_13 h8 dX3_stepInput_49 ?_
    refine lv_iconst (v := 1) S.1 S.2.1 dX3_stepInput_52 (by decide) ?_
    refine lv_isub S.1 S.2.1 dX3_stepInput_53 ?_
    obtain ⟨_, h9, h⟩ := xb h
    refine lv_irem S.1 S.2.1 dX3_stepInput_54 (xnz_ok h9) ?_
    refine lv_iadd S.1 S.2.1 dX3_stepInput_55 ?_
    refine lv_aload_n S.1 S.2.1 dX3_stepInput_56 rfl (lv_at hl 0 rfl) ?_
    obtain ⟨x10, h11, h⟩ := xb h
    refine xr_geti S w 4 xi_X3_stepInput_X3 rfl 1 (by decide) xl_X3_stepInput_13 h11 dX3_stepInput_57 ?_
    obtain ⟨_, h12, h⟩ := xb h
    refine lv_irem S.1 S.2.1 dX3_stepInput_60 (xnz_ok h12) ?_
    obtain ⟨g13, h14, h⟩ := xb h
    refine xr_puti S w 4 xi_X3_stepInput_X3 rfl tyX3 tyX3_ok nmX3 5 (by decide) xl_X3_stepInput_26 rfl (tyX3_ok 5 (by decide)) h14 dX3_stepInput_61 (fun H locs w => ?_)
    refine lv_aload_n S.1 S.2.1 dX3_stepInput_64 rfl (lv_at hl 0 rfl) ?_
    refine lv_aload_n S.1 S.2.1 dX3_stepInput_65 rfl (lv_at hl 0 rfl) ?_
    obtain ⟨x15, h16, h⟩ := xb h
    refine xr_geti S w 4 xi_X3_stepInput_X3 rfl 2 (by decide) xl_X3_stepInput_16 h16 dX3_stepInput_66 ?_
    refine lv_iconst (v := 1) S.1 S.2.1 dX3_stepInput_69 (by decide) ?_
    refine lv_iushr (v := (xiushr x15 1)) S.1 S.2.1 dX3_stepInput_70 rfl ?_
    refine lv_aload_n S.1 S.2.1 dX3_stepInput_71 rfl (lv_at hl 0 rfl) ?_
    obtain ⟨x17, h18, h⟩ := xb h
    refine xr_geti S w 4 xi_X3_stepInput_X3 rfl 3 (by decide) xl_X3_stepInput_19 h18 dX3_stepInput_72 ?_
    refine lv_ixor S.1 S.2.1 dX3_stepInput_75 ?_
    obtain ⟨g19, h20, h⟩ := xb h
    refine xr_puti S w 4 xi_X3_stepInput_X3 rfl tyX3 tyX3_ok nmX3 6 (by decide) xl_X3_stepInput_29 rfl (tyX3_ok 6 (by decide)) h20 dX3_stepInput_76 (fun H locs w => ?_)
    exact ret _ _ _ _ _ (h.trans (congrArg some hrr)) w dX3_stepInput_79
  rw [f_X3_stepInput] at h
  refine lv_aload_n S.1 S.2.1 dX3_stepInput_0 rfl (lv_at hl 0 rfl) ?_
  refine lv_bipush (v := 31) S.1 S.2.1 dX3_stepInput_1 (by decide) ?_
  refine lv_aload_n S.1 S.2.1 dX3_stepInput_3 rfl (lv_at hl 0 rfl) ?_
  obtain ⟨x21, h22, h⟩ := xb h
  refine xr_geti S w 4 xi_X3_stepInput_X3 rfl 2 (by decide) xl_X3_stepInput_16 h22 dX3_stepInput_4 ?_
  refine lv_imul S.1 S.2.1 dX3_stepInput_7 ?_
  refine lv_iload_n S.1 S.2.1 dX3_stepInput_8 rfl (lv_at hl 1 rfl) ?_
  refine lv_iadd S.1 S.2.1 dX3_stepInput_9 ?_
  obtain ⟨g23, h24, h⟩ := xb h
  refine xr_puti S w 4 xi_X3_stepInput_X3 rfl tyX3 tyX3_ok nmX3 2 (by decide) xl_X3_stepInput_16 rfl (tyX3_ok 2 (by decide)) h24 dX3_stepInput_10 (fun H locs w => ?_)
  refine lv_aload_n S.1 S.2.1 dX3_stepInput_13 rfl (lv_at hl 0 rfl) ?_
  refine lv_aload_n S.1 S.2.1 dX3_stepInput_14 rfl (lv_at hl 0 rfl) ?_
  obtain ⟨x25, h26, h⟩ := xb h
  refine xr_geti S w 4 xi_X3_stepInput_X3 rfl 2 (by decide) xl_X3_stepInput_16 h26 dX3_stepInput_15 ?_
  refine lv_iconst (v := 1) S.1 S.2.1 dX3_stepInput_18 (by decide) ?_
  refine lv_iand S.1 S.2.1 dX3_stepInput_19 ?_
  refine lv_if_ne (tgt := 27) S.1 S.2.1 dX3_stepInput_20 (by decide) (fun c20 => ?_) (fun c20 => ?_)
  · rw [if_neg c20] at h
    refine lv_iconst (v := 0) S.1 S.2.1 dX3_stepInput_27 (by decide) ?_
    exact hb28 g23 a0 a0 0 h _ _ _ w (lv_sub hl [0] rfl)
  · rw [if_pos c20] at h
    refine lv_iconst (v := 1) S.1 S.2.1 dX3_stepInput_23 (by decide) ?_
    refine lv_goto (tgt := 28) S.1 S.2.1 dX3_stepInput_24 (by decide) ?_
    exact hb28 g23 a0 a0 1 h _ _ _ w (lv_sub hl [0] rfl)
theorem xi_X3_stepReceipt_X3 : ∀ w ∈ wsX30, w ∈ wsX3_stepReceipt := by decide +kernel
theorem xl_X3_stepReceipt_19 : Cond.fieldLink RX3 19 (TX3 3).1 (TX3 3).2.1 (TX3 3).2.2.1 ∈ wsX3_stepReceipt := by decide +kernel
theorem xl_X3_stepReceipt_22 : Cond.fieldLink RX3 22 (TX3 4).1 (TX3 4).2.1 (TX3 4).2.2.1 ∈ wsX3_stepReceipt := by decide +kernel
theorem xl_X3_stepReceipt_26 : Cond.fieldLink RX3 26 (TX3 5).1 (TX3 5).2.1 (TX3 5).2.2.1 ∈ wsX3_stepReceipt := by decide +kernel
theorem xl_X3_stepReceipt_29 : Cond.fieldLink RX3 29 (TX3 6).1 (TX3 6).2.1 (TX3 6).2.2.1 ∈ wsX3_stepReceipt := by decide +kernel
def f_X3_stepReceipt (g : xG) (a0 : Nat) (a1 : Int32) (a2 : Int32) : Option xG :=
  (xg_i g 4 a0 3).bind fun x1 =>
  (xp_i g 4 a0 3 (((x1 ^^^ (a1 + a2)) <<< (5 &&& 31)) ||| (xiushr (x1 ^^^ (a1 + a2)) 27))).bind fun g3 =>
  (xg_i g3 4 a0 3).bind fun x5 =>
  if (x5 &&& 7) = 0 then
    (xp_z g3 4 a0 4 1).bind fun g15 =>
    (xp_i g15 4 a0 5 a2).bind fun g17 =>
    (xg_i g17 4 a0 3).bind fun x19 =>
    (xp_i g17 4 a0 6 x19).bind fun g21 =>
    some g21
  else
    (xp_z g3 4 a0 4 0).bind fun g7 =>
    (xp_i g7 4 a0 5 a2).bind fun g9 =>
    (xg_i g9 4 a0 3).bind fun x11 =>
    (xp_i g9 4 a0 6 x11).bind fun g13 =>
    some g13
set_option maxHeartbeats 4000000 in
set_option maxRecDepth 100000 in
theorem c_X3_stepReceipt (l : Launch) (D : va_G) (cy : Nat → ClassId) (L : List Nat) (g : xG) (a0 : Nat) (a1 : Int32) (a2 : Int32) {g1 : xG} (h : f_X3_stepReceipt g a0 a1 a2 = some g1) : xMv l yX3_stepReceipt wsX3_stepReceipt ({ frames := 0, cells := 0, slots := 0, locals := 0 }) D cy L g [.ref a0, .int a1, .int a2] g1 := by
  refine xm_v (cc := cX3_stepReceipt) (maxL := 4) RX3 rfl rfl rfl (by decide +kernel) rfl (Nat.le_of_ble_eq_true rfl) ?_
  intro p e s m args below meth c Q A S w hA hN ret ls hl
  have hl : lv_has ls 4 [(0, .ref a0), (1, .int a1), (2, .int a2)] := hl
  rw [f_X3_stepReceipt] at h
  refine lv_aload_n S.1 S.2.1 dX3_stepReceipt_0 rfl (lv_at hl 0 rfl) ?_
  obtain ⟨x1, h2, h⟩ := xb h
  refine xr_geti S w 4 xi_X3_stepReceipt_X3 rfl 3 (by decide) xl_X3_stepReceipt_19 h2 dX3_stepReceipt_1 ?_
  refine lv_iload_n S.1 S.2.1 dX3_stepReceipt_4 rfl (lv_at hl 1 rfl) ?_
  refine lv_iload_n S.1 S.2.1 dX3_stepReceipt_5 rfl (lv_at hl 2 rfl) ?_
  refine lv_iadd S.1 S.2.1 dX3_stepReceipt_6 ?_
  refine lv_ixor S.1 S.2.1 dX3_stepReceipt_7 ?_
  refine lv_istore_n (lv' := [(3, .int (x1 ^^^ (a1 + a2))), (0, .ref a0), (1, .int a1), (2, .int a2)]) S.1 S.2.1 dX3_stepReceipt_8 rfl hl (by decide) rfl (fun ls hl => ?_)
  refine lv_aload_n S.1 S.2.1 dX3_stepReceipt_9 rfl (lv_at hl 1 rfl) ?_
  refine lv_iload_n S.1 S.2.1 dX3_stepReceipt_10 rfl (lv_at hl 0 rfl) ?_
  refine lv_iconst (v := 5) S.1 S.2.1 dX3_stepReceipt_11 (by decide) ?_
  refine lv_ishl S.1 S.2.1 dX3_stepReceipt_12 ?_
  refine lv_iload_n S.1 S.2.1 dX3_stepReceipt_13 rfl (lv_at hl 0 rfl) ?_
  refine lv_bipush (v := 27) S.1 S.2.1 dX3_stepReceipt_14 (by decide) ?_
  refine lv_iushr (v := (xiushr (x1 ^^^ (a1 + a2)) 27)) S.1 S.2.1 dX3_stepReceipt_16 rfl ?_
  refine lv_ior S.1 S.2.1 dX3_stepReceipt_17 ?_
  obtain ⟨g3, h4, h⟩ := xb h
  refine xr_puti S w 4 xi_X3_stepReceipt_X3 rfl tyX3 tyX3_ok nmX3 3 (by decide) xl_X3_stepReceipt_19 rfl (tyX3_ok 3 (by decide)) h4 dX3_stepReceipt_18 (fun H locs w => ?_)
  refine lv_aload_n S.1 S.2.1 dX3_stepReceipt_21 rfl (lv_at hl 1 rfl) ?_
  refine lv_aload_n S.1 S.2.1 dX3_stepReceipt_22 rfl (lv_at hl 1 rfl) ?_
  obtain ⟨x5, h6, h⟩ := xb h
  refine xr_geti S w 4 xi_X3_stepReceipt_X3 rfl 3 (by decide) xl_X3_stepReceipt_19 h6 dX3_stepReceipt_23 ?_
  refine lv_bipush (v := 7) S.1 S.2.1 dX3_stepReceipt_26 (by decide) ?_
  refine lv_iand S.1 S.2.1 dX3_stepReceipt_28 ?_
  refine lv_if_ne (tgt := 36) S.1 S.2.1 dX3_stepReceipt_29 (by decide) (fun c29 => ?_) (fun c29 => ?_)
  · rw [if_neg c29] at h
    refine lv_iconst (v := 0) S.1 S.2.1 dX3_stepReceipt_36 (by decide) ?_
    obtain ⟨g7, h8, h⟩ := xb h
    refine xr_putz S w 4 xi_X3_stepReceipt_X3 rfl tyX3 tyX3_ok nmX3 4 (by decide) xl_X3_stepReceipt_22 rfl (tyX3_ok 4 (by decide)) h8 dX3_stepReceipt_37 (fun H locs w => ?_)
    refine lv_aload_n S.1 S.2.1 dX3_stepReceipt_40 rfl (lv_at hl 1 rfl) ?_
    refine lv_iload_n S.1 S.2.1 dX3_stepReceipt_41 rfl (lv_at hl 3 rfl) ?_
    obtain ⟨g9, h10, h⟩ := xb h
    refine xr_puti S w 4 xi_X3_stepReceipt_X3 rfl tyX3 tyX3_ok nmX3 5 (by decide) xl_X3_stepReceipt_26 rfl (tyX3_ok 5 (by decide)) h10 dX3_stepReceipt_42 (fun H locs w => ?_)
    refine lv_aload_n S.1 S.2.1 dX3_stepReceipt_45 rfl (lv_at hl 1 rfl) ?_
    refine lv_aload_n S.1 S.2.1 dX3_stepReceipt_46 rfl (lv_at hl 1 rfl) ?_
    obtain ⟨x11, h12, h⟩ := xb h
    refine xr_geti S w 4 xi_X3_stepReceipt_X3 rfl 3 (by decide) xl_X3_stepReceipt_19 h12 dX3_stepReceipt_47 ?_
    obtain ⟨g13, h14, h⟩ := xb h
    refine xr_puti S w 4 xi_X3_stepReceipt_X3 rfl tyX3 tyX3_ok nmX3 6 (by decide) xl_X3_stepReceipt_29 rfl (tyX3_ok 6 (by decide)) h14 dX3_stepReceipt_50 (fun H locs w => ?_)
    exact ret _ _ _ _ _ h w dX3_stepReceipt_53
  · rw [if_pos c29] at h
    refine lv_iconst (v := 1) S.1 S.2.1 dX3_stepReceipt_32 (by decide) ?_
    refine lv_goto (tgt := 37) S.1 S.2.1 dX3_stepReceipt_33 (by decide) ?_
    obtain ⟨g15, h16, h⟩ := xb h
    refine xr_putz S w 4 xi_X3_stepReceipt_X3 rfl tyX3 tyX3_ok nmX3 4 (by decide) xl_X3_stepReceipt_22 rfl (tyX3_ok 4 (by decide)) h16 dX3_stepReceipt_37 (fun H locs w => ?_)
    refine lv_aload_n S.1 S.2.1 dX3_stepReceipt_40 rfl (lv_at hl 1 rfl) ?_
    refine lv_iload_n S.1 S.2.1 dX3_stepReceipt_41 rfl (lv_at hl 3 rfl) ?_
    obtain ⟨g17, h18, h⟩ := xb h
    refine xr_puti S w 4 xi_X3_stepReceipt_X3 rfl tyX3 tyX3_ok nmX3 5 (by decide) xl_X3_stepReceipt_26 rfl (tyX3_ok 5 (by decide)) h18 dX3_stepReceipt_42 (fun H locs w => ?_)
    refine lv_aload_n S.1 S.2.1 dX3_stepReceipt_45 rfl (lv_at hl 1 rfl) ?_
    refine lv_aload_n S.1 S.2.1 dX3_stepReceipt_46 rfl (lv_at hl 1 rfl) ?_
    obtain ⟨x19, h20, h⟩ := xb h
    refine xr_geti S w 4 xi_X3_stepReceipt_X3 rfl 3 (by decide) xl_X3_stepReceipt_19 h20 dX3_stepReceipt_47 ?_
    obtain ⟨g21, h22, h⟩ := xb h
    refine xr_puti S w 4 xi_X3_stepReceipt_X3 rfl tyX3 tyX3_ok nmX3 6 (by decide) xl_X3_stepReceipt_29 rfl (tyX3_ok 6 (by decide)) h22 dX3_stepReceipt_50 (fun H locs w => ?_)
    exact ret _ _ _ _ _ h w dX3_stepReceipt_53
theorem xi_X4_restart_X4 : ∀ w ∈ wsX40, w ∈ wsX4_restart := by decide +kernel
theorem xl_X4_restart_36 : Cond.fieldLink RX4 36 (TX4 5).1 (TX4 5).2.1 (TX4 5).2.2.1 ∈ wsX4_restart := by decide +kernel
theorem xl_X4_restart_32 : Cond.fieldLink RX4 32 (TX4 4).1 (TX4 4).2.1 (TX4 4).2.2.1 ∈ wsX4_restart := by decide +kernel
theorem xl_X4_restart_12 : Cond.fieldLink RX4 12 (TX4 1).1 (TX4 1).2.1 (TX4 1).2.2.1 ∈ wsX4_restart := by decide +kernel
theorem xl_X4_restart_40 : Cond.fieldLink RX4 40 (TX4 0).1 (TX4 0).2.1 (TX4 0).2.2.1 ∈ wsX4_restart := by decide +kernel
theorem xl_X4_restart_21 : Cond.fieldLink RX4 21 (TX4 2).1 (TX4 2).2.1 (TX4 2).2.2.1 ∈ wsX4_restart := by decide +kernel
theorem xi_X4_restart_X2 : ∀ w ∈ wsX20, w ∈ wsX4_restart := by decide +kernel
theorem xl_X4_restart_48 : Cond.fieldLink RX4 48 (TX2 0).1 (TX2 0).2.1 (TX2 0).2.2.1 ∈ wsX4_restart := by decide +kernel
theorem xl_X4_restart_28 : Cond.fieldLink RX4 28 (TX4 3).1 (TX4 3).2.1 (TX4 3).2.2.1 ∈ wsX4_restart := by decide +kernel
theorem xi_X4_restart_X6 : ∀ w ∈ wsX60, w ∈ wsX4_restart := by decide +kernel
theorem xl_X4_restart_51 : Cond.fieldLink RX4 51 (TX6 0).1 (TX6 0).2.1 (TX6 0).2.2.1 ∈ wsX4_restart := by decide +kernel
theorem xl_X4_restart_52 : Cond.fieldLink RX4 52 (TX4 6).1 (TX4 6).2.1 (TX4 6).2.2.1 ∈ wsX4_restart := by decide +kernel
theorem xl_X4_restart_55 : Cond.fieldLink RX4 55 (TX4 7).1 (TX4 7).2.1 (TX4 7).2.2.1 ∈ wsX4_restart := by decide +kernel
def f_X4_restart_64 : Nat → xG → Nat → Int32 → Option xG
  | 0, _, _, _ => none
  | n9 + 1, g, v0, v2 =>
  (xg_r g 5 v0 5).bind fun x1 =>
  (xn_a 3 g x1).bind fun x3 =>
  if x3 ≤ v2 then
    some g
  else
    (xg_r g 5 v0 5).bind fun x5 =>
    (xs_i 3 g x5 v2 0).bind fun g7 =>
    f_X4_restart_64 n9 g7 v0 (v2 + 1)
def f_X4_restart_40 : Nat → xG → Nat → Int32 → Option xG
  | 0, _, _, _ => none
  | n9 + 1, g, v0, v2 =>
  (xg_r g 5 v0 4).bind fun x9 =>
  (xn_a 1 g x9).bind fun x11 =>
  if x11 ≤ v2 then
    f_X4_restart_64 xFU g v0 0
  else
    (xg_r g 5 v0 4).bind fun x13 =>
    (xs_i 1 g x13 v2 0).bind fun g15 =>
    f_X4_restart_40 n9 g15 v0 (v2 + 1)
def f_X4_restart (g : xG) (a0 : Nat) (a1 : Int32) : Option xG :=
  (xg_r g 5 a0 1).bind fun x17 =>
  (xg_i g 5 a0 0).bind fun x19 =>
  (xk g 4 x17).bind fun _ =>
  (f_X3_restart g x17 x19 a1).bind fun g23 =>
  (xg_r g23 5 a0 2).bind fun x24 =>
  (xp_i g23 3 x24 0 0).bind fun g26 =>
  (xg_r g26 5 a0 3).bind fun x28 =>
  (xp_i g26 7 x28 0 0).bind fun g30 =>
  (xp_i g30 5 a0 6 0).bind fun g32 =>
  (xp_z g32 5 a0 7 0).bind fun g34 =>
  f_X4_restart_40 xFU g34 a0 0
set_option maxHeartbeats 4000000 in
set_option maxRecDepth 100000 in
theorem c_X4_restart (l : Launch) (D : va_G) (cy : Nat → ClassId) (L : List Nat) (g : xG) (a0 : Nat) (a1 : Int32) {g1 : xG} (h : f_X4_restart g a0 a1 = some g1) : xMv l yX4_restart wsX4_restart ({ frames := 1, cells := 0, slots := 0, locals := 22 }) D cy L g [.ref a0, .int a1] g1 := by
  refine xm_v (cc := cX4_restart) (maxL := 3) RX4 rfl rfl rfl (by decide +kernel) rfl (Nat.le_of_ble_eq_true rfl) ?_
  intro p e s m args below meth c Q A S w hA hN ret ls hl
  have hl : lv_has ls 3 [(0, .ref a0), (1, .int a1)] := hl
  obtain ⟨rr, hrr⟩ : ∃ z, z = g1 := ⟨_, rfl⟩
  rw [← hrr] at h
  have hb64 : ∀ (n9 : Nat), ∀ (g : xG) (v0 : Nat) (v2 : Int32) , f_X4_restart_64 n9 g v0 v2 = some rr → ∀ (H : Heap) (locs : List Loc) (ls : Array Slot), xOK D cy A s.heap s L g H locs → lv_has ls 3 [(0, .ref v0), (2, .int v2)] → W p l e { frames := 1, cells := 0, slots := 0, locals := 22 } s m args below meth c H locs 0 0 Q (F0 m 64 ls []) := by
    intro n9
    induction n9 with
    | zero => intro g v0 v2 h; cases h
    | succ n9 ih =>
      intro g v0 v2 h H locs ls w hl
      rw [f_X4_restart_64] at h
      refine lv_iload_n S.1 S.2.1 dX4_restart_64 rfl (lv_at hl 1 rfl) ?_
      refine lv_aload_n S.1 S.2.1 dX4_restart_65 rfl (lv_at hl 0 rfl) ?_
      obtain ⟨x1, h2, h⟩ := xb h
      refine xr_getr S w 5 xi_X4_restart_X4 rfl 5 (by decide) xl_X4_restart_36 h2 dX4_restart_66 ?_
      obtain ⟨x3, h4, h⟩ := xb h
      refine xr_alen S w 3 .boolean (fun _ => rfl) h4 dX4_restart_69 ?_
      refine lv_icmp_ge (tgt := 86) S.1 S.2.1 dX4_restart_70 (by decide) (fun c70 => ?_) (fun c70 => ?_)
      · rw [if_pos c70] at h
        exact ret _ _ _ _ _ (h.trans (congrArg some hrr)) w dX4_restart_86
      · rw [if_neg c70] at h
        refine lv_aload_n S.1 S.2.1 dX4_restart_73 rfl (lv_at hl 0 rfl) ?_
        obtain ⟨x5, h6, h⟩ := xb h
        refine xr_getr S w 5 xi_X4_restart_X4 rfl 5 (by decide) xl_X4_restart_36 h6 dX4_restart_74 ?_
        refine lv_iload_n S.1 S.2.1 dX4_restart_77 rfl (lv_at hl 1 rfl) ?_
        refine lv_iconst (v := 0) S.1 S.2.1 dX4_restart_78 (by decide) ?_
        obtain ⟨g7, h8, h⟩ := xb h
        refine xr_zast S w h8 dX4_restart_79 (fun H locs w => ?_)
        refine lv_iinc (v := (v2 + 1)) (lv' := [(2, .int (v2 + 1)), (0, .ref v0)]) S.1 S.2.1 dX4_restart_80 hl (k := 1) rfl rfl (by decide) rfl (fun ls hl => ?_)
        refine lv_goto (tgt := 64) S.1 S.2.1 dX4_restart_83 (by decide) ?_
        exact ih g7 v0 (v2 + 1) h _ _ _ w (lv_sub hl [1, 0] rfl)
  have hb40 : ∀ (n9 : Nat), ∀ (g : xG) (v0 : Nat) (v2 : Int32) , f_X4_restart_40 n9 g v0 v2 = some rr → ∀ (H : Heap) (locs : List Loc) (ls : Array Slot), xOK D cy A s.heap s L g H locs → lv_has ls 3 [(0, .ref v0), (2, .int v2)] → W p l e { frames := 1, cells := 0, slots := 0, locals := 22 } s m args below meth c H locs 0 0 Q (F0 m 40 ls []) := by
    intro n9
    induction n9 with
    | zero => intro g v0 v2 h; cases h
    | succ n9 ih =>
      intro g v0 v2 h H locs ls w hl
      rw [f_X4_restart_40] at h
      refine lv_iload_n S.1 S.2.1 dX4_restart_40 rfl (lv_at hl 1 rfl) ?_
      refine lv_aload_n S.1 S.2.1 dX4_restart_41 rfl (lv_at hl 0 rfl) ?_
      obtain ⟨x9, h10, h⟩ := xb h
      refine xr_getr S w 5 xi_X4_restart_X4 rfl 4 (by decide) xl_X4_restart_32 h10 dX4_restart_42 ?_
      obtain ⟨x11, h12, h⟩ := xb h
      refine xr_alen S w 1 .int (fun _ => rfl) h12 dX4_restart_45 ?_
      refine lv_icmp_ge (tgt := 62) S.1 S.2.1 dX4_restart_46 (by decide) (fun c46 => ?_) (fun c46 => ?_)
      · rw [if_pos c46] at h
        refine lv_iconst (v := 0) S.1 S.2.1 dX4_restart_62 (by decide) ?_
        refine lv_istore_n (lv' := [(2, .int 0), (0, .ref v0)]) S.1 S.2.1 dX4_restart_63 rfl hl (by decide) rfl (fun ls hl => ?_)
        exact hb64 xFU g v0 0 h _ _ _ w (lv_sub hl [1, 0] rfl)
      · rw [if_neg c46] at h
        refine lv_aload_n S.1 S.2.1 dX4_restart_49 rfl (lv_at hl 0 rfl) ?_
        obtain ⟨x13, h14, h⟩ := xb h
        refine xr_getr S w 5 xi_X4_restart_X4 rfl 4 (by decide) xl_X4_restart_32 h14 dX4_restart_50 ?_
        refine lv_iload_n S.1 S.2.1 dX4_restart_53 rfl (lv_at hl 1 rfl) ?_
        refine lv_iconst (v := 0) S.1 S.2.1 dX4_restart_54 (by decide) ?_
        obtain ⟨g15, h16, h⟩ := xb h
        refine xr_iast S w h16 dX4_restart_55 (fun H locs w => ?_)
        refine lv_iinc (v := (v2 + 1)) (lv' := [(2, .int (v2 + 1)), (0, .ref v0)]) S.1 S.2.1 dX4_restart_56 hl (k := 1) rfl rfl (by decide) rfl (fun ls hl => ?_)
        refine lv_goto (tgt := 40) S.1 S.2.1 dX4_restart_59 (by decide) ?_
        exact ih g15 v0 (v2 + 1) h _ _ _ w (lv_sub hl [1, 0] rfl)
  rw [f_X4_restart] at h
  refine lv_aload_n S.1 S.2.1 dX4_restart_0 rfl (lv_at hl 0 rfl) ?_
  obtain ⟨x17, h18, h⟩ := xb h
  refine xr_getr S w 5 xi_X4_restart_X4 rfl 1 (by decide) xl_X4_restart_12 h18 dX4_restart_1 ?_
  refine lv_aload_n S.1 S.2.1 dX4_restart_4 rfl (lv_at hl 0 rfl) ?_
  obtain ⟨x19, h20, h⟩ := xb h
  refine xr_geti S w 5 xi_X4_restart_X4 rfl 0 (by decide) xl_X4_restart_40 h20 dX4_restart_5 ?_
  refine lv_iload_n S.1 S.2.1 dX4_restart_8 rfl (lv_at hl 1 rfl) ?_
  obtain ⟨_, h21, h⟩ := xb h
  obtain ⟨g23, h22, h⟩ := xb h
  refine xr_callV_v S w hA hN 4 rfl h21 (c_X3_restart l D cy L g x17 x19 a1 h22) (cwV 2 S.2.2.2.2 gX4_restart_X3_restart rfl rfl rfl (by decide +kernel) ⟨Nat.le_of_ble_eq_true rfl, Nat.le_of_ble_eq_true rfl⟩) rfl rfl hl.1 (Nat.le_of_ble_eq_true rfl) dX4_restart_9 ⟨Nat.le_of_ble_eq_true rfl, Nat.le_of_ble_eq_true rfl⟩ (fun H locs w => ?_)
  refine lv_aload_n S.1 S.2.1 dX4_restart_12 rfl (lv_at hl 0 rfl) ?_
  obtain ⟨x24, h25, h⟩ := xb h
  refine xr_getr S w 5 xi_X4_restart_X4 rfl 2 (by decide) xl_X4_restart_21 h25 dX4_restart_13 ?_
  refine lv_iconst (v := 0) S.1 S.2.1 dX4_restart_16 (by decide) ?_
  obtain ⟨g26, h27, h⟩ := xb h
  refine xr_puti S w 3 xi_X4_restart_X2 rfl tyX2 tyX2_ok nmX2 0 (by decide) xl_X4_restart_48 rfl (tyX2_ok 0 (by decide)) h27 dX4_restart_17 (fun H locs w => ?_)
  refine lv_aload_n S.1 S.2.1 dX4_restart_20 rfl (lv_at hl 0 rfl) ?_
  obtain ⟨x28, h29, h⟩ := xb h
  refine xr_getr S w 5 xi_X4_restart_X4 rfl 3 (by decide) xl_X4_restart_28 h29 dX4_restart_21 ?_
  refine lv_iconst (v := 0) S.1 S.2.1 dX4_restart_24 (by decide) ?_
  obtain ⟨g30, h31, h⟩ := xb h
  refine xr_puti S w 7 xi_X4_restart_X6 rfl tyX6 tyX6_ok nmX6 0 (by decide) xl_X4_restart_51 rfl (tyX6_ok 0 (by decide)) h31 dX4_restart_25 (fun H locs w => ?_)
  refine lv_aload_n S.1 S.2.1 dX4_restart_28 rfl (lv_at hl 0 rfl) ?_
  refine lv_iconst (v := 0) S.1 S.2.1 dX4_restart_29 (by decide) ?_
  obtain ⟨g32, h33, h⟩ := xb h
  refine xr_puti S w 5 xi_X4_restart_X4 rfl tyX4 tyX4_ok nmX4 6 (by decide) xl_X4_restart_52 rfl (tyX4_ok 6 (by decide)) h33 dX4_restart_30 (fun H locs w => ?_)
  refine lv_aload_n S.1 S.2.1 dX4_restart_33 rfl (lv_at hl 0 rfl) ?_
  refine lv_iconst (v := 0) S.1 S.2.1 dX4_restart_34 (by decide) ?_
  obtain ⟨g34, h35, h⟩ := xb h
  refine xr_putz S w 5 xi_X4_restart_X4 rfl tyX4 tyX4_ok nmX4 7 (by decide) xl_X4_restart_55 rfl (tyX4_ok 7 (by decide)) h35 dX4_restart_35 (fun H locs w => ?_)
  refine lv_iconst (v := 0) S.1 S.2.1 dX4_restart_38 (by decide) ?_
  refine lv_istore_n (lv' := [(2, .int 0), (0, .ref a0), (1, .int a1)]) S.1 S.2.1 dX4_restart_39 rfl hl (by decide) rfl (fun ls hl => ?_)
  exact hb40 xFU g34 a0 0 h _ _ _ w (lv_sub hl [1, 0] rfl)
theorem xi_X4_hasTaken_X4 : ∀ w ∈ wsX40, w ∈ wsX4_hasTaken := by decide +kernel
theorem xl_X4_hasTaken_36 : Cond.fieldLink RX4 36 (TX4 5).1 (TX4 5).2.1 (TX4 5).2.2.1 ∈ wsX4_hasTaken := by decide +kernel
def f_X4_hasTaken (g : xG) (a0 : Nat) (a1 : Int32) (a2 : Int32) : Option Int32 :=
  (xg_r g 5 a0 5).bind fun x1 =>
  (xa_i 3 g x1 ((a1 * 151) + a2)).bind fun x3 =>
  (xz x3).bind fun x6 =>
  some x6
set_option maxHeartbeats 4000000 in
set_option maxRecDepth 100000 in
theorem c_X4_hasTaken (l : Launch) (D : va_G) (cy : Nat → ClassId) (L : List Nat) (g : xG) (a0 : Nat) (a1 : Int32) (a2 : Int32) {r1 : Int32} (h : f_X4_hasTaken g a0 a1 a2 = some r1) : xMi l yX4_hasTaken wsX4_hasTaken ({ frames := 0, cells := 0, slots := 0, locals := 0 }) D cy L g [.ref a0, .int a1, .int a2] r1 g := by
  refine xm_z (cc := cX4_hasTaken) (maxL := 3) RX4 rfl rfl rfl (by decide +kernel) rfl (Nat.le_of_ble_eq_true rfl) ?_
  intro p e s m args below meth c Q A S w hA hN ret ls hl
  have hl : lv_has ls 3 [(0, .ref a0), (1, .int a1), (2, .int a2)] := hl
  rw [f_X4_hasTaken] at h
  refine lv_aload_n S.1 S.2.1 dX4_hasTaken_0 rfl (lv_at hl 0 rfl) ?_
  obtain ⟨x1, h2, h⟩ := xb h
  refine xr_getr S w 5 xi_X4_hasTaken_X4 rfl 5 (by decide) xl_X4_hasTaken_36 h2 dX4_hasTaken_1 ?_
  refine lv_iload_n S.1 S.2.1 dX4_hasTaken_4 rfl (lv_at hl 1 rfl) ?_
  refine lv_sipush (v := 151) S.1 S.2.1 dX4_hasTaken_5 (by decide) ?_
  refine lv_imul S.1 S.2.1 dX4_hasTaken_8 ?_
  refine lv_iload_n S.1 S.2.1 dX4_hasTaken_9 rfl (lv_at hl 2 rfl) ?_
  refine lv_iadd S.1 S.2.1 dX4_hasTaken_10 ?_
  obtain ⟨x3, h4, h⟩ := xb h
  refine xr_zald S w h4 dX4_hasTaken_11 ?_
  obtain ⟨x6, h5, h⟩ := xb h
  exact ret _ _ _ _ x3 x6 _ h5 (congrArg (fun z => some (z, g)) (Option.some.inj h)) w dX4_hasTaken_12
theorem xi_X4_noteTaken_X4 : ∀ w ∈ wsX40, w ∈ wsX4_noteTaken := by decide +kernel
theorem xl_X4_noteTaken_36 : Cond.fieldLink RX4 36 (TX4 5).1 (TX4 5).2.1 (TX4 5).2.2.1 ∈ wsX4_noteTaken := by decide +kernel
theorem xl_X4_noteTaken_52 : Cond.fieldLink RX4 52 (TX4 6).1 (TX4 6).2.1 (TX4 6).2.2.1 ∈ wsX4_noteTaken := by decide +kernel
def f_X4_noteTaken (g : xG) (a0 : Nat) (a1 : Int32) (a2 : Int32) : Option xG :=
  (xg_r g 5 a0 5).bind fun x1 =>
  (xs_i 3 g x1 ((a1 * 151) + a2) 1).bind fun g3 =>
  (xg_i g3 5 a0 6).bind fun x5 =>
  (xp_i g3 5 a0 6 (x5 + 1)).bind fun g7 =>
  some g7
set_option maxHeartbeats 4000000 in
set_option maxRecDepth 100000 in
theorem c_X4_noteTaken (l : Launch) (D : va_G) (cy : Nat → ClassId) (L : List Nat) (g : xG) (a0 : Nat) (a1 : Int32) (a2 : Int32) {g1 : xG} (h : f_X4_noteTaken g a0 a1 a2 = some g1) : xMv l yX4_noteTaken wsX4_noteTaken ({ frames := 0, cells := 0, slots := 0, locals := 0 }) D cy L g [.ref a0, .int a1, .int a2] g1 := by
  refine xm_v (cc := cX4_noteTaken) (maxL := 3) RX4 rfl rfl rfl (by decide +kernel) rfl (Nat.le_of_ble_eq_true rfl) ?_
  intro p e s m args below meth c Q A S w hA hN ret ls hl
  have hl : lv_has ls 3 [(0, .ref a0), (1, .int a1), (2, .int a2)] := hl
  rw [f_X4_noteTaken] at h
  refine lv_aload_n S.1 S.2.1 dX4_noteTaken_0 rfl (lv_at hl 0 rfl) ?_
  obtain ⟨x1, h2, h⟩ := xb h
  refine xr_getr S w 5 xi_X4_noteTaken_X4 rfl 5 (by decide) xl_X4_noteTaken_36 h2 dX4_noteTaken_1 ?_
  refine lv_iload_n S.1 S.2.1 dX4_noteTaken_4 rfl (lv_at hl 1 rfl) ?_
  refine lv_sipush (v := 151) S.1 S.2.1 dX4_noteTaken_5 (by decide) ?_
  refine lv_imul S.1 S.2.1 dX4_noteTaken_8 ?_
  refine lv_iload_n S.1 S.2.1 dX4_noteTaken_9 rfl (lv_at hl 2 rfl) ?_
  refine lv_iadd S.1 S.2.1 dX4_noteTaken_10 ?_
  refine lv_iconst (v := 1) S.1 S.2.1 dX4_noteTaken_11 (by decide) ?_
  obtain ⟨g3, h4, h⟩ := xb h
  refine xr_zast S w h4 dX4_noteTaken_12 (fun H locs w => ?_)
  refine lv_aload_n S.1 S.2.1 dX4_noteTaken_13 rfl (lv_at hl 0 rfl) ?_
  refine lv_dup S.1 S.2.1 dX4_noteTaken_14 rfl ?_
  obtain ⟨x5, h6, h⟩ := xb h
  refine xr_geti S w 5 xi_X4_noteTaken_X4 rfl 6 (by decide) xl_X4_noteTaken_52 h6 dX4_noteTaken_15 ?_
  refine lv_iconst (v := 1) S.1 S.2.1 dX4_noteTaken_18 (by decide) ?_
  refine lv_iadd S.1 S.2.1 dX4_noteTaken_19 ?_
  obtain ⟨g7, h8, h⟩ := xb h
  refine xr_puti S w 5 xi_X4_noteTaken_X4 rfl tyX4 tyX4_ok nmX4 6 (by decide) xl_X4_noteTaken_52 rfl (tyX4_ok 6 (by decide)) h8 dX4_noteTaken_20 (fun H locs w => ?_)
  exact ret _ _ _ _ _ h w dX4_noteTaken_23
theorem xi_X5_hasRoom_X5 : ∀ w ∈ wsX50, w ∈ wsX5_hasRoom := by decide +kernel
theorem xl_X5_hasRoom_22 : Cond.fieldLink RX5 22 (TX5 0).1 (TX5 0).2.1 (TX5 0).2.2.1 ∈ wsX5_hasRoom := by decide +kernel
def f_X5_hasRoom (g : xG) (a0 : Nat) : Option Int32 :=
  (xg_i g 6 a0 0).bind fun x1 =>
  if 200 ≤ x1 then
    some 0
  else
    some 1
set_option maxHeartbeats 4000000 in
set_option maxRecDepth 100000 in
theorem c_X5_hasRoom (l : Launch) (D : va_G) (cy : Nat → ClassId) (L : List Nat) (g : xG) (a0 : Nat) {r1 : Int32} (h : f_X5_hasRoom g a0 = some r1) : xMi l yX5_hasRoom wsX5_hasRoom ({ frames := 0, cells := 0, slots := 0, locals := 0 }) D cy L g [.ref a0] r1 g := by
  refine xm_z (cc := cX5_hasRoom) (maxL := 1) RX5 rfl rfl rfl (by decide +kernel) rfl (Nat.le_of_ble_eq_true rfl) ?_
  intro p e s m args below meth c Q A S w hA hN ret ls hl
  have hl : lv_has ls 1 [(0, .ref a0)] := hl
  rw [f_X5_hasRoom] at h
  refine lv_aload_n S.1 S.2.1 dX5_hasRoom_0 rfl (lv_at hl 0 rfl) ?_
  obtain ⟨x1, h2, h⟩ := xb h
  refine xr_geti S w 6 xi_X5_hasRoom_X5 rfl 0 (by decide) xl_X5_hasRoom_22 h2 dX5_hasRoom_1 ?_
  refine lv_sipush (v := 200) S.1 S.2.1 dX5_hasRoom_4 (by decide) ?_
  refine lv_icmp_ge (tgt := 14) S.1 S.2.1 dX5_hasRoom_7 (by decide) (fun c7 => ?_) (fun c7 => ?_)
  · rw [if_pos c7] at h
    refine lv_iconst (v := 0) S.1 S.2.1 dX5_hasRoom_14 (by decide) ?_
    exact ret _ _ _ _ 0 0 _ (by decide) (congrArg (fun z => some (z, g)) (Option.some.inj h)) w dX5_hasRoom_15
  · rw [if_neg c7] at h
    refine lv_iconst (v := 1) S.1 S.2.1 dX5_hasRoom_10 (by decide) ?_
    refine lv_goto (tgt := 15) S.1 S.2.1 dX5_hasRoom_11 (by decide) ?_
    exact ret _ _ _ _ 1 1 _ (by decide) (congrArg (fun z => some (z, g)) (Option.some.inj h)) w dX5_hasRoom_15
theorem xi_X5_addLast_X5 : ∀ w ∈ wsX50, w ∈ wsX5_addLast := by decide +kernel
theorem xl_X5_addLast_22 : Cond.fieldLink RX5 22 (TX5 0).1 (TX5 0).2.1 (TX5 0).2.2.1 ∈ wsX5_addLast := by decide +kernel
theorem xl_X5_addLast_11 : Cond.fieldLink RX5 11 (TX5 2).1 (TX5 2).2.1 (TX5 2).2.2.1 ∈ wsX5_addLast := by decide +kernel
def f_X5_addLast (g : xG) (a0 : Nat) : Option (Nat × xG) :=
  (xg_i g 6 a0 0).bind fun x1 =>
  (xp_i g 6 a0 0 (x1 + 1)).bind fun g3 =>
  (xg_r g3 6 a0 2).bind fun x5 =>
  (xg_i g3 6 a0 0).bind fun x7 =>
  (xa_r 4 g3 x5 (x7 - 1)).bind fun x9 =>
  some (x9, g3)
set_option maxHeartbeats 4000000 in
set_option maxRecDepth 100000 in
theorem c_X5_addLast (l : Launch) (D : va_G) (cy : Nat → ClassId) (L : List Nat) (g : xG) (a0 : Nat) {r1 : Nat} {g1 : xG} (h : f_X5_addLast g a0 = some (r1, g1)) : xMr l yX5_addLast wsX5_addLast ({ frames := 0, cells := 0, slots := 0, locals := 0 }) D cy L g [.ref a0] r1 g1 := by
  refine xm_r (cc := cX5_addLast) (maxL := 1) RX5 rfl rfl rfl (by decide +kernel) rfl (Nat.le_of_ble_eq_true rfl) ?_
  intro p e s m args below meth c Q A S w hA hN ret ls hl
  have hl : lv_has ls 1 [(0, .ref a0)] := hl
  rw [f_X5_addLast] at h
  refine lv_aload_n S.1 S.2.1 dX5_addLast_0 rfl (lv_at hl 0 rfl) ?_
  refine lv_dup S.1 S.2.1 dX5_addLast_1 rfl ?_
  obtain ⟨x1, h2, h⟩ := xb h
  refine xr_geti S w 6 xi_X5_addLast_X5 rfl 0 (by decide) xl_X5_addLast_22 h2 dX5_addLast_2 ?_
  refine lv_iconst (v := 1) S.1 S.2.1 dX5_addLast_5 (by decide) ?_
  refine lv_iadd S.1 S.2.1 dX5_addLast_6 ?_
  obtain ⟨g3, h4, h⟩ := xb h
  refine xr_puti S w 6 xi_X5_addLast_X5 rfl tyX5 tyX5_ok nmX5 0 (by decide) xl_X5_addLast_22 rfl (tyX5_ok 0 (by decide)) h4 dX5_addLast_7 (fun H locs w => ?_)
  refine lv_aload_n S.1 S.2.1 dX5_addLast_10 rfl (lv_at hl 0 rfl) ?_
  obtain ⟨x5, h6, h⟩ := xb h
  refine xr_getr S w 6 xi_X5_addLast_X5 rfl 2 (by decide) xl_X5_addLast_11 h6 dX5_addLast_11 ?_
  refine lv_aload_n S.1 S.2.1 dX5_addLast_14 rfl (lv_at hl 0 rfl) ?_
  obtain ⟨x7, h8, h⟩ := xb h
  refine xr_geti S w 6 xi_X5_addLast_X5 rfl 0 (by decide) xl_X5_addLast_22 h8 dX5_addLast_15 ?_
  refine lv_iconst (v := 1) S.1 S.2.1 dX5_addLast_18 (by decide) ?_
  refine lv_isub S.1 S.2.1 dX5_addLast_19 ?_
  obtain ⟨x9, h10, h⟩ := xb h
  refine xr_aald S w 4 "TellTale$Letter" (fun _ => rfl) h10 dX5_addLast_20 ?_
  exact ret _ _ _ _ _ _ h w dX5_addLast_21
theorem xi_X5_takeOut_X5 : ∀ w ∈ wsX50, w ∈ wsX5_takeOut := by decide +kernel
theorem xl_X5_takeOut_22 : Cond.fieldLink RX5 22 (TX5 0).1 (TX5 0).2.1 (TX5 0).2.2.1 ∈ wsX5_takeOut := by decide +kernel
theorem xl_X5_takeOut_11 : Cond.fieldLink RX5 11 (TX5 2).1 (TX5 2).2.1 (TX5 2).2.2.1 ∈ wsX5_takeOut := by decide +kernel
theorem xl_X5_takeOut_18 : Cond.fieldLink RX5 18 (TX5 3).1 (TX5 3).2.1 (TX5 3).2.2.1 ∈ wsX5_takeOut := by decide +kernel
def f_X5_takeOut_19 : Nat → xG → Nat → Nat → Int32 → Option (Nat × xG)
  | 0, _, _, _, _ => none
  | n9 + 1, g, v0, v2, v3 =>
  (xg_i g 6 v0 0).bind fun x1 =>
  if x1 ≤ v3 then
    (xg_r g 6 v0 2).bind fun x3 =>
    (xg_i g 6 v0 0).bind fun x5 =>
    (xg_r g 6 v0 3).bind fun x7 =>
    (xs_r 4 2 g x3 x5 x7).bind fun g9 =>
    (xp_r g9 6 v0 3 v2).bind fun g11 =>
    some (v2, g11)
  else
    (xg_r g 6 v0 2).bind fun x13 =>
    (xg_r g 6 v0 2).bind fun x15 =>
    (xa_r 4 g x15 (v3 + 1)).bind fun x17 =>
    (xs_r 4 2 g x13 v3 x17).bind fun g19 =>
    f_X5_takeOut_19 n9 g19 v0 v2 (v3 + 1)
def f_X5_takeOut (g : xG) (a0 : Nat) (a1 : Int32) : Option (Nat × xG) :=
  (xg_r g 6 a0 2).bind fun x21 =>
  (xa_r 4 g x21 a1).bind fun x23 =>
  (xg_i g 6 a0 0).bind fun x25 =>
  (xp_i g 6 a0 0 (x25 - 1)).bind fun g27 =>
  f_X5_takeOut_19 xFU g27 a0 x23 a1
set_option maxHeartbeats 4000000 in
set_option maxRecDepth 100000 in
theorem c_X5_takeOut (l : Launch) (D : va_G) (cy : Nat → ClassId) (L : List Nat) (g : xG) (a0 : Nat) (a1 : Int32) {r1 : Nat} {g1 : xG} (h : f_X5_takeOut g a0 a1 = some (r1, g1)) : xMr l yX5_takeOut wsX5_takeOut ({ frames := 0, cells := 0, slots := 0, locals := 0 }) D cy L g [.ref a0, .int a1] r1 g1 := by
  refine xm_r (cc := cX5_takeOut) (maxL := 4) RX5 rfl rfl rfl (by decide +kernel) rfl (Nat.le_of_ble_eq_true rfl) ?_
  intro p e s m args below meth c Q A S w hA hN ret ls hl
  have hl : lv_has ls 4 [(0, .ref a0), (1, .int a1)] := hl
  obtain ⟨rr, hrr⟩ : ∃ z, z = (r1, g1) := ⟨_, rfl⟩
  rw [← hrr] at h
  have hb19 : ∀ (n9 : Nat), ∀ (g : xG) (v0 : Nat) (v2 : Nat) (v3 : Int32) , f_X5_takeOut_19 n9 g v0 v2 v3 = some rr → ∀ (H : Heap) (locs : List Loc) (ls : Array Slot), xOK D cy A s.heap s L g H locs → lv_has ls 4 [(0, .ref v0), (2, .ref v2), (3, .int v3)] → W p l e { frames := 0, cells := 0, slots := 0, locals := 0 } s m args below meth c H locs 0 0 Q (F0 m 19 ls []) := by
    intro n9
    induction n9 with
    | zero => intro g v0 v2 v3 h; cases h
    | succ n9 ih =>
      intro g v0 v2 v3 h H locs ls w hl
      rw [f_X5_takeOut_19] at h
      refine lv_iload_n S.1 S.2.1 dX5_takeOut_19 rfl (lv_at hl 2 rfl) ?_
      refine lv_aload_n S.1 S.2.1 dX5_takeOut_20 rfl (lv_at hl 0 rfl) ?_
      obtain ⟨x1, h2, h⟩ := xb h
      refine xr_geti S w 6 xi_X5_takeOut_X5 rfl 0 (by decide) xl_X5_takeOut_22 h2 dX5_takeOut_21 ?_
      refine lv_icmp_ge (tgt := 47) S.1 S.2.1 dX5_takeOut_24 (by decide) (fun c24 => ?_) (fun c24 => ?_)
      · rw [if_pos c24] at h
        refine lv_aload_n S.1 S.2.1 dX5_takeOut_47 rfl (lv_at hl 0 rfl) ?_
        obtain ⟨x3, h4, h⟩ := xb h
        refine xr_getr S w 6 xi_X5_takeOut_X5 rfl 2 (by decide) xl_X5_takeOut_11 h4 dX5_takeOut_48 ?_
        refine lv_aload_n S.1 S.2.1 dX5_takeOut_51 rfl (lv_at hl 0 rfl) ?_
        obtain ⟨x5, h6, h⟩ := xb h
        refine xr_geti S w 6 xi_X5_takeOut_X5 rfl 0 (by decide) xl_X5_takeOut_22 h6 dX5_takeOut_52 ?_
        refine lv_aload_n S.1 S.2.1 dX5_takeOut_55 rfl (lv_at hl 0 rfl) ?_
        obtain ⟨x7, h8, h⟩ := xb h
        refine xr_getr S w 6 xi_X5_takeOut_X5 rfl 3 (by decide) xl_X5_takeOut_18 h8 dX5_takeOut_56 ?_
        obtain ⟨g9, h10, h⟩ := xb h
        refine xr_aast S w 4 2 (r := (RX1, TX1, 7)) (fun _ => rfl) rfl h10 dX5_takeOut_59 (fun H locs w => ?_)
        refine lv_aload_n S.1 S.2.1 dX5_takeOut_60 rfl (lv_at hl 0 rfl) ?_
        refine lv_aload_n S.1 S.2.1 dX5_takeOut_61 rfl (lv_at hl 1 rfl) ?_
        obtain ⟨g11, h12, h⟩ := xb h
        refine xr_putr S w 6 xi_X5_takeOut_X5 rfl tyX5 tyX5_ok nmX5 3 (by decide) xl_X5_takeOut_18 rfl "TellTale$Letter" (tyX5_ok 3 (by decide)) h12 dX5_takeOut_62 (fun H locs w => ?_)
        refine lv_aload_n S.1 S.2.1 dX5_takeOut_65 rfl (lv_at hl 1 rfl) ?_
        exact ret _ _ _ _ _ _ (h.trans (congrArg some hrr)) w dX5_takeOut_66
      · rw [if_neg c24] at h
        refine lv_aload_n S.1 S.2.1 dX5_takeOut_27 rfl (lv_at hl 0 rfl) ?_
        obtain ⟨x13, h14, h⟩ := xb h
        refine xr_getr S w 6 xi_X5_takeOut_X5 rfl 2 (by decide) xl_X5_takeOut_11 h14 dX5_takeOut_28 ?_
        refine lv_iload_n S.1 S.2.1 dX5_takeOut_31 rfl (lv_at hl 2 rfl) ?_
        refine lv_aload_n S.1 S.2.1 dX5_takeOut_32 rfl (lv_at hl 0 rfl) ?_
        obtain ⟨x15, h16, h⟩ := xb h
        refine xr_getr S w 6 xi_X5_takeOut_X5 rfl 2 (by decide) xl_X5_takeOut_11 h16 dX5_takeOut_33 ?_
        refine lv_iload_n S.1 S.2.1 dX5_takeOut_36 rfl (lv_at hl 2 rfl) ?_
        refine lv_iconst (v := 1) S.1 S.2.1 dX5_takeOut_37 (by decide) ?_
        refine lv_iadd S.1 S.2.1 dX5_takeOut_38 ?_
        obtain ⟨x17, h18, h⟩ := xb h
        refine xr_aald S w 4 "TellTale$Letter" (fun _ => rfl) h18 dX5_takeOut_39 ?_
        obtain ⟨g19, h20, h⟩ := xb h
        refine xr_aast S w 4 2 (r := (RX1, TX1, 7)) (fun _ => rfl) rfl h20 dX5_takeOut_40 (fun H locs w => ?_)
        refine lv_iinc (v := (v3 + 1)) (lv' := [(3, .int (v3 + 1)), (0, .ref v0), (2, .ref v2)]) S.1 S.2.1 dX5_takeOut_41 hl (k := 2) rfl rfl (by decide) rfl (fun ls hl => ?_)
        refine lv_goto (tgt := 19) S.1 S.2.1 dX5_takeOut_44 (by decide) ?_
        exact ih g19 v0 v2 (v3 + 1) h _ _ _ w (lv_sub hl [1, 2, 0] rfl)
  rw [f_X5_takeOut] at h
  refine lv_aload_n S.1 S.2.1 dX5_takeOut_0 rfl (lv_at hl 0 rfl) ?_
  obtain ⟨x21, h22, h⟩ := xb h
  refine xr_getr S w 6 xi_X5_takeOut_X5 rfl 2 (by decide) xl_X5_takeOut_11 h22 dX5_takeOut_1 ?_
  refine lv_iload_n S.1 S.2.1 dX5_takeOut_4 rfl (lv_at hl 1 rfl) ?_
  obtain ⟨x23, h24, h⟩ := xb h
  refine xr_aald S w 4 "TellTale$Letter" (fun _ => rfl) h24 dX5_takeOut_5 ?_
  refine lv_astore_n (lv' := [(2, .ref x23), (0, .ref a0), (1, .int a1)]) S.1 S.2.1 dX5_takeOut_6 rfl hl (by decide) rfl (fun ls hl => ?_)
  refine lv_aload_n S.1 S.2.1 dX5_takeOut_7 rfl (lv_at hl 1 rfl) ?_
  refine lv_dup S.1 S.2.1 dX5_takeOut_8 rfl ?_
  obtain ⟨x25, h26, h⟩ := xb h
  refine xr_geti S w 6 xi_X5_takeOut_X5 rfl 0 (by decide) xl_X5_takeOut_22 h26 dX5_takeOut_9 ?_
  refine lv_iconst (v := 1) S.1 S.2.1 dX5_takeOut_12 (by decide) ?_
  refine lv_isub S.1 S.2.1 dX5_takeOut_13 ?_
  obtain ⟨g27, h28, h⟩ := xb h
  refine xr_puti S w 6 xi_X5_takeOut_X5 rfl tyX5 tyX5_ok nmX5 0 (by decide) xl_X5_takeOut_22 rfl (tyX5_ok 0 (by decide)) h28 dX5_takeOut_14 (fun H locs w => ?_)
  refine lv_iload_n S.1 S.2.1 dX5_takeOut_17 rfl (lv_at hl 2 rfl) ?_
  refine lv_istore_n (lv' := [(3, .int a1), (2, .ref x23), (0, .ref a0), (1, .int a1)]) S.1 S.2.1 dX5_takeOut_18 rfl hl (by decide) rfl (fun ls hl => ?_)
  exact hb19 xFU g27 a0 x23 a1 h _ _ _ w (lv_sub hl [2, 1, 0] rfl)
theorem xi_X5_repeat_X5 : ∀ w ∈ wsX50, w ∈ wsX5_repeat := by decide +kernel
theorem xl_X5_repeat_11 : Cond.fieldLink RX5 11 (TX5 2).1 (TX5 2).2.1 (TX5 2).2.2.1 ∈ wsX5_repeat := by decide +kernel
def f_X5_repeat (g : xG) (a0 : Nat) (a1 : Int32) : Option (Int32 × xG) :=
  (xk g 6 a0).bind fun _ =>
  (f_X5_hasRoom g a0).bind fun x3 =>
  if x3 = 0 then
    (xz x3).bind fun x5 =>
    some (x5, g)
  else
    (xk g 6 a0).bind fun _ =>
    x2 (f_X5_addLast g a0) fun x8 g9 =>
    (xg_r g9 6 a0 2).bind fun x10 =>
    (xa_r 4 g9 x10 a1).bind fun x12 =>
    (xk g9 2 x8).bind fun _ =>
    (f_X1_becomeLike g9 x8 x12).bind fun g16 =>
    (xz x3).bind fun x18 =>
    some (x18, g16)
set_option maxHeartbeats 4000000 in
set_option maxRecDepth 100000 in
theorem c_X5_repeat (l : Launch) (D : va_G) (cy : Nat → ClassId) (L : List Nat) (g : xG) (a0 : Nat) (a1 : Int32) {r1 : Int32} {g1 : xG} (h : f_X5_repeat g a0 a1 = some (r1, g1)) : xMi l yX5_repeat wsX5_repeat ({ frames := 2, cells := 0, slots := 0, locals := 46 }) D cy L g [.ref a0, .int a1] r1 g1 := by
  refine xm_z (cc := cX5_repeat) (maxL := 3) RX5 rfl rfl rfl (by decide +kernel) rfl (Nat.le_of_ble_eq_true rfl) ?_
  intro p e s m args below meth c Q A S w hA hN ret ls hl
  have hl : lv_has ls 3 [(0, .ref a0), (1, .int a1)] := hl
  rw [f_X5_repeat] at h
  refine lv_aload_n S.1 S.2.1 dX5_repeat_0 rfl (lv_at hl 0 rfl) ?_
  obtain ⟨_, h1, h⟩ := xb h
  obtain ⟨x3, h2, h⟩ := xb h
  refine xr_callV_i S w hA hN 6 rfl h1 (c_X5_hasRoom l D cy L g a0 h2) (cwV 0 S.2.2.2.2 gX5_repeat_X5_hasRoom rfl rfl rfl (by decide +kernel) ⟨Nat.le_of_ble_eq_true rfl, Nat.le_of_ble_eq_true rfl⟩) rfl rfl hl.1 (Nat.le_of_ble_eq_true rfl) dX5_repeat_1 ⟨Nat.le_of_ble_eq_true rfl, Nat.le_of_ble_eq_true rfl⟩ (fun H locs w => ?_)
  refine lv_istore_n (lv' := [(2, .int x3), (0, .ref a0), (1, .int a1)]) S.1 S.2.1 dX5_repeat_4 rfl hl (by decide) rfl (fun ls hl => ?_)
  refine lv_iload_n S.1 S.2.1 dX5_repeat_5 rfl (lv_at hl 0 rfl) ?_
  refine lv_if_eq (tgt := 22) S.1 S.2.1 dX5_repeat_6 (by decide) (fun c6 => ?_) (fun c6 => ?_)
  · rw [if_pos c6] at h
    refine lv_iload_n S.1 S.2.1 dX5_repeat_22 rfl (lv_at hl 0 rfl) ?_
    obtain ⟨x5, h4, h⟩ := xb h
    exact ret _ _ _ _ x3 x5 _ h4 h w dX5_repeat_23
  · rw [if_neg c6] at h
    refine lv_aload_n S.1 S.2.1 dX5_repeat_9 rfl (lv_at hl 1 rfl) ?_
    obtain ⟨_, h6, h⟩ := xb h
    obtain ⟨x8, g9, h7, h⟩ := x2b h
    refine xr_callV_r S w hA hN 6 rfl h6 (c_X5_addLast l D cy L g a0 h7) (cwV 0 S.2.2.2.2 gX5_repeat_X5_addLast rfl rfl rfl (by decide +kernel) ⟨Nat.le_of_ble_eq_true rfl, Nat.le_of_ble_eq_true rfl⟩) rfl rfl hl.1 (Nat.le_of_ble_eq_true rfl) dX5_repeat_10 ⟨Nat.le_of_ble_eq_true rfl, Nat.le_of_ble_eq_true rfl⟩ (fun H locs w => ?_)
    refine lv_aload_n S.1 S.2.1 dX5_repeat_13 rfl (lv_at hl 1 rfl) ?_
    obtain ⟨x10, h11, h⟩ := xb h
    refine xr_getr S w 6 xi_X5_repeat_X5 rfl 2 (by decide) xl_X5_repeat_11 h11 dX5_repeat_14 ?_
    refine lv_iload_n S.1 S.2.1 dX5_repeat_17 rfl (lv_at hl 2 rfl) ?_
    obtain ⟨x12, h13, h⟩ := xb h
    refine xr_aald S w 4 "TellTale$Letter" (fun _ => rfl) h13 dX5_repeat_18 ?_
    obtain ⟨_, h14, h⟩ := xb h
    obtain ⟨g16, h15, h⟩ := xb h
    refine xr_callV_v S w hA hN 2 rfl h14 (c_X1_becomeLike l D cy L g9 x8 x12 h15) (cwV 1 S.2.2.2.2 gX5_repeat_X1_becomeLike rfl rfl rfl (by decide +kernel) ⟨Nat.le_of_ble_eq_true rfl, Nat.le_of_ble_eq_true rfl⟩) rfl rfl hl.1 (Nat.le_of_ble_eq_true rfl) dX5_repeat_19 ⟨Nat.le_of_ble_eq_true rfl, Nat.le_of_ble_eq_true rfl⟩ (fun H locs w => ?_)
    refine lv_iload_n S.1 S.2.1 dX5_repeat_22 rfl (lv_at hl 0 rfl) ?_
    obtain ⟨x18, h17, h⟩ := xb h
    exact ret _ _ _ _ x3 x18 _ h17 h w dX5_repeat_23
theorem xi_X6_keeps_X6 : ∀ w ∈ wsX60, w ∈ wsX6_keeps := by decide +kernel
theorem xl_X6_keeps_26 : Cond.fieldLink RX6 26 (TX6 0).1 (TX6 0).2.1 (TX6 0).2.2.1 ∈ wsX6_keeps := by decide +kernel
theorem xl_X6_keeps_9 : Cond.fieldLink RX6 9 (TX6 1).1 (TX6 1).2.1 (TX6 1).2.2.1 ∈ wsX6_keeps := by decide +kernel
theorem xl_X6_keeps_15 : Cond.fieldLink RX6 15 (TX6 2).1 (TX6 2).2.1 (TX6 2).2.2.1 ∈ wsX6_keeps := by decide +kernel
theorem xl_X6_keeps_18 : Cond.fieldLink RX6 18 (TX6 3).1 (TX6 3).2.1 (TX6 3).2.2.1 ∈ wsX6_keeps := by decide +kernel
def f_X6_keeps_3 : Nat → xG → Nat → Int32 → Int32 → Int64 → Int32 → Option Int32
  | 0, _, _, _, _, _, _ => none
  | n9 + 1, g, v0, v1, v2, v3, v5 =>
  (xg_i g 7 v0 0).bind fun x1 =>
  if x1 ≤ v5 then
    some 0
  else
    (xg_r g 7 v0 1).bind fun x3 =>
    (xa_i 1 g x3 v5).bind fun x5 =>
    if x5 = v1 then
      (xg_r g 7 v0 2).bind fun x7 =>
      (xa_i 1 g x7 v5).bind fun x9 =>
      if x9 = v2 then
        (xg_r g 7 v0 3).bind fun x11 =>
        (xa_l g x11 v5).bind fun x13 =>
        if x13 = v3 then
          some 1
        else
          f_X6_keeps_3 n9 g v0 v1 v2 v3 (v5 + 1)
      else
        f_X6_keeps_3 n9 g v0 v1 v2 v3 (v5 + 1)
    else
      f_X6_keeps_3 n9 g v0 v1 v2 v3 (v5 + 1)
def f_X6_keeps (g : xG) (a0 : Nat) (a1 : Int32) (a2 : Int32) (a3 : Int64) : Option Int32 :=
  f_X6_keeps_3 xFU g a0 a1 a2 a3 0
set_option maxHeartbeats 4000000 in
set_option maxRecDepth 100000 in
theorem c_X6_keeps (l : Launch) (D : va_G) (cy : Nat → ClassId) (L : List Nat) (g : xG) (a0 : Nat) (a1 : Int32) (a2 : Int32) (a3 : Int64) {r1 : Int32} (h : f_X6_keeps g a0 a1 a2 a3 = some r1) : xMi l yX6_keeps wsX6_keeps ({ frames := 0, cells := 0, slots := 0, locals := 0 }) D cy L g [.ref a0, .int a1, .int a2, .long a3] r1 g := by
  refine xm_z (cc := cX6_keeps) (maxL := 6) RX6 rfl rfl rfl (by decide +kernel) rfl (Nat.le_of_ble_eq_true rfl) ?_
  intro p e s m args below meth c Q A S w hA hN ret ls hl
  have hl : lv_has ls 6 [(0, .ref a0), (1, .int a1), (2, .int a2), (3, .long a3)] := hl
  obtain ⟨rr, hrr⟩ : ∃ z, z = r1 := ⟨_, rfl⟩
  rw [← hrr] at h
  have hb3 : ∀ (n9 : Nat), ∀ (v0 : Nat) (v1 : Int32) (v2 : Int32) (v3 : Int64) (v5 : Int32) , f_X6_keeps_3 n9 g v0 v1 v2 v3 v5 = some rr → ∀ (H : Heap) (locs : List Loc) (ls : Array Slot), xOK D cy A s.heap s L g H locs → lv_has ls 6 [(0, .ref v0), (1, .int v1), (2, .int v2), (3, .long v3), (5, .int v5)] → W p l e { frames := 0, cells := 0, slots := 0, locals := 0 } s m args below meth c H locs 0 0 Q (F0 m 3 ls []) := by
    intro n9
    induction n9 with
    | zero => intro v0 v1 v2 v3 v5 h; cases h
    | succ n9 ih =>
      intro v0 v1 v2 v3 v5 h H locs ls w hl
      rw [f_X6_keeps_3] at h
      refine lv_iload S.1 S.2.1 dX6_keeps_3 (lv_at hl 4 rfl) ?_
      refine lv_aload_n S.1 S.2.1 dX6_keeps_5 rfl (lv_at hl 0 rfl) ?_
      obtain ⟨x1, h2, h⟩ := xb h
      refine xr_geti S w 7 xi_X6_keeps_X6 rfl 0 (by decide) xl_X6_keeps_26 h2 dX6_keeps_6 ?_
      refine lv_icmp_ge (tgt := 54) S.1 S.2.1 dX6_keeps_9 (by decide) (fun c9 => ?_) (fun c9 => ?_)
      · rw [if_pos c9] at h
        refine lv_iconst (v := 0) S.1 S.2.1 dX6_keeps_54 (by decide) ?_
        exact ret _ _ _ _ 0 0 _ (by decide) (congrArg (fun z => some (z, g)) ((Option.some.inj h).trans hrr)) w dX6_keeps_55
      · rw [if_neg c9] at h
        refine lv_aload_n S.1 S.2.1 dX6_keeps_12 rfl (lv_at hl 0 rfl) ?_
        obtain ⟨x3, h4, h⟩ := xb h
        refine xr_getr S w 7 xi_X6_keeps_X6 rfl 1 (by decide) xl_X6_keeps_9 h4 dX6_keeps_13 ?_
        refine lv_iload S.1 S.2.1 dX6_keeps_16 (lv_at hl 4 rfl) ?_
        obtain ⟨x5, h6, h⟩ := xb h
        refine xr_iald S w h6 dX6_keeps_18 ?_
        refine lv_iload_n S.1 S.2.1 dX6_keeps_19 rfl (lv_at hl 1 rfl) ?_
        refine lv_icmp_ne (tgt := 48) S.1 S.2.1 dX6_keeps_20 (by decide) (fun c20 => ?_) (fun c20 => ?_)
        · rw [if_neg c20] at h
          refine lv_iinc (v := (v5 + 1)) (lv' := [(5, .int (v5 + 1)), (0, .ref v0), (1, .int v1), (2, .int v2), (3, .long v3)]) S.1 S.2.1 dX6_keeps_48 hl (k := 4) rfl rfl (by decide) rfl (fun ls hl => ?_)
          refine lv_goto (tgt := 3) S.1 S.2.1 dX6_keeps_51 (by decide) ?_
          exact ih v0 v1 v2 v3 (v5 + 1) h _ _ _ w (lv_sub hl [1, 2, 3, 4, 0] rfl)
        · rw [if_pos c20] at h
          refine lv_aload_n S.1 S.2.1 dX6_keeps_23 rfl (lv_at hl 0 rfl) ?_
          obtain ⟨x7, h8, h⟩ := xb h
          refine xr_getr S w 7 xi_X6_keeps_X6 rfl 2 (by decide) xl_X6_keeps_15 h8 dX6_keeps_24 ?_
          refine lv_iload S.1 S.2.1 dX6_keeps_27 (lv_at hl 4 rfl) ?_
          obtain ⟨x9, h10, h⟩ := xb h
          refine xr_iald S w h10 dX6_keeps_29 ?_
          refine lv_iload_n S.1 S.2.1 dX6_keeps_30 rfl (lv_at hl 2 rfl) ?_
          refine lv_icmp_ne (tgt := 48) S.1 S.2.1 dX6_keeps_31 (by decide) (fun c31 => ?_) (fun c31 => ?_)
          · rw [if_neg c31] at h
            refine lv_iinc (v := (v5 + 1)) (lv' := [(5, .int (v5 + 1)), (0, .ref v0), (1, .int v1), (2, .int v2), (3, .long v3)]) S.1 S.2.1 dX6_keeps_48 hl (k := 4) rfl rfl (by decide) rfl (fun ls hl => ?_)
            refine lv_goto (tgt := 3) S.1 S.2.1 dX6_keeps_51 (by decide) ?_
            exact ih v0 v1 v2 v3 (v5 + 1) h _ _ _ w (lv_sub hl [1, 2, 3, 4, 0] rfl)
          · rw [if_pos c31] at h
            refine lv_aload_n S.1 S.2.1 dX6_keeps_34 rfl (lv_at hl 0 rfl) ?_
            obtain ⟨x11, h12, h⟩ := xb h
            refine xr_getr S w 7 xi_X6_keeps_X6 rfl 3 (by decide) xl_X6_keeps_18 h12 dX6_keeps_35 ?_
            refine lv_iload S.1 S.2.1 dX6_keeps_38 (lv_at hl 4 rfl) ?_
            obtain ⟨x13, h14, h⟩ := xb h
            refine xr_lald S w h14 dX6_keeps_40 ?_
            refine lv_lload_n S.1 S.2.1 dX6_keeps_41 rfl (lv_at hl 3 rfl) ?_
            refine xr_lcne (tgt := 48) S dX6_keeps_42 dX6_keeps_43 (by decide) (fun c42 => ?_) (fun c42 => ?_)
            · rw [if_neg c42] at h
              refine lv_iinc (v := (v5 + 1)) (lv' := [(5, .int (v5 + 1)), (0, .ref v0), (1, .int v1), (2, .int v2), (3, .long v3)]) S.1 S.2.1 dX6_keeps_48 hl (k := 4) rfl rfl (by decide) rfl (fun ls hl => ?_)
              refine lv_goto (tgt := 3) S.1 S.2.1 dX6_keeps_51 (by decide) ?_
              exact ih v0 v1 v2 v3 (v5 + 1) h _ _ _ w (lv_sub hl [1, 2, 3, 4, 0] rfl)
            · rw [if_pos c42] at h
              refine lv_iconst (v := 1) S.1 S.2.1 dX6_keeps_46 (by decide) ?_
              exact ret _ _ _ _ 1 1 _ (by decide) (congrArg (fun z => some (z, g)) ((Option.some.inj h).trans hrr)) w dX6_keeps_47
  rw [f_X6_keeps] at h
  refine lv_iconst (v := 0) S.1 S.2.1 dX6_keeps_0 (by decide) ?_
  refine lv_istore (lv' := [(5, .int 0), (0, .ref a0), (1, .int a1), (2, .int a2), (3, .long a3)]) S.1 S.2.1 dX6_keeps_1 hl (by decide) rfl (fun ls hl => ?_)
  exact hb3 xFU a0 a1 a2 a3 0 h _ _ _ w (lv_sub hl [1, 2, 3, 4, 0] rfl)
theorem xi_X6_keep_X6 : ∀ w ∈ wsX60, w ∈ wsX6_keep := by decide +kernel
theorem xl_X6_keep_26 : Cond.fieldLink RX6 26 (TX6 0).1 (TX6 0).2.1 (TX6 0).2.2.1 ∈ wsX6_keep := by decide +kernel
theorem xl_X6_keep_9 : Cond.fieldLink RX6 9 (TX6 1).1 (TX6 1).2.1 (TX6 1).2.2.1 ∈ wsX6_keep := by decide +kernel
theorem xl_X6_keep_15 : Cond.fieldLink RX6 15 (TX6 2).1 (TX6 2).2.1 (TX6 2).2.2.1 ∈ wsX6_keep := by decide +kernel
theorem xl_X6_keep_18 : Cond.fieldLink RX6 18 (TX6 3).1 (TX6 3).2.1 (TX6 3).2.2.1 ∈ wsX6_keep := by decide +kernel
theorem xl_X6_keep_22 : Cond.fieldLink RX6 22 (TX6 4).1 (TX6 4).2.1 (TX6 4).2.2.1 ∈ wsX6_keep := by decide +kernel
def f_X6_keep (g : xG) (a0 : Nat) (a1 : Int32) (a2 : Int32) (a3 : Int64) (a4 : Int32) : Option (Int32 × xG) :=
  (xg_i g 7 a0 0).bind fun x1 =>
  if 300 ≤ x1 then
    some (0, g)
  else
    (xk g 7 a0).bind fun _ =>
    (f_X6_keeps g a0 a1 a2 a3).bind fun x5 =>
    if x5 = 0 then
      (xg_r g 7 a0 1).bind fun x6 =>
      (xg_i g 7 a0 0).bind fun x8 =>
      (xs_i 1 g x6 x8 a1).bind fun g10 =>
      (xg_r g10 7 a0 2).bind fun x12 =>
      (xg_i g10 7 a0 0).bind fun x14 =>
      (xs_i 1 g10 x12 x14 a2).bind fun g16 =>
      (xg_r g16 7 a0 3).bind fun x18 =>
      (xg_i g16 7 a0 0).bind fun x20 =>
      (xs_l g16 x18 x20 a3).bind fun g22 =>
      (xg_r g22 7 a0 4).bind fun x24 =>
      (xg_i g22 7 a0 0).bind fun x26 =>
      (xs_i 3 g22 x24 x26 a4).bind fun g28 =>
      (xg_i g28 7 a0 0).bind fun x30 =>
      (xp_i g28 7 a0 0 (x30 + 1)).bind fun g32 =>
      some (1, g32)
    else
      some (0, g)
set_option maxHeartbeats 4000000 in
set_option maxRecDepth 100000 in
theorem c_X6_keep (l : Launch) (D : va_G) (cy : Nat → ClassId) (L : List Nat) (g : xG) (a0 : Nat) (a1 : Int32) (a2 : Int32) (a3 : Int64) (a4 : Int32) {r1 : Int32} {g1 : xG} (h : f_X6_keep g a0 a1 a2 a3 a4 = some (r1, g1)) : xMi l yX6_keep wsX6_keep ({ frames := 1, cells := 0, slots := 0, locals := 25 }) D cy L g [.ref a0, .int a1, .int a2, .long a3, .int a4] r1 g1 := by
  refine xm_z (cc := cX6_keep) (maxL := 6) RX6 rfl rfl rfl (by decide +kernel) rfl (Nat.le_of_ble_eq_true rfl) ?_
  intro p e s m args below meth c Q A S w hA hN ret ls hl
  have hl : lv_has ls 6 [(0, .ref a0), (1, .int a1), (2, .int a2), (3, .long a3), (5, .int a4)] := hl
  rw [f_X6_keep] at h
  refine lv_aload_n S.1 S.2.1 dX6_keep_0 rfl (lv_at hl 0 rfl) ?_
  obtain ⟨x1, h2, h⟩ := xb h
  refine xr_geti S w 7 xi_X6_keep_X6 rfl 0 (by decide) xl_X6_keep_26 h2 dX6_keep_1 ?_
  refine lv_sipush (v := 300) S.1 S.2.1 dX6_keep_4 (by decide) ?_
  refine lv_icmp_ge (tgt := 20) S.1 S.2.1 dX6_keep_7 (by decide) (fun c7 => ?_) (fun c7 => ?_)
  · rw [if_pos c7] at h
    refine lv_iconst (v := 0) S.1 S.2.1 dX6_keep_20 (by decide) ?_
    exact ret _ _ _ _ 0 0 _ (by decide) h w dX6_keep_21
  · rw [if_neg c7] at h
    refine lv_aload_n S.1 S.2.1 dX6_keep_10 rfl (lv_at hl 0 rfl) ?_
    refine lv_iload_n S.1 S.2.1 dX6_keep_11 rfl (lv_at hl 1 rfl) ?_
    refine lv_iload_n S.1 S.2.1 dX6_keep_12 rfl (lv_at hl 2 rfl) ?_
    refine lv_lload_n S.1 S.2.1 dX6_keep_13 rfl (lv_at hl 3 rfl) ?_
    obtain ⟨_, h3, h⟩ := xb h
    obtain ⟨x5, h4, h⟩ := xb h
    refine xr_callV_i S w hA hN 7 rfl h3 (c_X6_keeps l D cy L g a0 a1 a2 a3 h4) (cwV 3 S.2.2.2.2 gX6_keep_X6_keeps rfl rfl rfl (by decide +kernel) ⟨Nat.le_of_ble_eq_true rfl, Nat.le_of_ble_eq_true rfl⟩) rfl rfl hl.1 (Nat.le_of_ble_eq_true rfl) dX6_keep_14 ⟨Nat.le_of_ble_eq_true rfl, Nat.le_of_ble_eq_true rfl⟩ (fun H locs w => ?_)
    refine lv_if_eq (tgt := 22) S.1 S.2.1 dX6_keep_17 (by decide) (fun c17 => ?_) (fun c17 => ?_)
    · rw [if_pos c17] at h
      refine lv_aload_n S.1 S.2.1 dX6_keep_22 rfl (lv_at hl 0 rfl) ?_
      obtain ⟨x6, h7, h⟩ := xb h
      refine xr_getr S w 7 xi_X6_keep_X6 rfl 1 (by decide) xl_X6_keep_9 h7 dX6_keep_23 ?_
      refine lv_aload_n S.1 S.2.1 dX6_keep_26 rfl (lv_at hl 0 rfl) ?_
      obtain ⟨x8, h9, h⟩ := xb h
      refine xr_geti S w 7 xi_X6_keep_X6 rfl 0 (by decide) xl_X6_keep_26 h9 dX6_keep_27 ?_
      refine lv_iload_n S.1 S.2.1 dX6_keep_30 rfl (lv_at hl 1 rfl) ?_
      obtain ⟨g10, h11, h⟩ := xb h
      refine xr_iast S w h11 dX6_keep_31 (fun H locs w => ?_)
      refine lv_aload_n S.1 S.2.1 dX6_keep_32 rfl (lv_at hl 0 rfl) ?_
      obtain ⟨x12, h13, h⟩ := xb h
      refine xr_getr S w 7 xi_X6_keep_X6 rfl 2 (by decide) xl_X6_keep_15 h13 dX6_keep_33 ?_
      refine lv_aload_n S.1 S.2.1 dX6_keep_36 rfl (lv_at hl 0 rfl) ?_
      obtain ⟨x14, h15, h⟩ := xb h
      refine xr_geti S w 7 xi_X6_keep_X6 rfl 0 (by decide) xl_X6_keep_26 h15 dX6_keep_37 ?_
      refine lv_iload_n S.1 S.2.1 dX6_keep_40 rfl (lv_at hl 2 rfl) ?_
      obtain ⟨g16, h17, h⟩ := xb h
      refine xr_iast S w h17 dX6_keep_41 (fun H locs w => ?_)
      refine lv_aload_n S.1 S.2.1 dX6_keep_42 rfl (lv_at hl 0 rfl) ?_
      obtain ⟨x18, h19, h⟩ := xb h
      refine xr_getr S w 7 xi_X6_keep_X6 rfl 3 (by decide) xl_X6_keep_18 h19 dX6_keep_43 ?_
      refine lv_aload_n S.1 S.2.1 dX6_keep_46 rfl (lv_at hl 0 rfl) ?_
      obtain ⟨x20, h21, h⟩ := xb h
      refine xr_geti S w 7 xi_X6_keep_X6 rfl 0 (by decide) xl_X6_keep_26 h21 dX6_keep_47 ?_
      refine lv_lload_n S.1 S.2.1 dX6_keep_50 rfl (lv_at hl 3 rfl) ?_
      obtain ⟨g22, h23, h⟩ := xb h
      refine xr_last S w h23 dX6_keep_51 (fun H locs w => ?_)
      refine lv_aload_n S.1 S.2.1 dX6_keep_52 rfl (lv_at hl 0 rfl) ?_
      obtain ⟨x24, h25, h⟩ := xb h
      refine xr_getr S w 7 xi_X6_keep_X6 rfl 4 (by decide) xl_X6_keep_22 h25 dX6_keep_53 ?_
      refine lv_aload_n S.1 S.2.1 dX6_keep_56 rfl (lv_at hl 0 rfl) ?_
      obtain ⟨x26, h27, h⟩ := xb h
      refine xr_geti S w 7 xi_X6_keep_X6 rfl 0 (by decide) xl_X6_keep_26 h27 dX6_keep_57 ?_
      refine lv_iload S.1 S.2.1 dX6_keep_60 (lv_at hl 4 rfl) ?_
      obtain ⟨g28, h29, h⟩ := xb h
      refine xr_zast S w h29 dX6_keep_62 (fun H locs w => ?_)
      refine lv_aload_n S.1 S.2.1 dX6_keep_63 rfl (lv_at hl 0 rfl) ?_
      refine lv_dup S.1 S.2.1 dX6_keep_64 rfl ?_
      obtain ⟨x30, h31, h⟩ := xb h
      refine xr_geti S w 7 xi_X6_keep_X6 rfl 0 (by decide) xl_X6_keep_26 h31 dX6_keep_65 ?_
      refine lv_iconst (v := 1) S.1 S.2.1 dX6_keep_68 (by decide) ?_
      refine lv_iadd S.1 S.2.1 dX6_keep_69 ?_
      obtain ⟨g32, h33, h⟩ := xb h
      refine xr_puti S w 7 xi_X6_keep_X6 rfl tyX6 tyX6_ok nmX6 0 (by decide) xl_X6_keep_26 rfl (tyX6_ok 0 (by decide)) h33 dX6_keep_70 (fun H locs w => ?_)
      refine lv_iconst (v := 1) S.1 S.2.1 dX6_keep_73 (by decide) ?_
      exact ret _ _ _ _ 1 1 _ (by decide) h w dX6_keep_74
    · rw [if_neg c17] at h
      refine lv_iconst (v := 0) S.1 S.2.1 dX6_keep_20 (by decide) ?_
      exact ret _ _ _ _ 0 0 _ (by decide) h w dX6_keep_21
theorem xi_X6_leastFork_X6 : ∀ w ∈ wsX60, w ∈ wsX6_leastFork := by decide +kernel
theorem xl_X6_leastFork_26 : Cond.fieldLink RX6 26 (TX6 0).1 (TX6 0).2.1 (TX6 0).2.2.1 ∈ wsX6_leastFork := by decide +kernel
theorem xl_X6_leastFork_9 : Cond.fieldLink RX6 9 (TX6 1).1 (TX6 1).2.1 (TX6 1).2.2.1 ∈ wsX6_leastFork := by decide +kernel
theorem xl_X6_leastFork_15 : Cond.fieldLink RX6 15 (TX6 2).1 (TX6 2).2.1 (TX6 2).2.2.1 ∈ wsX6_leastFork := by decide +kernel
theorem xi_X6_leastFork_X2 : ∀ w ∈ wsX20, w ∈ wsX6_leastFork := by decide +kernel
theorem xl_X6_leastFork_34 : Cond.fieldLink RX6 34 (TX2 0).1 (TX2 0).2.1 (TX2 0).2.2.1 ∈ wsX6_leastFork := by decide +kernel
theorem xl_X6_leastFork_18 : Cond.fieldLink RX6 18 (TX6 3).1 (TX6 3).2.1 (TX6 3).2.2.1 ∈ wsX6_leastFork := by decide +kernel
theorem xl_X6_leastFork_37 : Cond.fieldLink RX6 37 (TX2 4).1 (TX2 4).2.1 (TX2 4).2.2.1 ∈ wsX6_leastFork := by decide +kernel
def f_X6_leastFork_5 : Nat → xG → Nat → Int32 → Nat → Int32 → Int32 → Option Int32
  | 0, _, _, _, _, _, _ => none
  | n9 + 1, g, v0, v1, v2, v3, v4 =>
  (xg_i g 7 v0 0).bind fun x1 =>
  if x1 ≤ v4 then
    some v3
  else
    (xg_r g 7 v0 1).bind fun x3 =>
    (xa_i 1 g x3 v4).bind fun x5 =>
    if x5 = v1 then
      (xg_r g 7 v0 2).bind fun x7 =>
      (xa_i 1 g x7 v4).bind fun x9 =>
      (xg_i g 3 v2 0).bind fun x11 =>
      if x11 < x9 then
        f_X6_leastFork_5 n9 g v0 v1 v2 v3 (v4 + 1)
      else
        (xg_r g 7 v0 3).bind fun x13 =>
        (xa_l g x13 v4).bind fun x15 =>
        (xg_r g 3 v2 4).bind fun x17 =>
        (xg_r g 7 v0 2).bind fun x19 =>
        (xa_i 1 g x19 v4).bind fun x21 =>
        (xa_l g x17 x21).bind fun x23 =>
        if x15 = x23 then
          f_X6_leastFork_5 n9 g v0 v1 v2 v3 (v4 + 1)
        else
          if v3 = (-1) then
            f_X6_leastFork_5 n9 g v0 v1 v2 v4 (v4 + 1)
          else
            (xg_r g 7 v0 2).bind fun x25 =>
            (xa_i 1 g x25 v4).bind fun x27 =>
            (xg_r g 7 v0 2).bind fun x29 =>
            (xa_i 1 g x29 v3).bind fun x31 =>
            if x31 ≤ x27 then
              f_X6_leastFork_5 n9 g v0 v1 v2 v3 (v4 + 1)
            else
              f_X6_leastFork_5 n9 g v0 v1 v2 v4 (v4 + 1)
    else
      f_X6_leastFork_5 n9 g v0 v1 v2 v3 (v4 + 1)
def f_X6_leastFork (g : xG) (a0 : Nat) (a1 : Int32) (a2 : Nat) : Option Int32 :=
  f_X6_leastFork_5 xFU g a0 a1 a2 (-1) 0
set_option maxHeartbeats 4000000 in
set_option maxRecDepth 100000 in
theorem c_X6_leastFork (l : Launch) (D : va_G) (cy : Nat → ClassId) (L : List Nat) (g : xG) (a0 : Nat) (a1 : Int32) (a2 : Nat) {r1 : Int32} (h : f_X6_leastFork g a0 a1 a2 = some r1) : xMi l yX6_leastFork wsX6_leastFork ({ frames := 0, cells := 0, slots := 0, locals := 0 }) D cy L g [.ref a0, .int a1, .ref a2] r1 g := by
  refine xm_i (cc := cX6_leastFork) (maxL := 5) RX6 rfl rfl rfl (by decide +kernel) rfl (Nat.le_of_ble_eq_true rfl) ?_
  intro p e s m args below meth c Q A S w hA hN ret ls hl
  have hl : lv_has ls 5 [(0, .ref a0), (1, .int a1), (2, .ref a2)] := hl
  obtain ⟨rr, hrr⟩ : ∃ z, z = r1 := ⟨_, rfl⟩
  rw [← hrr] at h
  have hb5 : ∀ (n9 : Nat), ∀ (v0 : Nat) (v1 : Int32) (v2 : Nat) (v3 : Int32) (v4 : Int32) , f_X6_leastFork_5 n9 g v0 v1 v2 v3 v4 = some rr → ∀ (H : Heap) (locs : List Loc) (ls : Array Slot), xOK D cy A s.heap s L g H locs → lv_has ls 5 [(0, .ref v0), (1, .int v1), (2, .ref v2), (3, .int v3), (4, .int v4)] → W p l e { frames := 0, cells := 0, slots := 0, locals := 0 } s m args below meth c H locs 0 0 Q (F0 m 5 ls []) := by
    intro n9
    induction n9 with
    | zero => intro v0 v1 v2 v3 v4 h; cases h
    | succ n9 ih =>
      intro v0 v1 v2 v3 v4 h H locs ls w hl
      rw [f_X6_leastFork_5] at h
      refine lv_iload S.1 S.2.1 dX6_leastFork_5 (lv_at hl 4 rfl) ?_
      refine lv_aload_n S.1 S.2.1 dX6_leastFork_7 rfl (lv_at hl 0 rfl) ?_
      obtain ⟨x1, h2, h⟩ := xb h
      refine xr_geti S w 7 xi_X6_leastFork_X6 rfl 0 (by decide) xl_X6_leastFork_26 h2 dX6_leastFork_8 ?_
      refine lv_icmp_ge (tgt := 92) S.1 S.2.1 dX6_leastFork_11 (by decide) (fun c11 => ?_) (fun c11 => ?_)
      · rw [if_pos c11] at h
        refine lv_iload_n S.1 S.2.1 dX6_leastFork_92 rfl (lv_at hl 3 rfl) ?_
        exact ret _ _ _ _ _ _ (congrArg (fun z => some (z, g)) ((Option.some.inj h).trans hrr)) w dX6_leastFork_93
      · rw [if_neg c11] at h
        refine lv_aload_n S.1 S.2.1 dX6_leastFork_14 rfl (lv_at hl 0 rfl) ?_
        obtain ⟨x3, h4, h⟩ := xb h
        refine xr_getr S w 7 xi_X6_leastFork_X6 rfl 1 (by decide) xl_X6_leastFork_9 h4 dX6_leastFork_15 ?_
        refine lv_iload S.1 S.2.1 dX6_leastFork_18 (lv_at hl 4 rfl) ?_
        obtain ⟨x5, h6, h⟩ := xb h
        refine xr_iald S w h6 dX6_leastFork_20 ?_
        refine lv_iload_n S.1 S.2.1 dX6_leastFork_21 rfl (lv_at hl 1 rfl) ?_
        refine lv_icmp_ne (tgt := 86) S.1 S.2.1 dX6_leastFork_22 (by decide) (fun c22 => ?_) (fun c22 => ?_)
        · rw [if_neg c22] at h
          refine lv_iinc (v := (v4 + 1)) (lv' := [(4, .int (v4 + 1)), (0, .ref v0), (1, .int v1), (2, .ref v2), (3, .int v3)]) S.1 S.2.1 dX6_leastFork_86 hl (k := 4) rfl rfl (by decide) rfl (fun ls hl => ?_)
          refine lv_goto (tgt := 5) S.1 S.2.1 dX6_leastFork_89 (by decide) ?_
          exact ih v0 v1 v2 v3 (v4 + 1) h _ _ _ w (lv_sub hl [1, 2, 3, 4, 0] rfl)
        · rw [if_pos c22] at h
          refine lv_aload_n S.1 S.2.1 dX6_leastFork_25 rfl (lv_at hl 0 rfl) ?_
          obtain ⟨x7, h8, h⟩ := xb h
          refine xr_getr S w 7 xi_X6_leastFork_X6 rfl 2 (by decide) xl_X6_leastFork_15 h8 dX6_leastFork_26 ?_
          refine lv_iload S.1 S.2.1 dX6_leastFork_29 (lv_at hl 4 rfl) ?_
          obtain ⟨x9, h10, h⟩ := xb h
          refine xr_iald S w h10 dX6_leastFork_31 ?_
          refine lv_aload_n S.1 S.2.1 dX6_leastFork_32 rfl (lv_at hl 2 rfl) ?_
          obtain ⟨x11, h12, h⟩ := xb h
          refine xr_geti S w 3 xi_X6_leastFork_X2 rfl 0 (by decide) xl_X6_leastFork_34 h12 dX6_leastFork_33 ?_
          refine lv_icmp_gt (tgt := 86) S.1 S.2.1 dX6_leastFork_36 (by decide) (fun c36 => ?_) (fun c36 => ?_)
          · rw [if_pos c36] at h
            refine lv_iinc (v := (v4 + 1)) (lv' := [(4, .int (v4 + 1)), (0, .ref v0), (1, .int v1), (2, .ref v2), (3, .int v3)]) S.1 S.2.1 dX6_leastFork_86 hl (k := 4) rfl rfl (by decide) rfl (fun ls hl => ?_)
            refine lv_goto (tgt := 5) S.1 S.2.1 dX6_leastFork_89 (by decide) ?_
            exact ih v0 v1 v2 v3 (v4 + 1) h _ _ _ w (lv_sub hl [1, 2, 3, 4, 0] rfl)
          · rw [if_neg c36] at h
            refine lv_aload_n S.1 S.2.1 dX6_leastFork_39 rfl (lv_at hl 0 rfl) ?_
            obtain ⟨x13, h14, h⟩ := xb h
            refine xr_getr S w 7 xi_X6_leastFork_X6 rfl 3 (by decide) xl_X6_leastFork_18 h14 dX6_leastFork_40 ?_
            refine lv_iload S.1 S.2.1 dX6_leastFork_43 (lv_at hl 4 rfl) ?_
            obtain ⟨x15, h16, h⟩ := xb h
            refine xr_lald S w h16 dX6_leastFork_45 ?_
            refine lv_aload_n S.1 S.2.1 dX6_leastFork_46 rfl (lv_at hl 2 rfl) ?_
            obtain ⟨x17, h18, h⟩ := xb h
            refine xr_getr S w 3 xi_X6_leastFork_X2 rfl 4 (by decide) xl_X6_leastFork_37 h18 dX6_leastFork_47 ?_
            refine lv_aload_n S.1 S.2.1 dX6_leastFork_50 rfl (lv_at hl 0 rfl) ?_
            obtain ⟨x19, h20, h⟩ := xb h
            refine xr_getr S w 7 xi_X6_leastFork_X6 rfl 2 (by decide) xl_X6_leastFork_15 h20 dX6_leastFork_51 ?_
            refine lv_iload S.1 S.2.1 dX6_leastFork_54 (lv_at hl 4 rfl) ?_
            obtain ⟨x21, h22, h⟩ := xb h
            refine xr_iald S w h22 dX6_leastFork_56 ?_
            obtain ⟨x23, h24, h⟩ := xb h
            refine xr_lald S w h24 dX6_leastFork_57 ?_
            refine xr_lceq (tgt := 86) S dX6_leastFork_58 dX6_leastFork_59 (by decide) (fun c58 => ?_) (fun c58 => ?_)
            · rw [if_pos c58] at h
              refine lv_iinc (v := (v4 + 1)) (lv' := [(4, .int (v4 + 1)), (0, .ref v0), (1, .int v1), (2, .ref v2), (3, .int v3)]) S.1 S.2.1 dX6_leastFork_86 hl (k := 4) rfl rfl (by decide) rfl (fun ls hl => ?_)
              refine lv_goto (tgt := 5) S.1 S.2.1 dX6_leastFork_89 (by decide) ?_
              exact ih v0 v1 v2 v3 (v4 + 1) h _ _ _ w (lv_sub hl [1, 2, 3, 4, 0] rfl)
            · rw [if_neg c58] at h
              refine lv_iload_n S.1 S.2.1 dX6_leastFork_62 rfl (lv_at hl 3 rfl) ?_
              refine lv_iconst (v := (-1)) S.1 S.2.1 dX6_leastFork_63 (by decide) ?_
              refine lv_icmp_eq (tgt := 83) S.1 S.2.1 dX6_leastFork_64 (by decide) (fun c64 => ?_) (fun c64 => ?_)
              · rw [if_pos c64] at h
                refine lv_iload S.1 S.2.1 dX6_leastFork_83 (lv_at hl 4 rfl) ?_
                refine lv_istore_n (lv' := [(3, .int v4), (0, .ref v0), (1, .int v1), (2, .ref v2), (4, .int v4)]) S.1 S.2.1 dX6_leastFork_85 rfl hl (by decide) rfl (fun ls hl => ?_)
                refine lv_iinc (v := (v4 + 1)) (lv' := [(4, .int (v4 + 1)), (3, .int v4), (0, .ref v0), (1, .int v1), (2, .ref v2)]) S.1 S.2.1 dX6_leastFork_86 hl (k := 4) rfl rfl (by decide) rfl (fun ls hl => ?_)
                refine lv_goto (tgt := 5) S.1 S.2.1 dX6_leastFork_89 (by decide) ?_
                exact ih v0 v1 v2 v4 (v4 + 1) h _ _ _ w (lv_sub hl [2, 3, 4, 1, 0] rfl)
              · rw [if_neg c64] at h
                refine lv_aload_n S.1 S.2.1 dX6_leastFork_67 rfl (lv_at hl 0 rfl) ?_
                obtain ⟨x25, h26, h⟩ := xb h
                refine xr_getr S w 7 xi_X6_leastFork_X6 rfl 2 (by decide) xl_X6_leastFork_15 h26 dX6_leastFork_68 ?_
                refine lv_iload S.1 S.2.1 dX6_leastFork_71 (lv_at hl 4 rfl) ?_
                obtain ⟨x27, h28, h⟩ := xb h
                refine xr_iald S w h28 dX6_leastFork_73 ?_
                refine lv_aload_n S.1 S.2.1 dX6_leastFork_74 rfl (lv_at hl 0 rfl) ?_
                obtain ⟨x29, h30, h⟩ := xb h
                refine xr_getr S w 7 xi_X6_leastFork_X6 rfl 2 (by decide) xl_X6_leastFork_15 h30 dX6_leastFork_75 ?_
                refine lv_iload_n S.1 S.2.1 dX6_leastFork_78 rfl (lv_at hl 3 rfl) ?_
                obtain ⟨x31, h32, h⟩ := xb h
                refine xr_iald S w h32 dX6_leastFork_79 ?_
                refine lv_icmp_ge (tgt := 86) S.1 S.2.1 dX6_leastFork_80 (by decide) (fun c80 => ?_) (fun c80 => ?_)
                · rw [if_pos c80] at h
                  refine lv_iinc (v := (v4 + 1)) (lv' := [(4, .int (v4 + 1)), (0, .ref v0), (1, .int v1), (2, .ref v2), (3, .int v3)]) S.1 S.2.1 dX6_leastFork_86 hl (k := 4) rfl rfl (by decide) rfl (fun ls hl => ?_)
                  refine lv_goto (tgt := 5) S.1 S.2.1 dX6_leastFork_89 (by decide) ?_
                  exact ih v0 v1 v2 v3 (v4 + 1) h _ _ _ w (lv_sub hl [1, 2, 3, 4, 0] rfl)
                · rw [if_neg c80] at h
                  refine lv_iload S.1 S.2.1 dX6_leastFork_83 (lv_at hl 4 rfl) ?_
                  refine lv_istore_n (lv' := [(3, .int v4), (0, .ref v0), (1, .int v1), (2, .ref v2), (4, .int v4)]) S.1 S.2.1 dX6_leastFork_85 rfl hl (by decide) rfl (fun ls hl => ?_)
                  refine lv_iinc (v := (v4 + 1)) (lv' := [(4, .int (v4 + 1)), (3, .int v4), (0, .ref v0), (1, .int v1), (2, .ref v2)]) S.1 S.2.1 dX6_leastFork_86 hl (k := 4) rfl rfl (by decide) rfl (fun ls hl => ?_)
                  refine lv_goto (tgt := 5) S.1 S.2.1 dX6_leastFork_89 (by decide) ?_
                  exact ih v0 v1 v2 v4 (v4 + 1) h _ _ _ w (lv_sub hl [2, 3, 4, 1, 0] rfl)
  rw [f_X6_leastFork] at h
  refine lv_iconst (v := (-1)) S.1 S.2.1 dX6_leastFork_0 (by decide) ?_
  refine lv_istore_n (lv' := [(3, .int (-1)), (0, .ref a0), (1, .int a1), (2, .ref a2)]) S.1 S.2.1 dX6_leastFork_1 rfl hl (by decide) rfl (fun ls hl => ?_)
  refine lv_iconst (v := 0) S.1 S.2.1 dX6_leastFork_2 (by decide) ?_
  refine lv_istore (lv' := [(4, .int 0), (3, .int (-1)), (0, .ref a0), (1, .int a1), (2, .ref a2)]) S.1 S.2.1 dX6_leastFork_3 hl (by decide) rfl (fun ls hl => ?_)
  exact hb5 xFU a0 a1 a2 (-1) 0 h _ _ _ w (lv_sub hl [2, 3, 4, 1, 0] rfl)
theorem xi_X6_keepsBeyond_X6 : ∀ w ∈ wsX60, w ∈ wsX6_keepsBeyond := by decide +kernel
theorem xl_X6_keepsBeyond_26 : Cond.fieldLink RX6 26 (TX6 0).1 (TX6 0).2.1 (TX6 0).2.2.1 ∈ wsX6_keepsBeyond := by decide +kernel
theorem xl_X6_keepsBeyond_9 : Cond.fieldLink RX6 9 (TX6 1).1 (TX6 1).2.1 (TX6 1).2.2.1 ∈ wsX6_keepsBeyond := by decide +kernel
theorem xl_X6_keepsBeyond_15 : Cond.fieldLink RX6 15 (TX6 2).1 (TX6 2).2.1 (TX6 2).2.2.1 ∈ wsX6_keepsBeyond := by decide +kernel
def f_X6_keepsBeyond_2 : Nat → xG → Nat → Int32 → Int32 → Int32 → Option Int32
  | 0, _, _, _, _, _ => none
  | n9 + 1, g, v0, v1, v2, v3 =>
  (xg_i g 7 v0 0).bind fun x1 =>
  if x1 ≤ v3 then
    some 0
  else
    (xg_r g 7 v0 1).bind fun x3 =>
    (xa_i 1 g x3 v3).bind fun x5 =>
    if x5 = v1 then
      (xg_r g 7 v0 2).bind fun x7 =>
      (xa_i 1 g x7 v3).bind fun x9 =>
      if x9 ≤ v2 then
        f_X6_keepsBeyond_2 n9 g v0 v1 v2 (v3 + 1)
      else
        some 1
    else
      f_X6_keepsBeyond_2 n9 g v0 v1 v2 (v3 + 1)
def f_X6_keepsBeyond (g : xG) (a0 : Nat) (a1 : Int32) (a2 : Int32) : Option Int32 :=
  f_X6_keepsBeyond_2 xFU g a0 a1 a2 0
set_option maxHeartbeats 4000000 in
set_option maxRecDepth 100000 in
theorem c_X6_keepsBeyond (l : Launch) (D : va_G) (cy : Nat → ClassId) (L : List Nat) (g : xG) (a0 : Nat) (a1 : Int32) (a2 : Int32) {r1 : Int32} (h : f_X6_keepsBeyond g a0 a1 a2 = some r1) : xMi l yX6_keepsBeyond wsX6_keepsBeyond ({ frames := 0, cells := 0, slots := 0, locals := 0 }) D cy L g [.ref a0, .int a1, .int a2] r1 g := by
  refine xm_z (cc := cX6_keepsBeyond) (maxL := 4) RX6 rfl rfl rfl (by decide +kernel) rfl (Nat.le_of_ble_eq_true rfl) ?_
  intro p e s m args below meth c Q A S w hA hN ret ls hl
  have hl : lv_has ls 4 [(0, .ref a0), (1, .int a1), (2, .int a2)] := hl
  obtain ⟨rr, hrr⟩ : ∃ z, z = r1 := ⟨_, rfl⟩
  rw [← hrr] at h
  have hb2 : ∀ (n9 : Nat), ∀ (v0 : Nat) (v1 : Int32) (v2 : Int32) (v3 : Int32) , f_X6_keepsBeyond_2 n9 g v0 v1 v2 v3 = some rr → ∀ (H : Heap) (locs : List Loc) (ls : Array Slot), xOK D cy A s.heap s L g H locs → lv_has ls 4 [(0, .ref v0), (1, .int v1), (2, .int v2), (3, .int v3)] → W p l e { frames := 0, cells := 0, slots := 0, locals := 0 } s m args below meth c H locs 0 0 Q (F0 m 2 ls []) := by
    intro n9
    induction n9 with
    | zero => intro v0 v1 v2 v3 h; cases h
    | succ n9 ih =>
      intro v0 v1 v2 v3 h H locs ls w hl
      rw [f_X6_keepsBeyond_2] at h
      refine lv_iload_n S.1 S.2.1 dX6_keepsBeyond_2 rfl (lv_at hl 3 rfl) ?_
      refine lv_aload_n S.1 S.2.1 dX6_keepsBeyond_3 rfl (lv_at hl 0 rfl) ?_
      obtain ⟨x1, h2, h⟩ := xb h
      refine xr_geti S w 7 xi_X6_keepsBeyond_X6 rfl 0 (by decide) xl_X6_keepsBeyond_26 h2 dX6_keepsBeyond_4 ?_
      refine lv_icmp_ge (tgt := 38) S.1 S.2.1 dX6_keepsBeyond_7 (by decide) (fun c7 => ?_) (fun c7 => ?_)
      · rw [if_pos c7] at h
        refine lv_iconst (v := 0) S.1 S.2.1 dX6_keepsBeyond_38 (by decide) ?_
        exact ret _ _ _ _ 0 0 _ (by decide) (congrArg (fun z => some (z, g)) ((Option.some.inj h).trans hrr)) w dX6_keepsBeyond_39
      · rw [if_neg c7] at h
        refine lv_aload_n S.1 S.2.1 dX6_keepsBeyond_10 rfl (lv_at hl 0 rfl) ?_
        obtain ⟨x3, h4, h⟩ := xb h
        refine xr_getr S w 7 xi_X6_keepsBeyond_X6 rfl 1 (by decide) xl_X6_keepsBeyond_9 h4 dX6_keepsBeyond_11 ?_
        refine lv_iload_n S.1 S.2.1 dX6_keepsBeyond_14 rfl (lv_at hl 3 rfl) ?_
        obtain ⟨x5, h6, h⟩ := xb h
        refine xr_iald S w h6 dX6_keepsBeyond_15 ?_
        refine lv_iload_n S.1 S.2.1 dX6_keepsBeyond_16 rfl (lv_at hl 1 rfl) ?_
        refine lv_icmp_ne (tgt := 32) S.1 S.2.1 dX6_keepsBeyond_17 (by decide) (fun c17 => ?_) (fun c17 => ?_)
        · rw [if_neg c17] at h
          refine lv_iinc (v := (v3 + 1)) (lv' := [(3, .int (v3 + 1)), (0, .ref v0), (1, .int v1), (2, .int v2)]) S.1 S.2.1 dX6_keepsBeyond_32 hl (k := 3) rfl rfl (by decide) rfl (fun ls hl => ?_)
          refine lv_goto (tgt := 2) S.1 S.2.1 dX6_keepsBeyond_35 (by decide) ?_
          exact ih v0 v1 v2 (v3 + 1) h _ _ _ w (lv_sub hl [1, 2, 3, 0] rfl)
        · rw [if_pos c17] at h
          refine lv_aload_n S.1 S.2.1 dX6_keepsBeyond_20 rfl (lv_at hl 0 rfl) ?_
          obtain ⟨x7, h8, h⟩ := xb h
          refine xr_getr S w 7 xi_X6_keepsBeyond_X6 rfl 2 (by decide) xl_X6_keepsBeyond_15 h8 dX6_keepsBeyond_21 ?_
          refine lv_iload_n S.1 S.2.1 dX6_keepsBeyond_24 rfl (lv_at hl 3 rfl) ?_
          obtain ⟨x9, h10, h⟩ := xb h
          refine xr_iald S w h10 dX6_keepsBeyond_25 ?_
          refine lv_iload_n S.1 S.2.1 dX6_keepsBeyond_26 rfl (lv_at hl 2 rfl) ?_
          refine lv_icmp_le (tgt := 32) S.1 S.2.1 dX6_keepsBeyond_27 (by decide) (fun c27 => ?_) (fun c27 => ?_)
          · rw [if_pos c27] at h
            refine lv_iinc (v := (v3 + 1)) (lv' := [(3, .int (v3 + 1)), (0, .ref v0), (1, .int v1), (2, .int v2)]) S.1 S.2.1 dX6_keepsBeyond_32 hl (k := 3) rfl rfl (by decide) rfl (fun ls hl => ?_)
            refine lv_goto (tgt := 2) S.1 S.2.1 dX6_keepsBeyond_35 (by decide) ?_
            exact ih v0 v1 v2 (v3 + 1) h _ _ _ w (lv_sub hl [1, 2, 3, 0] rfl)
          · rw [if_neg c27] at h
            refine lv_iconst (v := 1) S.1 S.2.1 dX6_keepsBeyond_30 (by decide) ?_
            exact ret _ _ _ _ 1 1 _ (by decide) (congrArg (fun z => some (z, g)) ((Option.some.inj h).trans hrr)) w dX6_keepsBeyond_31
  rw [f_X6_keepsBeyond] at h
  refine lv_iconst (v := 0) S.1 S.2.1 dX6_keepsBeyond_0 (by decide) ?_
  refine lv_istore_n (lv' := [(3, .int 0), (0, .ref a0), (1, .int a1), (2, .int a2)]) S.1 S.2.1 dX6_keepsBeyond_1 rfl hl (by decide) rfl (fun ls hl => ?_)
  exact hb2 xFU a0 a1 a2 0 h _ _ _ w (lv_sub hl [1, 2, 3, 0] rfl)
