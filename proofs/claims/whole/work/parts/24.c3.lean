theorem xi_Jx4a65c_size_8abf5_Jx4a65c : ∀ w ∈ wsJx4a65c0, w ∈ wsJx4a65c_size_8abf5 := by decide +kernel
theorem xl_Jx4a65c_size_8abf5_48 : Cond.fieldLink RJx4a65c 48 (TJx4a65c 2).1 (TJx4a65c 2).2.1 (TJx4a65c 2).2.2.1 ∈ wsJx4a65c_size_8abf5 := by decide +kernel
def f_Jx4a65c_size_8abf5 (g : xG) (a0 : Nat) : Option Int32 :=
  (xg_i g 0 a0 2).bind fun x1 =>
  some x1
set_option maxHeartbeats 4000000 in
set_option maxRecDepth 100000 in
theorem c_Jx4a65c_size_8abf5 (l : Launch) (D : va_G) (cy : Nat → ClassId) (L : List Nat) (g : xG) (a0 : Nat) {r1 : Int32} (h : f_Jx4a65c_size_8abf5 g a0 = some r1) : xMi l yJx4a65c_size_8abf5 wsJx4a65c_size_8abf5 ({ frames := 0, cells := 0, slots := 0, locals := 0 }) D cy L g [.ref a0] r1 g := by
  refine xm_i (cc := cJx4a65c_size_8abf5) (maxL := 1) RJx4a65c rfl rfl rfl (by decide +kernel) rfl (Nat.le_of_ble_eq_true rfl) ?_
  intro p e s m args below meth c Q A S w hA hN ret ls hl
  have hl : lv_has ls 1 [(0, .ref a0)] := hl
  rw [f_Jx4a65c_size_8abf5] at h
  refine lv_aload_n S.1 S.2.1 dJx4a65c_size_8abf5_0 rfl (lv_at hl 0 rfl) ?_
  obtain ⟨x1, h2, h⟩ := xb h
  refine xr_geti S w 0 xi_Jx4a65c_size_8abf5_Jx4a65c rfl 2 (by decide) xl_Jx4a65c_size_8abf5_48 h2 dJx4a65c_size_8abf5_1 ?_
  exact ret _ _ _ _ _ _ (congrArg (fun z => some (z, g)) (Option.some.inj h)) w dJx4a65c_size_8abf5_4
theorem xi_Jx4a65c_elementData_915e3_Jx4a65c : ∀ w ∈ wsJx4a65c0, w ∈ wsJx4a65c_elementData_915e3 := by decide +kernel
theorem xl_Jx4a65c_elementData_915e3_9 : Cond.fieldLink RJx4a65c 9 (TJx4a65c 1).1 (TJx4a65c 1).2.1 (TJx4a65c 1).2.2.1 ∈ wsJx4a65c_elementData_915e3 := by decide +kernel
def f_Jx4a65c_elementData_915e3 (g : xG) (a0 : Nat) (a1 : Int32) : Option Nat :=
  (xg_r g 0 a0 1).bind fun x1 =>
  (xa_r 6 g x1 a1).bind fun x3 =>
  some x3
set_option maxHeartbeats 4000000 in
set_option maxRecDepth 100000 in
theorem c_Jx4a65c_elementData_915e3 (l : Launch) (D : va_G) (cy : Nat → ClassId) (L : List Nat) (g : xG) (a0 : Nat) (a1 : Int32) {r1 : Nat} (h : f_Jx4a65c_elementData_915e3 g a0 a1 = some r1) : xMr l yJx4a65c_elementData_915e3 wsJx4a65c_elementData_915e3 ({ frames := 0, cells := 0, slots := 0, locals := 0 }) D cy L g [.ref a0, .int a1] r1 g := by
  refine xm_r (cc := cJx4a65c_elementData_915e3) (maxL := 2) RJx4a65c rfl rfl rfl (by decide +kernel) rfl (Nat.le_of_ble_eq_true rfl) ?_
  intro p e s m args below meth c Q A S w hA hN ret ls hl
  have hl : lv_has ls 2 [(0, .ref a0), (1, .int a1)] := hl
  rw [f_Jx4a65c_elementData_915e3] at h
  refine lv_aload_n S.1 S.2.1 dJx4a65c_elementData_915e3_0 rfl (lv_at hl 0 rfl) ?_
  obtain ⟨x1, h2, h⟩ := xb h
  refine xr_getr S w 0 xi_Jx4a65c_elementData_915e3_Jx4a65c rfl 1 (by decide) xl_Jx4a65c_elementData_915e3_9 h2 dJx4a65c_elementData_915e3_1 ?_
  refine lv_iload_n S.1 S.2.1 dJx4a65c_elementData_915e3_4 rfl (lv_at hl 1 rfl) ?_
  obtain ⟨x3, h4, h⟩ := xb h
  refine xr_aald S w 6 "java/lang/Object" (fun _ => rfl) h4 dJx4a65c_elementData_915e3_5 ?_
  exact ret _ _ _ _ _ _ (congrArg (fun z => some (z, g)) (Option.some.inj h)) w dJx4a65c_elementData_915e3_6
theorem xi_Jx4a65c_get_915e3_Jx4a65c : ∀ w ∈ wsJx4a65c0, w ∈ wsJx4a65c_get_915e3 := by decide +kernel
theorem xl_Jx4a65c_get_915e3_48 : Cond.fieldLink RJx4a65c 48 (TJx4a65c 2).1 (TJx4a65c 2).2.1 (TJx4a65c 2).2.2.1 ∈ wsJx4a65c_get_915e3 := by decide +kernel
def f_Jx4a65c_get_915e3 (g : xG) (a0 : Nat) (a1 : Int32) : Option Nat :=
  (xg_i g 0 a0 2).bind fun x1 =>
  (f_J15_checkIndex_7cf53 a1 x1).bind fun x4 =>
  (xk g 0 a0).bind fun _ =>
  (f_Jx4a65c_elementData_915e3 g a0 a1).bind fun x7 =>
  some x7
set_option maxHeartbeats 4000000 in
set_option maxRecDepth 100000 in
theorem c_Jx4a65c_get_915e3 (l : Launch) (D : va_G) (cy : Nat → ClassId) (L : List Nat) (g : xG) (a0 : Nat) (a1 : Int32) {r1 : Nat} (h : f_Jx4a65c_get_915e3 g a0 a1 = some r1) : xMr l yJx4a65c_get_915e3 wsJx4a65c_get_915e3 ({ frames := 2, cells := 0, slots := 0, locals := 43 }) D cy L g [.ref a0, .int a1] r1 g := by
  refine xm_r (cc := cJx4a65c_get_915e3) (maxL := 2) RJx4a65c rfl rfl rfl (by decide +kernel) rfl (Nat.le_of_ble_eq_true rfl) ?_
  intro p e s m args below meth c Q A S w hA hN ret ls hl
  have hl : lv_has ls 2 [(0, .ref a0), (1, .int a1)] := hl
  rw [f_Jx4a65c_get_915e3] at h
  refine lv_iload_n S.1 S.2.1 dJx4a65c_get_915e3_0 rfl (lv_at hl 1 rfl) ?_
  refine lv_aload_n S.1 S.2.1 dJx4a65c_get_915e3_1 rfl (lv_at hl 0 rfl) ?_
  obtain ⟨x1, h2, h⟩ := xb h
  refine xr_geti S w 0 xi_Jx4a65c_get_915e3_Jx4a65c rfl 2 (by decide) xl_Jx4a65c_get_915e3_48 h2 dJx4a65c_get_915e3_2 ?_
  obtain ⟨x4, h3, h⟩ := xb h
  refine xr_callS_i S w hA hN (c_J15_checkIndex_7cf53 l D cy L g a1 x1 h3) (va_cwS 2 S.2.2.2.2 gJx4a65c_get_915e3_J15_checkIndex_7cf53 rfl rfl rfl (by decide +kernel) ⟨Nat.le_of_ble_eq_true rfl, Nat.le_of_ble_eq_true rfl⟩) rfl rfl hl.1 (Nat.le_of_ble_eq_true rfl) dJx4a65c_get_915e3_5 ⟨Nat.le_of_ble_eq_true rfl, Nat.le_of_ble_eq_true rfl⟩ (fun H locs w => ?_)
  refine lv_pop S.1 S.2.1 dJx4a65c_get_915e3_8 rfl ?_
  refine lv_aload_n S.1 S.2.1 dJx4a65c_get_915e3_9 rfl (lv_at hl 0 rfl) ?_
  refine lv_iload_n S.1 S.2.1 dJx4a65c_get_915e3_10 rfl (lv_at hl 1 rfl) ?_
  obtain ⟨_, h5, h⟩ := xb h
  obtain ⟨x7, h6, h⟩ := xb h
  refine xr_callV_r S w hA hN 0 rfl h5 (c_Jx4a65c_elementData_915e3 l D cy L g a0 a1 h6) (cwV 1 S.2.2.2.2 gJx4a65c_get_915e3_Jx4a65c_elementData_915e3 rfl rfl rfl (by decide +kernel) ⟨Nat.le_of_ble_eq_true rfl, Nat.le_of_ble_eq_true rfl⟩) rfl rfl hl.1 (Nat.le_of_ble_eq_true rfl) dJx4a65c_get_915e3_11 ⟨Nat.le_of_ble_eq_true rfl, Nat.le_of_ble_eq_true rfl⟩ (fun H locs w => ?_)
  exact ret _ _ _ _ _ _ (congrArg (fun z => some (z, g)) (Option.some.inj h)) w dJx4a65c_get_915e3_14
def f_X7_open (g : xG) (a0 : Nat) (a1 : Int32) : Option (Nat ⊕ xG) :=
  if a1 < 3 then
    some (.inl 1)
  else
    if 6 < a1 then
      some (.inl 1)
    else
      (xk g 8 a0).bind fun _ =>
      (f_X7_startWith g a0 a1).bind fun g3 =>
      some (.inr g3)
set_option maxHeartbeats 4000000 in
set_option maxRecDepth 100000 in
theorem c_X7_open (l : Launch) (hst : l.stackTraces = false) (D : va_G) (cy : Nat → ClassId) (L : List Nat) (g : xG) (a0 : Nat) (a1 : Int32) {o : (Nat ⊕ xG)} (h : f_X7_open g a0 a1 = some o) : xXv l yX7_open wsX7_open ({ frames := 7, cells := 1, slots := 6, locals := 110 }) D cy L g [.ref a0, .int a1] o 1 6 := by
  refine xmx_v hst (cc := cX7_open) (maxL := 2) RX7 rfl rfl rfl (by decide +kernel) rfl (Nat.le_of_ble_eq_true rfl) ?_
  intro p e s m args below meth c Q A S w hA hN hZ ret out thr ls hl
  have hl : lv_has ls 2 [(0, .ref a0), (1, .int a1)] := hl
  rw [f_X7_open] at h
  refine lv_iload_n S.1 S.2.1 dX7_open_0 rfl (lv_at hl 1 rfl) ?_
  refine lv_iconst (v := 3) S.1 S.2.1 dX7_open_1 (by decide) ?_
  refine lv_icmp_lt (tgt := 15) S.1 S.2.1 dX7_open_2 (by decide) (fun c2 => ?_) (fun c2 => ?_)
  · rw [if_pos c2] at h
    refine lv_iconst (v := 0) S.1 S.2.1 dX7_open_15 (by decide) ?_
    exact xr_need0 S hst w hA hN hZ gX7_open_X7_need ⟨Nat.le_of_ble_eq_true rfl, Nat.le_of_ble_eq_true rfl⟩ hl.1 (Nat.le_of_ble_eq_true rfl) dX7_open_16 ⟨Nat.le_of_ble_eq_true rfl, Nat.le_of_ble_eq_true rfl⟩ (by decide) (fun H locs q ce w hc hv hcl => out _ _ _ _ _ _ _ _ _ _ h w hc hv hcl ⟨Nat.le_of_ble_eq_true rfl, Nat.le_of_ble_eq_true rfl⟩)
  · rw [if_neg c2] at h
    refine lv_iload_n S.1 S.2.1 dX7_open_5 rfl (lv_at hl 1 rfl) ?_
    refine lv_bipush (v := 6) S.1 S.2.1 dX7_open_6 (by decide) ?_
    refine lv_icmp_gt (tgt := 15) S.1 S.2.1 dX7_open_8 (by decide) (fun c8 => ?_) (fun c8 => ?_)
    · rw [if_pos c8] at h
      refine lv_iconst (v := 0) S.1 S.2.1 dX7_open_15 (by decide) ?_
      exact xr_need0 S hst w hA hN hZ gX7_open_X7_need ⟨Nat.le_of_ble_eq_true rfl, Nat.le_of_ble_eq_true rfl⟩ hl.1 (Nat.le_of_ble_eq_true rfl) dX7_open_16 ⟨Nat.le_of_ble_eq_true rfl, Nat.le_of_ble_eq_true rfl⟩ (by decide) (fun H locs q ce w hc hv hcl => out _ _ _ _ _ _ _ _ _ _ h w hc hv hcl ⟨Nat.le_of_ble_eq_true rfl, Nat.le_of_ble_eq_true rfl⟩)
    · rw [if_neg c8] at h
      refine lv_iconst (v := 1) S.1 S.2.1 dX7_open_11 (by decide) ?_
      refine lv_goto (tgt := 16) S.1 S.2.1 dX7_open_12 (by decide) ?_
      refine xr_need1 S hst w hA hN hZ gX7_open_X7_need ⟨Nat.le_of_ble_eq_true rfl, Nat.le_of_ble_eq_true rfl⟩ hl.1 (Nat.le_of_ble_eq_true rfl) dX7_open_16 ⟨Nat.le_of_ble_eq_true rfl, Nat.le_of_ble_eq_true rfl⟩ (by decide) (fun H locs w => ?_)
      refine lv_aload_n S.1 S.2.1 dX7_open_19 rfl (lv_at hl 0 rfl) ?_
      refine lv_iload_n S.1 S.2.1 dX7_open_20 rfl (lv_at hl 1 rfl) ?_
      obtain ⟨_, h1, h⟩ := xb h
      obtain ⟨g3, h2, h⟩ := xb h
      refine xr_callV_v S w hA hN 8 rfl h1 (c_X7_startWith l D cy L g a0 a1 h2) (cwV 1 S.2.2.2.2 gX7_open_X7_startWith rfl rfl rfl (by decide +kernel) ⟨Nat.le_of_ble_eq_true rfl, Nat.le_of_ble_eq_true rfl⟩) rfl rfl hl.1 (Nat.le_of_ble_eq_true rfl) dX7_open_21 ⟨Nat.le_of_ble_eq_true rfl, Nat.le_of_ble_eq_true rfl⟩ (fun H locs w => ?_)
      exact ret _ _ _ _ _ _ _ h w dX7_open_24 ⟨Nat.le_of_ble_eq_true rfl, Nat.le_of_ble_eq_true rfl⟩
theorem xi_X7_input_X7 : ∀ w ∈ wsX70, w ∈ wsX7_input := by decide +kernel
theorem xl_X7_input_11 : Cond.fieldLink RX7 11 (TX7 1).1 (TX7 1).2.1 (TX7 1).2.2.1 ∈ wsX7_input := by decide +kernel
theorem xi_X7_input_X4 : ∀ w ∈ wsX40, w ∈ wsX7_input := by decide +kernel
theorem xl_X7_input_57 : Cond.fieldLink RX7 57 (TX4 2).1 (TX4 2).2.1 (TX4 2).2.2.1 ∈ wsX7_input := by decide +kernel
theorem xl_X7_input_71 : Cond.fieldLink RX7 71 (TX4 1).1 (TX4 1).2.1 (TX4 1).2.2.1 ∈ wsX7_input := by decide +kernel
theorem xi_X7_input_X2 : ∀ w ∈ wsX20, w ∈ wsX7_input := by decide +kernel
theorem xl_X7_input_81 : Cond.fieldLink RX7 81 (TX2 0).1 (TX2 0).2.1 (TX2 0).2.2.1 ∈ wsX7_input := by decide +kernel
def f_X7_input (g : xG) (a0 : Nat) (a1 : Int32) (a2 : Int32) : Option (Nat ⊕ (Int32 × xG)) :=
  (xk g 8 a0).bind fun _ =>
  (f_X7_isNode g a0 a1).bind fun x3 =>
  if x3 = 0 then
    some (.inl 1)
  else
  (xg_r g 8 a0 1).bind fun x4 =>
  (xa_r 5 g x4 a1).bind fun x6 =>
  (xg_r g 5 x6 2).bind fun x8 =>
  (xk g 3 x8).bind fun _ =>
  (f_X2_hasTwoPlaces g x8).bind fun x12 =>
  if x12 = 0 then
    some (.inl 2)
  else
  (xg_r g 8 a0 1).bind fun x13 =>
  (xa_r 5 g x13 a1).bind fun x15 =>
  (xg_r g 5 x15 2).bind fun x17 =>
  (xk g 3 x17).bind fun _ =>
  (f_X2_append g x17 1 0 a2).bind fun g21 =>
  (xg_r g21 8 a0 1).bind fun x22 =>
  (xa_r 5 g21 x22 a1).bind fun x24 =>
  (xg_r g21 5 x24 1).bind fun x26 =>
  (xk g21 4 x26).bind fun _ =>
  (f_X3_stepInput g21 x26 a2).bind fun g30 =>
  (xg_r g30 8 a0 1).bind fun x31 =>
  (xa_r 5 g30 x31 a1).bind fun x33 =>
  (xk g30 8 a0).bind fun _ =>
  (f_X7_sendWhatIsDue g30 a0 x33).bind fun g37 =>
  (xg_r g37 8 a0 1).bind fun x38 =>
  (xa_r 5 g37 x38 a1).bind fun x40 =>
  (xg_r g37 5 x40 2).bind fun x42 =>
  (xg_i g37 3 x42 0).bind fun x44 =>
  some (.inr (x44, g37))
set_option maxHeartbeats 4000000 in
set_option maxRecDepth 100000 in
theorem c_X7_input (l : Launch) (hst : l.stackTraces = false) (D : va_G) (cy : Nat → ClassId) (L : List Nat) (g : xG) (a0 : Nat) (a1 : Int32) (a2 : Int32) {o : (Nat ⊕ (Int32 × xG))} (h : f_X7_input g a0 a1 a2 = some o) : xXi l yX7_input wsX7_input ({ frames := 7, cells := 2, slots := 12, locals := 120 }) D cy L g [.ref a0, .int a1, .int a2] o 2 12 := by
  refine xmx_i hst (cc := cX7_input) (maxL := 3) RX7 rfl rfl rfl (by decide +kernel) rfl (Nat.le_of_ble_eq_true rfl) ?_
  intro p e s m args below meth c Q A S w hA hN hZ ret out thr ls hl
  have hl : lv_has ls 3 [(0, .ref a0), (1, .int a1), (2, .int a2)] := hl
  rw [f_X7_input] at h
  refine lv_aload_n S.1 S.2.1 dX7_input_0 rfl (lv_at hl 0 rfl) ?_
  refine lv_iload_n S.1 S.2.1 dX7_input_1 rfl (lv_at hl 1 rfl) ?_
  obtain ⟨_, h1, h⟩ := xb h
  obtain ⟨x3, h2, h⟩ := xb h
  refine xr_callV_i S w hA hN 8 rfl h1 (c_X7_isNode l D cy L g a0 a1 h2) (cwV 1 S.2.2.2.2 gX7_input_X7_isNode rfl rfl rfl (by decide +kernel) ⟨Nat.le_of_ble_eq_true rfl, Nat.le_of_ble_eq_true rfl⟩) rfl rfl hl.1 (Nat.le_of_ble_eq_true rfl) dX7_input_2 ⟨Nat.le_of_ble_eq_true rfl, Nat.le_of_ble_eq_true rfl⟩ (fun H locs w => ?_)
  by_cases c5 : x3 = 0
  · rw [if_pos c5] at h
    exact xr_need0 S hst w hA hN hZ gX7_input_X7_need ⟨Nat.le_of_ble_eq_true rfl, Nat.le_of_ble_eq_true rfl⟩ hl.1 (Nat.le_of_ble_eq_true rfl) dX7_input_5 ⟨Nat.le_of_ble_eq_true rfl, Nat.le_of_ble_eq_true rfl⟩ c5 (fun H locs q ce w hc hv hcl => out _ _ _ _ _ _ _ _ _ _ h w hc hv hcl ⟨Nat.le_of_ble_eq_true rfl, Nat.le_of_ble_eq_true rfl⟩)
  rw [if_neg c5] at h
  refine xr_need1 S hst w hA hN hZ gX7_input_X7_need ⟨Nat.le_of_ble_eq_true rfl, Nat.le_of_ble_eq_true rfl⟩ hl.1 (Nat.le_of_ble_eq_true rfl) dX7_input_5 ⟨Nat.le_of_ble_eq_true rfl, Nat.le_of_ble_eq_true rfl⟩ c5 (fun H locs w => ?_)
  refine lv_aload_n S.1 S.2.1 dX7_input_8 rfl (lv_at hl 0 rfl) ?_
  obtain ⟨x4, h5, h⟩ := xb h
  refine xr_getr S w 8 xi_X7_input_X7 rfl 1 (by decide) xl_X7_input_11 h5 dX7_input_9 ?_
  refine lv_iload_n S.1 S.2.1 dX7_input_12 rfl (lv_at hl 1 rfl) ?_
  obtain ⟨x6, h7, h⟩ := xb h
  refine xr_aald S w 5 "TellTale$Node" (fun _ => rfl) h7 dX7_input_13 ?_
  obtain ⟨x8, h9, h⟩ := xb h
  refine xr_getr S w 5 xi_X7_input_X4 rfl 2 (by decide) xl_X7_input_57 h9 dX7_input_14 ?_
  obtain ⟨_, h10, h⟩ := xb h
  obtain ⟨x12, h11, h⟩ := xb h
  refine xr_callV_i S w hA hN 3 rfl h10 (c_X2_hasTwoPlaces l D cy L g x8 h11) (cwV 0 S.2.2.2.2 gX7_input_X2_hasTwoPlaces rfl rfl rfl (by decide +kernel) ⟨Nat.le_of_ble_eq_true rfl, Nat.le_of_ble_eq_true rfl⟩) rfl rfl hl.1 (Nat.le_of_ble_eq_true rfl) dX7_input_17 ⟨Nat.le_of_ble_eq_true rfl, Nat.le_of_ble_eq_true rfl⟩ (fun H locs w => ?_)
  by_cases c20 : x12 = 0
  · rw [if_pos c20] at h
    exact xr_needState0 S hst w hA hN hZ gX7_input_X7_needState ⟨Nat.le_of_ble_eq_true rfl, Nat.le_of_ble_eq_true rfl⟩ hl.1 (Nat.le_of_ble_eq_true rfl) dX7_input_20 ⟨Nat.le_of_ble_eq_true rfl, Nat.le_of_ble_eq_true rfl⟩ c20 (fun H locs q ce w hc hv hcl => out _ _ _ _ _ _ _ _ _ _ h w hc hv hcl ⟨Nat.le_of_ble_eq_true rfl, Nat.le_of_ble_eq_true rfl⟩)
  rw [if_neg c20] at h
  refine xr_needState1 S hst w hA hN hZ gX7_input_X7_needState ⟨Nat.le_of_ble_eq_true rfl, Nat.le_of_ble_eq_true rfl⟩ hl.1 (Nat.le_of_ble_eq_true rfl) dX7_input_20 ⟨Nat.le_of_ble_eq_true rfl, Nat.le_of_ble_eq_true rfl⟩ c20 (fun H locs w => ?_)
  refine lv_aload_n S.1 S.2.1 dX7_input_23 rfl (lv_at hl 0 rfl) ?_
  obtain ⟨x13, h14, h⟩ := xb h
  refine xr_getr S w 8 xi_X7_input_X7 rfl 1 (by decide) xl_X7_input_11 h14 dX7_input_24 ?_
  refine lv_iload_n S.1 S.2.1 dX7_input_27 rfl (lv_at hl 1 rfl) ?_
  obtain ⟨x15, h16, h⟩ := xb h
  refine xr_aald S w 5 "TellTale$Node" (fun _ => rfl) h16 dX7_input_28 ?_
  obtain ⟨x17, h18, h⟩ := xb h
  refine xr_getr S w 5 xi_X7_input_X4 rfl 2 (by decide) xl_X7_input_57 h18 dX7_input_29 ?_
  refine lv_iconst (v := 1) S.1 S.2.1 dX7_input_32 (by decide) ?_
  refine lv_iconst (v := 0) S.1 S.2.1 dX7_input_33 (by decide) ?_
  refine lv_iload_n S.1 S.2.1 dX7_input_34 rfl (lv_at hl 2 rfl) ?_
  obtain ⟨_, h19, h⟩ := xb h
  obtain ⟨g21, h20, h⟩ := xb h
  refine xr_callV_v S w hA hN 3 rfl h19 (c_X2_append l D cy L g x17 1 0 a2 h20) (cwV 3 S.2.2.2.2 gX7_input_X2_append rfl rfl rfl (by decide +kernel) ⟨Nat.le_of_ble_eq_true rfl, Nat.le_of_ble_eq_true rfl⟩) rfl rfl hl.1 (Nat.le_of_ble_eq_true rfl) dX7_input_35 ⟨Nat.le_of_ble_eq_true rfl, Nat.le_of_ble_eq_true rfl⟩ (fun H locs w => ?_)
  refine lv_aload_n S.1 S.2.1 dX7_input_38 rfl (lv_at hl 0 rfl) ?_
  obtain ⟨x22, h23, h⟩ := xb h
  refine xr_getr S w 8 xi_X7_input_X7 rfl 1 (by decide) xl_X7_input_11 h23 dX7_input_39 ?_
  refine lv_iload_n S.1 S.2.1 dX7_input_42 rfl (lv_at hl 1 rfl) ?_
  obtain ⟨x24, h25, h⟩ := xb h
  refine xr_aald S w 5 "TellTale$Node" (fun _ => rfl) h25 dX7_input_43 ?_
  obtain ⟨x26, h27, h⟩ := xb h
  refine xr_getr S w 5 xi_X7_input_X4 rfl 1 (by decide) xl_X7_input_71 h27 dX7_input_44 ?_
  refine lv_iload_n S.1 S.2.1 dX7_input_47 rfl (lv_at hl 2 rfl) ?_
  obtain ⟨_, h28, h⟩ := xb h
  obtain ⟨g30, h29, h⟩ := xb h
  refine xr_callV_v S w hA hN 4 rfl h28 (c_X3_stepInput l D cy L g21 x26 a2 h29) (cwV 1 S.2.2.2.2 gX7_input_X3_stepInput rfl rfl rfl (by decide +kernel) ⟨Nat.le_of_ble_eq_true rfl, Nat.le_of_ble_eq_true rfl⟩) rfl rfl hl.1 (Nat.le_of_ble_eq_true rfl) dX7_input_48 ⟨Nat.le_of_ble_eq_true rfl, Nat.le_of_ble_eq_true rfl⟩ (fun H locs w => ?_)
  refine lv_aload_n S.1 S.2.1 dX7_input_51 rfl (lv_at hl 0 rfl) ?_
  refine lv_aload_n S.1 S.2.1 dX7_input_52 rfl (lv_at hl 0 rfl) ?_
  obtain ⟨x31, h32, h⟩ := xb h
  refine xr_getr S w 8 xi_X7_input_X7 rfl 1 (by decide) xl_X7_input_11 h32 dX7_input_53 ?_
  refine lv_iload_n S.1 S.2.1 dX7_input_56 rfl (lv_at hl 1 rfl) ?_
  obtain ⟨x33, h34, h⟩ := xb h
  refine xr_aald S w 5 "TellTale$Node" (fun _ => rfl) h34 dX7_input_57 ?_
  obtain ⟨_, h35, h⟩ := xb h
  obtain ⟨g37, h36, h⟩ := xb h
  refine xr_callV_v S w hA hN 8 rfl h35 (c_X7_sendWhatIsDue l D cy L g30 a0 x33 h36) (cwV 1 S.2.2.2.2 gX7_input_X7_sendWhatIsDue rfl rfl rfl (by decide +kernel) ⟨Nat.le_of_ble_eq_true rfl, Nat.le_of_ble_eq_true rfl⟩) rfl rfl hl.1 (Nat.le_of_ble_eq_true rfl) dX7_input_58 ⟨Nat.le_of_ble_eq_true rfl, Nat.le_of_ble_eq_true rfl⟩ (fun H locs w => ?_)
  refine lv_aload_n S.1 S.2.1 dX7_input_61 rfl (lv_at hl 0 rfl) ?_
  obtain ⟨x38, h39, h⟩ := xb h
  refine xr_getr S w 8 xi_X7_input_X7 rfl 1 (by decide) xl_X7_input_11 h39 dX7_input_62 ?_
  refine lv_iload_n S.1 S.2.1 dX7_input_65 rfl (lv_at hl 1 rfl) ?_
  obtain ⟨x40, h41, h⟩ := xb h
  refine xr_aald S w 5 "TellTale$Node" (fun _ => rfl) h41 dX7_input_66 ?_
  obtain ⟨x42, h43, h⟩ := xb h
  refine xr_getr S w 5 xi_X7_input_X4 rfl 2 (by decide) xl_X7_input_57 h43 dX7_input_67 ?_
  obtain ⟨x44, h45, h⟩ := xb h
  refine xr_geti S w 3 xi_X7_input_X2 rfl 0 (by decide) xl_X7_input_81 h45 dX7_input_70 ?_
  exact ret _ _ _ _ _ _ _ _ h w dX7_input_73 ⟨Nat.le_of_ble_eq_true rfl, Nat.le_of_ble_eq_true rfl⟩
theorem xi_X7_deliver_X7 : ∀ w ∈ wsX70, w ∈ wsX7_deliver := by decide +kernel
theorem xl_X7_deliver_18 : Cond.fieldLink RX7 18 (TX7 2).1 (TX7 2).2.1 (TX7 2).2.2.1 ∈ wsX7_deliver := by decide +kernel
theorem xi_X7_deliver_X1 : ∀ w ∈ wsX10, w ∈ wsX7_deliver := by decide +kernel
theorem xl_X7_deliver_92 : Cond.fieldLink RX7 92 (TX1 0).1 (TX1 0).2.1 (TX1 0).2.2.1 ∈ wsX7_deliver := by decide +kernel
def f_X7_deliver (g : xG) (a0 : Nat) (a1 : Int32) : Option (Nat ⊕ (Int32 × xG)) :=
  (xk g 8 a0).bind fun _ =>
  (f_X7_isLetter g a0 a1).bind fun x3 =>
  if x3 = 0 then
    some (.inl 1)
  else
  (xg_r g 8 a0 2).bind fun x4 =>
  (xk g 6 x4).bind fun _ =>
  x2 (f_X5_takeOut g x4 a1) fun x8 g9 =>
  (xg_i g9 2 x8 0).bind fun x10 =>
  if x10 = 1 then
    (xk g9 8 a0).bind fun _ =>
    x2 (f_X7_takeMessage g9 a0 x8) fun x20 g21 =>
    (xz x20).bind fun x23 =>
    some (.inr (x23, g21))
  else
    (xk g9 8 a0).bind fun _ =>
    x2 (f_X7_takeNote g9 a0 x8) fun x14 g15 =>
    (xz x14).bind fun x17 =>
    some (.inr (x17, g15))
set_option maxHeartbeats 4000000 in
set_option maxRecDepth 100000 in
theorem c_X7_deliver (l : Launch) (hst : l.stackTraces = false) (D : va_G) (cy : Nat → ClassId) (L : List Nat) (g : xG) (a0 : Nat) (a1 : Int32) {o : (Nat ⊕ (Int32 × xG))} (h : f_X7_deliver g a0 a1 = some o) : xXi l yX7_deliver wsX7_deliver ({ frames := 7, cells := 1, slots := 6, locals := 144 }) D cy L g [.ref a0, .int a1] o 1 6 := by
  refine xmx_z hst (cc := cX7_deliver) (maxL := 3) RX7 rfl rfl rfl (by decide +kernel) rfl (Nat.le_of_ble_eq_true rfl) ?_
  intro p e s m args below meth c Q A S w hA hN hZ ret out thr ls hl
  have hl : lv_has ls 3 [(0, .ref a0), (1, .int a1)] := hl
  rw [f_X7_deliver] at h
  refine lv_aload_n S.1 S.2.1 dX7_deliver_0 rfl (lv_at hl 0 rfl) ?_
  refine lv_iload_n S.1 S.2.1 dX7_deliver_1 rfl (lv_at hl 1 rfl) ?_
  obtain ⟨_, h1, h⟩ := xb h
  obtain ⟨x3, h2, h⟩ := xb h
  refine xr_callV_i S w hA hN 8 rfl h1 (c_X7_isLetter l D cy L g a0 a1 h2) (cwV 1 S.2.2.2.2 gX7_deliver_X7_isLetter rfl rfl rfl (by decide +kernel) ⟨Nat.le_of_ble_eq_true rfl, Nat.le_of_ble_eq_true rfl⟩) rfl rfl hl.1 (Nat.le_of_ble_eq_true rfl) dX7_deliver_2 ⟨Nat.le_of_ble_eq_true rfl, Nat.le_of_ble_eq_true rfl⟩ (fun H locs w => ?_)
  by_cases c5 : x3 = 0
  · rw [if_pos c5] at h
    exact xr_need0 S hst w hA hN hZ gX7_deliver_X7_need ⟨Nat.le_of_ble_eq_true rfl, Nat.le_of_ble_eq_true rfl⟩ hl.1 (Nat.le_of_ble_eq_true rfl) dX7_deliver_5 ⟨Nat.le_of_ble_eq_true rfl, Nat.le_of_ble_eq_true rfl⟩ c5 (fun H locs q ce w hc hv hcl => out _ _ _ _ _ _ _ _ _ _ h w hc hv hcl ⟨Nat.le_of_ble_eq_true rfl, Nat.le_of_ble_eq_true rfl⟩)
  rw [if_neg c5] at h
  refine xr_need1 S hst w hA hN hZ gX7_deliver_X7_need ⟨Nat.le_of_ble_eq_true rfl, Nat.le_of_ble_eq_true rfl⟩ hl.1 (Nat.le_of_ble_eq_true rfl) dX7_deliver_5 ⟨Nat.le_of_ble_eq_true rfl, Nat.le_of_ble_eq_true rfl⟩ c5 (fun H locs w => ?_)
  refine lv_aload_n S.1 S.2.1 dX7_deliver_8 rfl (lv_at hl 0 rfl) ?_
  obtain ⟨x4, h5, h⟩ := xb h
  refine xr_getr S w 8 xi_X7_deliver_X7 rfl 2 (by decide) xl_X7_deliver_18 h5 dX7_deliver_9 ?_
  refine lv_iload_n S.1 S.2.1 dX7_deliver_12 rfl (lv_at hl 1 rfl) ?_
  obtain ⟨_, h6, h⟩ := xb h
  obtain ⟨x8, g9, h7, h⟩ := x2b h
  refine xr_callV_r S w hA hN 6 rfl h6 (c_X5_takeOut l D cy L g x4 a1 h7) (cwV 1 S.2.2.2.2 gX7_deliver_X5_takeOut rfl rfl rfl (by decide +kernel) ⟨Nat.le_of_ble_eq_true rfl, Nat.le_of_ble_eq_true rfl⟩) rfl rfl hl.1 (Nat.le_of_ble_eq_true rfl) dX7_deliver_13 ⟨Nat.le_of_ble_eq_true rfl, Nat.le_of_ble_eq_true rfl⟩ (fun H locs w => ?_)
  refine lv_astore_n (lv' := [(2, .ref x8), (0, .ref a0), (1, .int a1)]) S.1 S.2.1 dX7_deliver_16 rfl hl (by decide) rfl (fun ls hl => ?_)
  refine lv_aload_n S.1 S.2.1 dX7_deliver_17 rfl (lv_at hl 0 rfl) ?_
  obtain ⟨x10, h11, h⟩ := xb h
  refine xr_geti S w 2 xi_X7_deliver_X1 rfl 0 (by decide) xl_X7_deliver_92 h11 dX7_deliver_18 ?_
  refine lv_iconst (v := 1) S.1 S.2.1 dX7_deliver_21 (by decide) ?_
  refine lv_icmp_ne (tgt := 33) S.1 S.2.1 dX7_deliver_22 (by decide) (fun c22 => ?_) (fun c22 => ?_)
  · rw [if_neg c22] at h
    refine lv_aload_n S.1 S.2.1 dX7_deliver_33 rfl (lv_at hl 1 rfl) ?_
    refine lv_aload_n S.1 S.2.1 dX7_deliver_34 rfl (lv_at hl 0 rfl) ?_
    obtain ⟨_, h12, h⟩ := xb h
    obtain ⟨x14, g15, h13, h⟩ := x2b h
    refine xr_callV_i S w hA hN 8 rfl h12 (c_X7_takeNote l D cy L g9 a0 x8 h13) (cwV 1 S.2.2.2.2 gX7_deliver_X7_takeNote rfl rfl rfl (by decide +kernel) ⟨Nat.le_of_ble_eq_true rfl, Nat.le_of_ble_eq_true rfl⟩) rfl rfl hl.1 (Nat.le_of_ble_eq_true rfl) dX7_deliver_35 ⟨Nat.le_of_ble_eq_true rfl, Nat.le_of_ble_eq_true rfl⟩ (fun H locs w => ?_)
    obtain ⟨x17, h16, h⟩ := xb h
    exact ret _ _ _ _ _ _ x14 x17 _ h16 h w dX7_deliver_38 ⟨Nat.le_of_ble_eq_true rfl, Nat.le_of_ble_eq_true rfl⟩
  · rw [if_pos c22] at h
    refine lv_aload_n S.1 S.2.1 dX7_deliver_25 rfl (lv_at hl 1 rfl) ?_
    refine lv_aload_n S.1 S.2.1 dX7_deliver_26 rfl (lv_at hl 0 rfl) ?_
    obtain ⟨_, h18, h⟩ := xb h
    obtain ⟨x20, g21, h19, h⟩ := x2b h
    refine xr_callV_i S w hA hN 8 rfl h18 (c_X7_takeMessage l D cy L g9 a0 x8 h19) (cwV 1 S.2.2.2.2 gX7_deliver_X7_takeMessage rfl rfl rfl (by decide +kernel) ⟨Nat.le_of_ble_eq_true rfl, Nat.le_of_ble_eq_true rfl⟩) rfl rfl hl.1 (Nat.le_of_ble_eq_true rfl) dX7_deliver_27 ⟨Nat.le_of_ble_eq_true rfl, Nat.le_of_ble_eq_true rfl⟩ (fun H locs w => ?_)
    refine lv_goto (tgt := 38) S.1 S.2.1 dX7_deliver_30 (by decide) ?_
    obtain ⟨x23, h22, h⟩ := xb h
    exact ret _ _ _ _ _ _ x20 x23 _ h22 h w dX7_deliver_38 ⟨Nat.le_of_ble_eq_true rfl, Nat.le_of_ble_eq_true rfl⟩
theorem xi_X7_drop_X7 : ∀ w ∈ wsX70, w ∈ wsX7_drop := by decide +kernel
theorem xl_X7_drop_18 : Cond.fieldLink RX7 18 (TX7 2).1 (TX7 2).2.1 (TX7 2).2.2.1 ∈ wsX7_drop := by decide +kernel
theorem xi_X7_drop_X1 : ∀ w ∈ wsX10, w ∈ wsX7_drop := by decide +kernel
theorem xl_X7_drop_92 : Cond.fieldLink RX7 92 (TX1 0).1 (TX1 0).2.1 (TX1 0).2.2.1 ∈ wsX7_drop := by decide +kernel
def f_X7_drop (g : xG) (a0 : Nat) (a1 : Int32) : Option (Nat ⊕ (Int32 × xG)) :=
  (xk g 8 a0).bind fun _ =>
  (f_X7_isLetter g a0 a1).bind fun x3 =>
  if x3 = 0 then
    some (.inl 1)
  else
  (xg_r g 8 a0 2).bind fun x4 =>
  (xk g 6 x4).bind fun _ =>
  x2 (f_X5_takeOut g x4 a1) fun x8 g9 =>
  (xg_i g9 2 x8 0).bind fun x10 =>
  some (.inr (x10, g9))
set_option maxHeartbeats 4000000 in
set_option maxRecDepth 100000 in
theorem c_X7_drop (l : Launch) (hst : l.stackTraces = false) (D : va_G) (cy : Nat → ClassId) (L : List Nat) (g : xG) (a0 : Nat) (a1 : Int32) {o : (Nat ⊕ (Int32 × xG))} (h : f_X7_drop g a0 a1 = some o) : xXi l yX7_drop wsX7_drop ({ frames := 7, cells := 1, slots := 6, locals := 110 }) D cy L g [.ref a0, .int a1] o 1 6 := by
  refine xmx_i hst (cc := cX7_drop) (maxL := 2) RX7 rfl rfl rfl (by decide +kernel) rfl (Nat.le_of_ble_eq_true rfl) ?_
  intro p e s m args below meth c Q A S w hA hN hZ ret out thr ls hl
  have hl : lv_has ls 2 [(0, .ref a0), (1, .int a1)] := hl
  rw [f_X7_drop] at h
  refine lv_aload_n S.1 S.2.1 dX7_drop_0 rfl (lv_at hl 0 rfl) ?_
  refine lv_iload_n S.1 S.2.1 dX7_drop_1 rfl (lv_at hl 1 rfl) ?_
  obtain ⟨_, h1, h⟩ := xb h
  obtain ⟨x3, h2, h⟩ := xb h
  refine xr_callV_i S w hA hN 8 rfl h1 (c_X7_isLetter l D cy L g a0 a1 h2) (cwV 1 S.2.2.2.2 gX7_drop_X7_isLetter rfl rfl rfl (by decide +kernel) ⟨Nat.le_of_ble_eq_true rfl, Nat.le_of_ble_eq_true rfl⟩) rfl rfl hl.1 (Nat.le_of_ble_eq_true rfl) dX7_drop_2 ⟨Nat.le_of_ble_eq_true rfl, Nat.le_of_ble_eq_true rfl⟩ (fun H locs w => ?_)
  by_cases c5 : x3 = 0
  · rw [if_pos c5] at h
    exact xr_need0 S hst w hA hN hZ gX7_drop_X7_need ⟨Nat.le_of_ble_eq_true rfl, Nat.le_of_ble_eq_true rfl⟩ hl.1 (Nat.le_of_ble_eq_true rfl) dX7_drop_5 ⟨Nat.le_of_ble_eq_true rfl, Nat.le_of_ble_eq_true rfl⟩ c5 (fun H locs q ce w hc hv hcl => out _ _ _ _ _ _ _ _ _ _ h w hc hv hcl ⟨Nat.le_of_ble_eq_true rfl, Nat.le_of_ble_eq_true rfl⟩)
  rw [if_neg c5] at h
  refine xr_need1 S hst w hA hN hZ gX7_drop_X7_need ⟨Nat.le_of_ble_eq_true rfl, Nat.le_of_ble_eq_true rfl⟩ hl.1 (Nat.le_of_ble_eq_true rfl) dX7_drop_5 ⟨Nat.le_of_ble_eq_true rfl, Nat.le_of_ble_eq_true rfl⟩ c5 (fun H locs w => ?_)
  refine lv_aload_n S.1 S.2.1 dX7_drop_8 rfl (lv_at hl 0 rfl) ?_
  obtain ⟨x4, h5, h⟩ := xb h
  refine xr_getr S w 8 xi_X7_drop_X7 rfl 2 (by decide) xl_X7_drop_18 h5 dX7_drop_9 ?_
  refine lv_iload_n S.1 S.2.1 dX7_drop_12 rfl (lv_at hl 1 rfl) ?_
  obtain ⟨_, h6, h⟩ := xb h
  obtain ⟨x8, g9, h7, h⟩ := x2b h
  refine xr_callV_r S w hA hN 6 rfl h6 (c_X5_takeOut l D cy L g x4 a1 h7) (cwV 1 S.2.2.2.2 gX7_drop_X5_takeOut rfl rfl rfl (by decide +kernel) ⟨Nat.le_of_ble_eq_true rfl, Nat.le_of_ble_eq_true rfl⟩) rfl rfl hl.1 (Nat.le_of_ble_eq_true rfl) dX7_drop_13 ⟨Nat.le_of_ble_eq_true rfl, Nat.le_of_ble_eq_true rfl⟩ (fun H locs w => ?_)
  obtain ⟨x10, h11, h⟩ := xb h
  refine xr_geti S w 2 xi_X7_drop_X1 rfl 0 (by decide) xl_X7_drop_92 h11 dX7_drop_16 ?_
  exact ret _ _ _ _ _ _ _ _ h w dX7_drop_19 ⟨Nat.le_of_ble_eq_true rfl, Nat.le_of_ble_eq_true rfl⟩
theorem xi_X7_copy_X7 : ∀ w ∈ wsX70, w ∈ wsX7_copy := by decide +kernel
theorem xl_X7_copy_18 : Cond.fieldLink RX7 18 (TX7 2).1 (TX7 2).2.1 (TX7 2).2.2.1 ∈ wsX7_copy := by decide +kernel
def f_X7_copy (g : xG) (a0 : Nat) (a1 : Int32) : Option (Nat ⊕ (Int32 × xG)) :=
  (xk g 8 a0).bind fun _ =>
  (f_X7_isLetter g a0 a1).bind fun x3 =>
  if x3 = 0 then
    some (.inl 1)
  else
  (xg_r g 8 a0 2).bind fun x4 =>
  (xk g 6 x4).bind fun _ =>
  x2 (f_X5_repeat g x4 a1) fun x8 g9 =>
  (xz x8).bind fun x11 =>
  some (.inr (x11, g9))
set_option maxHeartbeats 4000000 in
set_option maxRecDepth 100000 in
theorem c_X7_copy (l : Launch) (hst : l.stackTraces = false) (D : va_G) (cy : Nat → ClassId) (L : List Nat) (g : xG) (a0 : Nat) (a1 : Int32) {o : (Nat ⊕ (Int32 × xG))} (h : f_X7_copy g a0 a1 = some o) : xXi l yX7_copy wsX7_copy ({ frames := 7, cells := 1, slots := 6, locals := 110 }) D cy L g [.ref a0, .int a1] o 1 6 := by
  refine xmx_z hst (cc := cX7_copy) (maxL := 2) RX7 rfl rfl rfl (by decide +kernel) rfl (Nat.le_of_ble_eq_true rfl) ?_
  intro p e s m args below meth c Q A S w hA hN hZ ret out thr ls hl
  have hl : lv_has ls 2 [(0, .ref a0), (1, .int a1)] := hl
  rw [f_X7_copy] at h
  refine lv_aload_n S.1 S.2.1 dX7_copy_0 rfl (lv_at hl 0 rfl) ?_
  refine lv_iload_n S.1 S.2.1 dX7_copy_1 rfl (lv_at hl 1 rfl) ?_
  obtain ⟨_, h1, h⟩ := xb h
  obtain ⟨x3, h2, h⟩ := xb h
  refine xr_callV_i S w hA hN 8 rfl h1 (c_X7_isLetter l D cy L g a0 a1 h2) (cwV 1 S.2.2.2.2 gX7_copy_X7_isLetter rfl rfl rfl (by decide +kernel) ⟨Nat.le_of_ble_eq_true rfl, Nat.le_of_ble_eq_true rfl⟩) rfl rfl hl.1 (Nat.le_of_ble_eq_true rfl) dX7_copy_2 ⟨Nat.le_of_ble_eq_true rfl, Nat.le_of_ble_eq_true rfl⟩ (fun H locs w => ?_)
  by_cases c5 : x3 = 0
  · rw [if_pos c5] at h
    exact xr_need0 S hst w hA hN hZ gX7_copy_X7_need ⟨Nat.le_of_ble_eq_true rfl, Nat.le_of_ble_eq_true rfl⟩ hl.1 (Nat.le_of_ble_eq_true rfl) dX7_copy_5 ⟨Nat.le_of_ble_eq_true rfl, Nat.le_of_ble_eq_true rfl⟩ c5 (fun H locs q ce w hc hv hcl => out _ _ _ _ _ _ _ _ _ _ h w hc hv hcl ⟨Nat.le_of_ble_eq_true rfl, Nat.le_of_ble_eq_true rfl⟩)
  rw [if_neg c5] at h
  refine xr_need1 S hst w hA hN hZ gX7_copy_X7_need ⟨Nat.le_of_ble_eq_true rfl, Nat.le_of_ble_eq_true rfl⟩ hl.1 (Nat.le_of_ble_eq_true rfl) dX7_copy_5 ⟨Nat.le_of_ble_eq_true rfl, Nat.le_of_ble_eq_true rfl⟩ c5 (fun H locs w => ?_)
  refine lv_aload_n S.1 S.2.1 dX7_copy_8 rfl (lv_at hl 0 rfl) ?_
  obtain ⟨x4, h5, h⟩ := xb h
  refine xr_getr S w 8 xi_X7_copy_X7 rfl 2 (by decide) xl_X7_copy_18 h5 dX7_copy_9 ?_
  refine lv_iload_n S.1 S.2.1 dX7_copy_12 rfl (lv_at hl 1 rfl) ?_
  obtain ⟨_, h6, h⟩ := xb h
  obtain ⟨x8, g9, h7, h⟩ := x2b h
  refine xr_callV_i S w hA hN 6 rfl h6 (c_X5_repeat l D cy L g x4 a1 h7) (cwV 1 S.2.2.2.2 gX7_copy_X5_repeat rfl rfl rfl (by decide +kernel) ⟨Nat.le_of_ble_eq_true rfl, Nat.le_of_ble_eq_true rfl⟩) rfl rfl hl.1 (Nat.le_of_ble_eq_true rfl) dX7_copy_13 ⟨Nat.le_of_ble_eq_true rfl, Nat.le_of_ble_eq_true rfl⟩ (fun H locs w => ?_)
  obtain ⟨x11, h10, h⟩ := xb h
  exact ret _ _ _ _ _ _ x8 x11 _ h10 h w dX7_copy_16 ⟨Nat.le_of_ble_eq_true rfl, Nat.le_of_ble_eq_true rfl⟩
theorem xi_X7_spoil_X7 : ∀ w ∈ wsX70, w ∈ wsX7_spoil := by decide +kernel
theorem xl_X7_spoil_18 : Cond.fieldLink RX7 18 (TX7 2).1 (TX7 2).2.1 (TX7 2).2.2.1 ∈ wsX7_spoil := by decide +kernel
theorem xi_X7_spoil_X5 : ∀ w ∈ wsX50, w ∈ wsX7_spoil := by decide +kernel
theorem xl_X7_spoil_107 : Cond.fieldLink RX7 107 (TX5 2).1 (TX5 2).2.1 (TX5 2).2.2.1 ∈ wsX7_spoil := by decide +kernel
theorem xi_X7_spoil_X1 : ∀ w ∈ wsX10, w ∈ wsX7_spoil := by decide +kernel
theorem xl_X7_spoil_92 : Cond.fieldLink RX7 92 (TX1 0).1 (TX1 0).2.1 (TX1 0).2.2.1 ∈ wsX7_spoil := by decide +kernel
theorem xl_X7_spoil_111 : Cond.fieldLink RX7 111 (TX1 3).1 (TX1 3).2.1 (TX1 3).2.2.1 ∈ wsX7_spoil := by decide +kernel
def f_X7_spoil (g : xG) (a0 : Nat) (a1 : Int32) (a2 : Int32) : Option (Nat ⊕ (Int32 × xG)) :=
  (xk g 8 a0).bind fun _ =>
  (f_X7_isLetter g a0 a1).bind fun x3 =>
  if x3 = 0 then
    some (.inl 1)
  else
    (xg_r g 8 a0 2).bind fun x4 =>
    (xg_r g 6 x4 2).bind fun x6 =>
    (xa_r 4 g x6 a1).bind fun x8 =>
    (xg_i g 2 x8 0).bind fun x10 =>
    if x10 = 1 then
      (xg_r g 8 a0 2).bind fun x12 =>
      (xg_r g 6 x12 2).bind fun x14 =>
      (xa_r 4 g x14 a1).bind fun x16 =>
      (xg_i g 2 x16 3).bind fun x18 =>
      (xg_r g 8 a0 2).bind fun x20 =>
      (xg_r g 6 x20 2).bind fun x22 =>
      (xa_r 4 g x22 a1).bind fun x24 =>
      (xp_i g 2 x24 3 a2).bind fun g26 =>
      some (.inr (x18, g26))
    else
      some (.inl 1)
set_option maxHeartbeats 4000000 in
set_option maxRecDepth 100000 in
theorem c_X7_spoil (l : Launch) (hst : l.stackTraces = false) (D : va_G) (cy : Nat → ClassId) (L : List Nat) (g : xG) (a0 : Nat) (a1 : Int32) (a2 : Int32) {o : (Nat ⊕ (Int32 × xG))} (h : f_X7_spoil g a0 a1 a2 = some o) : xXi l yX7_spoil wsX7_spoil ({ frames := 7, cells := 1, slots := 6, locals := 110 }) D cy L g [.ref a0, .int a1, .int a2] o 1 6 := by
  refine xmx_i hst (cc := cX7_spoil) (maxL := 4) RX7 rfl rfl rfl (by decide +kernel) rfl (Nat.le_of_ble_eq_true rfl) ?_
  intro p e s m args below meth c Q A S w hA hN hZ ret out thr ls hl
  have hl : lv_has ls 4 [(0, .ref a0), (1, .int a1), (2, .int a2)] := hl
  rw [f_X7_spoil] at h
  refine lv_aload_n S.1 S.2.1 dX7_spoil_0 rfl (lv_at hl 0 rfl) ?_
  refine lv_iload_n S.1 S.2.1 dX7_spoil_1 rfl (lv_at hl 1 rfl) ?_
  obtain ⟨_, h1, h⟩ := xb h
  obtain ⟨x3, h2, h⟩ := xb h
  refine xr_callV_i S w hA hN 8 rfl h1 (c_X7_isLetter l D cy L g a0 a1 h2) (cwV 1 S.2.2.2.2 gX7_spoil_X7_isLetter rfl rfl rfl (by decide +kernel) ⟨Nat.le_of_ble_eq_true rfl, Nat.le_of_ble_eq_true rfl⟩) rfl rfl hl.1 (Nat.le_of_ble_eq_true rfl) dX7_spoil_2 ⟨Nat.le_of_ble_eq_true rfl, Nat.le_of_ble_eq_true rfl⟩ (fun H locs w => ?_)
  refine lv_if_eq (tgt := 28) S.1 S.2.1 dX7_spoil_5 (by decide) (fun c5 => ?_) (fun c5 => ?_)
  · rw [if_pos c5] at h
    refine lv_iconst (v := 0) S.1 S.2.1 dX7_spoil_28 (by decide) ?_
    exact xr_need0 S hst w hA hN hZ gX7_spoil_X7_need ⟨Nat.le_of_ble_eq_true rfl, Nat.le_of_ble_eq_true rfl⟩ hl.1 (Nat.le_of_ble_eq_true rfl) dX7_spoil_29 ⟨Nat.le_of_ble_eq_true rfl, Nat.le_of_ble_eq_true rfl⟩ (by decide) (fun H locs q ce w hc hv hcl => out _ _ _ _ _ _ _ _ _ _ h w hc hv hcl ⟨Nat.le_of_ble_eq_true rfl, Nat.le_of_ble_eq_true rfl⟩)
  · rw [if_neg c5] at h
    refine lv_aload_n S.1 S.2.1 dX7_spoil_8 rfl (lv_at hl 0 rfl) ?_
    obtain ⟨x4, h5, h⟩ := xb h
    refine xr_getr S w 8 xi_X7_spoil_X7 rfl 2 (by decide) xl_X7_spoil_18 h5 dX7_spoil_9 ?_
    obtain ⟨x6, h7, h⟩ := xb h
    refine xr_getr S w 6 xi_X7_spoil_X5 rfl 2 (by decide) xl_X7_spoil_107 h7 dX7_spoil_12 ?_
    refine lv_iload_n S.1 S.2.1 dX7_spoil_15 rfl (lv_at hl 1 rfl) ?_
    obtain ⟨x8, h9, h⟩ := xb h
    refine xr_aald S w 4 "TellTale$Letter" (fun _ => rfl) h9 dX7_spoil_16 ?_
    obtain ⟨x10, h11, h⟩ := xb h
    refine xr_geti S w 2 xi_X7_spoil_X1 rfl 0 (by decide) xl_X7_spoil_92 h11 dX7_spoil_17 ?_
    refine lv_iconst (v := 1) S.1 S.2.1 dX7_spoil_20 (by decide) ?_
    refine lv_icmp_ne (tgt := 28) S.1 S.2.1 dX7_spoil_21 (by decide) (fun c21 => ?_) (fun c21 => ?_)
    · rw [if_neg c21] at h
      refine lv_iconst (v := 0) S.1 S.2.1 dX7_spoil_28 (by decide) ?_
      exact xr_need0 S hst w hA hN hZ gX7_spoil_X7_need ⟨Nat.le_of_ble_eq_true rfl, Nat.le_of_ble_eq_true rfl⟩ hl.1 (Nat.le_of_ble_eq_true rfl) dX7_spoil_29 ⟨Nat.le_of_ble_eq_true rfl, Nat.le_of_ble_eq_true rfl⟩ (by decide) (fun H locs q ce w hc hv hcl => out _ _ _ _ _ _ _ _ _ _ h w hc hv hcl ⟨Nat.le_of_ble_eq_true rfl, Nat.le_of_ble_eq_true rfl⟩)
    · rw [if_pos c21] at h
      refine lv_iconst (v := 1) S.1 S.2.1 dX7_spoil_24 (by decide) ?_
      refine lv_goto (tgt := 29) S.1 S.2.1 dX7_spoil_25 (by decide) ?_
      refine xr_need1 S hst w hA hN hZ gX7_spoil_X7_need ⟨Nat.le_of_ble_eq_true rfl, Nat.le_of_ble_eq_true rfl⟩ hl.1 (Nat.le_of_ble_eq_true rfl) dX7_spoil_29 ⟨Nat.le_of_ble_eq_true rfl, Nat.le_of_ble_eq_true rfl⟩ (by decide) (fun H locs w => ?_)
      refine lv_aload_n S.1 S.2.1 dX7_spoil_32 rfl (lv_at hl 0 rfl) ?_
      obtain ⟨x12, h13, h⟩ := xb h
      refine xr_getr S w 8 xi_X7_spoil_X7 rfl 2 (by decide) xl_X7_spoil_18 h13 dX7_spoil_33 ?_
      obtain ⟨x14, h15, h⟩ := xb h
      refine xr_getr S w 6 xi_X7_spoil_X5 rfl 2 (by decide) xl_X7_spoil_107 h15 dX7_spoil_36 ?_
      refine lv_iload_n S.1 S.2.1 dX7_spoil_39 rfl (lv_at hl 1 rfl) ?_
      obtain ⟨x16, h17, h⟩ := xb h
      refine xr_aald S w 4 "TellTale$Letter" (fun _ => rfl) h17 dX7_spoil_40 ?_
      obtain ⟨x18, h19, h⟩ := xb h
      refine xr_geti S w 2 xi_X7_spoil_X1 rfl 3 (by decide) xl_X7_spoil_111 h19 dX7_spoil_41 ?_
      refine lv_istore_n (lv' := [(3, .int x18), (0, .ref a0), (1, .int a1), (2, .int a2)]) S.1 S.2.1 dX7_spoil_44 rfl hl (by decide) rfl (fun ls hl => ?_)
      refine lv_aload_n S.1 S.2.1 dX7_spoil_45 rfl (lv_at hl 1 rfl) ?_
      obtain ⟨x20, h21, h⟩ := xb h
      refine xr_getr S w 8 xi_X7_spoil_X7 rfl 2 (by decide) xl_X7_spoil_18 h21 dX7_spoil_46 ?_
      obtain ⟨x22, h23, h⟩ := xb h
      refine xr_getr S w 6 xi_X7_spoil_X5 rfl 2 (by decide) xl_X7_spoil_107 h23 dX7_spoil_49 ?_
      refine lv_iload_n S.1 S.2.1 dX7_spoil_52 rfl (lv_at hl 2 rfl) ?_
      obtain ⟨x24, h25, h⟩ := xb h
      refine xr_aald S w 4 "TellTale$Letter" (fun _ => rfl) h25 dX7_spoil_53 ?_
      refine lv_iload_n S.1 S.2.1 dX7_spoil_54 rfl (lv_at hl 3 rfl) ?_
      obtain ⟨g26, h27, h⟩ := xb h
      refine xr_puti S w 2 xi_X7_spoil_X1 rfl tyX1 tyX1_ok nmX1 3 (by decide) xl_X7_spoil_111 rfl (tyX1_ok 3 (by decide)) h27 dX7_spoil_55 (fun H locs w => ?_)
      refine lv_iload_n S.1 S.2.1 dX7_spoil_58 rfl (lv_at hl 0 rfl) ?_
      exact ret _ _ _ _ _ _ _ _ h w dX7_spoil_59 ⟨Nat.le_of_ble_eq_true rfl, Nat.le_of_ble_eq_true rfl⟩
theorem xi_X7_forward_X6 : ∀ w ∈ wsX60, w ∈ wsX7_forward := by decide +kernel
theorem xl_X7_forward_118 : Cond.fieldLink RX7 118 (TX6 0).1 (TX6 0).2.1 (TX6 0).2.2.1 ∈ wsX7_forward := by decide +kernel
theorem xl_X7_forward_121 : Cond.fieldLink RX7 121 (TX6 4).1 (TX6 4).2.1 (TX6 4).2.2.1 ∈ wsX7_forward := by decide +kernel
theorem xi_X7_forward_X7 : ∀ w ∈ wsX70, w ∈ wsX7_forward := by decide +kernel
theorem xl_X7_forward_11 : Cond.fieldLink RX7 11 (TX7 1).1 (TX7 1).2.1 (TX7 1).2.2.1 ∈ wsX7_forward := by decide +kernel
theorem xi_X7_forward_X4 : ∀ w ∈ wsX40, w ∈ wsX7_forward := by decide +kernel
theorem xl_X7_forward_114 : Cond.fieldLink RX7 114 (TX4 3).1 (TX4 3).2.1 (TX4 3).2.2.1 ∈ wsX7_forward := by decide +kernel
def f_X7_forward_23 : Nat → xG → Nat → Int32 → Nat → Int32 → Int32 → Option (Nat ⊕ (Int32 × xG))
  | 0, _, _, _, _, _, _ => none
  | n9 + 1, g, v0, v1, v2, v3, v4 =>
  (xg_i g 7 v2 0).bind fun x1 =>
  if x1 ≤ v4 then
    some (.inr (v3, g))
  else
    (xg_r g 7 v2 4).bind fun x3 =>
    (xa_i 3 g x3 v4).bind fun x5 =>
    if x5 = 0 then
      (xg_r g 7 v2 4).bind fun x7 =>
      (xs_i 3 g x7 v4 1).bind fun g9 =>
      (xk g9 8 v0).bind fun _ =>
      x2 (f_X7_sendNote g9 v0 v1 v2 v4 1) fun x13 g14 =>
      (xk g14 8 v0).bind fun _ =>
      x2 (f_X7_sendNote g14 v0 v1 v2 v4 2) fun x17 g18 =>
      f_X7_forward_23 n9 g18 v0 v1 v2 (v3 + (x13 + x17)) (v4 + 1)
    else
      f_X7_forward_23 n9 g v0 v1 v2 v3 (v4 + 1)
def f_X7_forward (g : xG) (a0 : Nat) (a1 : Int32) : Option (Nat ⊕ (Int32 × xG)) :=
  (xk g 8 a0).bind fun _ =>
  (f_X7_isNode g a0 a1).bind fun x21 =>
  if x21 = 0 then
    some (.inl 1)
  else
  (xg_r g 8 a0 1).bind fun x22 =>
  (xa_r 5 g x22 a1).bind fun x24 =>
  (xg_r g 5 x24 3).bind fun x26 =>
  f_X7_forward_23 xFU g a0 a1 x26 0 0
set_option maxHeartbeats 4000000 in
set_option maxRecDepth 100000 in
theorem c_X7_forward (l : Launch) (hst : l.stackTraces = false) (D : va_G) (cy : Nat → ClassId) (L : List Nat) (g : xG) (a0 : Nat) (a1 : Int32) {o : (Nat ⊕ (Int32 × xG))} (h : f_X7_forward g a0 a1 = some o) : xXi l yX7_forward wsX7_forward ({ frames := 7, cells := 1, slots := 6, locals := 110 }) D cy L g [.ref a0, .int a1] o 1 6 := by
  refine xmx_i hst (cc := cX7_forward) (maxL := 5) RX7 rfl rfl rfl (by decide +kernel) rfl (Nat.le_of_ble_eq_true rfl) ?_
  intro p e s m args below meth c Q A S w hA hN hZ ret out thr ls hl
  have hl : lv_has ls 5 [(0, .ref a0), (1, .int a1)] := hl
  obtain ⟨rr, hrr⟩ : ∃ z, z = o := ⟨_, rfl⟩
  rw [← hrr] at h
  have hb23 : ∀ (n9 : Nat), ∀ (g : xG) (v0 : Nat) (v1 : Int32) (v2 : Nat) (v3 : Int32) (v4 : Int32) , f_X7_forward_23 n9 g v0 v1 v2 v3 v4 = some rr → ∀ (H : Heap) (locs : List Loc) (ls : Array Slot), xOK D cy A s.heap s L g H locs → lv_has ls 5 [(0, .ref v0), (1, .int v1), (2, .ref v2), (3, .int v3), (4, .int v4)] → W p l e { frames := 7, cells := 1, slots := 6, locals := 110 } s m args below meth c H locs (0 + 1) (0 + 6) Q (F0 m 23 ls []) := by
    intro n9
    induction n9 with
    | zero => intro g v0 v1 v2 v3 v4 h; cases h
    | succ n9 ih =>
      intro g v0 v1 v2 v3 v4 h H locs ls w hl
      rw [f_X7_forward_23] at h
      refine lv_iload S.1 S.2.1 dX7_forward_23 (lv_at hl 4 rfl) ?_
      refine lv_aload_n S.1 S.2.1 dX7_forward_25 rfl (lv_at hl 2 rfl) ?_
      obtain ⟨x1, h2, h⟩ := xb h
      refine xr_geti S w 7 xi_X7_forward_X6 rfl 0 (by decide) xl_X7_forward_118 h2 dX7_forward_26 ?_
      refine lv_icmp_ge (tgt := 78) S.1 S.2.1 dX7_forward_29 (by decide) (fun c29 => ?_) (fun c29 => ?_)
      · rw [if_pos c29] at h
        refine lv_iload_n S.1 S.2.1 dX7_forward_78 rfl (lv_at hl 3 rfl) ?_
        exact ret _ _ _ _ _ _ _ _ (h.trans (congrArg some hrr)) w dX7_forward_79 ⟨Nat.le_of_ble_eq_true rfl, Nat.le_of_ble_eq_true rfl⟩
      · rw [if_neg c29] at h
        refine lv_aload_n S.1 S.2.1 dX7_forward_32 rfl (lv_at hl 2 rfl) ?_
        obtain ⟨x3, h4, h⟩ := xb h
        refine xr_getr S w 7 xi_X7_forward_X6 rfl 4 (by decide) xl_X7_forward_121 h4 dX7_forward_33 ?_
        refine lv_iload S.1 S.2.1 dX7_forward_36 (lv_at hl 4 rfl) ?_
        obtain ⟨x5, h6, h⟩ := xb h
        refine xr_zald S w h6 dX7_forward_38 ?_
        refine lv_if_ne (tgt := 72) S.1 S.2.1 dX7_forward_39 (by decide) (fun c39 => ?_) (fun c39 => ?_)
        · rw [if_neg c39] at h
          refine lv_iinc (v := (v4 + 1)) (lv' := [(4, .int (v4 + 1)), (0, .ref v0), (1, .int v1), (2, .ref v2), (3, .int v3)]) S.1 S.2.1 dX7_forward_72 hl (k := 4) rfl rfl (by decide) rfl (fun ls hl => ?_)
          refine lv_goto (tgt := 23) S.1 S.2.1 dX7_forward_75 (by decide) ?_
          exact ih g v0 v1 v2 v3 (v4 + 1) h _ _ _ w (lv_sub hl [1, 2, 3, 4, 0] rfl)
        · rw [if_pos c39] at h
          refine lv_aload_n S.1 S.2.1 dX7_forward_42 rfl (lv_at hl 2 rfl) ?_
          obtain ⟨x7, h8, h⟩ := xb h
          refine xr_getr S w 7 xi_X7_forward_X6 rfl 4 (by decide) xl_X7_forward_121 h8 dX7_forward_43 ?_
          refine lv_iload S.1 S.2.1 dX7_forward_46 (lv_at hl 4 rfl) ?_
          refine lv_iconst (v := 1) S.1 S.2.1 dX7_forward_48 (by decide) ?_
          obtain ⟨g9, h10, h⟩ := xb h
          refine xr_zast S w h10 dX7_forward_49 (fun H locs w => ?_)
          refine lv_iload_n S.1 S.2.1 dX7_forward_50 rfl (lv_at hl 3 rfl) ?_
          refine lv_aload_n S.1 S.2.1 dX7_forward_51 rfl (lv_at hl 0 rfl) ?_
          refine lv_iload_n S.1 S.2.1 dX7_forward_52 rfl (lv_at hl 1 rfl) ?_
          refine lv_aload_n S.1 S.2.1 dX7_forward_53 rfl (lv_at hl 2 rfl) ?_
          refine lv_iload S.1 S.2.1 dX7_forward_54 (lv_at hl 4 rfl) ?_
          refine lv_iconst (v := 1) S.1 S.2.1 dX7_forward_56 (by decide) ?_
          obtain ⟨_, h11, h⟩ := xb h
          obtain ⟨x13, g14, h12, h⟩ := x2b h
          refine xr_callV_i S w hA hN 8 rfl h11 (c_X7_sendNote l D cy L g9 v0 v1 v2 v4 1 h12) (cwV 4 S.2.2.2.2 gX7_forward_X7_sendNote rfl rfl rfl (by decide +kernel) ⟨Nat.le_of_ble_eq_true rfl, Nat.le_of_ble_eq_true rfl⟩) rfl rfl hl.1 (Nat.le_of_ble_eq_true rfl) dX7_forward_57 ⟨Nat.le_of_ble_eq_true rfl, Nat.le_of_ble_eq_true rfl⟩ (fun H locs w => ?_)
          refine lv_aload_n S.1 S.2.1 dX7_forward_60 rfl (lv_at hl 0 rfl) ?_
          refine lv_iload_n S.1 S.2.1 dX7_forward_61 rfl (lv_at hl 1 rfl) ?_
          refine lv_aload_n S.1 S.2.1 dX7_forward_62 rfl (lv_at hl 2 rfl) ?_
          refine lv_iload S.1 S.2.1 dX7_forward_63 (lv_at hl 4 rfl) ?_
          refine lv_iconst (v := 2) S.1 S.2.1 dX7_forward_65 (by decide) ?_
          obtain ⟨_, h15, h⟩ := xb h
          obtain ⟨x17, g18, h16, h⟩ := x2b h
          refine xr_callV_i S w hA hN 8 rfl h15 (c_X7_sendNote l D cy L g14 v0 v1 v2 v4 2 h16) (cwV 4 S.2.2.2.2 gX7_forward_X7_sendNote rfl rfl rfl (by decide +kernel) ⟨Nat.le_of_ble_eq_true rfl, Nat.le_of_ble_eq_true rfl⟩) rfl rfl hl.1 (Nat.le_of_ble_eq_true rfl) dX7_forward_66 ⟨Nat.le_of_ble_eq_true rfl, Nat.le_of_ble_eq_true rfl⟩ (fun H locs w => ?_)
          refine lv_iadd S.1 S.2.1 dX7_forward_69 ?_
          refine lv_iadd S.1 S.2.1 dX7_forward_70 ?_
          refine lv_istore_n (lv' := [(3, .int (v3 + (x13 + x17))), (0, .ref v0), (1, .int v1), (2, .ref v2), (4, .int v4)]) S.1 S.2.1 dX7_forward_71 rfl hl (by decide) rfl (fun ls hl => ?_)
          refine lv_iinc (v := (v4 + 1)) (lv' := [(4, .int (v4 + 1)), (3, .int (v3 + (x13 + x17))), (0, .ref v0), (1, .int v1), (2, .ref v2)]) S.1 S.2.1 dX7_forward_72 hl (k := 4) rfl rfl (by decide) rfl (fun ls hl => ?_)
          refine lv_goto (tgt := 23) S.1 S.2.1 dX7_forward_75 (by decide) ?_
          exact ih g18 v0 v1 v2 (v3 + (x13 + x17)) (v4 + 1) h _ _ _ w (lv_sub hl [2, 3, 4, 1, 0] rfl)
  rw [f_X7_forward] at h
  refine lv_aload_n S.1 S.2.1 dX7_forward_0 rfl (lv_at hl 0 rfl) ?_
  refine lv_iload_n S.1 S.2.1 dX7_forward_1 rfl (lv_at hl 1 rfl) ?_
  obtain ⟨_, h19, h⟩ := xb h
  obtain ⟨x21, h20, h⟩ := xb h
  refine xr_callV_i S w hA hN 8 rfl h19 (c_X7_isNode l D cy L g a0 a1 h20) (cwV 1 S.2.2.2.2 gX7_forward_X7_isNode rfl rfl rfl (by decide +kernel) ⟨Nat.le_of_ble_eq_true rfl, Nat.le_of_ble_eq_true rfl⟩) rfl rfl hl.1 (Nat.le_of_ble_eq_true rfl) dX7_forward_2 ⟨Nat.le_of_ble_eq_true rfl, Nat.le_of_ble_eq_true rfl⟩ (fun H locs w => ?_)
  by_cases c5 : x21 = 0
  · rw [if_pos c5] at h
    exact xr_need0 S hst w hA hN hZ gX7_forward_X7_need ⟨Nat.le_of_ble_eq_true rfl, Nat.le_of_ble_eq_true rfl⟩ hl.1 (Nat.le_of_ble_eq_true rfl) dX7_forward_5 ⟨Nat.le_of_ble_eq_true rfl, Nat.le_of_ble_eq_true rfl⟩ c5 (fun H locs q ce w hc hv hcl => out _ _ _ _ _ _ _ _ _ _ (h.trans (congrArg some hrr)) w hc hv hcl ⟨Nat.le_of_ble_eq_true rfl, Nat.le_of_ble_eq_true rfl⟩)
  rw [if_neg c5] at h
  refine xr_need1 S hst w hA hN hZ gX7_forward_X7_need ⟨Nat.le_of_ble_eq_true rfl, Nat.le_of_ble_eq_true rfl⟩ hl.1 (Nat.le_of_ble_eq_true rfl) dX7_forward_5 ⟨Nat.le_of_ble_eq_true rfl, Nat.le_of_ble_eq_true rfl⟩ c5 (fun H locs w => ?_)
  refine lv_aload_n S.1 S.2.1 dX7_forward_8 rfl (lv_at hl 0 rfl) ?_
  obtain ⟨x22, h23, h⟩ := xb h
  refine xr_getr S w 8 xi_X7_forward_X7 rfl 1 (by decide) xl_X7_forward_11 h23 dX7_forward_9 ?_
  refine lv_iload_n S.1 S.2.1 dX7_forward_12 rfl (lv_at hl 1 rfl) ?_
  obtain ⟨x24, h25, h⟩ := xb h
  refine xr_aald S w 5 "TellTale$Node" (fun _ => rfl) h25 dX7_forward_13 ?_
  obtain ⟨x26, h27, h⟩ := xb h
  refine xr_getr S w 5 xi_X7_forward_X4 rfl 3 (by decide) xl_X7_forward_114 h27 dX7_forward_14 ?_
  refine lv_astore_n (lv' := [(2, .ref x26), (0, .ref a0), (1, .int a1)]) S.1 S.2.1 dX7_forward_17 rfl hl (by decide) rfl (fun ls hl => ?_)
  refine lv_iconst (v := 0) S.1 S.2.1 dX7_forward_18 (by decide) ?_
  refine lv_istore_n (lv' := [(3, .int 0), (2, .ref x26), (0, .ref a0), (1, .int a1)]) S.1 S.2.1 dX7_forward_19 rfl hl (by decide) rfl (fun ls hl => ?_)
  refine lv_iconst (v := 0) S.1 S.2.1 dX7_forward_20 (by decide) ?_
  refine lv_istore (lv' := [(4, .int 0), (3, .int 0), (2, .ref x26), (0, .ref a0), (1, .int a1)]) S.1 S.2.1 dX7_forward_21 hl (by decide) rfl (fun ls hl => ?_)
  exact hb23 xFU g a0 a1 x26 0 0 h _ _ _ w (lv_sub hl [3, 4, 2, 1, 0] rfl)
theorem xi_X7_lie_X7 : ∀ w ∈ wsX70, w ∈ wsX7_lie := by decide +kernel
theorem xl_X7_lie_11 : Cond.fieldLink RX7 11 (TX7 1).1 (TX7 1).2.1 (TX7 1).2.2.1 ∈ wsX7_lie := by decide +kernel
theorem xi_X7_lie_X4 : ∀ w ∈ wsX40, w ∈ wsX7_lie := by decide +kernel
theorem xl_X7_lie_57 : Cond.fieldLink RX7 57 (TX4 2).1 (TX4 2).2.1 (TX4 2).2.2.1 ∈ wsX7_lie := by decide +kernel
theorem xi_X7_lie_X2 : ∀ w ∈ wsX20, w ∈ wsX7_lie := by decide +kernel
theorem xl_X7_lie_81 : Cond.fieldLink RX7 81 (TX2 0).1 (TX2 0).2.1 (TX2 0).2.2.1 ∈ wsX7_lie := by decide +kernel
def f_X7_lie (g : xG) (a0 : Nat) (a1 : Int32) (a2 : Int32) (a3 : Int32) : Option (Nat ⊕ (Int32 × xG)) :=
  (xk g 8 a0).bind fun _ =>
  (f_X7_isNode g a0 a1).bind fun x3 =>
  if x3 = 0 then
    some (.inl 1)
  else
    (xk g 8 a0).bind fun _ =>
    (f_X7_isNode g a0 a2).bind fun x6 =>
    if x6 = 0 then
      some (.inl 1)
    else
      if a2 = a1 then
        some (.inl 1)
      else
        (xg_r g 8 a0 1).bind fun x7 =>
        (xa_r 5 g x7 a1).bind fun x9 =>
        (xg_r g 5 x9 2).bind fun x11 =>
        (xk g 3 x11).bind fun _ =>
        (f_X2_hasTwoPlaces g x11).bind fun x15 =>
        if x15 = 0 then
          some (.inl 2)
        else
        (xg_r g 8 a0 1).bind fun x16 =>
        (xa_r 5 g x16 a1).bind fun x18 =>
        (xk g 8 a0).bind fun _ =>
        (f_X7_sendMessage g a0 x18 a2 a3).bind fun g22 =>
        (xg_r g22 8 a0 1).bind fun x23 =>
        (xa_r 5 g22 x23 a1).bind fun x25 =>
        (xg_r g22 5 x25 2).bind fun x27 =>
        (xg_i g22 3 x27 0).bind fun x29 =>
        some (.inr (x29, g22))
set_option maxHeartbeats 4000000 in
set_option maxRecDepth 100000 in
theorem c_X7_lie (l : Launch) (hst : l.stackTraces = false) (D : va_G) (cy : Nat → ClassId) (L : List Nat) (g : xG) (a0 : Nat) (a1 : Int32) (a2 : Int32) (a3 : Int32) {o : (Nat ⊕ (Int32 × xG))} (h : f_X7_lie g a0 a1 a2 a3 = some o) : xXi l yX7_lie wsX7_lie ({ frames := 7, cells := 2, slots := 12, locals := 110 }) D cy L g [.ref a0, .int a1, .int a2, .int a3] o 2 12 := by
  refine xmx_i hst (cc := cX7_lie) (maxL := 4) RX7 rfl rfl rfl (by decide +kernel) rfl (Nat.le_of_ble_eq_true rfl) ?_
  intro p e s m args below meth c Q A S w hA hN hZ ret out thr ls hl
  have hl : lv_has ls 4 [(0, .ref a0), (1, .int a1), (2, .int a2), (3, .int a3)] := hl
  rw [f_X7_lie] at h
  refine lv_aload_n S.1 S.2.1 dX7_lie_0 rfl (lv_at hl 0 rfl) ?_
  refine lv_iload_n S.1 S.2.1 dX7_lie_1 rfl (lv_at hl 1 rfl) ?_
  obtain ⟨_, h1, h⟩ := xb h
  obtain ⟨x3, h2, h⟩ := xb h
  refine xr_callV_i S w hA hN 8 rfl h1 (c_X7_isNode l D cy L g a0 a1 h2) (cwV 1 S.2.2.2.2 gX7_lie_X7_isNode rfl rfl rfl (by decide +kernel) ⟨Nat.le_of_ble_eq_true rfl, Nat.le_of_ble_eq_true rfl⟩) rfl rfl hl.1 (Nat.le_of_ble_eq_true rfl) dX7_lie_2 ⟨Nat.le_of_ble_eq_true rfl, Nat.le_of_ble_eq_true rfl⟩ (fun H locs w => ?_)
  refine lv_if_eq (tgt := 25) S.1 S.2.1 dX7_lie_5 (by decide) (fun c5 => ?_) (fun c5 => ?_)
  · rw [if_pos c5] at h
    refine lv_iconst (v := 0) S.1 S.2.1 dX7_lie_25 (by decide) ?_
    exact xr_need0 S hst w hA hN hZ gX7_lie_X7_need ⟨Nat.le_of_ble_eq_true rfl, Nat.le_of_ble_eq_true rfl⟩ hl.1 (Nat.le_of_ble_eq_true rfl) dX7_lie_26 ⟨Nat.le_of_ble_eq_true rfl, Nat.le_of_ble_eq_true rfl⟩ (by decide) (fun H locs q ce w hc hv hcl => out _ _ _ _ _ _ _ _ _ _ h w hc hv hcl ⟨Nat.le_of_ble_eq_true rfl, Nat.le_of_ble_eq_true rfl⟩)
  · rw [if_neg c5] at h
    refine lv_aload_n S.1 S.2.1 dX7_lie_8 rfl (lv_at hl 0 rfl) ?_
    refine lv_iload_n S.1 S.2.1 dX7_lie_9 rfl (lv_at hl 2 rfl) ?_
    obtain ⟨_, h4, h⟩ := xb h
    obtain ⟨x6, h5, h⟩ := xb h
    refine xr_callV_i S w hA hN 8 rfl h4 (c_X7_isNode l D cy L g a0 a2 h5) (cwV 1 S.2.2.2.2 gX7_lie_X7_isNode rfl rfl rfl (by decide +kernel) ⟨Nat.le_of_ble_eq_true rfl, Nat.le_of_ble_eq_true rfl⟩) rfl rfl hl.1 (Nat.le_of_ble_eq_true rfl) dX7_lie_10 ⟨Nat.le_of_ble_eq_true rfl, Nat.le_of_ble_eq_true rfl⟩ (fun H locs w => ?_)
    refine lv_if_eq (tgt := 25) S.1 S.2.1 dX7_lie_13 (by decide) (fun c13 => ?_) (fun c13 => ?_)
    · rw [if_pos c13] at h
      refine lv_iconst (v := 0) S.1 S.2.1 dX7_lie_25 (by decide) ?_
      exact xr_need0 S hst w hA hN hZ gX7_lie_X7_need ⟨Nat.le_of_ble_eq_true rfl, Nat.le_of_ble_eq_true rfl⟩ hl.1 (Nat.le_of_ble_eq_true rfl) dX7_lie_26 ⟨Nat.le_of_ble_eq_true rfl, Nat.le_of_ble_eq_true rfl⟩ (by decide) (fun H locs q ce w hc hv hcl => out _ _ _ _ _ _ _ _ _ _ h w hc hv hcl ⟨Nat.le_of_ble_eq_true rfl, Nat.le_of_ble_eq_true rfl⟩)
    · rw [if_neg c13] at h
      refine lv_iload_n S.1 S.2.1 dX7_lie_16 rfl (lv_at hl 2 rfl) ?_
      refine lv_iload_n S.1 S.2.1 dX7_lie_17 rfl (lv_at hl 1 rfl) ?_
      refine lv_icmp_eq (tgt := 25) S.1 S.2.1 dX7_lie_18 (by decide) (fun c18 => ?_) (fun c18 => ?_)
      · rw [if_pos c18] at h
        refine lv_iconst (v := 0) S.1 S.2.1 dX7_lie_25 (by decide) ?_
        exact xr_need0 S hst w hA hN hZ gX7_lie_X7_need ⟨Nat.le_of_ble_eq_true rfl, Nat.le_of_ble_eq_true rfl⟩ hl.1 (Nat.le_of_ble_eq_true rfl) dX7_lie_26 ⟨Nat.le_of_ble_eq_true rfl, Nat.le_of_ble_eq_true rfl⟩ (by decide) (fun H locs q ce w hc hv hcl => out _ _ _ _ _ _ _ _ _ _ h w hc hv hcl ⟨Nat.le_of_ble_eq_true rfl, Nat.le_of_ble_eq_true rfl⟩)
      · rw [if_neg c18] at h
        refine lv_iconst (v := 1) S.1 S.2.1 dX7_lie_21 (by decide) ?_
        refine lv_goto (tgt := 26) S.1 S.2.1 dX7_lie_22 (by decide) ?_
        refine xr_need1 S hst w hA hN hZ gX7_lie_X7_need ⟨Nat.le_of_ble_eq_true rfl, Nat.le_of_ble_eq_true rfl⟩ hl.1 (Nat.le_of_ble_eq_true rfl) dX7_lie_26 ⟨Nat.le_of_ble_eq_true rfl, Nat.le_of_ble_eq_true rfl⟩ (by decide) (fun H locs w => ?_)
        refine lv_aload_n S.1 S.2.1 dX7_lie_29 rfl (lv_at hl 0 rfl) ?_
        obtain ⟨x7, h8, h⟩ := xb h
        refine xr_getr S w 8 xi_X7_lie_X7 rfl 1 (by decide) xl_X7_lie_11 h8 dX7_lie_30 ?_
        refine lv_iload_n S.1 S.2.1 dX7_lie_33 rfl (lv_at hl 1 rfl) ?_
        obtain ⟨x9, h10, h⟩ := xb h
        refine xr_aald S w 5 "TellTale$Node" (fun _ => rfl) h10 dX7_lie_34 ?_
        obtain ⟨x11, h12, h⟩ := xb h
        refine xr_getr S w 5 xi_X7_lie_X4 rfl 2 (by decide) xl_X7_lie_57 h12 dX7_lie_35 ?_
        obtain ⟨_, h13, h⟩ := xb h
        obtain ⟨x15, h14, h⟩ := xb h
        refine xr_callV_i S w hA hN 3 rfl h13 (c_X2_hasTwoPlaces l D cy L g x11 h14) (cwV 0 S.2.2.2.2 gX7_lie_X2_hasTwoPlaces rfl rfl rfl (by decide +kernel) ⟨Nat.le_of_ble_eq_true rfl, Nat.le_of_ble_eq_true rfl⟩) rfl rfl hl.1 (Nat.le_of_ble_eq_true rfl) dX7_lie_38 ⟨Nat.le_of_ble_eq_true rfl, Nat.le_of_ble_eq_true rfl⟩ (fun H locs w => ?_)
        by_cases c41 : x15 = 0
        · rw [if_pos c41] at h
          exact xr_needState0 S hst w hA hN hZ gX7_lie_X7_needState ⟨Nat.le_of_ble_eq_true rfl, Nat.le_of_ble_eq_true rfl⟩ hl.1 (Nat.le_of_ble_eq_true rfl) dX7_lie_41 ⟨Nat.le_of_ble_eq_true rfl, Nat.le_of_ble_eq_true rfl⟩ c41 (fun H locs q ce w hc hv hcl => out _ _ _ _ _ _ _ _ _ _ h w hc hv hcl ⟨Nat.le_of_ble_eq_true rfl, Nat.le_of_ble_eq_true rfl⟩)
        rw [if_neg c41] at h
        refine xr_needState1 S hst w hA hN hZ gX7_lie_X7_needState ⟨Nat.le_of_ble_eq_true rfl, Nat.le_of_ble_eq_true rfl⟩ hl.1 (Nat.le_of_ble_eq_true rfl) dX7_lie_41 ⟨Nat.le_of_ble_eq_true rfl, Nat.le_of_ble_eq_true rfl⟩ c41 (fun H locs w => ?_)
        refine lv_aload_n S.1 S.2.1 dX7_lie_44 rfl (lv_at hl 0 rfl) ?_
        refine lv_aload_n S.1 S.2.1 dX7_lie_45 rfl (lv_at hl 0 rfl) ?_
        obtain ⟨x16, h17, h⟩ := xb h
        refine xr_getr S w 8 xi_X7_lie_X7 rfl 1 (by decide) xl_X7_lie_11 h17 dX7_lie_46 ?_
        refine lv_iload_n S.1 S.2.1 dX7_lie_49 rfl (lv_at hl 1 rfl) ?_
        obtain ⟨x18, h19, h⟩ := xb h
        refine xr_aald S w 5 "TellTale$Node" (fun _ => rfl) h19 dX7_lie_50 ?_
        refine lv_iload_n S.1 S.2.1 dX7_lie_51 rfl (lv_at hl 2 rfl) ?_
        refine lv_iload_n S.1 S.2.1 dX7_lie_52 rfl (lv_at hl 3 rfl) ?_
        obtain ⟨_, h20, h⟩ := xb h
        obtain ⟨g22, h21, h⟩ := xb h
        refine xr_callV_v S w hA hN 8 rfl h20 (c_X7_sendMessage l D cy L g a0 x18 a2 a3 h21) (cwV 3 S.2.2.2.2 gX7_lie_X7_sendMessage rfl rfl rfl (by decide +kernel) ⟨Nat.le_of_ble_eq_true rfl, Nat.le_of_ble_eq_true rfl⟩) rfl rfl hl.1 (Nat.le_of_ble_eq_true rfl) dX7_lie_53 ⟨Nat.le_of_ble_eq_true rfl, Nat.le_of_ble_eq_true rfl⟩ (fun H locs w => ?_)
        refine lv_aload_n S.1 S.2.1 dX7_lie_56 rfl (lv_at hl 0 rfl) ?_
        obtain ⟨x23, h24, h⟩ := xb h
        refine xr_getr S w 8 xi_X7_lie_X7 rfl 1 (by decide) xl_X7_lie_11 h24 dX7_lie_57 ?_
        refine lv_iload_n S.1 S.2.1 dX7_lie_60 rfl (lv_at hl 1 rfl) ?_
        obtain ⟨x25, h26, h⟩ := xb h
        refine xr_aald S w 5 "TellTale$Node" (fun _ => rfl) h26 dX7_lie_61 ?_
        obtain ⟨x27, h28, h⟩ := xb h
        refine xr_getr S w 5 xi_X7_lie_X4 rfl 2 (by decide) xl_X7_lie_57 h28 dX7_lie_62 ?_
        obtain ⟨x29, h30, h⟩ := xb h
        refine xr_geti S w 3 xi_X7_lie_X2 rfl 0 (by decide) xl_X7_lie_81 h30 dX7_lie_65 ?_
        exact ret _ _ _ _ _ _ _ _ h w dX7_lie_68 ⟨Nat.le_of_ble_eq_true rfl, Nat.le_of_ble_eq_true rfl⟩
theorem xi_X7_bend_X7 : ∀ w ∈ wsX70, w ∈ wsX7_bend := by decide +kernel
theorem xl_X7_bend_11 : Cond.fieldLink RX7 11 (TX7 1).1 (TX7 1).2.1 (TX7 1).2.2.1 ∈ wsX7_bend := by decide +kernel
theorem xi_X7_bend_X4 : ∀ w ∈ wsX40, w ∈ wsX7_bend := by decide +kernel
theorem xl_X7_bend_57 : Cond.fieldLink RX7 57 (TX4 2).1 (TX4 2).2.1 (TX4 2).2.2.1 ∈ wsX7_bend := by decide +kernel
theorem xi_X7_bend_X2 : ∀ w ∈ wsX20, w ∈ wsX7_bend := by decide +kernel
theorem xl_X7_bend_81 : Cond.fieldLink RX7 81 (TX2 0).1 (TX2 0).2.1 (TX2 0).2.2.1 ∈ wsX7_bend := by decide +kernel
theorem xl_X7_bend_133 : Cond.fieldLink RX7 133 (TX2 3).1 (TX2 3).2.1 (TX2 3).2.2.1 ∈ wsX7_bend := by decide +kernel
def f_X7_bend (g : xG) (a0 : Nat) (a1 : Int32) (a2 : Int32) (a3 : Int32) : Option (Nat ⊕ (Int32 × xG)) :=
  (xk g 8 a0).bind fun _ =>
  (f_X7_isNode g a0 a1).bind fun x3 =>
  if x3 = 0 then
    some (.inl 1)
  else
    if a2 < 1 then
      some (.inl 1)
    else
      (xg_r g 8 a0 1).bind fun x4 =>
      (xa_r 5 g x4 a1).bind fun x6 =>
      (xg_r g 5 x6 2).bind fun x8 =>
      (xg_i g 3 x8 0).bind fun x10 =>
      if x10 < a2 then
        some (.inl 1)
      else
        (xg_r g 8 a0 1).bind fun x12 =>
        (xa_r 5 g x12 a1).bind fun x14 =>
        (xg_r g 5 x14 2).bind fun x16 =>
        (xg_r g 3 x16 3).bind fun x18 =>
        (xa_i 1 g x18 a2).bind fun x20 =>
        (xg_r g 8 a0 1).bind fun x22 =>
        (xa_r 5 g x22 a1).bind fun x24 =>
        (xg_r g 5 x24 2).bind fun x26 =>
        (xk g 3 x26).bind fun _ =>
        (f_X2_rewrite g x26 a2 a3).bind fun g30 =>
        some (.inr (x20, g30))
set_option maxHeartbeats 4000000 in
set_option maxRecDepth 100000 in
theorem c_X7_bend (l : Launch) (hst : l.stackTraces = false) (D : va_G) (cy : Nat → ClassId) (L : List Nat) (g : xG) (a0 : Nat) (a1 : Int32) (a2 : Int32) (a3 : Int32) {o : (Nat ⊕ (Int32 × xG))} (h : f_X7_bend g a0 a1 a2 a3 = some o) : xXi l yX7_bend wsX7_bend ({ frames := 7, cells := 1, slots := 6, locals := 110 }) D cy L g [.ref a0, .int a1, .int a2, .int a3] o 1 6 := by
  refine xmx_i hst (cc := cX7_bend) (maxL := 5) RX7 rfl rfl rfl (by decide +kernel) rfl (Nat.le_of_ble_eq_true rfl) ?_
  intro p e s m args below meth c Q A S w hA hN hZ ret out thr ls hl
  have hl : lv_has ls 5 [(0, .ref a0), (1, .int a1), (2, .int a2), (3, .int a3)] := hl
  rw [f_X7_bend] at h
  refine lv_aload_n S.1 S.2.1 dX7_bend_0 rfl (lv_at hl 0 rfl) ?_
  refine lv_iload_n S.1 S.2.1 dX7_bend_1 rfl (lv_at hl 1 rfl) ?_
  obtain ⟨_, h1, h⟩ := xb h
  obtain ⟨x3, h2, h⟩ := xb h
  refine xr_callV_i S w hA hN 8 rfl h1 (c_X7_isNode l D cy L g a0 a1 h2) (cwV 1 S.2.2.2.2 gX7_bend_X7_isNode rfl rfl rfl (by decide +kernel) ⟨Nat.le_of_ble_eq_true rfl, Nat.le_of_ble_eq_true rfl⟩) rfl rfl hl.1 (Nat.le_of_ble_eq_true rfl) dX7_bend_2 ⟨Nat.le_of_ble_eq_true rfl, Nat.le_of_ble_eq_true rfl⟩ (fun H locs w => ?_)
  refine lv_if_eq (tgt := 33) S.1 S.2.1 dX7_bend_5 (by decide) (fun c5 => ?_) (fun c5 => ?_)
  · rw [if_pos c5] at h
    refine lv_iconst (v := 0) S.1 S.2.1 dX7_bend_33 (by decide) ?_
    exact xr_need0 S hst w hA hN hZ gX7_bend_X7_need ⟨Nat.le_of_ble_eq_true rfl, Nat.le_of_ble_eq_true rfl⟩ hl.1 (Nat.le_of_ble_eq_true rfl) dX7_bend_34 ⟨Nat.le_of_ble_eq_true rfl, Nat.le_of_ble_eq_true rfl⟩ (by decide) (fun H locs q ce w hc hv hcl => out _ _ _ _ _ _ _ _ _ _ h w hc hv hcl ⟨Nat.le_of_ble_eq_true rfl, Nat.le_of_ble_eq_true rfl⟩)
  · rw [if_neg c5] at h
    refine lv_iload_n S.1 S.2.1 dX7_bend_8 rfl (lv_at hl 2 rfl) ?_
    refine lv_iconst (v := 1) S.1 S.2.1 dX7_bend_9 (by decide) ?_
    refine lv_icmp_lt (tgt := 33) S.1 S.2.1 dX7_bend_10 (by decide) (fun c10 => ?_) (fun c10 => ?_)
    · rw [if_pos c10] at h
      refine lv_iconst (v := 0) S.1 S.2.1 dX7_bend_33 (by decide) ?_
      exact xr_need0 S hst w hA hN hZ gX7_bend_X7_need ⟨Nat.le_of_ble_eq_true rfl, Nat.le_of_ble_eq_true rfl⟩ hl.1 (Nat.le_of_ble_eq_true rfl) dX7_bend_34 ⟨Nat.le_of_ble_eq_true rfl, Nat.le_of_ble_eq_true rfl⟩ (by decide) (fun H locs q ce w hc hv hcl => out _ _ _ _ _ _ _ _ _ _ h w hc hv hcl ⟨Nat.le_of_ble_eq_true rfl, Nat.le_of_ble_eq_true rfl⟩)
    · rw [if_neg c10] at h
      refine lv_iload_n S.1 S.2.1 dX7_bend_13 rfl (lv_at hl 2 rfl) ?_
      refine lv_aload_n S.1 S.2.1 dX7_bend_14 rfl (lv_at hl 0 rfl) ?_
      obtain ⟨x4, h5, h⟩ := xb h
      refine xr_getr S w 8 xi_X7_bend_X7 rfl 1 (by decide) xl_X7_bend_11 h5 dX7_bend_15 ?_
      refine lv_iload_n S.1 S.2.1 dX7_bend_18 rfl (lv_at hl 1 rfl) ?_
      obtain ⟨x6, h7, h⟩ := xb h
      refine xr_aald S w 5 "TellTale$Node" (fun _ => rfl) h7 dX7_bend_19 ?_
      obtain ⟨x8, h9, h⟩ := xb h
      refine xr_getr S w 5 xi_X7_bend_X4 rfl 2 (by decide) xl_X7_bend_57 h9 dX7_bend_20 ?_
      obtain ⟨x10, h11, h⟩ := xb h
      refine xr_geti S w 3 xi_X7_bend_X2 rfl 0 (by decide) xl_X7_bend_81 h11 dX7_bend_23 ?_
      refine lv_icmp_gt (tgt := 33) S.1 S.2.1 dX7_bend_26 (by decide) (fun c26 => ?_) (fun c26 => ?_)
      · rw [if_pos c26] at h
        refine lv_iconst (v := 0) S.1 S.2.1 dX7_bend_33 (by decide) ?_
        exact xr_need0 S hst w hA hN hZ gX7_bend_X7_need ⟨Nat.le_of_ble_eq_true rfl, Nat.le_of_ble_eq_true rfl⟩ hl.1 (Nat.le_of_ble_eq_true rfl) dX7_bend_34 ⟨Nat.le_of_ble_eq_true rfl, Nat.le_of_ble_eq_true rfl⟩ (by decide) (fun H locs q ce w hc hv hcl => out _ _ _ _ _ _ _ _ _ _ h w hc hv hcl ⟨Nat.le_of_ble_eq_true rfl, Nat.le_of_ble_eq_true rfl⟩)
      · rw [if_neg c26] at h
        refine lv_iconst (v := 1) S.1 S.2.1 dX7_bend_29 (by decide) ?_
        refine lv_goto (tgt := 34) S.1 S.2.1 dX7_bend_30 (by decide) ?_
        refine xr_need1 S hst w hA hN hZ gX7_bend_X7_need ⟨Nat.le_of_ble_eq_true rfl, Nat.le_of_ble_eq_true rfl⟩ hl.1 (Nat.le_of_ble_eq_true rfl) dX7_bend_34 ⟨Nat.le_of_ble_eq_true rfl, Nat.le_of_ble_eq_true rfl⟩ (by decide) (fun H locs w => ?_)
        refine lv_aload_n S.1 S.2.1 dX7_bend_37 rfl (lv_at hl 0 rfl) ?_
        obtain ⟨x12, h13, h⟩ := xb h
        refine xr_getr S w 8 xi_X7_bend_X7 rfl 1 (by decide) xl_X7_bend_11 h13 dX7_bend_38 ?_
        refine lv_iload_n S.1 S.2.1 dX7_bend_41 rfl (lv_at hl 1 rfl) ?_
        obtain ⟨x14, h15, h⟩ := xb h
        refine xr_aald S w 5 "TellTale$Node" (fun _ => rfl) h15 dX7_bend_42 ?_
        obtain ⟨x16, h17, h⟩ := xb h
        refine xr_getr S w 5 xi_X7_bend_X4 rfl 2 (by decide) xl_X7_bend_57 h17 dX7_bend_43 ?_
        obtain ⟨x18, h19, h⟩ := xb h
        refine xr_getr S w 3 xi_X7_bend_X2 rfl 3 (by decide) xl_X7_bend_133 h19 dX7_bend_46 ?_
        refine lv_iload_n S.1 S.2.1 dX7_bend_49 rfl (lv_at hl 2 rfl) ?_
        obtain ⟨x20, h21, h⟩ := xb h
        refine xr_iald S w h21 dX7_bend_50 ?_
        refine lv_istore (lv' := [(4, .int x20), (0, .ref a0), (1, .int a1), (2, .int a2), (3, .int a3)]) S.1 S.2.1 dX7_bend_51 hl (by decide) rfl (fun ls hl => ?_)
        refine lv_aload_n S.1 S.2.1 dX7_bend_53 rfl (lv_at hl 1 rfl) ?_
        obtain ⟨x22, h23, h⟩ := xb h
        refine xr_getr S w 8 xi_X7_bend_X7 rfl 1 (by decide) xl_X7_bend_11 h23 dX7_bend_54 ?_
        refine lv_iload_n S.1 S.2.1 dX7_bend_57 rfl (lv_at hl 2 rfl) ?_
        obtain ⟨x24, h25, h⟩ := xb h
        refine xr_aald S w 5 "TellTale$Node" (fun _ => rfl) h25 dX7_bend_58 ?_
        obtain ⟨x26, h27, h⟩ := xb h
        refine xr_getr S w 5 xi_X7_bend_X4 rfl 2 (by decide) xl_X7_bend_57 h27 dX7_bend_59 ?_
        refine lv_iload_n S.1 S.2.1 dX7_bend_62 rfl (lv_at hl 3 rfl) ?_
        refine lv_iload_n S.1 S.2.1 dX7_bend_63 rfl (lv_at hl 4 rfl) ?_
        obtain ⟨_, h28, h⟩ := xb h
        obtain ⟨g30, h29, h⟩ := xb h
        refine xr_callV_v S w hA hN 3 rfl h28 (c_X2_rewrite l D cy L g x26 a2 a3 h29) (cwV 2 S.2.2.2.2 gX7_bend_X2_rewrite rfl rfl rfl (by decide +kernel) ⟨Nat.le_of_ble_eq_true rfl, Nat.le_of_ble_eq_true rfl⟩) rfl rfl hl.1 (Nat.le_of_ble_eq_true rfl) dX7_bend_64 ⟨Nat.le_of_ble_eq_true rfl, Nat.le_of_ble_eq_true rfl⟩ (fun H locs w => ?_)
        refine lv_iload S.1 S.2.1 dX7_bend_67 (lv_at hl 0 rfl) ?_
        exact ret _ _ _ _ _ _ _ _ h w dX7_bend_69 ⟨Nat.le_of_ble_eq_true rfl, Nat.le_of_ble_eq_true rfl⟩
theorem xi_X7_cut_X7 : ∀ w ∈ wsX70, w ∈ wsX7_cut := by decide +kernel
theorem xl_X7_cut_11 : Cond.fieldLink RX7 11 (TX7 1).1 (TX7 1).2.1 (TX7 1).2.2.1 ∈ wsX7_cut := by decide +kernel
theorem xi_X7_cut_X4 : ∀ w ∈ wsX40, w ∈ wsX7_cut := by decide +kernel
theorem xl_X7_cut_57 : Cond.fieldLink RX7 57 (TX4 2).1 (TX4 2).2.1 (TX4 2).2.2.1 ∈ wsX7_cut := by decide +kernel
theorem xi_X7_cut_X2 : ∀ w ∈ wsX20, w ∈ wsX7_cut := by decide +kernel
theorem xl_X7_cut_81 : Cond.fieldLink RX7 81 (TX2 0).1 (TX2 0).2.1 (TX2 0).2.2.1 ∈ wsX7_cut := by decide +kernel
def f_X7_cut (g : xG) (a0 : Nat) (a1 : Int32) (a2 : Int32) : Option (Nat ⊕ (Int32 × xG)) :=
  (xk g 8 a0).bind fun _ =>
  (f_X7_isNode g a0 a1).bind fun x3 =>
  if x3 = 0 then
    some (.inl 1)
  else
    if a2 < 0 then
      some (.inl 1)
    else
      (xg_r g 8 a0 1).bind fun x4 =>
      (xa_r 5 g x4 a1).bind fun x6 =>
      (xg_r g 5 x6 2).bind fun x8 =>
      (xg_i g 3 x8 0).bind fun x10 =>
      if x10 < a2 then
        some (.inl 1)
      else
        (xg_r g 8 a0 1).bind fun x12 =>
        (xa_r 5 g x12 a1).bind fun x14 =>
        (xg_r g 5 x14 2).bind fun x16 =>
        (xg_i g 3 x16 0).bind fun x18 =>
        (xg_r g 8 a0 1).bind fun x20 =>
        (xa_r 5 g x20 a1).bind fun x22 =>
        (xg_r g 5 x22 2).bind fun x24 =>
        (xp_i g 3 x24 0 a2).bind fun g26 =>
        some (.inr ((x18 - a2), g26))
set_option maxHeartbeats 4000000 in
set_option maxRecDepth 100000 in
theorem c_X7_cut (l : Launch) (hst : l.stackTraces = false) (D : va_G) (cy : Nat → ClassId) (L : List Nat) (g : xG) (a0 : Nat) (a1 : Int32) (a2 : Int32) {o : (Nat ⊕ (Int32 × xG))} (h : f_X7_cut g a0 a1 a2 = some o) : xXi l yX7_cut wsX7_cut ({ frames := 7, cells := 1, slots := 6, locals := 110 }) D cy L g [.ref a0, .int a1, .int a2] o 1 6 := by
  refine xmx_i hst (cc := cX7_cut) (maxL := 4) RX7 rfl rfl rfl (by decide +kernel) rfl (Nat.le_of_ble_eq_true rfl) ?_
  intro p e s m args below meth c Q A S w hA hN hZ ret out thr ls hl
  have hl : lv_has ls 4 [(0, .ref a0), (1, .int a1), (2, .int a2)] := hl
  rw [f_X7_cut] at h
  refine lv_aload_n S.1 S.2.1 dX7_cut_0 rfl (lv_at hl 0 rfl) ?_
  refine lv_iload_n S.1 S.2.1 dX7_cut_1 rfl (lv_at hl 1 rfl) ?_
  obtain ⟨_, h1, h⟩ := xb h
  obtain ⟨x3, h2, h⟩ := xb h
  refine xr_callV_i S w hA hN 8 rfl h1 (c_X7_isNode l D cy L g a0 a1 h2) (cwV 1 S.2.2.2.2 gX7_cut_X7_isNode rfl rfl rfl (by decide +kernel) ⟨Nat.le_of_ble_eq_true rfl, Nat.le_of_ble_eq_true rfl⟩) rfl rfl hl.1 (Nat.le_of_ble_eq_true rfl) dX7_cut_2 ⟨Nat.le_of_ble_eq_true rfl, Nat.le_of_ble_eq_true rfl⟩ (fun H locs w => ?_)
  refine lv_if_eq (tgt := 32) S.1 S.2.1 dX7_cut_5 (by decide) (fun c5 => ?_) (fun c5 => ?_)
  · rw [if_pos c5] at h
    refine lv_iconst (v := 0) S.1 S.2.1 dX7_cut_32 (by decide) ?_
    exact xr_need0 S hst w hA hN hZ gX7_cut_X7_need ⟨Nat.le_of_ble_eq_true rfl, Nat.le_of_ble_eq_true rfl⟩ hl.1 (Nat.le_of_ble_eq_true rfl) dX7_cut_33 ⟨Nat.le_of_ble_eq_true rfl, Nat.le_of_ble_eq_true rfl⟩ (by decide) (fun H locs q ce w hc hv hcl => out _ _ _ _ _ _ _ _ _ _ h w hc hv hcl ⟨Nat.le_of_ble_eq_true rfl, Nat.le_of_ble_eq_true rfl⟩)
  · rw [if_neg c5] at h
    refine lv_iload_n S.1 S.2.1 dX7_cut_8 rfl (lv_at hl 2 rfl) ?_
    refine lv_if_lt (tgt := 32) S.1 S.2.1 dX7_cut_9 (by decide) (fun c9 => ?_) (fun c9 => ?_)
    · rw [if_pos c9] at h
      refine lv_iconst (v := 0) S.1 S.2.1 dX7_cut_32 (by decide) ?_
      exact xr_need0 S hst w hA hN hZ gX7_cut_X7_need ⟨Nat.le_of_ble_eq_true rfl, Nat.le_of_ble_eq_true rfl⟩ hl.1 (Nat.le_of_ble_eq_true rfl) dX7_cut_33 ⟨Nat.le_of_ble_eq_true rfl, Nat.le_of_ble_eq_true rfl⟩ (by decide) (fun H locs q ce w hc hv hcl => out _ _ _ _ _ _ _ _ _ _ h w hc hv hcl ⟨Nat.le_of_ble_eq_true rfl, Nat.le_of_ble_eq_true rfl⟩)
    · rw [if_neg c9] at h
      refine lv_iload_n S.1 S.2.1 dX7_cut_12 rfl (lv_at hl 2 rfl) ?_
      refine lv_aload_n S.1 S.2.1 dX7_cut_13 rfl (lv_at hl 0 rfl) ?_
      obtain ⟨x4, h5, h⟩ := xb h
      refine xr_getr S w 8 xi_X7_cut_X7 rfl 1 (by decide) xl_X7_cut_11 h5 dX7_cut_14 ?_
      refine lv_iload_n S.1 S.2.1 dX7_cut_17 rfl (lv_at hl 1 rfl) ?_
      obtain ⟨x6, h7, h⟩ := xb h
      refine xr_aald S w 5 "TellTale$Node" (fun _ => rfl) h7 dX7_cut_18 ?_
      obtain ⟨x8, h9, h⟩ := xb h
      refine xr_getr S w 5 xi_X7_cut_X4 rfl 2 (by decide) xl_X7_cut_57 h9 dX7_cut_19 ?_
      obtain ⟨x10, h11, h⟩ := xb h
      refine xr_geti S w 3 xi_X7_cut_X2 rfl 0 (by decide) xl_X7_cut_81 h11 dX7_cut_22 ?_
      refine lv_icmp_gt (tgt := 32) S.1 S.2.1 dX7_cut_25 (by decide) (fun c25 => ?_) (fun c25 => ?_)
      · rw [if_pos c25] at h
        refine lv_iconst (v := 0) S.1 S.2.1 dX7_cut_32 (by decide) ?_
        exact xr_need0 S hst w hA hN hZ gX7_cut_X7_need ⟨Nat.le_of_ble_eq_true rfl, Nat.le_of_ble_eq_true rfl⟩ hl.1 (Nat.le_of_ble_eq_true rfl) dX7_cut_33 ⟨Nat.le_of_ble_eq_true rfl, Nat.le_of_ble_eq_true rfl⟩ (by decide) (fun H locs q ce w hc hv hcl => out _ _ _ _ _ _ _ _ _ _ h w hc hv hcl ⟨Nat.le_of_ble_eq_true rfl, Nat.le_of_ble_eq_true rfl⟩)
      · rw [if_neg c25] at h
        refine lv_iconst (v := 1) S.1 S.2.1 dX7_cut_28 (by decide) ?_
        refine lv_goto (tgt := 33) S.1 S.2.1 dX7_cut_29 (by decide) ?_
        refine xr_need1 S hst w hA hN hZ gX7_cut_X7_need ⟨Nat.le_of_ble_eq_true rfl, Nat.le_of_ble_eq_true rfl⟩ hl.1 (Nat.le_of_ble_eq_true rfl) dX7_cut_33 ⟨Nat.le_of_ble_eq_true rfl, Nat.le_of_ble_eq_true rfl⟩ (by decide) (fun H locs w => ?_)
        refine lv_aload_n S.1 S.2.1 dX7_cut_36 rfl (lv_at hl 0 rfl) ?_
        obtain ⟨x12, h13, h⟩ := xb h
        refine xr_getr S w 8 xi_X7_cut_X7 rfl 1 (by decide) xl_X7_cut_11 h13 dX7_cut_37 ?_
        refine lv_iload_n S.1 S.2.1 dX7_cut_40 rfl (lv_at hl 1 rfl) ?_
        obtain ⟨x14, h15, h⟩ := xb h
        refine xr_aald S w 5 "TellTale$Node" (fun _ => rfl) h15 dX7_cut_41 ?_
        obtain ⟨x16, h17, h⟩ := xb h
        refine xr_getr S w 5 xi_X7_cut_X4 rfl 2 (by decide) xl_X7_cut_57 h17 dX7_cut_42 ?_
        obtain ⟨x18, h19, h⟩ := xb h
        refine xr_geti S w 3 xi_X7_cut_X2 rfl 0 (by decide) xl_X7_cut_81 h19 dX7_cut_45 ?_
        refine lv_iload_n S.1 S.2.1 dX7_cut_48 rfl (lv_at hl 2 rfl) ?_
        refine lv_isub S.1 S.2.1 dX7_cut_49 ?_
        refine lv_istore_n (lv' := [(3, .int (x18 - a2)), (0, .ref a0), (1, .int a1), (2, .int a2)]) S.1 S.2.1 dX7_cut_50 rfl hl (by decide) rfl (fun ls hl => ?_)
        refine lv_aload_n S.1 S.2.1 dX7_cut_51 rfl (lv_at hl 1 rfl) ?_
        obtain ⟨x20, h21, h⟩ := xb h
        refine xr_getr S w 8 xi_X7_cut_X7 rfl 1 (by decide) xl_X7_cut_11 h21 dX7_cut_52 ?_
        refine lv_iload_n S.1 S.2.1 dX7_cut_55 rfl (lv_at hl 2 rfl) ?_
        obtain ⟨x22, h23, h⟩ := xb h
        refine xr_aald S w 5 "TellTale$Node" (fun _ => rfl) h23 dX7_cut_56 ?_
        obtain ⟨x24, h25, h⟩ := xb h
        refine xr_getr S w 5 xi_X7_cut_X4 rfl 2 (by decide) xl_X7_cut_57 h25 dX7_cut_57 ?_
        refine lv_iload_n S.1 S.2.1 dX7_cut_60 rfl (lv_at hl 3 rfl) ?_
        obtain ⟨g26, h27, h⟩ := xb h
        refine xr_puti S w 3 xi_X7_cut_X2 rfl tyX2 tyX2_ok nmX2 0 (by decide) xl_X7_cut_81 rfl (tyX2_ok 0 (by decide)) h27 dX7_cut_61 (fun H locs w => ?_)
        refine lv_iload_n S.1 S.2.1 dX7_cut_64 rfl (lv_at hl 0 rfl) ?_
        exact ret _ _ _ _ _ _ _ _ h w dX7_cut_65 ⟨Nat.le_of_ble_eq_true rfl, Nat.le_of_ble_eq_true rfl⟩
theorem xi_X7_hide_X7 : ∀ w ∈ wsX70, w ∈ wsX7_hide := by decide +kernel
theorem xl_X7_hide_11 : Cond.fieldLink RX7 11 (TX7 1).1 (TX7 1).2.1 (TX7 1).2.2.1 ∈ wsX7_hide := by decide +kernel
theorem xi_X7_hide_X4 : ∀ w ∈ wsX40, w ∈ wsX7_hide := by decide +kernel
theorem xl_X7_hide_141 : Cond.fieldLink RX7 141 (TX4 7).1 (TX4 7).2.1 (TX4 7).2.2.1 ∈ wsX7_hide := by decide +kernel
def f_X7_hide (g : xG) (a0 : Nat) (a1 : Int32) (a2 : Int32) : Option (Nat ⊕ (Int32 × xG)) :=
  (xk g 8 a0).bind fun _ =>
  (f_X7_isNode g a0 a1).bind fun x3 =>
  if x3 = 0 then
    some (.inl 1)
  else
  (xg_r g 8 a0 1).bind fun x4 =>
  (xa_r 5 g x4 a1).bind fun x6 =>
  (xg_i g 5 x6 7).bind fun x8 =>
  (xg_r g 8 a0 1).bind fun x10 =>
  (xa_r 5 g x10 a1).bind fun x12 =>
  (xp_z g 5 x12 7 a2).bind fun g14 =>
  (xz x8).bind fun x17 =>
  some (.inr (x17, g14))
set_option maxHeartbeats 4000000 in
set_option maxRecDepth 100000 in
theorem c_X7_hide (l : Launch) (hst : l.stackTraces = false) (D : va_G) (cy : Nat → ClassId) (L : List Nat) (g : xG) (a0 : Nat) (a1 : Int32) (a2 : Int32) {o : (Nat ⊕ (Int32 × xG))} (h : f_X7_hide g a0 a1 a2 = some o) : xXi l yX7_hide wsX7_hide ({ frames := 7, cells := 1, slots := 6, locals := 110 }) D cy L g [.ref a0, .int a1, .int a2] o 1 6 := by
  refine xmx_z hst (cc := cX7_hide) (maxL := 4) RX7 rfl rfl rfl (by decide +kernel) rfl (Nat.le_of_ble_eq_true rfl) ?_
  intro p e s m args below meth c Q A S w hA hN hZ ret out thr ls hl
  have hl : lv_has ls 4 [(0, .ref a0), (1, .int a1), (2, .int a2)] := hl
  rw [f_X7_hide] at h
  refine lv_aload_n S.1 S.2.1 dX7_hide_0 rfl (lv_at hl 0 rfl) ?_
  refine lv_iload_n S.1 S.2.1 dX7_hide_1 rfl (lv_at hl 1 rfl) ?_
  obtain ⟨_, h1, h⟩ := xb h
  obtain ⟨x3, h2, h⟩ := xb h
  refine xr_callV_i S w hA hN 8 rfl h1 (c_X7_isNode l D cy L g a0 a1 h2) (cwV 1 S.2.2.2.2 gX7_hide_X7_isNode rfl rfl rfl (by decide +kernel) ⟨Nat.le_of_ble_eq_true rfl, Nat.le_of_ble_eq_true rfl⟩) rfl rfl hl.1 (Nat.le_of_ble_eq_true rfl) dX7_hide_2 ⟨Nat.le_of_ble_eq_true rfl, Nat.le_of_ble_eq_true rfl⟩ (fun H locs w => ?_)
  by_cases c5 : x3 = 0
  · rw [if_pos c5] at h
    exact xr_need0 S hst w hA hN hZ gX7_hide_X7_need ⟨Nat.le_of_ble_eq_true rfl, Nat.le_of_ble_eq_true rfl⟩ hl.1 (Nat.le_of_ble_eq_true rfl) dX7_hide_5 ⟨Nat.le_of_ble_eq_true rfl, Nat.le_of_ble_eq_true rfl⟩ c5 (fun H locs q ce w hc hv hcl => out _ _ _ _ _ _ _ _ _ _ h w hc hv hcl ⟨Nat.le_of_ble_eq_true rfl, Nat.le_of_ble_eq_true rfl⟩)
  rw [if_neg c5] at h
  refine xr_need1 S hst w hA hN hZ gX7_hide_X7_need ⟨Nat.le_of_ble_eq_true rfl, Nat.le_of_ble_eq_true rfl⟩ hl.1 (Nat.le_of_ble_eq_true rfl) dX7_hide_5 ⟨Nat.le_of_ble_eq_true rfl, Nat.le_of_ble_eq_true rfl⟩ c5 (fun H locs w => ?_)
  refine lv_aload_n S.1 S.2.1 dX7_hide_8 rfl (lv_at hl 0 rfl) ?_
  obtain ⟨x4, h5, h⟩ := xb h
  refine xr_getr S w 8 xi_X7_hide_X7 rfl 1 (by decide) xl_X7_hide_11 h5 dX7_hide_9 ?_
  refine lv_iload_n S.1 S.2.1 dX7_hide_12 rfl (lv_at hl 1 rfl) ?_
  obtain ⟨x6, h7, h⟩ := xb h
  refine xr_aald S w 5 "TellTale$Node" (fun _ => rfl) h7 dX7_hide_13 ?_
  obtain ⟨x8, h9, h⟩ := xb h
  refine xr_geti S w 5 xi_X7_hide_X4 rfl 7 (by decide) xl_X7_hide_141 h9 dX7_hide_14 ?_
  refine lv_istore_n (lv' := [(3, .int x8), (0, .ref a0), (1, .int a1), (2, .int a2)]) S.1 S.2.1 dX7_hide_17 rfl hl (by decide) rfl (fun ls hl => ?_)
  refine lv_aload_n S.1 S.2.1 dX7_hide_18 rfl (lv_at hl 1 rfl) ?_
  obtain ⟨x10, h11, h⟩ := xb h
  refine xr_getr S w 8 xi_X7_hide_X7 rfl 1 (by decide) xl_X7_hide_11 h11 dX7_hide_19 ?_
  refine lv_iload_n S.1 S.2.1 dX7_hide_22 rfl (lv_at hl 2 rfl) ?_
  obtain ⟨x12, h13, h⟩ := xb h
  refine xr_aald S w 5 "TellTale$Node" (fun _ => rfl) h13 dX7_hide_23 ?_
  refine lv_iload_n S.1 S.2.1 dX7_hide_24 rfl (lv_at hl 3 rfl) ?_
  obtain ⟨g14, h15, h⟩ := xb h
  refine xr_putz S w 5 xi_X7_hide_X4 rfl tyX4 tyX4_ok nmX4 7 (by decide) xl_X7_hide_141 rfl (tyX4_ok 7 (by decide)) h15 dX7_hide_25 (fun H locs w => ?_)
  refine lv_iload_n S.1 S.2.1 dX7_hide_28 rfl (lv_at hl 0 rfl) ?_
  obtain ⟨x17, h16, h⟩ := xb h
  exact ret _ _ _ _ _ _ x8 x17 _ h16 h w dX7_hide_29 ⟨Nat.le_of_ble_eq_true rfl, Nat.le_of_ble_eq_true rfl⟩
theorem xi_X7_judge_X7 : ∀ w ∈ wsX70, w ∈ wsX7_judge := by decide +kernel
theorem xl_X7_judge_25 : Cond.fieldLink RX7 25 (TX7 3).1 (TX7 3).2.1 (TX7 3).2.2.1 ∈ wsX7_judge := by decide +kernel
theorem xk_X7_judge_166 : Cond.classLink RX7 166 RX0 ∈ wsX7_judge := by decide +kernel
theorem xl_X7_judge_11 : Cond.fieldLink RX7 11 (TX7 1).1 (TX7 1).2.1 (TX7 1).2.2.1 ∈ wsX7_judge := by decide +kernel
theorem xi_X7_judge_X4 : ∀ w ∈ wsX40, w ∈ wsX7_judge := by decide +kernel
theorem xl_X7_judge_152 : Cond.fieldLink RX7 152 (TX4 4).1 (TX4 4).2.1 (TX4 4).2.2.1 ∈ wsX7_judge := by decide +kernel
def f_X7_judge (g : xG) (a0 : Nat) (a1 : Int32) (a2 : Int32) : Option (Nat ⊕ (Int32 × xG)) :=
  (xk g 8 a0).bind fun _ =>
  (f_X7_isNode g a0 a1).bind fun x3 =>
  if x3 = 0 then
    some (.inl 1)
  else
    (xk g 8 a0).bind fun _ =>
    (f_X7_isEvidence g a0 a2).bind fun x6 =>
    if x6 = 0 then
      some (.inl 1)
    else
      (xg_r g 8 a0 3).bind fun x7 =>
      (xk g 0 x7).bind fun _ =>
      (f_Jx4a65c_get_915e3 g x7 a2).bind fun x11 =>
      (xk g 1 x11).bind fun _ =>
      (xk g 8 a0).bind fun _ =>
      x2 (f_X7_proves g a0 x11) fun x15 g16 =>
      if x15 = 0 then
        (xz x15).bind fun x18 =>
        some (.inr (x18, g16))
      else
        (xg_r g16 8 a0 1).bind fun x19 =>
        (xa_r 5 g16 x19 a1).bind fun x21 =>
        (xg_r g16 5 x21 4).bind fun x23 =>
        (xk g16 1 x11).bind fun _ =>
        (f_X0_byteAt g16 x11 1).bind fun x27 =>
        (xs_i 1 g16 x23 x27 2).bind fun g28 =>
        (xz x15).bind fun x31 =>
        some (.inr (x31, g28))
set_option maxHeartbeats 4000000 in
set_option maxRecDepth 100000 in
theorem c_X7_judge (l : Launch) (hst : l.stackTraces = false) (D : va_G) (cy : Nat → ClassId) (L : List Nat) (g : xG) (a0 : Nat) (a1 : Int32) (a2 : Int32) {o : (Nat ⊕ (Int32 × xG))} (h : f_X7_judge g a0 a1 a2 = some o) : xXi l yX7_judge wsX7_judge ({ frames := 7, cells := 1, slots := 6, locals := 120 }) D cy L g [.ref a0, .int a1, .int a2] o 1 6 := by
  refine xmx_z hst (cc := cX7_judge) (maxL := 5) RX7 rfl rfl rfl (by decide +kernel) rfl (Nat.le_of_ble_eq_true rfl) ?_
  intro p e s m args below meth c Q A S w hA hN hZ ret out thr ls hl
  have hl : lv_has ls 5 [(0, .ref a0), (1, .int a1), (2, .int a2)] := hl
  rw [f_X7_judge] at h
  refine lv_aload_n S.1 S.2.1 dX7_judge_0 rfl (lv_at hl 0 rfl) ?_
  refine lv_iload_n S.1 S.2.1 dX7_judge_1 rfl (lv_at hl 1 rfl) ?_
  obtain ⟨_, h1, h⟩ := xb h
  obtain ⟨x3, h2, h⟩ := xb h
  refine xr_callV_i S w hA hN 8 rfl h1 (c_X7_isNode l D cy L g a0 a1 h2) (cwV 1 S.2.2.2.2 gX7_judge_X7_isNode rfl rfl rfl (by decide +kernel) ⟨Nat.le_of_ble_eq_true rfl, Nat.le_of_ble_eq_true rfl⟩) rfl rfl hl.1 (Nat.le_of_ble_eq_true rfl) dX7_judge_2 ⟨Nat.le_of_ble_eq_true rfl, Nat.le_of_ble_eq_true rfl⟩ (fun H locs w => ?_)
  refine lv_if_eq (tgt := 20) S.1 S.2.1 dX7_judge_5 (by decide) (fun c5 => ?_) (fun c5 => ?_)
  · rw [if_pos c5] at h
    refine lv_iconst (v := 0) S.1 S.2.1 dX7_judge_20 (by decide) ?_
    exact xr_need0 S hst w hA hN hZ gX7_judge_X7_need ⟨Nat.le_of_ble_eq_true rfl, Nat.le_of_ble_eq_true rfl⟩ hl.1 (Nat.le_of_ble_eq_true rfl) dX7_judge_21 ⟨Nat.le_of_ble_eq_true rfl, Nat.le_of_ble_eq_true rfl⟩ (by decide) (fun H locs q ce w hc hv hcl => out _ _ _ _ _ _ _ _ _ _ h w hc hv hcl ⟨Nat.le_of_ble_eq_true rfl, Nat.le_of_ble_eq_true rfl⟩)
  · rw [if_neg c5] at h
    refine lv_aload_n S.1 S.2.1 dX7_judge_8 rfl (lv_at hl 0 rfl) ?_
    refine lv_iload_n S.1 S.2.1 dX7_judge_9 rfl (lv_at hl 2 rfl) ?_
    obtain ⟨_, h4, h⟩ := xb h
    obtain ⟨x6, h5, h⟩ := xb h
    refine xr_callV_i S w hA hN 8 rfl h4 (c_X7_isEvidence l D cy L g a0 a2 h5) (cwV 1 S.2.2.2.2 gX7_judge_X7_isEvidence rfl rfl rfl (by decide +kernel) ⟨Nat.le_of_ble_eq_true rfl, Nat.le_of_ble_eq_true rfl⟩) rfl rfl hl.1 (Nat.le_of_ble_eq_true rfl) dX7_judge_10 ⟨Nat.le_of_ble_eq_true rfl, Nat.le_of_ble_eq_true rfl⟩ (fun H locs w => ?_)
    refine lv_if_eq (tgt := 20) S.1 S.2.1 dX7_judge_13 (by decide) (fun c13 => ?_) (fun c13 => ?_)
    · rw [if_pos c13] at h
      refine lv_iconst (v := 0) S.1 S.2.1 dX7_judge_20 (by decide) ?_
      exact xr_need0 S hst w hA hN hZ gX7_judge_X7_need ⟨Nat.le_of_ble_eq_true rfl, Nat.le_of_ble_eq_true rfl⟩ hl.1 (Nat.le_of_ble_eq_true rfl) dX7_judge_21 ⟨Nat.le_of_ble_eq_true rfl, Nat.le_of_ble_eq_true rfl⟩ (by decide) (fun H locs q ce w hc hv hcl => out _ _ _ _ _ _ _ _ _ _ h w hc hv hcl ⟨Nat.le_of_ble_eq_true rfl, Nat.le_of_ble_eq_true rfl⟩)
    · rw [if_neg c13] at h
      refine lv_iconst (v := 1) S.1 S.2.1 dX7_judge_16 (by decide) ?_
      refine lv_goto (tgt := 21) S.1 S.2.1 dX7_judge_17 (by decide) ?_
      refine xr_need1 S hst w hA hN hZ gX7_judge_X7_need ⟨Nat.le_of_ble_eq_true rfl, Nat.le_of_ble_eq_true rfl⟩ hl.1 (Nat.le_of_ble_eq_true rfl) dX7_judge_21 ⟨Nat.le_of_ble_eq_true rfl, Nat.le_of_ble_eq_true rfl⟩ (by decide) (fun H locs w => ?_)
      refine lv_aload_n S.1 S.2.1 dX7_judge_24 rfl (lv_at hl 0 rfl) ?_
      obtain ⟨x7, h8, h⟩ := xb h
      refine xr_getr S w 8 xi_X7_judge_X7 rfl 3 (by decide) xl_X7_judge_25 h8 dX7_judge_25 ?_
      refine lv_iload_n S.1 S.2.1 dX7_judge_28 rfl (lv_at hl 2 rfl) ?_
      obtain ⟨_, h9, h⟩ := xb h
      obtain ⟨x11, h10, h⟩ := xb h
      refine xr_callV_r S w hA hN 0 rfl h9 (c_Jx4a65c_get_915e3 l D cy L g x7 a2 h10) (cwV 1 S.2.2.2.2 gX7_judge_Jx4a65c_get_915e3 rfl rfl rfl (by decide +kernel) ⟨Nat.le_of_ble_eq_true rfl, Nat.le_of_ble_eq_true rfl⟩) rfl rfl hl.1 (Nat.le_of_ble_eq_true rfl) dX7_judge_29 ⟨Nat.le_of_ble_eq_true rfl, Nat.le_of_ble_eq_true rfl⟩ (fun H locs w => ?_)
      obtain ⟨_, h12, h⟩ := xb h
      refine xr_cast S w 1 rfl xk_X7_judge_166 h12 dX7_judge_32 ?_
      refine lv_astore_n (lv' := [(3, .ref x11), (0, .ref a0), (1, .int a1), (2, .int a2)]) S.1 S.2.1 dX7_judge_35 rfl hl (by decide) rfl (fun ls hl => ?_)
      refine lv_aload_n S.1 S.2.1 dX7_judge_36 rfl (lv_at hl 1 rfl) ?_
      refine lv_aload_n S.1 S.2.1 dX7_judge_37 rfl (lv_at hl 0 rfl) ?_
      obtain ⟨_, h13, h⟩ := xb h
      obtain ⟨x15, g16, h14, h⟩ := x2b h
      refine xr_callV_i S w hA hN 8 rfl h13 (c_X7_proves l D cy L g a0 x11 h14) (cwV 1 S.2.2.2.2 gX7_judge_X7_proves rfl rfl rfl (by decide +kernel) ⟨Nat.le_of_ble_eq_true rfl, Nat.le_of_ble_eq_true rfl⟩) rfl rfl hl.1 (Nat.le_of_ble_eq_true rfl) dX7_judge_38 ⟨Nat.le_of_ble_eq_true rfl, Nat.le_of_ble_eq_true rfl⟩ (fun H locs w => ?_)
      refine lv_istore (lv' := [(4, .int x15), (3, .ref x11), (0, .ref a0), (1, .int a1), (2, .int a2)]) S.1 S.2.1 dX7_judge_41 hl (by decide) rfl (fun ls hl => ?_)
      refine lv_iload S.1 S.2.1 dX7_judge_43 (lv_at hl 0 rfl) ?_
      refine lv_if_eq (tgt := 64) S.1 S.2.1 dX7_judge_45 (by decide) (fun c45 => ?_) (fun c45 => ?_)
      · rw [if_pos c45] at h
        refine lv_iload S.1 S.2.1 dX7_judge_64 (lv_at hl 0 rfl) ?_
        obtain ⟨x18, h17, h⟩ := xb h
        exact ret _ _ _ _ _ _ x15 x18 _ h17 h w dX7_judge_66 ⟨Nat.le_of_ble_eq_true rfl, Nat.le_of_ble_eq_true rfl⟩
      · rw [if_neg c45] at h
        refine lv_aload_n S.1 S.2.1 dX7_judge_48 rfl (lv_at hl 2 rfl) ?_
        obtain ⟨x19, h20, h⟩ := xb h
        refine xr_getr S w 8 xi_X7_judge_X7 rfl 1 (by decide) xl_X7_judge_11 h20 dX7_judge_49 ?_
        refine lv_iload_n S.1 S.2.1 dX7_judge_52 rfl (lv_at hl 3 rfl) ?_
        obtain ⟨x21, h22, h⟩ := xb h
        refine xr_aald S w 5 "TellTale$Node" (fun _ => rfl) h22 dX7_judge_53 ?_
        obtain ⟨x23, h24, h⟩ := xb h
        refine xr_getr S w 5 xi_X7_judge_X4 rfl 4 (by decide) xl_X7_judge_152 h24 dX7_judge_54 ?_
        refine lv_aload_n S.1 S.2.1 dX7_judge_57 rfl (lv_at hl 1 rfl) ?_
        refine lv_iconst (v := 1) S.1 S.2.1 dX7_judge_58 (by decide) ?_
        obtain ⟨_, h25, h⟩ := xb h
        obtain ⟨x27, h26, h⟩ := xb h
        refine xr_callV_i S w hA hN 1 rfl h25 (c_X0_byteAt l D cy L g16 x11 1 h26) (cwV 1 S.2.2.2.2 gX7_judge_X0_byteAt rfl rfl rfl (by decide +kernel) ⟨Nat.le_of_ble_eq_true rfl, Nat.le_of_ble_eq_true rfl⟩) rfl rfl hl.1 (Nat.le_of_ble_eq_true rfl) dX7_judge_59 ⟨Nat.le_of_ble_eq_true rfl, Nat.le_of_ble_eq_true rfl⟩ (fun H locs w => ?_)
        refine lv_iconst (v := 2) S.1 S.2.1 dX7_judge_62 (by decide) ?_
        obtain ⟨g28, h29, h⟩ := xb h
        refine xr_iast S w h29 dX7_judge_63 (fun H locs w => ?_)
        refine lv_iload S.1 S.2.1 dX7_judge_64 (lv_at hl 0 rfl) ?_
        obtain ⟨x31, h30, h⟩ := xb h
        exact ret _ _ _ _ _ _ x15 x31 _ h30 h w dX7_judge_66 ⟨Nat.le_of_ble_eq_true rfl, Nat.le_of_ble_eq_true rfl⟩
theorem xi_X7_holds_X7 : ∀ w ∈ wsX70, w ∈ wsX7_holds := by decide +kernel
theorem xl_X7_holds_25 : Cond.fieldLink RX7 25 (TX7 3).1 (TX7 3).2.1 (TX7 3).2.2.1 ∈ wsX7_holds := by decide +kernel
theorem xk_X7_holds_166 : Cond.classLink RX7 166 RX0 ∈ wsX7_holds := by decide +kernel
def f_X7_holds (g : xG) (a0 : Nat) (a1 : Int32) : Option (Nat ⊕ (Int32 × xG)) :=
  (xk g 8 a0).bind fun _ =>
  (f_X7_isEvidence g a0 a1).bind fun x3 =>
  if x3 = 0 then
    some (.inl 1)
  else
  (xg_r g 8 a0 3).bind fun x4 =>
  (xk g 0 x4).bind fun _ =>
  (f_Jx4a65c_get_915e3 g x4 a1).bind fun x8 =>
  (xk g 1 x8).bind fun _ =>
  (xk g 8 a0).bind fun _ =>
  x2 (f_X7_proves g a0 x8) fun x12 g13 =>
  (xz x12).bind fun x15 =>
  some (.inr (x15, g13))
set_option maxHeartbeats 4000000 in
set_option maxRecDepth 100000 in
theorem c_X7_holds (l : Launch) (hst : l.stackTraces = false) (D : va_G) (cy : Nat → ClassId) (L : List Nat) (g : xG) (a0 : Nat) (a1 : Int32) {o : (Nat ⊕ (Int32 × xG))} (h : f_X7_holds g a0 a1 = some o) : xXi l yX7_holds wsX7_holds ({ frames := 7, cells := 1, slots := 6, locals := 120 }) D cy L g [.ref a0, .int a1] o 1 6 := by
  refine xmx_z hst (cc := cX7_holds) (maxL := 2) RX7 rfl rfl rfl (by decide +kernel) rfl (Nat.le_of_ble_eq_true rfl) ?_
  intro p e s m args below meth c Q A S w hA hN hZ ret out thr ls hl
  have hl : lv_has ls 2 [(0, .ref a0), (1, .int a1)] := hl
  rw [f_X7_holds] at h
  refine lv_aload_n S.1 S.2.1 dX7_holds_0 rfl (lv_at hl 0 rfl) ?_
  refine lv_iload_n S.1 S.2.1 dX7_holds_1 rfl (lv_at hl 1 rfl) ?_
  obtain ⟨_, h1, h⟩ := xb h
  obtain ⟨x3, h2, h⟩ := xb h
  refine xr_callV_i S w hA hN 8 rfl h1 (c_X7_isEvidence l D cy L g a0 a1 h2) (cwV 1 S.2.2.2.2 gX7_holds_X7_isEvidence rfl rfl rfl (by decide +kernel) ⟨Nat.le_of_ble_eq_true rfl, Nat.le_of_ble_eq_true rfl⟩) rfl rfl hl.1 (Nat.le_of_ble_eq_true rfl) dX7_holds_2 ⟨Nat.le_of_ble_eq_true rfl, Nat.le_of_ble_eq_true rfl⟩ (fun H locs w => ?_)
  by_cases c5 : x3 = 0
  · rw [if_pos c5] at h
    exact xr_need0 S hst w hA hN hZ gX7_holds_X7_need ⟨Nat.le_of_ble_eq_true rfl, Nat.le_of_ble_eq_true rfl⟩ hl.1 (Nat.le_of_ble_eq_true rfl) dX7_holds_5 ⟨Nat.le_of_ble_eq_true rfl, Nat.le_of_ble_eq_true rfl⟩ c5 (fun H locs q ce w hc hv hcl => out _ _ _ _ _ _ _ _ _ _ h w hc hv hcl ⟨Nat.le_of_ble_eq_true rfl, Nat.le_of_ble_eq_true rfl⟩)
  rw [if_neg c5] at h
  refine xr_need1 S hst w hA hN hZ gX7_holds_X7_need ⟨Nat.le_of_ble_eq_true rfl, Nat.le_of_ble_eq_true rfl⟩ hl.1 (Nat.le_of_ble_eq_true rfl) dX7_holds_5 ⟨Nat.le_of_ble_eq_true rfl, Nat.le_of_ble_eq_true rfl⟩ c5 (fun H locs w => ?_)
  refine lv_aload_n S.1 S.2.1 dX7_holds_8 rfl (lv_at hl 0 rfl) ?_
  refine lv_aload_n S.1 S.2.1 dX7_holds_9 rfl (lv_at hl 0 rfl) ?_
  obtain ⟨x4, h5, h⟩ := xb h
  refine xr_getr S w 8 xi_X7_holds_X7 rfl 3 (by decide) xl_X7_holds_25 h5 dX7_holds_10 ?_
  refine lv_iload_n S.1 S.2.1 dX7_holds_13 rfl (lv_at hl 1 rfl) ?_
  obtain ⟨_, h6, h⟩ := xb h
  obtain ⟨x8, h7, h⟩ := xb h
  refine xr_callV_r S w hA hN 0 rfl h6 (c_Jx4a65c_get_915e3 l D cy L g x4 a1 h7) (cwV 1 S.2.2.2.2 gX7_holds_Jx4a65c_get_915e3 rfl rfl rfl (by decide +kernel) ⟨Nat.le_of_ble_eq_true rfl, Nat.le_of_ble_eq_true rfl⟩) rfl rfl hl.1 (Nat.le_of_ble_eq_true rfl) dX7_holds_14 ⟨Nat.le_of_ble_eq_true rfl, Nat.le_of_ble_eq_true rfl⟩ (fun H locs w => ?_)
  obtain ⟨_, h9, h⟩ := xb h
  refine xr_cast S w 1 rfl xk_X7_holds_166 h9 dX7_holds_17 ?_
  obtain ⟨_, h10, h⟩ := xb h
  obtain ⟨x12, g13, h11, h⟩ := x2b h
  refine xr_callV_i S w hA hN 8 rfl h10 (c_X7_proves l D cy L g a0 x8 h11) (cwV 1 S.2.2.2.2 gX7_holds_X7_proves rfl rfl rfl (by decide +kernel) ⟨Nat.le_of_ble_eq_true rfl, Nat.le_of_ble_eq_true rfl⟩) rfl rfl hl.1 (Nat.le_of_ble_eq_true rfl) dX7_holds_20 ⟨Nat.le_of_ble_eq_true rfl, Nat.le_of_ble_eq_true rfl⟩ (fun H locs w => ?_)
  obtain ⟨x15, h14, h⟩ := xb h
  exact ret _ _ _ _ _ _ x12 x15 _ h14 h w dX7_holds_23 ⟨Nat.le_of_ble_eq_true rfl, Nat.le_of_ble_eq_true rfl⟩
theorem xi_X7_byteOf_X7 : ∀ w ∈ wsX70, w ∈ wsX7_byteOf := by decide +kernel
theorem xl_X7_byteOf_25 : Cond.fieldLink RX7 25 (TX7 3).1 (TX7 3).2.1 (TX7 3).2.2.1 ∈ wsX7_byteOf := by decide +kernel
theorem xk_X7_byteOf_166 : Cond.classLink RX7 166 RX0 ∈ wsX7_byteOf := by decide +kernel
def f_X7_byteOf (g : xG) (a0 : Nat) (a1 : Int32) (a2 : Int32) : Option (Nat ⊕ (Int32 × xG)) :=
  (xk g 8 a0).bind fun _ =>
  (f_X7_isEvidence g a0 a1).bind fun x3 =>
  if x3 = 0 then
    some (.inl 1)
  else
  (xg_r g 8 a0 3).bind fun x4 =>
  (xk g 0 x4).bind fun _ =>
  (f_Jx4a65c_get_915e3 g x4 a1).bind fun x8 =>
  (xk g 1 x8).bind fun _ =>
  (xk g 1 x8).bind fun _ =>
  (f_X0_hasByte g x8 a2).bind fun x12 =>
  if x12 = 0 then
    some (.inr ((-1), g))
  else
    (xk g 1 x8).bind fun _ =>
    (f_X0_byteAt g x8 a2).bind fun x15 =>
    some (.inr (x15, g))
set_option maxHeartbeats 4000000 in
set_option maxRecDepth 100000 in
theorem c_X7_byteOf (l : Launch) (hst : l.stackTraces = false) (D : va_G) (cy : Nat → ClassId) (L : List Nat) (g : xG) (a0 : Nat) (a1 : Int32) (a2 : Int32) {o : (Nat ⊕ (Int32 × xG))} (h : f_X7_byteOf g a0 a1 a2 = some o) : xXi l yX7_byteOf wsX7_byteOf ({ frames := 7, cells := 1, slots := 6, locals := 110 }) D cy L g [.ref a0, .int a1, .int a2] o 1 6 := by
  refine xmx_i hst (cc := cX7_byteOf) (maxL := 4) RX7 rfl rfl rfl (by decide +kernel) rfl (Nat.le_of_ble_eq_true rfl) ?_
  intro p e s m args below meth c Q A S w hA hN hZ ret out thr ls hl
  have hl : lv_has ls 4 [(0, .ref a0), (1, .int a1), (2, .int a2)] := hl
  rw [f_X7_byteOf] at h
  refine lv_aload_n S.1 S.2.1 dX7_byteOf_0 rfl (lv_at hl 0 rfl) ?_
  refine lv_iload_n S.1 S.2.1 dX7_byteOf_1 rfl (lv_at hl 1 rfl) ?_
  obtain ⟨_, h1, h⟩ := xb h
  obtain ⟨x3, h2, h⟩ := xb h
  refine xr_callV_i S w hA hN 8 rfl h1 (c_X7_isEvidence l D cy L g a0 a1 h2) (cwV 1 S.2.2.2.2 gX7_byteOf_X7_isEvidence rfl rfl rfl (by decide +kernel) ⟨Nat.le_of_ble_eq_true rfl, Nat.le_of_ble_eq_true rfl⟩) rfl rfl hl.1 (Nat.le_of_ble_eq_true rfl) dX7_byteOf_2 ⟨Nat.le_of_ble_eq_true rfl, Nat.le_of_ble_eq_true rfl⟩ (fun H locs w => ?_)
  by_cases c5 : x3 = 0
  · rw [if_pos c5] at h
    exact xr_need0 S hst w hA hN hZ gX7_byteOf_X7_need ⟨Nat.le_of_ble_eq_true rfl, Nat.le_of_ble_eq_true rfl⟩ hl.1 (Nat.le_of_ble_eq_true rfl) dX7_byteOf_5 ⟨Nat.le_of_ble_eq_true rfl, Nat.le_of_ble_eq_true rfl⟩ c5 (fun H locs q ce w hc hv hcl => out _ _ _ _ _ _ _ _ _ _ h w hc hv hcl ⟨Nat.le_of_ble_eq_true rfl, Nat.le_of_ble_eq_true rfl⟩)
  rw [if_neg c5] at h
  refine xr_need1 S hst w hA hN hZ gX7_byteOf_X7_need ⟨Nat.le_of_ble_eq_true rfl, Nat.le_of_ble_eq_true rfl⟩ hl.1 (Nat.le_of_ble_eq_true rfl) dX7_byteOf_5 ⟨Nat.le_of_ble_eq_true rfl, Nat.le_of_ble_eq_true rfl⟩ c5 (fun H locs w => ?_)
  refine lv_aload_n S.1 S.2.1 dX7_byteOf_8 rfl (lv_at hl 0 rfl) ?_
  obtain ⟨x4, h5, h⟩ := xb h
  refine xr_getr S w 8 xi_X7_byteOf_X7 rfl 3 (by decide) xl_X7_byteOf_25 h5 dX7_byteOf_9 ?_
  refine lv_iload_n S.1 S.2.1 dX7_byteOf_12 rfl (lv_at hl 1 rfl) ?_
  obtain ⟨_, h6, h⟩ := xb h
  obtain ⟨x8, h7, h⟩ := xb h
  refine xr_callV_r S w hA hN 0 rfl h6 (c_Jx4a65c_get_915e3 l D cy L g x4 a1 h7) (cwV 1 S.2.2.2.2 gX7_byteOf_Jx4a65c_get_915e3 rfl rfl rfl (by decide +kernel) ⟨Nat.le_of_ble_eq_true rfl, Nat.le_of_ble_eq_true rfl⟩) rfl rfl hl.1 (Nat.le_of_ble_eq_true rfl) dX7_byteOf_13 ⟨Nat.le_of_ble_eq_true rfl, Nat.le_of_ble_eq_true rfl⟩ (fun H locs w => ?_)
  obtain ⟨_, h9, h⟩ := xb h
  refine xr_cast S w 1 rfl xk_X7_byteOf_166 h9 dX7_byteOf_16 ?_
  refine lv_astore_n (lv' := [(3, .ref x8), (0, .ref a0), (1, .int a1), (2, .int a2)]) S.1 S.2.1 dX7_byteOf_19 rfl hl (by decide) rfl (fun ls hl => ?_)
  refine lv_aload_n S.1 S.2.1 dX7_byteOf_20 rfl (lv_at hl 0 rfl) ?_
  refine lv_iload_n S.1 S.2.1 dX7_byteOf_21 rfl (lv_at hl 3 rfl) ?_
  obtain ⟨_, h10, h⟩ := xb h
  obtain ⟨x12, h11, h⟩ := xb h
  refine xr_callV_i S w hA hN 1 rfl h10 (c_X0_hasByte l D cy L g x8 a2 h11) (cwV 1 S.2.2.2.2 gX7_byteOf_X0_hasByte rfl rfl rfl (by decide +kernel) ⟨Nat.le_of_ble_eq_true rfl, Nat.le_of_ble_eq_true rfl⟩) rfl rfl hl.1 (Nat.le_of_ble_eq_true rfl) dX7_byteOf_22 ⟨Nat.le_of_ble_eq_true rfl, Nat.le_of_ble_eq_true rfl⟩ (fun H locs w => ?_)
  refine lv_if_eq (tgt := 36) S.1 S.2.1 dX7_byteOf_25 (by decide) (fun c25 => ?_) (fun c25 => ?_)
  · rw [if_pos c25] at h
    refine lv_iconst (v := (-1)) S.1 S.2.1 dX7_byteOf_36 (by decide) ?_
    exact ret _ _ _ _ _ _ _ _ h w dX7_byteOf_37 ⟨Nat.le_of_ble_eq_true rfl, Nat.le_of_ble_eq_true rfl⟩
  · rw [if_neg c25] at h
    refine lv_aload_n S.1 S.2.1 dX7_byteOf_28 rfl (lv_at hl 0 rfl) ?_
    refine lv_iload_n S.1 S.2.1 dX7_byteOf_29 rfl (lv_at hl 3 rfl) ?_
    obtain ⟨_, h13, h⟩ := xb h
    obtain ⟨x15, h14, h⟩ := xb h
    refine xr_callV_i S w hA hN 1 rfl h13 (c_X0_byteAt l D cy L g x8 a2 h14) (cwV 1 S.2.2.2.2 gX7_byteOf_X0_byteAt rfl rfl rfl (by decide +kernel) ⟨Nat.le_of_ble_eq_true rfl, Nat.le_of_ble_eq_true rfl⟩) rfl rfl hl.1 (Nat.le_of_ble_eq_true rfl) dX7_byteOf_30 ⟨Nat.le_of_ble_eq_true rfl, Nat.le_of_ble_eq_true rfl⟩ (fun H locs w => ?_)
    refine lv_goto (tgt := 37) S.1 S.2.1 dX7_byteOf_33 (by decide) ?_
    exact ret _ _ _ _ _ _ _ _ h w dX7_byteOf_37 ⟨Nat.le_of_ble_eq_true rfl, Nat.le_of_ble_eq_true rfl⟩
theorem xi_X7_smudge_X7 : ∀ w ∈ wsX70, w ∈ wsX7_smudge := by decide +kernel
theorem xl_X7_smudge_25 : Cond.fieldLink RX7 25 (TX7 3).1 (TX7 3).2.1 (TX7 3).2.2.1 ∈ wsX7_smudge := by decide +kernel
theorem xk_X7_smudge_166 : Cond.classLink RX7 166 RX0 ∈ wsX7_smudge := by decide +kernel
theorem xi_X7_smudge_X0 : ∀ w ∈ wsX00, w ∈ wsX7_smudge := by decide +kernel
theorem xl_X7_smudge_179 : Cond.fieldLink RX7 179 (TX0 1).1 (TX0 1).2.1 (TX0 1).2.2.1 ∈ wsX7_smudge := by decide +kernel
def f_X7_smudge (g : xG) (a0 : Nat) (a1 : Int32) (a2 : Int32) (a3 : Int32) : Option (Nat ⊕ (Int32 × xG)) :=
  (xk g 8 a0).bind fun _ =>
  (f_X7_isEvidence g a0 a1).bind fun x3 =>
  if x3 = 0 then
    some (.inl 1)
  else
    (xg_r g 8 a0 3).bind fun x4 =>
    (xk g 0 x4).bind fun _ =>
    (f_Jx4a65c_get_915e3 g x4 a1).bind fun x8 =>
    (xk g 1 x8).bind fun _ =>
    (xk g 1 x8).bind fun _ =>
    (f_X0_hasByte g x8 a2).bind fun x12 =>
    if x12 = 0 then
      some (.inl 1)
    else
      if a3 < 0 then
        some (.inl 1)
      else
        if 255 < a3 then
          some (.inl 1)
        else
          (xg_r g 8 a0 3).bind fun x13 =>
          (xk g 0 x13).bind fun _ =>
          (f_Jx4a65c_get_915e3 g x13 a1).bind fun x17 =>
          (xk g 1 x17).bind fun _ =>
          (xk g 1 x17).bind fun _ =>
          (f_X0_byteAt g x17 a2).bind fun x21 =>
          (xg_r g 1 x17 1).bind fun x22 =>
          (xs_i 0 g x22 a2 (Int8.toInt32 (Int32.toInt8 a3))).bind fun g24 =>
          some (.inr (x21, g24))
set_option maxHeartbeats 4000000 in
set_option maxRecDepth 100000 in
theorem c_X7_smudge (l : Launch) (hst : l.stackTraces = false) (D : va_G) (cy : Nat → ClassId) (L : List Nat) (g : xG) (a0 : Nat) (a1 : Int32) (a2 : Int32) (a3 : Int32) {o : (Nat ⊕ (Int32 × xG))} (h : f_X7_smudge g a0 a1 a2 a3 = some o) : xXi l yX7_smudge wsX7_smudge ({ frames := 7, cells := 1, slots := 6, locals := 110 }) D cy L g [.ref a0, .int a1, .int a2, .int a3] o 1 6 := by
  refine xmx_i hst (cc := cX7_smudge) (maxL := 6) RX7 rfl rfl rfl (by decide +kernel) rfl (Nat.le_of_ble_eq_true rfl) ?_
  intro p e s m args below meth c Q A S w hA hN hZ ret out thr ls hl
  have hl : lv_has ls 6 [(0, .ref a0), (1, .int a1), (2, .int a2), (3, .int a3)] := hl
  rw [f_X7_smudge] at h
  refine lv_aload_n S.1 S.2.1 dX7_smudge_0 rfl (lv_at hl 0 rfl) ?_
  refine lv_iload_n S.1 S.2.1 dX7_smudge_1 rfl (lv_at hl 1 rfl) ?_
  obtain ⟨_, h1, h⟩ := xb h
  obtain ⟨x3, h2, h⟩ := xb h
  refine xr_callV_i S w hA hN 8 rfl h1 (c_X7_isEvidence l D cy L g a0 a1 h2) (cwV 1 S.2.2.2.2 gX7_smudge_X7_isEvidence rfl rfl rfl (by decide +kernel) ⟨Nat.le_of_ble_eq_true rfl, Nat.le_of_ble_eq_true rfl⟩) rfl rfl hl.1 (Nat.le_of_ble_eq_true rfl) dX7_smudge_2 ⟨Nat.le_of_ble_eq_true rfl, Nat.le_of_ble_eq_true rfl⟩ (fun H locs w => ?_)
  refine lv_if_eq (tgt := 41) S.1 S.2.1 dX7_smudge_5 (by decide) (fun c5 => ?_) (fun c5 => ?_)
  · rw [if_pos c5] at h
    refine lv_iconst (v := 0) S.1 S.2.1 dX7_smudge_41 (by decide) ?_
    exact xr_need0 S hst w hA hN hZ gX7_smudge_X7_need ⟨Nat.le_of_ble_eq_true rfl, Nat.le_of_ble_eq_true rfl⟩ hl.1 (Nat.le_of_ble_eq_true rfl) dX7_smudge_42 ⟨Nat.le_of_ble_eq_true rfl, Nat.le_of_ble_eq_true rfl⟩ (by decide) (fun H locs q ce w hc hv hcl => out _ _ _ _ _ _ _ _ _ _ h w hc hv hcl ⟨Nat.le_of_ble_eq_true rfl, Nat.le_of_ble_eq_true rfl⟩)
  · rw [if_neg c5] at h
    refine lv_aload_n S.1 S.2.1 dX7_smudge_8 rfl (lv_at hl 0 rfl) ?_
    obtain ⟨x4, h5, h⟩ := xb h
    refine xr_getr S w 8 xi_X7_smudge_X7 rfl 3 (by decide) xl_X7_smudge_25 h5 dX7_smudge_9 ?_
    refine lv_iload_n S.1 S.2.1 dX7_smudge_12 rfl (lv_at hl 1 rfl) ?_
    obtain ⟨_, h6, h⟩ := xb h
    obtain ⟨x8, h7, h⟩ := xb h
    refine xr_callV_r S w hA hN 0 rfl h6 (c_Jx4a65c_get_915e3 l D cy L g x4 a1 h7) (cwV 1 S.2.2.2.2 gX7_smudge_Jx4a65c_get_915e3 rfl rfl rfl (by decide +kernel) ⟨Nat.le_of_ble_eq_true rfl, Nat.le_of_ble_eq_true rfl⟩) rfl rfl hl.1 (Nat.le_of_ble_eq_true rfl) dX7_smudge_13 ⟨Nat.le_of_ble_eq_true rfl, Nat.le_of_ble_eq_true rfl⟩ (fun H locs w => ?_)
    obtain ⟨_, h9, h⟩ := xb h
    refine xr_cast S w 1 rfl xk_X7_smudge_166 h9 dX7_smudge_16 ?_
    refine lv_iload_n S.1 S.2.1 dX7_smudge_19 rfl (lv_at hl 2 rfl) ?_
    obtain ⟨_, h10, h⟩ := xb h
    obtain ⟨x12, h11, h⟩ := xb h
    refine xr_callV_i S w hA hN 1 rfl h10 (c_X0_hasByte l D cy L g x8 a2 h11) (cwV 1 S.2.2.2.2 gX7_smudge_X0_hasByte rfl rfl rfl (by decide +kernel) ⟨Nat.le_of_ble_eq_true rfl, Nat.le_of_ble_eq_true rfl⟩) rfl rfl hl.1 (Nat.le_of_ble_eq_true rfl) dX7_smudge_20 ⟨Nat.le_of_ble_eq_true rfl, Nat.le_of_ble_eq_true rfl⟩ (fun H locs w => ?_)
    refine lv_if_eq (tgt := 41) S.1 S.2.1 dX7_smudge_23 (by decide) (fun c23 => ?_) (fun c23 => ?_)
    · rw [if_pos c23] at h
      refine lv_iconst (v := 0) S.1 S.2.1 dX7_smudge_41 (by decide) ?_
      exact xr_need0 S hst w hA hN hZ gX7_smudge_X7_need ⟨Nat.le_of_ble_eq_true rfl, Nat.le_of_ble_eq_true rfl⟩ hl.1 (Nat.le_of_ble_eq_true rfl) dX7_smudge_42 ⟨Nat.le_of_ble_eq_true rfl, Nat.le_of_ble_eq_true rfl⟩ (by decide) (fun H locs q ce w hc hv hcl => out _ _ _ _ _ _ _ _ _ _ h w hc hv hcl ⟨Nat.le_of_ble_eq_true rfl, Nat.le_of_ble_eq_true rfl⟩)
    · rw [if_neg c23] at h
      refine lv_iload_n S.1 S.2.1 dX7_smudge_26 rfl (lv_at hl 3 rfl) ?_
      refine lv_if_lt (tgt := 41) S.1 S.2.1 dX7_smudge_27 (by decide) (fun c27 => ?_) (fun c27 => ?_)
      · rw [if_pos c27] at h
        refine lv_iconst (v := 0) S.1 S.2.1 dX7_smudge_41 (by decide) ?_
        exact xr_need0 S hst w hA hN hZ gX7_smudge_X7_need ⟨Nat.le_of_ble_eq_true rfl, Nat.le_of_ble_eq_true rfl⟩ hl.1 (Nat.le_of_ble_eq_true rfl) dX7_smudge_42 ⟨Nat.le_of_ble_eq_true rfl, Nat.le_of_ble_eq_true rfl⟩ (by decide) (fun H locs q ce w hc hv hcl => out _ _ _ _ _ _ _ _ _ _ h w hc hv hcl ⟨Nat.le_of_ble_eq_true rfl, Nat.le_of_ble_eq_true rfl⟩)
      · rw [if_neg c27] at h
        refine lv_iload_n S.1 S.2.1 dX7_smudge_30 rfl (lv_at hl 3 rfl) ?_
        refine lv_sipush (v := 255) S.1 S.2.1 dX7_smudge_31 (by decide) ?_
        refine lv_icmp_gt (tgt := 41) S.1 S.2.1 dX7_smudge_34 (by decide) (fun c34 => ?_) (fun c34 => ?_)
        · rw [if_pos c34] at h
          refine lv_iconst (v := 0) S.1 S.2.1 dX7_smudge_41 (by decide) ?_
          exact xr_need0 S hst w hA hN hZ gX7_smudge_X7_need ⟨Nat.le_of_ble_eq_true rfl, Nat.le_of_ble_eq_true rfl⟩ hl.1 (Nat.le_of_ble_eq_true rfl) dX7_smudge_42 ⟨Nat.le_of_ble_eq_true rfl, Nat.le_of_ble_eq_true rfl⟩ (by decide) (fun H locs q ce w hc hv hcl => out _ _ _ _ _ _ _ _ _ _ h w hc hv hcl ⟨Nat.le_of_ble_eq_true rfl, Nat.le_of_ble_eq_true rfl⟩)
        · rw [if_neg c34] at h
          refine lv_iconst (v := 1) S.1 S.2.1 dX7_smudge_37 (by decide) ?_
          refine lv_goto (tgt := 42) S.1 S.2.1 dX7_smudge_38 (by decide) ?_
          refine xr_need1 S hst w hA hN hZ gX7_smudge_X7_need ⟨Nat.le_of_ble_eq_true rfl, Nat.le_of_ble_eq_true rfl⟩ hl.1 (Nat.le_of_ble_eq_true rfl) dX7_smudge_42 ⟨Nat.le_of_ble_eq_true rfl, Nat.le_of_ble_eq_true rfl⟩ (by decide) (fun H locs w => ?_)
          refine lv_aload_n S.1 S.2.1 dX7_smudge_45 rfl (lv_at hl 0 rfl) ?_
          obtain ⟨x13, h14, h⟩ := xb h
          refine xr_getr S w 8 xi_X7_smudge_X7 rfl 3 (by decide) xl_X7_smudge_25 h14 dX7_smudge_46 ?_
          refine lv_iload_n S.1 S.2.1 dX7_smudge_49 rfl (lv_at hl 1 rfl) ?_
          obtain ⟨_, h15, h⟩ := xb h
          obtain ⟨x17, h16, h⟩ := xb h
          refine xr_callV_r S w hA hN 0 rfl h15 (c_Jx4a65c_get_915e3 l D cy L g x13 a1 h16) (cwV 1 S.2.2.2.2 gX7_smudge_Jx4a65c_get_915e3 rfl rfl rfl (by decide +kernel) ⟨Nat.le_of_ble_eq_true rfl, Nat.le_of_ble_eq_true rfl⟩) rfl rfl hl.1 (Nat.le_of_ble_eq_true rfl) dX7_smudge_50 ⟨Nat.le_of_ble_eq_true rfl, Nat.le_of_ble_eq_true rfl⟩ (fun H locs w => ?_)
          obtain ⟨_, h18, h⟩ := xb h
          refine xr_cast S w 1 rfl xk_X7_smudge_166 h18 dX7_smudge_53 ?_
          refine lv_astore (lv' := [(4, .ref x17), (0, .ref a0), (1, .int a1), (2, .int a2), (3, .int a3)]) S.1 S.2.1 dX7_smudge_56 hl (by decide) rfl (fun ls hl => ?_)
          refine lv_aload S.1 S.2.1 dX7_smudge_58 (lv_at hl 0 rfl) ?_
          refine lv_iload_n S.1 S.2.1 dX7_smudge_60 rfl (lv_at hl 3 rfl) ?_
          obtain ⟨_, h19, h⟩ := xb h
          obtain ⟨x21, h20, h⟩ := xb h
          refine xr_callV_i S w hA hN 1 rfl h19 (c_X0_byteAt l D cy L g x17 a2 h20) (cwV 1 S.2.2.2.2 gX7_smudge_X0_byteAt rfl rfl rfl (by decide +kernel) ⟨Nat.le_of_ble_eq_true rfl, Nat.le_of_ble_eq_true rfl⟩) rfl rfl hl.1 (Nat.le_of_ble_eq_true rfl) dX7_smudge_61 ⟨Nat.le_of_ble_eq_true rfl, Nat.le_of_ble_eq_true rfl⟩ (fun H locs w => ?_)
          refine lv_istore (lv' := [(5, .int x21), (4, .ref x17), (0, .ref a0), (1, .int a1), (2, .int a2), (3, .int a3)]) S.1 S.2.1 dX7_smudge_64 hl (by decide) rfl (fun ls hl => ?_)
          refine lv_aload S.1 S.2.1 dX7_smudge_66 (lv_at hl 1 rfl) ?_
          obtain ⟨x22, h23, h⟩ := xb h
          refine xr_getr S w 1 xi_X7_smudge_X0 rfl 1 (by decide) xl_X7_smudge_179 h23 dX7_smudge_68 ?_
          refine lv_iload_n S.1 S.2.1 dX7_smudge_71 rfl (lv_at hl 4 rfl) ?_
          refine lv_iload_n S.1 S.2.1 dX7_smudge_72 rfl (lv_at hl 5 rfl) ?_
          refine lv_i2b (v := (Int8.toInt32 (Int32.toInt8 a3))) S.1 S.2.1 dX7_smudge_73 rfl ?_
          obtain ⟨g24, h25, h⟩ := xb h
          refine xr_bast S w h25 dX7_smudge_74 (fun H locs w => ?_)
          refine lv_iload S.1 S.2.1 dX7_smudge_75 (lv_at hl 0 rfl) ?_
          exact ret _ _ _ _ _ _ _ _ h w dX7_smudge_77 ⟨Nat.le_of_ble_eq_true rfl, Nat.le_of_ble_eq_true rfl⟩
theorem xi_X7_verdict_X7 : ∀ w ∈ wsX70, w ∈ wsX7_verdict := by decide +kernel
theorem xl_X7_verdict_11 : Cond.fieldLink RX7 11 (TX7 1).1 (TX7 1).2.1 (TX7 1).2.2.1 ∈ wsX7_verdict := by decide +kernel
theorem xi_X7_verdict_X4 : ∀ w ∈ wsX40, w ∈ wsX7_verdict := by decide +kernel
theorem xl_X7_verdict_152 : Cond.fieldLink RX7 152 (TX4 4).1 (TX4 4).2.1 (TX4 4).2.2.1 ∈ wsX7_verdict := by decide +kernel
def f_X7_verdict (g : xG) (a0 : Nat) (a1 : Int32) (a2 : Int32) : Option (Nat ⊕ (Int32 × xG)) :=
  (xk g 8 a0).bind fun _ =>
  (f_X7_isNode g a0 a1).bind fun x3 =>
  if x3 = 0 then
    some (.inl 1)
  else
    (xk g 8 a0).bind fun _ =>
    (f_X7_isNode g a0 a2).bind fun x6 =>
    if x6 = 0 then
      some (.inl 1)
    else
      if a1 = a2 then
        some (.inl 1)
      else
        (xg_r g 8 a0 1).bind fun x7 =>
        (xa_r 5 g x7 a1).bind fun x9 =>
        (xg_r g 5 x9 4).bind fun x11 =>
        (xa_i 1 g x11 a2).bind fun x13 =>
        some (.inr (x13, g))
set_option maxHeartbeats 4000000 in
set_option maxRecDepth 100000 in
theorem c_X7_verdict (l : Launch) (hst : l.stackTraces = false) (D : va_G) (cy : Nat → ClassId) (L : List Nat) (g : xG) (a0 : Nat) (a1 : Int32) (a2 : Int32) {o : (Nat ⊕ (Int32 × xG))} (h : f_X7_verdict g a0 a1 a2 = some o) : xXi l yX7_verdict wsX7_verdict ({ frames := 7, cells := 1, slots := 6, locals := 110 }) D cy L g [.ref a0, .int a1, .int a2] o 1 6 := by
  refine xmx_i hst (cc := cX7_verdict) (maxL := 3) RX7 rfl rfl rfl (by decide +kernel) rfl (Nat.le_of_ble_eq_true rfl) ?_
  intro p e s m args below meth c Q A S w hA hN hZ ret out thr ls hl
  have hl : lv_has ls 3 [(0, .ref a0), (1, .int a1), (2, .int a2)] := hl
  rw [f_X7_verdict] at h
  refine lv_aload_n S.1 S.2.1 dX7_verdict_0 rfl (lv_at hl 0 rfl) ?_
  refine lv_iload_n S.1 S.2.1 dX7_verdict_1 rfl (lv_at hl 1 rfl) ?_
  obtain ⟨_, h1, h⟩ := xb h
  obtain ⟨x3, h2, h⟩ := xb h
  refine xr_callV_i S w hA hN 8 rfl h1 (c_X7_isNode l D cy L g a0 a1 h2) (cwV 1 S.2.2.2.2 gX7_verdict_X7_isNode rfl rfl rfl (by decide +kernel) ⟨Nat.le_of_ble_eq_true rfl, Nat.le_of_ble_eq_true rfl⟩) rfl rfl hl.1 (Nat.le_of_ble_eq_true rfl) dX7_verdict_2 ⟨Nat.le_of_ble_eq_true rfl, Nat.le_of_ble_eq_true rfl⟩ (fun H locs w => ?_)
  refine lv_if_eq (tgt := 25) S.1 S.2.1 dX7_verdict_5 (by decide) (fun c5 => ?_) (fun c5 => ?_)
  · rw [if_pos c5] at h
    refine lv_iconst (v := 0) S.1 S.2.1 dX7_verdict_25 (by decide) ?_
    exact xr_need0 S hst w hA hN hZ gX7_verdict_X7_need ⟨Nat.le_of_ble_eq_true rfl, Nat.le_of_ble_eq_true rfl⟩ hl.1 (Nat.le_of_ble_eq_true rfl) dX7_verdict_26 ⟨Nat.le_of_ble_eq_true rfl, Nat.le_of_ble_eq_true rfl⟩ (by decide) (fun H locs q ce w hc hv hcl => out _ _ _ _ _ _ _ _ _ _ h w hc hv hcl ⟨Nat.le_of_ble_eq_true rfl, Nat.le_of_ble_eq_true rfl⟩)
  · rw [if_neg c5] at h
    refine lv_aload_n S.1 S.2.1 dX7_verdict_8 rfl (lv_at hl 0 rfl) ?_
    refine lv_iload_n S.1 S.2.1 dX7_verdict_9 rfl (lv_at hl 2 rfl) ?_
    obtain ⟨_, h4, h⟩ := xb h
    obtain ⟨x6, h5, h⟩ := xb h
    refine xr_callV_i S w hA hN 8 rfl h4 (c_X7_isNode l D cy L g a0 a2 h5) (cwV 1 S.2.2.2.2 gX7_verdict_X7_isNode rfl rfl rfl (by decide +kernel) ⟨Nat.le_of_ble_eq_true rfl, Nat.le_of_ble_eq_true rfl⟩) rfl rfl hl.1 (Nat.le_of_ble_eq_true rfl) dX7_verdict_10 ⟨Nat.le_of_ble_eq_true rfl, Nat.le_of_ble_eq_true rfl⟩ (fun H locs w => ?_)
    refine lv_if_eq (tgt := 25) S.1 S.2.1 dX7_verdict_13 (by decide) (fun c13 => ?_) (fun c13 => ?_)
    · rw [if_pos c13] at h
      refine lv_iconst (v := 0) S.1 S.2.1 dX7_verdict_25 (by decide) ?_
      exact xr_need0 S hst w hA hN hZ gX7_verdict_X7_need ⟨Nat.le_of_ble_eq_true rfl, Nat.le_of_ble_eq_true rfl⟩ hl.1 (Nat.le_of_ble_eq_true rfl) dX7_verdict_26 ⟨Nat.le_of_ble_eq_true rfl, Nat.le_of_ble_eq_true rfl⟩ (by decide) (fun H locs q ce w hc hv hcl => out _ _ _ _ _ _ _ _ _ _ h w hc hv hcl ⟨Nat.le_of_ble_eq_true rfl, Nat.le_of_ble_eq_true rfl⟩)
    · rw [if_neg c13] at h
      refine lv_iload_n S.1 S.2.1 dX7_verdict_16 rfl (lv_at hl 1 rfl) ?_
      refine lv_iload_n S.1 S.2.1 dX7_verdict_17 rfl (lv_at hl 2 rfl) ?_
      refine lv_icmp_eq (tgt := 25) S.1 S.2.1 dX7_verdict_18 (by decide) (fun c18 => ?_) (fun c18 => ?_)
      · rw [if_pos c18] at h
        refine lv_iconst (v := 0) S.1 S.2.1 dX7_verdict_25 (by decide) ?_
        exact xr_need0 S hst w hA hN hZ gX7_verdict_X7_need ⟨Nat.le_of_ble_eq_true rfl, Nat.le_of_ble_eq_true rfl⟩ hl.1 (Nat.le_of_ble_eq_true rfl) dX7_verdict_26 ⟨Nat.le_of_ble_eq_true rfl, Nat.le_of_ble_eq_true rfl⟩ (by decide) (fun H locs q ce w hc hv hcl => out _ _ _ _ _ _ _ _ _ _ h w hc hv hcl ⟨Nat.le_of_ble_eq_true rfl, Nat.le_of_ble_eq_true rfl⟩)
      · rw [if_neg c18] at h
        refine lv_iconst (v := 1) S.1 S.2.1 dX7_verdict_21 (by decide) ?_
        refine lv_goto (tgt := 26) S.1 S.2.1 dX7_verdict_22 (by decide) ?_
        refine xr_need1 S hst w hA hN hZ gX7_verdict_X7_need ⟨Nat.le_of_ble_eq_true rfl, Nat.le_of_ble_eq_true rfl⟩ hl.1 (Nat.le_of_ble_eq_true rfl) dX7_verdict_26 ⟨Nat.le_of_ble_eq_true rfl, Nat.le_of_ble_eq_true rfl⟩ (by decide) (fun H locs w => ?_)
        refine lv_aload_n S.1 S.2.1 dX7_verdict_29 rfl (lv_at hl 0 rfl) ?_
        obtain ⟨x7, h8, h⟩ := xb h
        refine xr_getr S w 8 xi_X7_verdict_X7 rfl 1 (by decide) xl_X7_verdict_11 h8 dX7_verdict_30 ?_
        refine lv_iload_n S.1 S.2.1 dX7_verdict_33 rfl (lv_at hl 1 rfl) ?_
        obtain ⟨x9, h10, h⟩ := xb h
        refine xr_aald S w 5 "TellTale$Node" (fun _ => rfl) h10 dX7_verdict_34 ?_
        obtain ⟨x11, h12, h⟩ := xb h
        refine xr_getr S w 5 xi_X7_verdict_X4 rfl 4 (by decide) xl_X7_verdict_152 h12 dX7_verdict_35 ?_
        refine lv_iload_n S.1 S.2.1 dX7_verdict_38 rfl (lv_at hl 2 rfl) ?_
        obtain ⟨x13, h14, h⟩ := xb h
        refine xr_iald S w h14 dX7_verdict_39 ?_
        exact ret _ _ _ _ _ _ _ _ h w dX7_verdict_40 ⟨Nat.le_of_ble_eq_true rfl, Nat.le_of_ble_eq_true rfl⟩
theorem xi_X7_entry_X7 : ∀ w ∈ wsX70, w ∈ wsX7_entry := by decide +kernel
theorem xl_X7_entry_11 : Cond.fieldLink RX7 11 (TX7 1).1 (TX7 1).2.1 (TX7 1).2.2.1 ∈ wsX7_entry := by decide +kernel
theorem xi_X7_entry_X4 : ∀ w ∈ wsX40, w ∈ wsX7_entry := by decide +kernel
theorem xl_X7_entry_57 : Cond.fieldLink RX7 57 (TX4 2).1 (TX4 2).2.1 (TX4 2).2.2.1 ∈ wsX7_entry := by decide +kernel
theorem xi_X7_entry_X2 : ∀ w ∈ wsX20, w ∈ wsX7_entry := by decide +kernel
theorem xl_X7_entry_81 : Cond.fieldLink RX7 81 (TX2 0).1 (TX2 0).2.1 (TX2 0).2.2.1 ∈ wsX7_entry := by decide +kernel
theorem xl_X7_entry_183 : Cond.fieldLink RX7 183 (TX2 1).1 (TX2 1).2.1 (TX2 1).2.2.1 ∈ wsX7_entry := by decide +kernel
theorem xl_X7_entry_186 : Cond.fieldLink RX7 186 (TX2 2).1 (TX2 2).2.1 (TX2 2).2.2.1 ∈ wsX7_entry := by decide +kernel
theorem xl_X7_entry_133 : Cond.fieldLink RX7 133 (TX2 3).1 (TX2 3).2.1 (TX2 3).2.2.1 ∈ wsX7_entry := by decide +kernel
theorem xin_X7_entry : ∀ w ∈ (vx_at0 RX7 191 "java/lang/IllegalArgumentException" xEs).filter goodWord, w ∈ wsX7_entry := by decide +kernel
def f_X7_entry (g : xG) (a0 : Nat) (a1 : Int32) (a2 : Int32) (a3 : Int32) : Option (Nat ⊕ (Int32 × xG)) :=
  (xk g 8 a0).bind fun _ =>
  (f_X7_isNode g a0 a1).bind fun x3 =>
  if x3 = 0 then
    some (.inl 1)
  else
    if a2 < 1 then
      some (.inl 1)
    else
      (xg_r g 8 a0 1).bind fun x4 =>
      (xa_r 5 g x4 a1).bind fun x6 =>
      (xg_r g 5 x6 2).bind fun x8 =>
      (xg_i g 3 x8 0).bind fun x10 =>
      if x10 < a2 then
        some (.inl 1)
      else
        if a3 = 0 then
          (xg_r g 8 a0 1).bind fun x12 =>
          (xa_r 5 g x12 a1).bind fun x14 =>
          (xg_r g 5 x14 2).bind fun x16 =>
          (xg_r g 3 x16 1).bind fun x18 =>
          (xa_i 1 g x18 a2).bind fun x20 =>
          some (.inr (x20, g))
        else
        if a3 = 1 then
          (xg_r g 8 a0 1).bind fun x22 =>
          (xa_r 5 g x22 a1).bind fun x24 =>
          (xg_r g 5 x24 2).bind fun x26 =>
          (xg_r g 3 x26 2).bind fun x28 =>
          (xa_i 1 g x28 a2).bind fun x30 =>
          some (.inr (x30, g))
        else
        if a3 = 2 then
          (xg_r g 8 a0 1).bind fun x32 =>
          (xa_r 5 g x32 a1).bind fun x34 =>
          (xg_r g 5 x34 2).bind fun x36 =>
          (xg_r g 3 x36 3).bind fun x38 =>
          (xa_i 1 g x38 a2).bind fun x40 =>
          some (.inr (x40, g))
        else
        some (.inl 1)
set_option maxHeartbeats 4000000 in
set_option maxRecDepth 100000 in
theorem c_X7_entry (l : Launch) (hst : l.stackTraces = false) (D : va_G) (cy : Nat → ClassId) (L : List Nat) (g : xG) (a0 : Nat) (a1 : Int32) (a2 : Int32) (a3 : Int32) {o : (Nat ⊕ (Int32 × xG))} (h : f_X7_entry g a0 a1 a2 a3 = some o) : xXi l yX7_entry wsX7_entry ({ frames := 7, cells := 2, slots := 12, locals := 110 }) D cy L g [.ref a0, .int a1, .int a2, .int a3] o 2 12 := by
  refine xmx_i hst (cc := cX7_entry) (maxL := 4) RX7 rfl rfl rfl (by decide +kernel) rfl (Nat.le_of_ble_eq_true rfl) ?_
  intro p e s m args below meth c Q A S w hA hN hZ ret out thr ls hl
  have hl : lv_has ls 4 [(0, .ref a0), (1, .int a1), (2, .int a2), (3, .int a3)] := hl
  rw [f_X7_entry] at h
  refine lv_aload_n S.1 S.2.1 dX7_entry_0 rfl (lv_at hl 0 rfl) ?_
  refine lv_iload_n S.1 S.2.1 dX7_entry_1 rfl (lv_at hl 1 rfl) ?_
  obtain ⟨_, h1, h⟩ := xb h
  obtain ⟨x3, h2, h⟩ := xb h
  refine xr_callV_i S w hA hN 8 rfl h1 (c_X7_isNode l D cy L g a0 a1 h2) (cwV 1 S.2.2.2.2 gX7_entry_X7_isNode rfl rfl rfl (by decide +kernel) ⟨Nat.le_of_ble_eq_true rfl, Nat.le_of_ble_eq_true rfl⟩) rfl rfl hl.1 (Nat.le_of_ble_eq_true rfl) dX7_entry_2 ⟨Nat.le_of_ble_eq_true rfl, Nat.le_of_ble_eq_true rfl⟩ (fun H locs w => ?_)
  refine lv_if_eq (tgt := 33) S.1 S.2.1 dX7_entry_5 (by decide) (fun c5 => ?_) (fun c5 => ?_)
  · rw [if_pos c5] at h
    refine lv_iconst (v := 0) S.1 S.2.1 dX7_entry_33 (by decide) ?_
    exact xr_need0 S hst w hA hN hZ gX7_entry_X7_need ⟨Nat.le_of_ble_eq_true rfl, Nat.le_of_ble_eq_true rfl⟩ hl.1 (Nat.le_of_ble_eq_true rfl) dX7_entry_34 ⟨Nat.le_of_ble_eq_true rfl, Nat.le_of_ble_eq_true rfl⟩ (by decide) (fun H locs q ce w hc hv hcl => out _ _ _ _ _ _ _ _ _ _ h w hc hv hcl ⟨Nat.le_of_ble_eq_true rfl, Nat.le_of_ble_eq_true rfl⟩)
  · rw [if_neg c5] at h
    refine lv_iload_n S.1 S.2.1 dX7_entry_8 rfl (lv_at hl 2 rfl) ?_
    refine lv_iconst (v := 1) S.1 S.2.1 dX7_entry_9 (by decide) ?_
    refine lv_icmp_lt (tgt := 33) S.1 S.2.1 dX7_entry_10 (by decide) (fun c10 => ?_) (fun c10 => ?_)
    · rw [if_pos c10] at h
      refine lv_iconst (v := 0) S.1 S.2.1 dX7_entry_33 (by decide) ?_
      exact xr_need0 S hst w hA hN hZ gX7_entry_X7_need ⟨Nat.le_of_ble_eq_true rfl, Nat.le_of_ble_eq_true rfl⟩ hl.1 (Nat.le_of_ble_eq_true rfl) dX7_entry_34 ⟨Nat.le_of_ble_eq_true rfl, Nat.le_of_ble_eq_true rfl⟩ (by decide) (fun H locs q ce w hc hv hcl => out _ _ _ _ _ _ _ _ _ _ h w hc hv hcl ⟨Nat.le_of_ble_eq_true rfl, Nat.le_of_ble_eq_true rfl⟩)
    · rw [if_neg c10] at h
      refine lv_iload_n S.1 S.2.1 dX7_entry_13 rfl (lv_at hl 2 rfl) ?_
      refine lv_aload_n S.1 S.2.1 dX7_entry_14 rfl (lv_at hl 0 rfl) ?_
      obtain ⟨x4, h5, h⟩ := xb h
      refine xr_getr S w 8 xi_X7_entry_X7 rfl 1 (by decide) xl_X7_entry_11 h5 dX7_entry_15 ?_
      refine lv_iload_n S.1 S.2.1 dX7_entry_18 rfl (lv_at hl 1 rfl) ?_
      obtain ⟨x6, h7, h⟩ := xb h
      refine xr_aald S w 5 "TellTale$Node" (fun _ => rfl) h7 dX7_entry_19 ?_
      obtain ⟨x8, h9, h⟩ := xb h
      refine xr_getr S w 5 xi_X7_entry_X4 rfl 2 (by decide) xl_X7_entry_57 h9 dX7_entry_20 ?_
      obtain ⟨x10, h11, h⟩ := xb h
      refine xr_geti S w 3 xi_X7_entry_X2 rfl 0 (by decide) xl_X7_entry_81 h11 dX7_entry_23 ?_
      refine lv_icmp_gt (tgt := 33) S.1 S.2.1 dX7_entry_26 (by decide) (fun c26 => ?_) (fun c26 => ?_)
      · rw [if_pos c26] at h
        refine lv_iconst (v := 0) S.1 S.2.1 dX7_entry_33 (by decide) ?_
        exact xr_need0 S hst w hA hN hZ gX7_entry_X7_need ⟨Nat.le_of_ble_eq_true rfl, Nat.le_of_ble_eq_true rfl⟩ hl.1 (Nat.le_of_ble_eq_true rfl) dX7_entry_34 ⟨Nat.le_of_ble_eq_true rfl, Nat.le_of_ble_eq_true rfl⟩ (by decide) (fun H locs q ce w hc hv hcl => out _ _ _ _ _ _ _ _ _ _ h w hc hv hcl ⟨Nat.le_of_ble_eq_true rfl, Nat.le_of_ble_eq_true rfl⟩)
      · rw [if_neg c26] at h
        refine lv_iconst (v := 1) S.1 S.2.1 dX7_entry_29 (by decide) ?_
        refine lv_goto (tgt := 34) S.1 S.2.1 dX7_entry_30 (by decide) ?_
        refine xr_need1 S hst w hA hN hZ gX7_entry_X7_need ⟨Nat.le_of_ble_eq_true rfl, Nat.le_of_ble_eq_true rfl⟩ hl.1 (Nat.le_of_ble_eq_true rfl) dX7_entry_34 ⟨Nat.le_of_ble_eq_true rfl, Nat.le_of_ble_eq_true rfl⟩ (by decide) (fun H locs w => ?_)
        refine lv_iload_n S.1 S.2.1 dX7_entry_37 rfl (lv_at hl 3 rfl) ?_
        by_cases c38_0 : a3 = 0
        · rw [if_pos c38_0] at h
          rw [c38_0]
          refine lv_tableIn (off := 26) (tgt := 64) S.1 S.2.1 dX7_entry_38 (by decide) (by decide) (by decide) (by decide) ?_
          refine lv_aload_n S.1 S.2.1 dX7_entry_64 rfl (lv_at hl 0 rfl) ?_
          obtain ⟨x12, h13, h⟩ := xb h
          refine xr_getr S w 8 xi_X7_entry_X7 rfl 1 (by decide) xl_X7_entry_11 h13 dX7_entry_65 ?_
          refine lv_iload_n S.1 S.2.1 dX7_entry_68 rfl (lv_at hl 1 rfl) ?_
          obtain ⟨x14, h15, h⟩ := xb h
          refine xr_aald S w 5 "TellTale$Node" (fun _ => rfl) h15 dX7_entry_69 ?_
          obtain ⟨x16, h17, h⟩ := xb h
          refine xr_getr S w 5 xi_X7_entry_X4 rfl 2 (by decide) xl_X7_entry_57 h17 dX7_entry_70 ?_
          obtain ⟨x18, h19, h⟩ := xb h
          refine xr_getr S w 3 xi_X7_entry_X2 rfl 1 (by decide) xl_X7_entry_183 h19 dX7_entry_73 ?_
          refine lv_iload_n S.1 S.2.1 dX7_entry_76 rfl (lv_at hl 2 rfl) ?_
          obtain ⟨x20, h21, h⟩ := xb h
          refine xr_iald S w h21 dX7_entry_77 ?_
          exact ret _ _ _ _ _ _ _ _ h w dX7_entry_78 ⟨Nat.le_of_ble_eq_true rfl, Nat.le_of_ble_eq_true rfl⟩
        rw [if_neg c38_0] at h
        by_cases c38_1 : a3 = 1
        · rw [if_pos c38_1] at h
          rw [c38_1]
          refine lv_tableIn (off := 41) (tgt := 79) S.1 S.2.1 dX7_entry_38 (by decide) (by decide) (by decide) (by decide) ?_
          refine lv_aload_n S.1 S.2.1 dX7_entry_79 rfl (lv_at hl 0 rfl) ?_
          obtain ⟨x22, h23, h⟩ := xb h
          refine xr_getr S w 8 xi_X7_entry_X7 rfl 1 (by decide) xl_X7_entry_11 h23 dX7_entry_80 ?_
          refine lv_iload_n S.1 S.2.1 dX7_entry_83 rfl (lv_at hl 1 rfl) ?_
          obtain ⟨x24, h25, h⟩ := xb h
          refine xr_aald S w 5 "TellTale$Node" (fun _ => rfl) h25 dX7_entry_84 ?_
          obtain ⟨x26, h27, h⟩ := xb h
          refine xr_getr S w 5 xi_X7_entry_X4 rfl 2 (by decide) xl_X7_entry_57 h27 dX7_entry_85 ?_
          obtain ⟨x28, h29, h⟩ := xb h
          refine xr_getr S w 3 xi_X7_entry_X2 rfl 2 (by decide) xl_X7_entry_186 h29 dX7_entry_88 ?_
          refine lv_iload_n S.1 S.2.1 dX7_entry_91 rfl (lv_at hl 2 rfl) ?_
          obtain ⟨x30, h31, h⟩ := xb h
          refine xr_iald S w h31 dX7_entry_92 ?_
          exact ret _ _ _ _ _ _ _ _ h w dX7_entry_93 ⟨Nat.le_of_ble_eq_true rfl, Nat.le_of_ble_eq_true rfl⟩
        rw [if_neg c38_1] at h
        by_cases c38_2 : a3 = 2
        · rw [if_pos c38_2] at h
          rw [c38_2]
          refine lv_tableIn (off := 56) (tgt := 94) S.1 S.2.1 dX7_entry_38 (by decide) (by decide) (by decide) (by decide) ?_
          refine lv_aload_n S.1 S.2.1 dX7_entry_94 rfl (lv_at hl 0 rfl) ?_
          obtain ⟨x32, h33, h⟩ := xb h
          refine xr_getr S w 8 xi_X7_entry_X7 rfl 1 (by decide) xl_X7_entry_11 h33 dX7_entry_95 ?_
          refine lv_iload_n S.1 S.2.1 dX7_entry_98 rfl (lv_at hl 1 rfl) ?_
          obtain ⟨x34, h35, h⟩ := xb h
          refine xr_aald S w 5 "TellTale$Node" (fun _ => rfl) h35 dX7_entry_99 ?_
          obtain ⟨x36, h37, h⟩ := xb h
          refine xr_getr S w 5 xi_X7_entry_X4 rfl 2 (by decide) xl_X7_entry_57 h37 dX7_entry_100 ?_
          obtain ⟨x38, h39, h⟩ := xb h
          refine xr_getr S w 3 xi_X7_entry_X2 rfl 3 (by decide) xl_X7_entry_133 h39 dX7_entry_103 ?_
          refine lv_iload_n S.1 S.2.1 dX7_entry_106 rfl (lv_at hl 2 rfl) ?_
          obtain ⟨x40, h41, h⟩ := xb h
          refine xr_iald S w h41 dX7_entry_107 ?_
          exact ret _ _ _ _ _ _ _ _ h w dX7_entry_108 ⟨Nat.le_of_ble_eq_true rfl, Nat.le_of_ble_eq_true rfl⟩
        rw [if_neg c38_2] at h
        refine lv_tableOut (tgt := 109) S.1 S.2.1 dX7_entry_38 (xsw3 c38_0 c38_1 c38_2) (by decide) ?_
        exact thr _ _ _ _ _ _ _ 1 189 191 h w hl.1 (S.2.2.2.2 _ (by decide +kernel)) (S.2.2.2.2 _ (by decide +kernel)) (hat_X7_need S.2.2.2.2 xin_X7_entry hN) hgood_X7_need dX7_entry_109 dX7_entry_112 dX7_entry_113 dX7_entry_116 ⟨Nat.le_of_ble_eq_true rfl, Nat.le_of_ble_eq_true rfl⟩ ⟨Nat.le_of_ble_eq_true rfl, Nat.le_of_ble_eq_true rfl⟩
theorem xi_X7_head_X7 : ∀ w ∈ wsX70, w ∈ wsX7_head := by decide +kernel
theorem xl_X7_head_11 : Cond.fieldLink RX7 11 (TX7 1).1 (TX7 1).2.1 (TX7 1).2.2.1 ∈ wsX7_head := by decide +kernel
theorem xi_X7_head_X4 : ∀ w ∈ wsX40, w ∈ wsX7_head := by decide +kernel
theorem xl_X7_head_57 : Cond.fieldLink RX7 57 (TX4 2).1 (TX4 2).2.1 (TX4 2).2.2.1 ∈ wsX7_head := by decide +kernel
theorem xi_X7_head_X2 : ∀ w ∈ wsX20, w ∈ wsX7_head := by decide +kernel
theorem xl_X7_head_81 : Cond.fieldLink RX7 81 (TX2 0).1 (TX2 0).2.1 (TX2 0).2.2.1 ∈ wsX7_head := by decide +kernel
theorem xl_X7_head_192 : Cond.fieldLink RX7 192 (TX2 4).1 (TX2 4).2.1 (TX2 4).2.2.1 ∈ wsX7_head := by decide +kernel
def f_X7_head (g : xG) (a0 : Nat) (a1 : Int32) (a2 : Int32) : Option (Nat ⊕ (Int64 × xG)) :=
  (xk g 8 a0).bind fun _ =>
  (f_X7_isNode g a0 a1).bind fun x3 =>
  if x3 = 0 then
    some (.inl 1)
  else
    if a2 < 0 then
      some (.inl 1)
    else
      (xg_r g 8 a0 1).bind fun x4 =>
      (xa_r 5 g x4 a1).bind fun x6 =>
      (xg_r g 5 x6 2).bind fun x8 =>
      (xg_i g 3 x8 0).bind fun x10 =>
      if x10 < a2 then
        some (.inl 1)
      else
        (xg_r g 8 a0 1).bind fun x12 =>
        (xa_r 5 g x12 a1).bind fun x14 =>
        (xg_r g 5 x14 2).bind fun x16 =>
        (xg_r g 3 x16 4).bind fun x18 =>
        (xa_l g x18 a2).bind fun x20 =>
        some (.inr (x20, g))
set_option maxHeartbeats 4000000 in
set_option maxRecDepth 100000 in
theorem c_X7_head (l : Launch) (hst : l.stackTraces = false) (D : va_G) (cy : Nat → ClassId) (L : List Nat) (g : xG) (a0 : Nat) (a1 : Int32) (a2 : Int32) {o : (Nat ⊕ (Int64 × xG))} (h : f_X7_head g a0 a1 a2 = some o) : xXl l yX7_head wsX7_head ({ frames := 7, cells := 1, slots := 6, locals := 110 }) D cy L g [.ref a0, .int a1, .int a2] o 1 6 := by
  refine xmx_l hst (cc := cX7_head) (maxL := 3) RX7 rfl rfl rfl (by decide +kernel) rfl (Nat.le_of_ble_eq_true rfl) ?_
  intro p e s m args below meth c Q A S w hA hN hZ ret out thr ls hl
  have hl : lv_has ls 3 [(0, .ref a0), (1, .int a1), (2, .int a2)] := hl
  rw [f_X7_head] at h
  refine lv_aload_n S.1 S.2.1 dX7_head_0 rfl (lv_at hl 0 rfl) ?_
  refine lv_iload_n S.1 S.2.1 dX7_head_1 rfl (lv_at hl 1 rfl) ?_
  obtain ⟨_, h1, h⟩ := xb h
  obtain ⟨x3, h2, h⟩ := xb h
  refine xr_callV_i S w hA hN 8 rfl h1 (c_X7_isNode l D cy L g a0 a1 h2) (cwV 1 S.2.2.2.2 gX7_head_X7_isNode rfl rfl rfl (by decide +kernel) ⟨Nat.le_of_ble_eq_true rfl, Nat.le_of_ble_eq_true rfl⟩) rfl rfl hl.1 (Nat.le_of_ble_eq_true rfl) dX7_head_2 ⟨Nat.le_of_ble_eq_true rfl, Nat.le_of_ble_eq_true rfl⟩ (fun H locs w => ?_)
  refine lv_if_eq (tgt := 32) S.1 S.2.1 dX7_head_5 (by decide) (fun c5 => ?_) (fun c5 => ?_)
  · rw [if_pos c5] at h
    refine lv_iconst (v := 0) S.1 S.2.1 dX7_head_32 (by decide) ?_
    exact xr_need0 S hst w hA hN hZ gX7_head_X7_need ⟨Nat.le_of_ble_eq_true rfl, Nat.le_of_ble_eq_true rfl⟩ hl.1 (Nat.le_of_ble_eq_true rfl) dX7_head_33 ⟨Nat.le_of_ble_eq_true rfl, Nat.le_of_ble_eq_true rfl⟩ (by decide) (fun H locs q ce w hc hv hcl => out _ _ _ _ _ _ _ _ _ _ h w hc hv hcl ⟨Nat.le_of_ble_eq_true rfl, Nat.le_of_ble_eq_true rfl⟩)
  · rw [if_neg c5] at h
    refine lv_iload_n S.1 S.2.1 dX7_head_8 rfl (lv_at hl 2 rfl) ?_
    refine lv_if_lt (tgt := 32) S.1 S.2.1 dX7_head_9 (by decide) (fun c9 => ?_) (fun c9 => ?_)
    · rw [if_pos c9] at h
      refine lv_iconst (v := 0) S.1 S.2.1 dX7_head_32 (by decide) ?_
      exact xr_need0 S hst w hA hN hZ gX7_head_X7_need ⟨Nat.le_of_ble_eq_true rfl, Nat.le_of_ble_eq_true rfl⟩ hl.1 (Nat.le_of_ble_eq_true rfl) dX7_head_33 ⟨Nat.le_of_ble_eq_true rfl, Nat.le_of_ble_eq_true rfl⟩ (by decide) (fun H locs q ce w hc hv hcl => out _ _ _ _ _ _ _ _ _ _ h w hc hv hcl ⟨Nat.le_of_ble_eq_true rfl, Nat.le_of_ble_eq_true rfl⟩)
    · rw [if_neg c9] at h
      refine lv_iload_n S.1 S.2.1 dX7_head_12 rfl (lv_at hl 2 rfl) ?_
      refine lv_aload_n S.1 S.2.1 dX7_head_13 rfl (lv_at hl 0 rfl) ?_
      obtain ⟨x4, h5, h⟩ := xb h
      refine xr_getr S w 8 xi_X7_head_X7 rfl 1 (by decide) xl_X7_head_11 h5 dX7_head_14 ?_
      refine lv_iload_n S.1 S.2.1 dX7_head_17 rfl (lv_at hl 1 rfl) ?_
      obtain ⟨x6, h7, h⟩ := xb h
      refine xr_aald S w 5 "TellTale$Node" (fun _ => rfl) h7 dX7_head_18 ?_
      obtain ⟨x8, h9, h⟩ := xb h
      refine xr_getr S w 5 xi_X7_head_X4 rfl 2 (by decide) xl_X7_head_57 h9 dX7_head_19 ?_
      obtain ⟨x10, h11, h⟩ := xb h
      refine xr_geti S w 3 xi_X7_head_X2 rfl 0 (by decide) xl_X7_head_81 h11 dX7_head_22 ?_
      refine lv_icmp_gt (tgt := 32) S.1 S.2.1 dX7_head_25 (by decide) (fun c25 => ?_) (fun c25 => ?_)
      · rw [if_pos c25] at h
        refine lv_iconst (v := 0) S.1 S.2.1 dX7_head_32 (by decide) ?_
        exact xr_need0 S hst w hA hN hZ gX7_head_X7_need ⟨Nat.le_of_ble_eq_true rfl, Nat.le_of_ble_eq_true rfl⟩ hl.1 (Nat.le_of_ble_eq_true rfl) dX7_head_33 ⟨Nat.le_of_ble_eq_true rfl, Nat.le_of_ble_eq_true rfl⟩ (by decide) (fun H locs q ce w hc hv hcl => out _ _ _ _ _ _ _ _ _ _ h w hc hv hcl ⟨Nat.le_of_ble_eq_true rfl, Nat.le_of_ble_eq_true rfl⟩)
      · rw [if_neg c25] at h
        refine lv_iconst (v := 1) S.1 S.2.1 dX7_head_28 (by decide) ?_
        refine lv_goto (tgt := 33) S.1 S.2.1 dX7_head_29 (by decide) ?_
        refine xr_need1 S hst w hA hN hZ gX7_head_X7_need ⟨Nat.le_of_ble_eq_true rfl, Nat.le_of_ble_eq_true rfl⟩ hl.1 (Nat.le_of_ble_eq_true rfl) dX7_head_33 ⟨Nat.le_of_ble_eq_true rfl, Nat.le_of_ble_eq_true rfl⟩ (by decide) (fun H locs w => ?_)
        refine lv_aload_n S.1 S.2.1 dX7_head_36 rfl (lv_at hl 0 rfl) ?_
        obtain ⟨x12, h13, h⟩ := xb h
        refine xr_getr S w 8 xi_X7_head_X7 rfl 1 (by decide) xl_X7_head_11 h13 dX7_head_37 ?_
        refine lv_iload_n S.1 S.2.1 dX7_head_40 rfl (lv_at hl 1 rfl) ?_
        obtain ⟨x14, h15, h⟩ := xb h
        refine xr_aald S w 5 "TellTale$Node" (fun _ => rfl) h15 dX7_head_41 ?_
        obtain ⟨x16, h17, h⟩ := xb h
        refine xr_getr S w 5 xi_X7_head_X4 rfl 2 (by decide) xl_X7_head_57 h17 dX7_head_42 ?_
        obtain ⟨x18, h19, h⟩ := xb h
        refine xr_getr S w 3 xi_X7_head_X2 rfl 4 (by decide) xl_X7_head_192 h19 dX7_head_45 ?_
        refine lv_iload_n S.1 S.2.1 dX7_head_48 rfl (lv_at hl 2 rfl) ?_
        obtain ⟨x20, h21, h⟩ := xb h
        refine xr_lald S w h21 dX7_head_49 ?_
        exact ret _ _ _ _ _ _ _ _ h w dX7_head_50 ⟨Nat.le_of_ble_eq_true rfl, Nat.le_of_ble_eq_true rfl⟩
theorem xi_X7_about_X7 : ∀ w ∈ wsX70, w ∈ wsX7_about := by decide +kernel
theorem xl_X7_about_11 : Cond.fieldLink RX7 11 (TX7 1).1 (TX7 1).2.1 (TX7 1).2.2.1 ∈ wsX7_about := by decide +kernel
theorem xi_X7_about_X4 : ∀ w ∈ wsX40, w ∈ wsX7_about := by decide +kernel
theorem xl_X7_about_57 : Cond.fieldLink RX7 57 (TX4 2).1 (TX4 2).2.1 (TX4 2).2.2.1 ∈ wsX7_about := by decide +kernel
theorem xi_X7_about_X2 : ∀ w ∈ wsX20, w ∈ wsX7_about := by decide +kernel
theorem xl_X7_about_81 : Cond.fieldLink RX7 81 (TX2 0).1 (TX2 0).2.1 (TX2 0).2.2.1 ∈ wsX7_about := by decide +kernel
theorem xl_X7_about_71 : Cond.fieldLink RX7 71 (TX4 1).1 (TX4 1).2.1 (TX4 1).2.2.1 ∈ wsX7_about := by decide +kernel
theorem xi_X7_about_X3 : ∀ w ∈ wsX30, w ∈ wsX7_about := by decide +kernel
theorem xl_X7_about_196 : Cond.fieldLink RX7 196 (TX3 2).1 (TX3 2).2.1 (TX3 2).2.2.1 ∈ wsX7_about := by decide +kernel
theorem xl_X7_about_199 : Cond.fieldLink RX7 199 (TX3 3).1 (TX3 3).2.1 (TX3 3).2.2.1 ∈ wsX7_about := by decide +kernel
theorem xl_X7_about_114 : Cond.fieldLink RX7 114 (TX4 3).1 (TX4 3).2.1 (TX4 3).2.2.1 ∈ wsX7_about := by decide +kernel
theorem xi_X7_about_X6 : ∀ w ∈ wsX60, w ∈ wsX7_about := by decide +kernel
theorem xl_X7_about_118 : Cond.fieldLink RX7 118 (TX6 0).1 (TX6 0).2.1 (TX6 0).2.2.1 ∈ wsX7_about := by decide +kernel
theorem xl_X7_about_202 : Cond.fieldLink RX7 202 (TX4 6).1 (TX4 6).2.1 (TX4 6).2.2.1 ∈ wsX7_about := by decide +kernel
theorem xin_X7_about : ∀ w ∈ (vx_at0 RX7 191 "java/lang/IllegalArgumentException" xEs).filter goodWord, w ∈ wsX7_about := by decide +kernel
def f_X7_about (g : xG) (a0 : Nat) (a1 : Int32) (a2 : Int32) : Option (Nat ⊕ (Int32 × xG)) :=
  (xk g 8 a0).bind fun _ =>
  (f_X7_isNode g a0 a1).bind fun x3 =>
  if x3 = 0 then
    some (.inl 1)
  else
  if a2 = 0 then
    (xg_r g 8 a0 1).bind fun x4 =>
    (xa_r 5 g x4 a1).bind fun x6 =>
    (xg_r g 5 x6 2).bind fun x8 =>
    (xg_i g 3 x8 0).bind fun x10 =>
    some (.inr (x10, g))
  else
  if a2 = 1 then
    (xg_r g 8 a0 1).bind fun x12 =>
    (xa_r 5 g x12 a1).bind fun x14 =>
    (xg_r g 5 x14 1).bind fun x16 =>
    (xg_i g 4 x16 2).bind fun x18 =>
    some (.inr (x18, g))
  else
  if a2 = 2 then
    (xg_r g 8 a0 1).bind fun x20 =>
    (xa_r 5 g x20 a1).bind fun x22 =>
    (xg_r g 5 x22 1).bind fun x24 =>
    (xg_i g 4 x24 3).bind fun x26 =>
    some (.inr (x26, g))
  else
  if a2 = 3 then
    (xg_r g 8 a0 1).bind fun x28 =>
    (xa_r 5 g x28 a1).bind fun x30 =>
    (xg_r g 5 x30 3).bind fun x32 =>
    (xg_i g 7 x32 0).bind fun x34 =>
    some (.inr (x34, g))
  else
  if a2 = 4 then
    (xg_r g 8 a0 1).bind fun x36 =>
    (xa_r 5 g x36 a1).bind fun x38 =>
    (xg_i g 5 x38 6).bind fun x40 =>
    some (.inr (x40, g))
  else
  some (.inl 1)
set_option maxHeartbeats 4000000 in
set_option maxRecDepth 100000 in
theorem c_X7_about (l : Launch) (hst : l.stackTraces = false) (D : va_G) (cy : Nat → ClassId) (L : List Nat) (g : xG) (a0 : Nat) (a1 : Int32) (a2 : Int32) {o : (Nat ⊕ (Int32 × xG))} (h : f_X7_about g a0 a1 a2 = some o) : xXi l yX7_about wsX7_about ({ frames := 7, cells := 2, slots := 12, locals := 110 }) D cy L g [.ref a0, .int a1, .int a2] o 2 12 := by
  refine xmx_i hst (cc := cX7_about) (maxL := 3) RX7 rfl rfl rfl (by decide +kernel) rfl (Nat.le_of_ble_eq_true rfl) ?_
  intro p e s m args below meth c Q A S w hA hN hZ ret out thr ls hl
  have hl : lv_has ls 3 [(0, .ref a0), (1, .int a1), (2, .int a2)] := hl
  rw [f_X7_about] at h
  refine lv_aload_n S.1 S.2.1 dX7_about_0 rfl (lv_at hl 0 rfl) ?_
  refine lv_iload_n S.1 S.2.1 dX7_about_1 rfl (lv_at hl 1 rfl) ?_
  obtain ⟨_, h1, h⟩ := xb h
  obtain ⟨x3, h2, h⟩ := xb h
  refine xr_callV_i S w hA hN 8 rfl h1 (c_X7_isNode l D cy L g a0 a1 h2) (cwV 1 S.2.2.2.2 gX7_about_X7_isNode rfl rfl rfl (by decide +kernel) ⟨Nat.le_of_ble_eq_true rfl, Nat.le_of_ble_eq_true rfl⟩) rfl rfl hl.1 (Nat.le_of_ble_eq_true rfl) dX7_about_2 ⟨Nat.le_of_ble_eq_true rfl, Nat.le_of_ble_eq_true rfl⟩ (fun H locs w => ?_)
  by_cases c5 : x3 = 0
  · rw [if_pos c5] at h
    exact xr_need0 S hst w hA hN hZ gX7_about_X7_need ⟨Nat.le_of_ble_eq_true rfl, Nat.le_of_ble_eq_true rfl⟩ hl.1 (Nat.le_of_ble_eq_true rfl) dX7_about_5 ⟨Nat.le_of_ble_eq_true rfl, Nat.le_of_ble_eq_true rfl⟩ c5 (fun H locs q ce w hc hv hcl => out _ _ _ _ _ _ _ _ _ _ h w hc hv hcl ⟨Nat.le_of_ble_eq_true rfl, Nat.le_of_ble_eq_true rfl⟩)
  rw [if_neg c5] at h
  refine xr_need1 S hst w hA hN hZ gX7_about_X7_need ⟨Nat.le_of_ble_eq_true rfl, Nat.le_of_ble_eq_true rfl⟩ hl.1 (Nat.le_of_ble_eq_true rfl) dX7_about_5 ⟨Nat.le_of_ble_eq_true rfl, Nat.le_of_ble_eq_true rfl⟩ c5 (fun H locs w => ?_)
  refine lv_iload_n S.1 S.2.1 dX7_about_8 rfl (lv_at hl 2 rfl) ?_
  by_cases c9_0 : a2 = 0
  · rw [if_pos c9_0] at h
    rw [c9_0]
    refine lv_tableIn (off := 35) (tgt := 44) S.1 S.2.1 dX7_about_9 (by decide) (by decide) (by decide) (by decide) ?_
    refine lv_aload_n S.1 S.2.1 dX7_about_44 rfl (lv_at hl 0 rfl) ?_
    obtain ⟨x4, h5, h⟩ := xb h
    refine xr_getr S w 8 xi_X7_about_X7 rfl 1 (by decide) xl_X7_about_11 h5 dX7_about_45 ?_
    refine lv_iload_n S.1 S.2.1 dX7_about_48 rfl (lv_at hl 1 rfl) ?_
    obtain ⟨x6, h7, h⟩ := xb h
    refine xr_aald S w 5 "TellTale$Node" (fun _ => rfl) h7 dX7_about_49 ?_
    obtain ⟨x8, h9, h⟩ := xb h
    refine xr_getr S w 5 xi_X7_about_X4 rfl 2 (by decide) xl_X7_about_57 h9 dX7_about_50 ?_
    obtain ⟨x10, h11, h⟩ := xb h
    refine xr_geti S w 3 xi_X7_about_X2 rfl 0 (by decide) xl_X7_about_81 h11 dX7_about_53 ?_
    exact ret _ _ _ _ _ _ _ _ h w dX7_about_56 ⟨Nat.le_of_ble_eq_true rfl, Nat.le_of_ble_eq_true rfl⟩
  rw [if_neg c9_0] at h
  by_cases c9_1 : a2 = 1
  · rw [if_pos c9_1] at h
    rw [c9_1]
    refine lv_tableIn (off := 48) (tgt := 57) S.1 S.2.1 dX7_about_9 (by decide) (by decide) (by decide) (by decide) ?_
    refine lv_aload_n S.1 S.2.1 dX7_about_57 rfl (lv_at hl 0 rfl) ?_
    obtain ⟨x12, h13, h⟩ := xb h
    refine xr_getr S w 8 xi_X7_about_X7 rfl 1 (by decide) xl_X7_about_11 h13 dX7_about_58 ?_
    refine lv_iload_n S.1 S.2.1 dX7_about_61 rfl (lv_at hl 1 rfl) ?_
    obtain ⟨x14, h15, h⟩ := xb h
    refine xr_aald S w 5 "TellTale$Node" (fun _ => rfl) h15 dX7_about_62 ?_
    obtain ⟨x16, h17, h⟩ := xb h
    refine xr_getr S w 5 xi_X7_about_X4 rfl 1 (by decide) xl_X7_about_71 h17 dX7_about_63 ?_
    obtain ⟨x18, h19, h⟩ := xb h
    refine xr_geti S w 4 xi_X7_about_X3 rfl 2 (by decide) xl_X7_about_196 h19 dX7_about_66 ?_
    exact ret _ _ _ _ _ _ _ _ h w dX7_about_69 ⟨Nat.le_of_ble_eq_true rfl, Nat.le_of_ble_eq_true rfl⟩
  rw [if_neg c9_1] at h
  by_cases c9_2 : a2 = 2
  · rw [if_pos c9_2] at h
    rw [c9_2]
    refine lv_tableIn (off := 61) (tgt := 70) S.1 S.2.1 dX7_about_9 (by decide) (by decide) (by decide) (by decide) ?_
    refine lv_aload_n S.1 S.2.1 dX7_about_70 rfl (lv_at hl 0 rfl) ?_
    obtain ⟨x20, h21, h⟩ := xb h
    refine xr_getr S w 8 xi_X7_about_X7 rfl 1 (by decide) xl_X7_about_11 h21 dX7_about_71 ?_
    refine lv_iload_n S.1 S.2.1 dX7_about_74 rfl (lv_at hl 1 rfl) ?_
    obtain ⟨x22, h23, h⟩ := xb h
    refine xr_aald S w 5 "TellTale$Node" (fun _ => rfl) h23 dX7_about_75 ?_
    obtain ⟨x24, h25, h⟩ := xb h
    refine xr_getr S w 5 xi_X7_about_X4 rfl 1 (by decide) xl_X7_about_71 h25 dX7_about_76 ?_
    obtain ⟨x26, h27, h⟩ := xb h
    refine xr_geti S w 4 xi_X7_about_X3 rfl 3 (by decide) xl_X7_about_199 h27 dX7_about_79 ?_
    exact ret _ _ _ _ _ _ _ _ h w dX7_about_82 ⟨Nat.le_of_ble_eq_true rfl, Nat.le_of_ble_eq_true rfl⟩
  rw [if_neg c9_2] at h
  by_cases c9_3 : a2 = 3
  · rw [if_pos c9_3] at h
    rw [c9_3]
    refine lv_tableIn (off := 74) (tgt := 83) S.1 S.2.1 dX7_about_9 (by decide) (by decide) (by decide) (by decide) ?_
    refine lv_aload_n S.1 S.2.1 dX7_about_83 rfl (lv_at hl 0 rfl) ?_
    obtain ⟨x28, h29, h⟩ := xb h
    refine xr_getr S w 8 xi_X7_about_X7 rfl 1 (by decide) xl_X7_about_11 h29 dX7_about_84 ?_
    refine lv_iload_n S.1 S.2.1 dX7_about_87 rfl (lv_at hl 1 rfl) ?_
    obtain ⟨x30, h31, h⟩ := xb h
    refine xr_aald S w 5 "TellTale$Node" (fun _ => rfl) h31 dX7_about_88 ?_
    obtain ⟨x32, h33, h⟩ := xb h
    refine xr_getr S w 5 xi_X7_about_X4 rfl 3 (by decide) xl_X7_about_114 h33 dX7_about_89 ?_
    obtain ⟨x34, h35, h⟩ := xb h
    refine xr_geti S w 7 xi_X7_about_X6 rfl 0 (by decide) xl_X7_about_118 h35 dX7_about_92 ?_
    exact ret _ _ _ _ _ _ _ _ h w dX7_about_95 ⟨Nat.le_of_ble_eq_true rfl, Nat.le_of_ble_eq_true rfl⟩
  rw [if_neg c9_3] at h
  by_cases c9_4 : a2 = 4
  · rw [if_pos c9_4] at h
    rw [c9_4]
    refine lv_tableIn (off := 87) (tgt := 96) S.1 S.2.1 dX7_about_9 (by decide) (by decide) (by decide) (by decide) ?_
    refine lv_aload_n S.1 S.2.1 dX7_about_96 rfl (lv_at hl 0 rfl) ?_
    obtain ⟨x36, h37, h⟩ := xb h
    refine xr_getr S w 8 xi_X7_about_X7 rfl 1 (by decide) xl_X7_about_11 h37 dX7_about_97 ?_
    refine lv_iload_n S.1 S.2.1 dX7_about_100 rfl (lv_at hl 1 rfl) ?_
    obtain ⟨x38, h39, h⟩ := xb h
    refine xr_aald S w 5 "TellTale$Node" (fun _ => rfl) h39 dX7_about_101 ?_
    obtain ⟨x40, h41, h⟩ := xb h
    refine xr_geti S w 5 xi_X7_about_X4 rfl 6 (by decide) xl_X7_about_202 h41 dX7_about_102 ?_
    exact ret _ _ _ _ _ _ _ _ h w dX7_about_105 ⟨Nat.le_of_ble_eq_true rfl, Nat.le_of_ble_eq_true rfl⟩
  rw [if_neg c9_4] at h
  refine lv_tableOut (tgt := 106) S.1 S.2.1 dX7_about_9 (xsw5 c9_0 c9_1 c9_2 c9_3 c9_4) (by decide) ?_
  exact thr _ _ _ _ _ _ _ 1 189 191 h w hl.1 (S.2.2.2.2 _ (by decide +kernel)) (S.2.2.2.2 _ (by decide +kernel)) (hat_X7_need S.2.2.2.2 xin_X7_about hN) hgood_X7_need dX7_about_106 dX7_about_109 dX7_about_110 dX7_about_113 ⟨Nat.le_of_ble_eq_true rfl, Nat.le_of_ble_eq_true rfl⟩ ⟨Nat.le_of_ble_eq_true rfl, Nat.le_of_ble_eq_true rfl⟩
theorem xi_X7_total_X7 : ∀ w ∈ wsX70, w ∈ wsX7_total := by decide +kernel
theorem xl_X7_total_18 : Cond.fieldLink RX7 18 (TX7 2).1 (TX7 2).2.1 (TX7 2).2.2.1 ∈ wsX7_total := by decide +kernel
theorem xi_X7_total_X5 : ∀ w ∈ wsX50, w ∈ wsX7_total := by decide +kernel
theorem xl_X7_total_205 : Cond.fieldLink RX7 205 (TX5 0).1 (TX5 0).2.1 (TX5 0).2.2.1 ∈ wsX7_total := by decide +kernel
theorem xl_X7_total_206 : Cond.fieldLink RX7 206 (TX5 1).1 (TX5 1).2.1 (TX5 1).2.2.1 ∈ wsX7_total := by decide +kernel
theorem xl_X7_total_149 : Cond.fieldLink RX7 149 (TX7 4).1 (TX7 4).2.1 (TX7 4).2.2.1 ∈ wsX7_total := by decide +kernel
theorem xl_X7_total_209 : Cond.fieldLink RX7 209 (TX7 0).1 (TX7 0).2.1 (TX7 0).2.2.1 ∈ wsX7_total := by decide +kernel
theorem xin_X7_total : ∀ w ∈ (vx_at0 RX7 191 "java/lang/IllegalArgumentException" xEs).filter goodWord, w ∈ wsX7_total := by decide +kernel
def f_X7_total (g : xG) (a0 : Nat) (a1 : Int32) : Option (Nat ⊕ (Int32 × xG)) :=
  if a1 = 0 then
    (xg_r g 8 a0 2).bind fun x1 =>
    (xg_i g 6 x1 0).bind fun x3 =>
    some (.inr (x3, g))
  else
  if a1 = 1 then
    (xg_r g 8 a0 2).bind fun x5 =>
    (xg_i g 6 x5 1).bind fun x7 =>
    some (.inr (x7, g))
  else
  if a1 = 2 then
    (xg_i g 8 a0 4).bind fun x9 =>
    some (.inr (x9, g))
  else
  if a1 = 3 then
    (xg_i g 8 a0 0).bind fun x11 =>
    some (.inr (x11, g))
  else
  some (.inl 1)
set_option maxHeartbeats 4000000 in
set_option maxRecDepth 100000 in
theorem c_X7_total (l : Launch) (hst : l.stackTraces = false) (D : va_G) (cy : Nat → ClassId) (L : List Nat) (g : xG) (a0 : Nat) (a1 : Int32) {o : (Nat ⊕ (Int32 × xG))} (h : f_X7_total g a0 a1 = some o) : xXi l yX7_total wsX7_total ({ frames := 6, cells := 1, slots := 6, locals := 90 }) D cy L g [.ref a0, .int a1] o 1 6 := by
  refine xmx_i hst (cc := cX7_total) (maxL := 2) RX7 rfl rfl rfl (by decide +kernel) rfl (Nat.le_of_ble_eq_true rfl) ?_
  intro p e s m args below meth c Q A S w hA hN hZ ret out thr ls hl
  have hl : lv_has ls 2 [(0, .ref a0), (1, .int a1)] := hl
  rw [f_X7_total] at h
  refine lv_iload_n S.1 S.2.1 dX7_total_0 rfl (lv_at hl 1 rfl) ?_
  by_cases c1_0 : a1 = 0
  · rw [if_pos c1_0] at h
    rw [c1_0]
    refine lv_tableIn (off := 31) (tgt := 32) S.1 S.2.1 dX7_total_1 (by decide) (by decide) (by decide) (by decide) ?_
    refine lv_aload_n S.1 S.2.1 dX7_total_32 rfl (lv_at hl 0 rfl) ?_
    obtain ⟨x1, h2, h⟩ := xb h
    refine xr_getr S w 8 xi_X7_total_X7 rfl 2 (by decide) xl_X7_total_18 h2 dX7_total_33 ?_
    obtain ⟨x3, h4, h⟩ := xb h
    refine xr_geti S w 6 xi_X7_total_X5 rfl 0 (by decide) xl_X7_total_205 h4 dX7_total_36 ?_
    exact ret _ _ _ _ _ _ _ _ h w dX7_total_39 ⟨Nat.le_of_ble_eq_true rfl, Nat.le_of_ble_eq_true rfl⟩
  rw [if_neg c1_0] at h
  by_cases c1_1 : a1 = 1
  · rw [if_pos c1_1] at h
    rw [c1_1]
    refine lv_tableIn (off := 39) (tgt := 40) S.1 S.2.1 dX7_total_1 (by decide) (by decide) (by decide) (by decide) ?_
    refine lv_aload_n S.1 S.2.1 dX7_total_40 rfl (lv_at hl 0 rfl) ?_
    obtain ⟨x5, h6, h⟩ := xb h
    refine xr_getr S w 8 xi_X7_total_X7 rfl 2 (by decide) xl_X7_total_18 h6 dX7_total_41 ?_
    obtain ⟨x7, h8, h⟩ := xb h
    refine xr_geti S w 6 xi_X7_total_X5 rfl 1 (by decide) xl_X7_total_206 h8 dX7_total_44 ?_
    exact ret _ _ _ _ _ _ _ _ h w dX7_total_47 ⟨Nat.le_of_ble_eq_true rfl, Nat.le_of_ble_eq_true rfl⟩
  rw [if_neg c1_1] at h
  by_cases c1_2 : a1 = 2
  · rw [if_pos c1_2] at h
    rw [c1_2]
    refine lv_tableIn (off := 47) (tgt := 48) S.1 S.2.1 dX7_total_1 (by decide) (by decide) (by decide) (by decide) ?_
    refine lv_aload_n S.1 S.2.1 dX7_total_48 rfl (lv_at hl 0 rfl) ?_
    obtain ⟨x9, h10, h⟩ := xb h
    refine xr_geti S w 8 xi_X7_total_X7 rfl 4 (by decide) xl_X7_total_149 h10 dX7_total_49 ?_
    exact ret _ _ _ _ _ _ _ _ h w dX7_total_52 ⟨Nat.le_of_ble_eq_true rfl, Nat.le_of_ble_eq_true rfl⟩
  rw [if_neg c1_2] at h
  by_cases c1_3 : a1 = 3
  · rw [if_pos c1_3] at h
    rw [c1_3]
    refine lv_tableIn (off := 52) (tgt := 53) S.1 S.2.1 dX7_total_1 (by decide) (by decide) (by decide) (by decide) ?_
    refine lv_aload_n S.1 S.2.1 dX7_total_53 rfl (lv_at hl 0 rfl) ?_
    obtain ⟨x11, h12, h⟩ := xb h
    refine xr_geti S w 8 xi_X7_total_X7 rfl 0 (by decide) xl_X7_total_209 h12 dX7_total_54 ?_
    exact ret _ _ _ _ _ _ _ _ h w dX7_total_57 ⟨Nat.le_of_ble_eq_true rfl, Nat.le_of_ble_eq_true rfl⟩
  rw [if_neg c1_3] at h
  refine lv_tableOut (tgt := 58) S.1 S.2.1 dX7_total_1 (xsw4 c1_0 c1_1 c1_2 c1_3) (by decide) ?_
  exact thr _ _ _ _ _ _ _ 1 189 191 h w hl.1 (S.2.2.2.2 _ (by decide +kernel)) (S.2.2.2.2 _ (by decide +kernel)) (hat_X7_need S.2.2.2.2 xin_X7_total hN) hgood_X7_need dX7_total_58 dX7_total_61 dX7_total_62 dX7_total_65 ⟨Nat.le_of_ble_eq_true rfl, Nat.le_of_ble_eq_true rfl⟩ ⟨Nat.le_of_ble_eq_true rfl, Nat.le_of_ble_eq_true rfl⟩
