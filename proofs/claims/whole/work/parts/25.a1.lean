theorem xo0_X0_init : Cond.methodLink RX0 3 objectInit ∈ wsX0_init := by decide +kernel
theorem xo1_X0_init : Cond.instanceMethod objectInit ∈ wsX0_init := by decide +kernel
theorem xo2_X0_init : Cond.code objectInit ⟨#[0xb1]⟩ 1 none ∈ wsX0_init := by decide +kernel
theorem xar_X0_init_byte : Cond.arrayClass (newarray.typeOf .byte) ∈ wsX0_init := by decide +kernel
theorem xi_X0_init_X0 : ∀ w ∈ wsX00, w ∈ wsX0_init := by decide +kernel
theorem xl_X0_init_9 : Cond.fieldLink RX0 9 (TX0 1).1 (TX0 1).2.1 (TX0 1).2.2.1 ∈ wsX0_init := by decide +kernel
def w_X0_init (P : List Nat → xG → Prop) (L : List Nat) (g : xG) (a0 : Nat) : Prop :=
  ∀ (q1 : Nat) (L1 : List Nat) (g1 : xG), q1 ∉ L → L1 = L ++ [q1] → g1 = va_up g q1 (.inl (0, 930, .inl (fun _ => 0))) →
  ∃ g2, (xp g1 1 a0 1 (.ref q1)) = some g2 ∧
  P L1 g2
set_option maxHeartbeats 4000000 in
set_option maxRecDepth 100000 in
theorem c_X0_init (l : Launch) (D : va_G) (cy : Nat → ClassId) (t : Nat) (L : List Nat) (g : xG) (a0 : Nat) (P : List Nat → xG → Prop) (h : w_X0_init P L g a0) : xYv l yX0_init wsX0_init ({ frames := 1, cells := 1, slots := 930, locals := 12 }) D cy t L g [.ref a0] P 1 930 := by
  refine xma_v (cc := cX0_init) (maxL := 1) RX0 rfl rfl rfl (by decide +kernel) rfl (Nat.le_of_ble_eq_true rfl) ?_
  intro p e s m args below meth c Q A S w hA hN hZ hT hmn ret ls hl
  have hl : lv_has ls 1 [(0, .ref a0)] := hl
  rw [w_X0_init] at h
  refine lv_aload_n S.1 S.2.1 dX0_init_0 rfl (lv_at hl 0 rfl) ?_
  refine xr_obj S xo0_X0_init xo1_X0_init xo2_X0_init hl.1 dX0_init_1 (Nat.le_of_ble_eq_true rfl) (Nat.le_of_ble_eq_true rfl) ?_
  refine lv_aload_n S.1 S.2.1 dX0_init_4 rfl (lv_at hl 0 rfl) ?_
  refine lv_sipush (v := 930) S.1 S.2.1 dX0_init_5 (by decide) ?_
  refine xr_newa S w hA 0 .byte xar_X0_init_byte .byte rfl (fun _ => rfl) 930 (.inl (fun _ => 0)) (fun _ => rfl) (by decide) (by decide) (by decide) dX0_init_8 ⟨Nat.le_of_ble_eq_true rfl, Nat.le_of_ble_eq_true rfl⟩ (fun q1 L1 g1 H e1a e1b e1c w => ?_)
  replace h := h q1 L1 g1 e1a e1b e1c
  obtain ⟨g2, h3, h⟩ := h
  refine xr_putF S w (hmn.trans rfl) 1 xi_X0_init_X0 rfl tyX0 tyX0_ok nmX0 1 (by decide) xl_X0_init_9 rfl rfl _ (tyX0_ok 1 (by decide)) rfl rfl h3 dX0_init_10 (fun H locs w => ?_)
  exact ret _ _ _ _ _ _ _ _ h w dX0_init_13 ⟨Nat.le_of_ble_eq_true rfl, Nat.le_of_ble_eq_true rfl⟩
theorem xo0_X1_init : Cond.methodLink RX1 1 objectInit ∈ wsX1_init := by decide +kernel
theorem xo1_X1_init : Cond.instanceMethod objectInit ∈ wsX1_init := by decide +kernel
theorem xo2_X1_init : Cond.code objectInit ⟨#[0xb1]⟩ 1 none ∈ wsX1_init := by decide +kernel
def w_X1_init (P : List Nat → xG → Prop) (L : List Nat) (g : xG) (a0 : Nat) : Prop :=
  P L g
set_option maxHeartbeats 4000000 in
set_option maxRecDepth 100000 in
theorem c_X1_init (l : Launch) (D : va_G) (cy : Nat → ClassId) (t : Nat) (L : List Nat) (g : xG) (a0 : Nat) (P : List Nat → xG → Prop) (h : w_X1_init P L g a0) : xYv l yX1_init wsX1_init ({ frames := 1, cells := 0, slots := 0, locals := 12 }) D cy t L g [.ref a0] P 0 0 := by
  refine xma_v (cc := cX1_init) (maxL := 1) RX1 rfl rfl rfl (by decide +kernel) rfl (Nat.le_of_ble_eq_true rfl) ?_
  intro p e s m args below meth c Q A S w hA hN hZ hT hmn ret ls hl
  have hl : lv_has ls 1 [(0, .ref a0)] := hl
  rw [w_X1_init] at h
  refine lv_aload_n S.1 S.2.1 dX1_init_0 rfl (lv_at hl 0 rfl) ?_
  refine xr_obj S xo0_X1_init xo1_X1_init xo2_X1_init hl.1 dX1_init_1 (Nat.le_of_ble_eq_true rfl) (Nat.le_of_ble_eq_true rfl) ?_
  exact ret _ _ _ _ _ _ _ _ h w dX1_init_4 ⟨Nat.le_of_ble_eq_true rfl, Nat.le_of_ble_eq_true rfl⟩
theorem xo0_X2_init : Cond.methodLink RX2 3 objectInit ∈ wsX2_init := by decide +kernel
theorem xo1_X2_init : Cond.instanceMethod objectInit ∈ wsX2_init := by decide +kernel
theorem xo2_X2_init : Cond.code objectInit ⟨#[0xb1]⟩ 1 none ∈ wsX2_init := by decide +kernel
theorem xar_X2_init_int : Cond.arrayClass (newarray.typeOf .int) ∈ wsX2_init := by decide +kernel
theorem xi_X2_init_X2 : ∀ w ∈ wsX20, w ∈ wsX2_init := by decide +kernel
theorem xl_X2_init_9 : Cond.fieldLink RX2 9 (TX2 1).1 (TX2 1).2.1 (TX2 1).2.2.1 ∈ wsX2_init := by decide +kernel
theorem xl_X2_init_15 : Cond.fieldLink RX2 15 (TX2 2).1 (TX2 2).2.1 (TX2 2).2.2.1 ∈ wsX2_init := by decide +kernel
theorem xl_X2_init_18 : Cond.fieldLink RX2 18 (TX2 3).1 (TX2 3).2.1 (TX2 3).2.2.1 ∈ wsX2_init := by decide +kernel
theorem xar_X2_init_long : Cond.arrayClass (newarray.typeOf .long) ∈ wsX2_init := by decide +kernel
theorem xl_X2_init_21 : Cond.fieldLink RX2 21 (TX2 4).1 (TX2 4).2.1 (TX2 4).2.2.1 ∈ wsX2_init := by decide +kernel
def w_X2_init (P : List Nat → xG → Prop) (L : List Nat) (g : xG) (a0 : Nat) : Prop :=
  ∀ (q1 : Nat) (L1 : List Nat) (g1 : xG), q1 ∉ L → L1 = L ++ [q1] → g1 = va_up g q1 (.inl (1, 151, .inl (fun _ => 0))) →
  ∃ g2, (xp g1 3 a0 1 (.ref q1)) = some g2 ∧
  ∀ (q4 : Nat) (L4 : List Nat) (g4 : xG), q4 ∉ L1 → L4 = L1 ++ [q4] → g4 = va_up g2 q4 (.inl (1, 151, .inl (fun _ => 0))) →
  ∃ g5, (xp g4 3 a0 2 (.ref q4)) = some g5 ∧
  ∀ (q7 : Nat) (L7 : List Nat) (g7 : xG), q7 ∉ L4 → L7 = L4 ++ [q7] → g7 = va_up g5 q7 (.inl (1, 151, .inl (fun _ => 0))) →
  ∃ g8, (xp g7 3 a0 3 (.ref q7)) = some g8 ∧
  ∀ (q10 : Nat) (L10 : List Nat) (g10 : xG), q10 ∉ L7 → L10 = L7 ++ [q10] → g10 = va_up g8 q10 (.inl (2, 151, .inr (.inl (fun _ => 0)))) →
  ∃ g11, (xp g10 3 a0 4 (.ref q10)) = some g11 ∧
  P L10 g11
set_option maxHeartbeats 4000000 in
set_option maxRecDepth 100000 in
theorem c_X2_init (l : Launch) (D : va_G) (cy : Nat → ClassId) (t : Nat) (L : List Nat) (g : xG) (a0 : Nat) (P : List Nat → xG → Prop) (h : w_X2_init P L g a0) : xYv l yX2_init wsX2_init ({ frames := 1, cells := 4, slots := 604, locals := 12 }) D cy t L g [.ref a0] P 4 604 := by
  refine xma_v (cc := cX2_init) (maxL := 1) RX2 rfl rfl rfl (by decide +kernel) rfl (Nat.le_of_ble_eq_true rfl) ?_
  intro p e s m args below meth c Q A S w hA hN hZ hT hmn ret ls hl
  have hl : lv_has ls 1 [(0, .ref a0)] := hl
  rw [w_X2_init] at h
  refine lv_aload_n S.1 S.2.1 dX2_init_0 rfl (lv_at hl 0 rfl) ?_
  refine xr_obj S xo0_X2_init xo1_X2_init xo2_X2_init hl.1 dX2_init_1 (Nat.le_of_ble_eq_true rfl) (Nat.le_of_ble_eq_true rfl) ?_
  refine lv_aload_n S.1 S.2.1 dX2_init_4 rfl (lv_at hl 0 rfl) ?_
  refine lv_sipush (v := 151) S.1 S.2.1 dX2_init_5 (by decide) ?_
  refine xr_newa S w hA 1 .int xar_X2_init_int .int rfl (fun _ => rfl) 151 (.inl (fun _ => 0)) (fun _ => rfl) (by decide) (by decide) (by decide) dX2_init_8 ⟨Nat.le_of_ble_eq_true rfl, Nat.le_of_ble_eq_true rfl⟩ (fun q1 L1 g1 H e1a e1b e1c w => ?_)
  replace h := h q1 L1 g1 e1a e1b e1c
  obtain ⟨g2, h3, h⟩ := h
  refine xr_putF S w (hmn.trans rfl) 3 xi_X2_init_X2 rfl tyX2 tyX2_ok nmX2 1 (by decide) xl_X2_init_9 rfl rfl _ (tyX2_ok 1 (by decide)) rfl rfl h3 dX2_init_10 (fun H locs w => ?_)
  refine lv_aload_n S.1 S.2.1 dX2_init_13 rfl (lv_at hl 0 rfl) ?_
  refine lv_sipush (v := 151) S.1 S.2.1 dX2_init_14 (by decide) ?_
  refine xr_newa S w hA 1 .int xar_X2_init_int .int rfl (fun _ => rfl) 151 (.inl (fun _ => 0)) (fun _ => rfl) (by decide) (by decide) (by decide) dX2_init_17 ⟨Nat.le_of_ble_eq_true rfl, Nat.le_of_ble_eq_true rfl⟩ (fun q4 L4 g4 H e4a e4b e4c w => ?_)
  replace h := h q4 L4 g4 e4a e4b e4c
  obtain ⟨g5, h6, h⟩ := h
  refine xr_putF S w (hmn.trans rfl) 3 xi_X2_init_X2 rfl tyX2 tyX2_ok nmX2 2 (by decide) xl_X2_init_15 rfl rfl _ (tyX2_ok 2 (by decide)) rfl rfl h6 dX2_init_19 (fun H locs w => ?_)
  refine lv_aload_n S.1 S.2.1 dX2_init_22 rfl (lv_at hl 0 rfl) ?_
  refine lv_sipush (v := 151) S.1 S.2.1 dX2_init_23 (by decide) ?_
  refine xr_newa S w hA 1 .int xar_X2_init_int .int rfl (fun _ => rfl) 151 (.inl (fun _ => 0)) (fun _ => rfl) (by decide) (by decide) (by decide) dX2_init_26 ⟨Nat.le_of_ble_eq_true rfl, Nat.le_of_ble_eq_true rfl⟩ (fun q7 L7 g7 H e7a e7b e7c w => ?_)
  replace h := h q7 L7 g7 e7a e7b e7c
  obtain ⟨g8, h9, h⟩ := h
  refine xr_putF S w (hmn.trans rfl) 3 xi_X2_init_X2 rfl tyX2 tyX2_ok nmX2 3 (by decide) xl_X2_init_18 rfl rfl _ (tyX2_ok 3 (by decide)) rfl rfl h9 dX2_init_28 (fun H locs w => ?_)
  refine lv_aload_n S.1 S.2.1 dX2_init_31 rfl (lv_at hl 0 rfl) ?_
  refine lv_sipush (v := 151) S.1 S.2.1 dX2_init_32 (by decide) ?_
  refine xr_newa S w hA 2 .long xar_X2_init_long .long rfl (fun _ => rfl) 151 (.inr (.inl (fun _ => 0))) (fun _ => rfl) (by decide) (by decide) (by decide) dX2_init_35 ⟨Nat.le_of_ble_eq_true rfl, Nat.le_of_ble_eq_true rfl⟩ (fun q10 L10 g10 H e10a e10b e10c w => ?_)
  replace h := h q10 L10 g10 e10a e10b e10c
  obtain ⟨g11, h12, h⟩ := h
  refine xr_putF S w (hmn.trans rfl) 3 xi_X2_init_X2 rfl tyX2 tyX2_ok nmX2 4 (by decide) xl_X2_init_21 rfl rfl _ (tyX2_ok 4 (by decide)) rfl rfl h12 dX2_init_37 (fun H locs w => ?_)
  exact ret _ _ _ _ _ _ _ _ h w dX2_init_40 ⟨Nat.le_of_ble_eq_true rfl, Nat.le_of_ble_eq_true rfl⟩
theorem xo0_X3_init : Cond.methodLink RX3 1 objectInit ∈ wsX3_init := by decide +kernel
theorem xo1_X3_init : Cond.instanceMethod objectInit ∈ wsX3_init := by decide +kernel
theorem xo2_X3_init : Cond.code objectInit ⟨#[0xb1]⟩ 1 none ∈ wsX3_init := by decide +kernel
def w_X3_init (P : List Nat → xG → Prop) (L : List Nat) (g : xG) (a0 : Nat) : Prop :=
  P L g
set_option maxHeartbeats 4000000 in
set_option maxRecDepth 100000 in
theorem c_X3_init (l : Launch) (D : va_G) (cy : Nat → ClassId) (t : Nat) (L : List Nat) (g : xG) (a0 : Nat) (P : List Nat → xG → Prop) (h : w_X3_init P L g a0) : xYv l yX3_init wsX3_init ({ frames := 1, cells := 0, slots := 0, locals := 12 }) D cy t L g [.ref a0] P 0 0 := by
  refine xma_v (cc := cX3_init) (maxL := 1) RX3 rfl rfl rfl (by decide +kernel) rfl (Nat.le_of_ble_eq_true rfl) ?_
  intro p e s m args below meth c Q A S w hA hN hZ hT hmn ret ls hl
  have hl : lv_has ls 1 [(0, .ref a0)] := hl
  rw [w_X3_init] at h
  refine lv_aload_n S.1 S.2.1 dX3_init_0 rfl (lv_at hl 0 rfl) ?_
  refine xr_obj S xo0_X3_init xo1_X3_init xo2_X3_init hl.1 dX3_init_1 (Nat.le_of_ble_eq_true rfl) (Nat.le_of_ble_eq_true rfl) ?_
  exact ret _ _ _ _ _ _ _ _ h w dX3_init_4 ⟨Nat.le_of_ble_eq_true rfl, Nat.le_of_ble_eq_true rfl⟩
theorem xo0_X6_init : Cond.methodLink RX6 3 objectInit ∈ wsX6_init := by decide +kernel
theorem xo1_X6_init : Cond.instanceMethod objectInit ∈ wsX6_init := by decide +kernel
theorem xo2_X6_init : Cond.code objectInit ⟨#[0xb1]⟩ 1 none ∈ wsX6_init := by decide +kernel
theorem xar_X6_init_int : Cond.arrayClass (newarray.typeOf .int) ∈ wsX6_init := by decide +kernel
theorem xi_X6_init_X6 : ∀ w ∈ wsX60, w ∈ wsX6_init := by decide +kernel
theorem xl_X6_init_9 : Cond.fieldLink RX6 9 (TX6 1).1 (TX6 1).2.1 (TX6 1).2.2.1 ∈ wsX6_init := by decide +kernel
theorem xl_X6_init_15 : Cond.fieldLink RX6 15 (TX6 2).1 (TX6 2).2.1 (TX6 2).2.2.1 ∈ wsX6_init := by decide +kernel
theorem xar_X6_init_long : Cond.arrayClass (newarray.typeOf .long) ∈ wsX6_init := by decide +kernel
theorem xl_X6_init_18 : Cond.fieldLink RX6 18 (TX6 3).1 (TX6 3).2.1 (TX6 3).2.2.1 ∈ wsX6_init := by decide +kernel
theorem xar_X6_init_boolean : Cond.arrayClass (newarray.typeOf .boolean) ∈ wsX6_init := by decide +kernel
theorem xl_X6_init_22 : Cond.fieldLink RX6 22 (TX6 4).1 (TX6 4).2.1 (TX6 4).2.2.1 ∈ wsX6_init := by decide +kernel
def w_X6_init (P : List Nat → xG → Prop) (L : List Nat) (g : xG) (a0 : Nat) : Prop :=
  ∀ (q1 : Nat) (L1 : List Nat) (g1 : xG), q1 ∉ L → L1 = L ++ [q1] → g1 = va_up g q1 (.inl (1, 300, .inl (fun _ => 0))) →
  ∃ g2, (xp g1 7 a0 1 (.ref q1)) = some g2 ∧
  ∀ (q4 : Nat) (L4 : List Nat) (g4 : xG), q4 ∉ L1 → L4 = L1 ++ [q4] → g4 = va_up g2 q4 (.inl (1, 300, .inl (fun _ => 0))) →
  ∃ g5, (xp g4 7 a0 2 (.ref q4)) = some g5 ∧
  ∀ (q7 : Nat) (L7 : List Nat) (g7 : xG), q7 ∉ L4 → L7 = L4 ++ [q7] → g7 = va_up g5 q7 (.inl (2, 300, .inr (.inl (fun _ => 0)))) →
  ∃ g8, (xp g7 7 a0 3 (.ref q7)) = some g8 ∧
  ∀ (q10 : Nat) (L10 : List Nat) (g10 : xG), q10 ∉ L7 → L10 = L7 ++ [q10] → g10 = va_up g8 q10 (.inl (3, 300, .inl (fun _ => 0))) →
  ∃ g11, (xp g10 7 a0 4 (.ref q10)) = some g11 ∧
  P L10 g11
set_option maxHeartbeats 4000000 in
set_option maxRecDepth 100000 in
theorem c_X6_init (l : Launch) (D : va_G) (cy : Nat → ClassId) (t : Nat) (L : List Nat) (g : xG) (a0 : Nat) (P : List Nat → xG → Prop) (h : w_X6_init P L g a0) : xYv l yX6_init wsX6_init ({ frames := 1, cells := 4, slots := 1200, locals := 12 }) D cy t L g [.ref a0] P 4 1200 := by
  refine xma_v (cc := cX6_init) (maxL := 1) RX6 rfl rfl rfl (by decide +kernel) rfl (Nat.le_of_ble_eq_true rfl) ?_
  intro p e s m args below meth c Q A S w hA hN hZ hT hmn ret ls hl
  have hl : lv_has ls 1 [(0, .ref a0)] := hl
  rw [w_X6_init] at h
  refine lv_aload_n S.1 S.2.1 dX6_init_0 rfl (lv_at hl 0 rfl) ?_
  refine xr_obj S xo0_X6_init xo1_X6_init xo2_X6_init hl.1 dX6_init_1 (Nat.le_of_ble_eq_true rfl) (Nat.le_of_ble_eq_true rfl) ?_
  refine lv_aload_n S.1 S.2.1 dX6_init_4 rfl (lv_at hl 0 rfl) ?_
  refine lv_sipush (v := 300) S.1 S.2.1 dX6_init_5 (by decide) ?_
  refine xr_newa S w hA 1 .int xar_X6_init_int .int rfl (fun _ => rfl) 300 (.inl (fun _ => 0)) (fun _ => rfl) (by decide) (by decide) (by decide) dX6_init_8 ⟨Nat.le_of_ble_eq_true rfl, Nat.le_of_ble_eq_true rfl⟩ (fun q1 L1 g1 H e1a e1b e1c w => ?_)
  replace h := h q1 L1 g1 e1a e1b e1c
  obtain ⟨g2, h3, h⟩ := h
  refine xr_putF S w (hmn.trans rfl) 7 xi_X6_init_X6 rfl tyX6 tyX6_ok nmX6 1 (by decide) xl_X6_init_9 rfl rfl _ (tyX6_ok 1 (by decide)) rfl rfl h3 dX6_init_10 (fun H locs w => ?_)
  refine lv_aload_n S.1 S.2.1 dX6_init_13 rfl (lv_at hl 0 rfl) ?_
  refine lv_sipush (v := 300) S.1 S.2.1 dX6_init_14 (by decide) ?_
  refine xr_newa S w hA 1 .int xar_X6_init_int .int rfl (fun _ => rfl) 300 (.inl (fun _ => 0)) (fun _ => rfl) (by decide) (by decide) (by decide) dX6_init_17 ⟨Nat.le_of_ble_eq_true rfl, Nat.le_of_ble_eq_true rfl⟩ (fun q4 L4 g4 H e4a e4b e4c w => ?_)
  replace h := h q4 L4 g4 e4a e4b e4c
  obtain ⟨g5, h6, h⟩ := h
  refine xr_putF S w (hmn.trans rfl) 7 xi_X6_init_X6 rfl tyX6 tyX6_ok nmX6 2 (by decide) xl_X6_init_15 rfl rfl _ (tyX6_ok 2 (by decide)) rfl rfl h6 dX6_init_19 (fun H locs w => ?_)
  refine lv_aload_n S.1 S.2.1 dX6_init_22 rfl (lv_at hl 0 rfl) ?_
  refine lv_sipush (v := 300) S.1 S.2.1 dX6_init_23 (by decide) ?_
  refine xr_newa S w hA 2 .long xar_X6_init_long .long rfl (fun _ => rfl) 300 (.inr (.inl (fun _ => 0))) (fun _ => rfl) (by decide) (by decide) (by decide) dX6_init_26 ⟨Nat.le_of_ble_eq_true rfl, Nat.le_of_ble_eq_true rfl⟩ (fun q7 L7 g7 H e7a e7b e7c w => ?_)
  replace h := h q7 L7 g7 e7a e7b e7c
  obtain ⟨g8, h9, h⟩ := h
  refine xr_putF S w (hmn.trans rfl) 7 xi_X6_init_X6 rfl tyX6 tyX6_ok nmX6 3 (by decide) xl_X6_init_18 rfl rfl _ (tyX6_ok 3 (by decide)) rfl rfl h9 dX6_init_28 (fun H locs w => ?_)
  refine lv_aload_n S.1 S.2.1 dX6_init_31 rfl (lv_at hl 0 rfl) ?_
  refine lv_sipush (v := 300) S.1 S.2.1 dX6_init_32 (by decide) ?_
  refine xr_newa S w hA 3 .boolean xar_X6_init_boolean .boolean rfl (fun _ => rfl) 300 (.inl (fun _ => 0)) (fun _ => rfl) (by decide) (by decide) (by decide) dX6_init_35 ⟨Nat.le_of_ble_eq_true rfl, Nat.le_of_ble_eq_true rfl⟩ (fun q10 L10 g10 H e10a e10b e10c w => ?_)
  replace h := h q10 L10 g10 e10a e10b e10c
  obtain ⟨g11, h12, h⟩ := h
  refine xr_putF S w (hmn.trans rfl) 7 xi_X6_init_X6 rfl tyX6 tyX6_ok nmX6 4 (by decide) xl_X6_init_22 rfl rfl _ (tyX6_ok 4 (by decide)) rfl rfl h12 dX6_init_37 (fun H locs w => ?_)
  exact ret _ _ _ _ _ _ _ _ h w dX6_init_40 ⟨Nat.le_of_ble_eq_true rfl, Nat.le_of_ble_eq_true rfl⟩
theorem xo0_X4_init : Cond.methodLink RX4 3 objectInit ∈ wsX4_init := by decide +kernel
theorem xo1_X4_init : Cond.instanceMethod objectInit ∈ wsX4_init := by decide +kernel
theorem xo2_X4_init : Cond.code objectInit ⟨#[0xb1]⟩ 1 none ∈ wsX4_init := by decide +kernel
theorem xk_X4_init_9 : Cond.classLink RX4 9 RX3 ∈ wsX4_init := by decide +kernel
theorem xst_X4_init_9 : Cond.instantiable RX3 7 ∈ wsX4_init := by decide +kernel
theorem xni_X4_init_9 : Cond.initialized RX3 ∈ wsX4_init := by decide +kernel
theorem xi_X4_init_X3 : ∀ w ∈ wsX30, w ∈ wsX4_init := by decide +kernel
theorem xi_X4_init_X4 : ∀ w ∈ wsX40, w ∈ wsX4_init := by decide +kernel
theorem xl_X4_init_12 : Cond.fieldLink RX4 12 (TX4 1).1 (TX4 1).2.1 (TX4 1).2.2.1 ∈ wsX4_init := by decide +kernel
theorem xk_X4_init_18 : Cond.classLink RX4 18 RX2 ∈ wsX4_init := by decide +kernel
theorem xst_X4_init_18 : Cond.instantiable RX2 5 ∈ wsX4_init := by decide +kernel
theorem xni_X4_init_18 : Cond.initialized RX2 ∈ wsX4_init := by decide +kernel
theorem xi_X4_init_X2 : ∀ w ∈ wsX20, w ∈ wsX4_init := by decide +kernel
theorem xl_X4_init_21 : Cond.fieldLink RX4 21 (TX4 2).1 (TX4 2).2.1 (TX4 2).2.2.1 ∈ wsX4_init := by decide +kernel
theorem xk_X4_init_25 : Cond.classLink RX4 25 RX6 ∈ wsX4_init := by decide +kernel
theorem xst_X4_init_25 : Cond.instantiable RX6 5 ∈ wsX4_init := by decide +kernel
theorem xni_X4_init_25 : Cond.initialized RX6 ∈ wsX4_init := by decide +kernel
theorem xi_X4_init_X6 : ∀ w ∈ wsX60, w ∈ wsX4_init := by decide +kernel
theorem xl_X4_init_28 : Cond.fieldLink RX4 28 (TX4 3).1 (TX4 3).2.1 (TX4 3).2.2.1 ∈ wsX4_init := by decide +kernel
theorem xar_X4_init_int : Cond.arrayClass (newarray.typeOf .int) ∈ wsX4_init := by decide +kernel
theorem xl_X4_init_32 : Cond.fieldLink RX4 32 (TX4 4).1 (TX4 4).2.1 (TX4 4).2.2.1 ∈ wsX4_init := by decide +kernel
theorem xar_X4_init_boolean : Cond.arrayClass (newarray.typeOf .boolean) ∈ wsX4_init := by decide +kernel
theorem xl_X4_init_36 : Cond.fieldLink RX4 36 (TX4 5).1 (TX4 5).2.1 (TX4 5).2.2.1 ∈ wsX4_init := by decide +kernel
theorem xl_X4_init_40 : Cond.fieldLink RX4 40 (TX4 0).1 (TX4 0).2.1 (TX4 0).2.2.1 ∈ wsX4_init := by decide +kernel
def w_X4_init (P : List Nat → xG → Prop) (L : List Nat) (g : xG) (a0 : Nat) (a1 : Int32) : Prop :=
  ∀ (q1 : Nat) (L1 : List Nat) (g1 : xG), q1 ∉ L → L1 = L ++ [q1] → g1 = va_up g q1 (.inr (4, [.int 0, .int 0, .int 0, .int 0, .int 0, .int 0, .int 0])) →
  w_X3_init (fun L2 g2 =>
    ∃ g3, (xp g2 5 a0 1 (.ref q1)) = some g3 ∧
    ∀ (q5 : Nat) (L5 : List Nat) (g5 : xG), q5 ∉ L2 → L5 = L2 ++ [q5] → g5 = va_up g3 q5 (.inr (3, [.int 0, .null, .null, .null, .null])) →
    w_X2_init (fun L6 g6 =>
      ∃ g7, (xp g6 5 a0 2 (.ref q5)) = some g7 ∧
      ∀ (q9 : Nat) (L9 : List Nat) (g9 : xG), q9 ∉ L6 → L9 = L6 ++ [q9] → g9 = va_up g7 q9 (.inr (7, [.int 0, .null, .null, .null, .null])) →
      w_X6_init (fun L10 g10 =>
        ∃ g11, (xp g10 5 a0 3 (.ref q9)) = some g11 ∧
        ∀ (q13 : Nat) (L13 : List Nat) (g13 : xG), q13 ∉ L10 → L13 = L10 ++ [q13] → g13 = va_up g11 q13 (.inl (1, 6, .inl (fun _ => 0))) →
        ∃ g14, (xp g13 5 a0 4 (.ref q13)) = some g14 ∧
        ∀ (q16 : Nat) (L16 : List Nat) (g16 : xG), q16 ∉ L13 → L16 = L13 ++ [q16] → g16 = va_up g14 q16 (.inl (3, 906, .inl (fun _ => 0))) →
        ∃ g17, (xp g16 5 a0 5 (.ref q16)) = some g17 ∧
        ∃ g19, (xp g17 5 a0 0 (.int a1)) = some g19 ∧
        P L16 g19
      ) L9 g9 q9
    ) L5 g5 q5
  ) L1 g1 q1
set_option maxHeartbeats 4000000 in
set_option maxRecDepth 100000 in
theorem c_X4_init (l : Launch) (D : va_G) (cy : Nat → ClassId) (t : Nat) (L : List Nat) (g : xG) (a0 : Nat) (a1 : Int32) (P : List Nat → xG → Prop) (h : w_X4_init P L g a0 a1) : xYv l yX4_init wsX4_init ({ frames := 2, cells := 13, slots := 2733, locals := 32 }) D cy t L g [.ref a0, .int a1] P 13 2733 := by
  refine xma_v (cc := cX4_init) (maxL := 2) RX4 rfl rfl rfl (by decide +kernel) rfl (Nat.le_of_ble_eq_true rfl) ?_
  intro p e s m args below meth c Q A S w hA hN hZ hT hmn ret ls hl
  have hl : lv_has ls 2 [(0, .ref a0), (1, .int a1)] := hl
  rw [w_X4_init] at h
  refine lv_aload_n S.1 S.2.1 dX4_init_0 rfl (lv_at hl 0 rfl) ?_
  refine xr_obj S xo0_X4_init xo1_X4_init xo2_X4_init hl.1 dX4_init_1 (Nat.le_of_ble_eq_true rfl) (Nat.le_of_ble_eq_true rfl) ?_
  refine lv_aload_n S.1 S.2.1 dX4_init_4 rfl (lv_at hl 0 rfl) ?_
  refine xr_new S w hA 4 xi_X4_init_X3 rfl tyX3 tyX3_ok xk_X4_init_9 xst_X4_init_9 xni_X4_init_9 [.int 0, .int 0, .int 0, .int 0, .int 0, .int 0, .int 0] (fun j hj => by rcases (show j = 0 ∨ j = 1 ∨ j = 2 ∨ j = 3 ∨ j = 4 ∨ j = 5 ∨ j = 6 by omega) with rfl | rfl | rfl | rfl | rfl | rfl | rfl <;> rfl) dX4_init_5 ⟨Nat.le_of_ble_eq_true rfl, Nat.le_of_ble_eq_true rfl⟩ (fun q1 L1 g1 H e1a e1b e1c w => ?_)
  replace h := h q1 L1 g1 e1a e1b e1c
  refine lv_dup S.1 S.2.1 dX4_init_8 rfl ?_
  refine xr_callYIN_v S w hA hN hZ hT (c_X3_init l D cy t L1 g1 q1 _ h) ⟨va_cnB 0 S.2.2.2.2 gX4_init_X3_init_n11 rfl rfl rfl hN.2.2.2.1 (S.2.2.2.2 _ (by decide +kernel)) (by decide +kernel) ⟨Nat.le_of_ble_eq_true rfl, Nat.le_of_ble_eq_true rfl⟩, rfl, (S.2.2.2.2 _ (by decide +kernel))⟩ rfl rfl hl.1 (Nat.le_of_ble_eq_true rfl) dX4_init_9 ⟨Nat.le_of_ble_eq_true rfl, Nat.le_of_ble_eq_true rfl⟩ (fun L2 g2 H locs h w => ?_)
  obtain ⟨g3, h4, h⟩ := h
  refine xr_putF S w (hmn.trans rfl) 5 xi_X4_init_X4 rfl tyX4 tyX4_ok nmX4 1 (by decide) xl_X4_init_12 rfl rfl _ (tyX4_ok 1 (by decide)) rfl rfl h4 dX4_init_12 (fun H locs w => ?_)
  refine lv_aload_n S.1 S.2.1 dX4_init_15 rfl (lv_at hl 0 rfl) ?_
  refine xr_new S w hA 3 xi_X4_init_X2 rfl tyX2 tyX2_ok xk_X4_init_18 xst_X4_init_18 xni_X4_init_18 [.int 0, .null, .null, .null, .null] (fun j hj => by rcases (show j = 0 ∨ j = 1 ∨ j = 2 ∨ j = 3 ∨ j = 4 by omega) with rfl | rfl | rfl | rfl | rfl <;> rfl) dX4_init_16 ⟨Nat.le_of_ble_eq_true rfl, Nat.le_of_ble_eq_true rfl⟩ (fun q5 L5 g5 H e5a e5b e5c w => ?_)
  replace h := h q5 L5 g5 e5a e5b e5c
  refine lv_dup S.1 S.2.1 dX4_init_19 rfl ?_
  refine xr_callYIN_v S w hA hN hZ hT (c_X2_init l D cy t L5 g5 q5 _ h) ⟨va_cnB 0 S.2.2.2.2 gX4_init_X2_init_n20 rfl rfl rfl hN.2.2.2.2.1 (S.2.2.2.2 _ (by decide +kernel)) (by decide +kernel) ⟨Nat.le_of_ble_eq_true rfl, Nat.le_of_ble_eq_true rfl⟩, rfl, (S.2.2.2.2 _ (by decide +kernel))⟩ rfl rfl hl.1 (Nat.le_of_ble_eq_true rfl) dX4_init_20 ⟨Nat.le_of_ble_eq_true rfl, Nat.le_of_ble_eq_true rfl⟩ (fun L6 g6 H locs h w => ?_)
  obtain ⟨g7, h8, h⟩ := h
  refine xr_putF S w (hmn.trans rfl) 5 xi_X4_init_X4 rfl tyX4 tyX4_ok nmX4 2 (by decide) xl_X4_init_21 rfl rfl _ (tyX4_ok 2 (by decide)) rfl rfl h8 dX4_init_23 (fun H locs w => ?_)
  refine lv_aload_n S.1 S.2.1 dX4_init_26 rfl (lv_at hl 0 rfl) ?_
  refine xr_new S w hA 7 xi_X4_init_X6 rfl tyX6 tyX6_ok xk_X4_init_25 xst_X4_init_25 xni_X4_init_25 [.int 0, .null, .null, .null, .null] (fun j hj => by rcases (show j = 0 ∨ j = 1 ∨ j = 2 ∨ j = 3 ∨ j = 4 by omega) with rfl | rfl | rfl | rfl | rfl <;> rfl) dX4_init_27 ⟨Nat.le_of_ble_eq_true rfl, Nat.le_of_ble_eq_true rfl⟩ (fun q9 L9 g9 H e9a e9b e9c w => ?_)
  replace h := h q9 L9 g9 e9a e9b e9c
  refine lv_dup S.1 S.2.1 dX4_init_30 rfl ?_
  refine xr_callYIN_v S w hA hN hZ hT (c_X6_init l D cy t L9 g9 q9 _ h) ⟨va_cnB 0 S.2.2.2.2 gX4_init_X6_init_n27 rfl rfl rfl hN.2.2.2.2.2.1 (S.2.2.2.2 _ (by decide +kernel)) (by decide +kernel) ⟨Nat.le_of_ble_eq_true rfl, Nat.le_of_ble_eq_true rfl⟩, rfl, (S.2.2.2.2 _ (by decide +kernel))⟩ rfl rfl hl.1 (Nat.le_of_ble_eq_true rfl) dX4_init_31 ⟨Nat.le_of_ble_eq_true rfl, Nat.le_of_ble_eq_true rfl⟩ (fun L10 g10 H locs h w => ?_)
  obtain ⟨g11, h12, h⟩ := h
  refine xr_putF S w (hmn.trans rfl) 5 xi_X4_init_X4 rfl tyX4 tyX4_ok nmX4 3 (by decide) xl_X4_init_28 rfl rfl _ (tyX4_ok 3 (by decide)) rfl rfl h12 dX4_init_34 (fun H locs w => ?_)
  refine lv_aload_n S.1 S.2.1 dX4_init_37 rfl (lv_at hl 0 rfl) ?_
  refine lv_bipush (v := 6) S.1 S.2.1 dX4_init_38 (by decide) ?_
  refine xr_newa S w hA 1 .int xar_X4_init_int .int rfl (fun _ => rfl) 6 (.inl (fun _ => 0)) (fun _ => rfl) (by decide) (by decide) (by decide) dX4_init_40 ⟨Nat.le_of_ble_eq_true rfl, Nat.le_of_ble_eq_true rfl⟩ (fun q13 L13 g13 H e13a e13b e13c w => ?_)
  replace h := h q13 L13 g13 e13a e13b e13c
  obtain ⟨g14, h15, h⟩ := h
  refine xr_putF S w (hmn.trans rfl) 5 xi_X4_init_X4 rfl tyX4 tyX4_ok nmX4 4 (by decide) xl_X4_init_32 rfl rfl _ (tyX4_ok 4 (by decide)) rfl rfl h15 dX4_init_42 (fun H locs w => ?_)
  refine lv_aload_n S.1 S.2.1 dX4_init_45 rfl (lv_at hl 0 rfl) ?_
  refine lv_sipush (v := 906) S.1 S.2.1 dX4_init_46 (by decide) ?_
  refine xr_newa S w hA 3 .boolean xar_X4_init_boolean .boolean rfl (fun _ => rfl) 906 (.inl (fun _ => 0)) (fun _ => rfl) (by decide) (by decide) (by decide) dX4_init_49 ⟨Nat.le_of_ble_eq_true rfl, Nat.le_of_ble_eq_true rfl⟩ (fun q16 L16 g16 H e16a e16b e16c w => ?_)
  replace h := h q16 L16 g16 e16a e16b e16c
  obtain ⟨g17, h18, h⟩ := h
  refine xr_putF S w (hmn.trans rfl) 5 xi_X4_init_X4 rfl tyX4 tyX4_ok nmX4 5 (by decide) xl_X4_init_36 rfl rfl _ (tyX4_ok 5 (by decide)) rfl rfl h18 dX4_init_51 (fun H locs w => ?_)
  refine lv_aload_n S.1 S.2.1 dX4_init_54 rfl (lv_at hl 0 rfl) ?_
  refine lv_iload_n S.1 S.2.1 dX4_init_55 rfl (lv_at hl 1 rfl) ?_
  obtain ⟨g19, h20, h⟩ := h
  refine xr_putF S w (hmn.trans rfl) 5 xi_X4_init_X4 rfl tyX4 tyX4_ok nmX4 0 (by decide) xl_X4_init_40 rfl rfl _ (tyX4_ok 0 (by decide)) rfl rfl h20 dX4_init_56 (fun H locs w => ?_)
  exact ret _ _ _ _ _ _ _ _ h w dX4_init_59 ⟨Nat.le_of_ble_eq_true rfl, Nat.le_of_ble_eq_true rfl⟩
theorem xi_X5_init_X5 : ∀ w ∈ wsX50, w ∈ wsX5_init := by decide +kernel
theorem xl_X5_init_11 : Cond.fieldLink RX5 11 (TX5 2).1 (TX5 2).2.1 (TX5 2).2.2.1 ∈ wsX5_init := by decide +kernel
theorem xk_X5_init_9 : Cond.classLink RX5 9 RX1 ∈ wsX5_init := by decide +kernel
theorem xst_X5_init_9 : Cond.instantiable RX1 7 ∈ wsX5_init := by decide +kernel
theorem xni_X5_init_9 : Cond.initialized RX1 ∈ wsX5_init := by decide +kernel
theorem xi_X5_init_X1 : ∀ w ∈ wsX10, w ∈ wsX5_init := by decide +kernel
theorem xo0_X5_init : Cond.methodLink RX5 3 objectInit ∈ wsX5_init := by decide +kernel
theorem xo1_X5_init : Cond.instanceMethod objectInit ∈ wsX5_init := by decide +kernel
theorem xo2_X5_init : Cond.code objectInit ⟨#[0xb1]⟩ 1 none ∈ wsX5_init := by decide +kernel
theorem xl_X5_init_18 : Cond.fieldLink RX5 18 (TX5 3).1 (TX5 3).2.1 (TX5 3).2.2.1 ∈ wsX5_init := by decide +kernel
def w_X5_init_27 (P : List Nat → xG → Prop) : Nat → List Nat → xG → Nat → Int32 → Prop
  | 0, _, _, _, _ => False
  | n9 + 1, L, g, v0, v1 =>
  if 200 ≤ v1 then
    P L g
  else
    ∃ x1, (xg_r g 6 v0 2) = some x1 ∧
    ∀ (q3 : Nat) (L3 : List Nat) (g3 : xG), q3 ∉ L → L3 = L ++ [q3] → g3 = va_up g q3 (.inr (2, [.int 0, .int 0, .int 0, .int 0, .int 0, .long 0, .long 0])) →
    w_X1_init (fun L4 g4 =>
      ∃ g5, (xs_r 4 2 g4 x1 v1 q3) = some g5 ∧
      w_X5_init_27 P n9 L4 g5 v0 (v1 + 1)
    ) L3 g3 q3
def w_X5_init (P : List Nat → xG → Prop) (L : List Nat) (g : xG) (a0 : Nat) : Prop :=
  ∀ (q7 : Nat) (L7 : List Nat) (g7 : xG), q7 ∉ L → L7 = L ++ [q7] → g7 = va_up g q7 (.inl (4, 200, .inr (.inr (.inr (.inr (fun _ => none)))))) →
  ∃ g8, (xp g7 6 a0 2 (.ref q7)) = some g8 ∧
  ∀ (q10 : Nat) (L10 : List Nat) (g10 : xG), q10 ∉ L7 → L10 = L7 ++ [q10] → g10 = va_up g8 q10 (.inr (2, [.int 0, .int 0, .int 0, .int 0, .int 0, .long 0, .long 0])) →
  w_X1_init (fun L11 g11 =>
    ∃ g12, (xp_r g11 6 a0 3 q10) = some g12 ∧
    w_X5_init_27 P 201 L11 g12 a0 0
  ) L10 g10 q10
set_option maxHeartbeats 4000000 in
set_option maxRecDepth 100000 in
theorem c_X5_init (l : Launch) (D : va_G) (cy : Nat → ClassId) (t : Nat) (L : List Nat) (g : xG) (a0 : Nat) (P : List Nat → xG → Prop) (h : w_X5_init P L g a0) : xYv l yX5_init wsX5_init ({ frames := 2, cells := 203, slots := 1614, locals := 32 }) D cy t L g [.ref a0] P 203 1614 := by
  refine xma_v (cc := cX5_init) (maxL := 2) RX5 rfl rfl rfl (by decide +kernel) rfl (Nat.le_of_ble_eq_true rfl) ?_
  intro p e s m args below meth c Q A S w hA hN hZ hT hmn ret ls hl
  have hl : lv_has ls 2 [(0, .ref a0)] := hl
  have hb27 : ∀ (n9 : Nat) (L : List Nat) (g : xG) (v0 : Nat) (v1 : Int32), w_X5_init_27 P n9 L g v0 v1 → ∀ (cz sl : Nat), cz + 1 * n9 ≤ 203 → sl + 7 * n9 ≤ 1614 → ∀ (H : Heap) (locs : List Loc) (ls : Array Slot), xOK D cy A s.heap s L g H locs → lv_has ls 2 [(0, .ref v0), (1, .int v1)] → W p l e { frames := 2, cells := 203, slots := 1614, locals := 32 } s m args below meth c H locs cz sl Q (F0 m 27 ls []) := by
    intro n9
    induction n9 with
    | zero => intro L g v0 v1 h; exact h.elim
    | succ n9 ih =>
      intro L g v0 v1 h cz sl hcz hsl H locs ls w hl
      rw [w_X5_init_27] at h
      refine lv_iload_n S.1 S.2.1 dX5_init_27 rfl (lv_at hl 1 rfl) ?_
      refine lv_sipush (v := 200) S.1 S.2.1 dX5_init_28 (by decide) ?_
      refine lv_icmp_ge (tgt := 53) S.1 S.2.1 dX5_init_31 (by decide) (fun c31 => ?_) (fun c31 => ?_)
      · rw [if_pos c31] at h
        exact ret _ _ _ _ _ _ _ _ h w dX5_init_53 ⟨show _ ≤ 203 from by omega, show _ ≤ 1614 from by omega⟩
      · rw [if_neg c31] at h
        refine lv_aload_n S.1 S.2.1 dX5_init_34 rfl (lv_at hl 0 rfl) ?_
        obtain ⟨x1, h2, h⟩ := h
        refine xr_getr S w 6 xi_X5_init_X5 rfl 2 (by decide) xl_X5_init_11 h2 dX5_init_35 ?_
        refine lv_iload_n S.1 S.2.1 dX5_init_38 rfl (lv_at hl 1 rfl) ?_
        refine xr_new S w hA 2 xi_X5_init_X1 rfl tyX1 tyX1_ok xk_X5_init_9 xst_X5_init_9 xni_X5_init_9 [.int 0, .int 0, .int 0, .int 0, .int 0, .long 0, .long 0] (fun j hj => by rcases (show j = 0 ∨ j = 1 ∨ j = 2 ∨ j = 3 ∨ j = 4 ∨ j = 5 ∨ j = 6 by omega) with rfl | rfl | rfl | rfl | rfl | rfl | rfl <;> rfl) dX5_init_39 ⟨show _ ≤ 203 from by omega, show _ ≤ 1614 from by omega⟩ (fun q3 L3 g3 H e3a e3b e3c w => ?_)
        replace h := h q3 L3 g3 e3a e3b e3c
        refine lv_dup S.1 S.2.1 dX5_init_42 rfl ?_
        refine xr_callYIN_v S w hA hN hZ hT (c_X1_init l D cy t L3 g3 q3 _ h) ⟨va_cnB 0 S.2.2.2.2 gX5_init_X1_init_n17 rfl rfl rfl hN.1 (S.2.2.2.2 _ (by decide +kernel)) (by decide +kernel) ⟨Nat.le_of_ble_eq_true rfl, Nat.le_of_ble_eq_true rfl⟩, rfl, (S.2.2.2.2 _ (by decide +kernel))⟩ rfl rfl hl.1 (Nat.le_of_ble_eq_true rfl) dX5_init_43 ⟨show _ ≤ 203 from by omega, show _ ≤ 1614 from by omega⟩ (fun L4 g4 H locs h w => ?_)
        obtain ⟨g5, h6, h⟩ := h
        refine xr_aast S w 4 2 (r := (RX1, TX1, 7)) (fun _ => rfl) rfl h6 dX5_init_46 (fun H locs w => ?_)
        refine lv_iinc (v := (v1 + 1)) (lv' := [(1, .int (v1 + 1)), (0, .ref v0)]) S.1 S.2.1 dX5_init_47 hl (k := 1) rfl rfl (by decide) rfl (fun ls hl => ?_)
        refine lv_goto (tgt := 27) S.1 S.2.1 dX5_init_50 (by decide) ?_
        exact ih L4 g5 v0 (v1 + 1) h _ _ (by omega) (by omega) _ _ _ w (lv_sub hl [1, 0] rfl)
  rw [w_X5_init] at h
  refine lv_aload_n S.1 S.2.1 dX5_init_0 rfl (lv_at hl 0 rfl) ?_
  refine xr_obj S xo0_X5_init xo1_X5_init xo2_X5_init hl.1 dX5_init_1 (Nat.le_of_ble_eq_true rfl) (Nat.le_of_ble_eq_true rfl) ?_
  refine lv_aload_n S.1 S.2.1 dX5_init_4 rfl (lv_at hl 0 rfl) ?_
  refine lv_sipush (v := 200) S.1 S.2.1 dX5_init_5 (by decide) ?_
  refine xr_newq S w hA 4 "TellTale$Letter" xk_X5_init_9 hN.2.2.2.2.2.2.2.2.2.2.2.2.2.1 (fun _ => rfl) 200 (by decide) (by decide) (by decide) dX5_init_8 ⟨Nat.le_of_ble_eq_true rfl, Nat.le_of_ble_eq_true rfl⟩ (fun q7 L7 g7 H e7a e7b e7c w => ?_)
  replace h := h q7 L7 g7 e7a e7b e7c
  obtain ⟨g8, h9, h⟩ := h
  refine xr_putF S w (hmn.trans rfl) 6 xi_X5_init_X5 rfl tyX5 tyX5_ok nmX5 2 (by decide) xl_X5_init_11 rfl rfl _ (tyX5_ok 2 (by decide)) rfl rfl h9 dX5_init_11 (fun H locs w => ?_)
  refine lv_aload_n S.1 S.2.1 dX5_init_14 rfl (lv_at hl 0 rfl) ?_
  refine xr_new S w hA 2 xi_X5_init_X1 rfl tyX1 tyX1_ok xk_X5_init_9 xst_X5_init_9 xni_X5_init_9 [.int 0, .int 0, .int 0, .int 0, .int 0, .long 0, .long 0] (fun j hj => by rcases (show j = 0 ∨ j = 1 ∨ j = 2 ∨ j = 3 ∨ j = 4 ∨ j = 5 ∨ j = 6 by omega) with rfl | rfl | rfl | rfl | rfl | rfl | rfl <;> rfl) dX5_init_15 ⟨Nat.le_of_ble_eq_true rfl, Nat.le_of_ble_eq_true rfl⟩ (fun q10 L10 g10 H e10a e10b e10c w => ?_)
  replace h := h q10 L10 g10 e10a e10b e10c
  refine lv_dup S.1 S.2.1 dX5_init_18 rfl ?_
  refine xr_callYIN_v S w hA hN hZ hT (c_X1_init l D cy t L10 g10 q10 _ h) ⟨va_cnB 0 S.2.2.2.2 gX5_init_X1_init_n17 rfl rfl rfl hN.1 (S.2.2.2.2 _ (by decide +kernel)) (by decide +kernel) ⟨Nat.le_of_ble_eq_true rfl, Nat.le_of_ble_eq_true rfl⟩, rfl, (S.2.2.2.2 _ (by decide +kernel))⟩ rfl rfl hl.1 (Nat.le_of_ble_eq_true rfl) dX5_init_19 ⟨Nat.le_of_ble_eq_true rfl, Nat.le_of_ble_eq_true rfl⟩ (fun L11 g11 H locs h w => ?_)
  obtain ⟨g12, h13, h⟩ := h
  refine xr_putr S w 6 xi_X5_init_X5 rfl tyX5 tyX5_ok nmX5 3 (by decide) xl_X5_init_18 rfl "TellTale$Letter" (tyX5_ok 3 (by decide)) h13 dX5_init_22 (fun H locs w => ?_)
  refine lv_iconst (v := 0) S.1 S.2.1 dX5_init_25 (by decide) ?_
  refine lv_istore_n (lv' := [(1, .int 0), (0, .ref a0)]) S.1 S.2.1 dX5_init_26 rfl hl (by decide) rfl (fun ls hl => ?_)
  exact hb27 201 L11 g12 a0 0 h _ _ (Nat.le_of_ble_eq_true rfl) (Nat.le_of_ble_eq_true rfl) _ _ _ w (lv_sub hl [1, 0] rfl)
theorem xo0_X8_init : Cond.methodLink RX8 1 objectInit ∈ wsX8_init := by decide +kernel
theorem xo1_X8_init : Cond.instanceMethod objectInit ∈ wsX8_init := by decide +kernel
theorem xo2_X8_init : Cond.code objectInit ⟨#[0xb1]⟩ 1 none ∈ wsX8_init := by decide +kernel
theorem xi_X8_init_X8 : ∀ w ∈ wsX80, w ∈ wsX8_init := by decide +kernel
theorem xl_X8_init_7 : Cond.fieldLink RX8 7 (TX8 1).1 (TX8 1).2.1 (TX8 1).2.2.1 ∈ wsX8_init := by decide +kernel
theorem xar_X8_init_int : Cond.arrayClass (newarray.typeOf .int) ∈ wsX8_init := by decide +kernel
theorem xl_X8_init_13 : Cond.fieldLink RX8 13 (TX8 2).1 (TX8 2).2.1 (TX8 2).2.2.1 ∈ wsX8_init := by decide +kernel
theorem xl_X8_init_17 : Cond.fieldLink RX8 17 (TX8 3).1 (TX8 3).2.1 (TX8 3).2.2.1 ∈ wsX8_init := by decide +kernel
theorem xl_X8_init_20 : Cond.fieldLink RX8 20 (TX8 4).1 (TX8 4).2.1 (TX8 4).2.2.1 ∈ wsX8_init := by decide +kernel
theorem xl_X8_init_23 : Cond.fieldLink RX8 23 (TX8 5).1 (TX8 5).2.1 (TX8 5).2.2.1 ∈ wsX8_init := by decide +kernel
theorem xl_X8_init_26 : Cond.fieldLink RX8 26 (TX8 6).1 (TX8 6).2.1 (TX8 6).2.2.1 ∈ wsX8_init := by decide +kernel
theorem xl_X8_init_29 : Cond.fieldLink RX8 29 (TX8 7).1 (TX8 7).2.1 (TX8 7).2.2.1 ∈ wsX8_init := by decide +kernel
theorem xar_X8_init_boolean : Cond.arrayClass (newarray.typeOf .boolean) ∈ wsX8_init := by decide +kernel
theorem xl_X8_init_32 : Cond.fieldLink RX8 32 (TX8 8).1 (TX8 8).2.1 (TX8 8).2.2.1 ∈ wsX8_init := by decide +kernel
theorem xl_X8_init_36 : Cond.fieldLink RX8 36 (TX8 9).1 (TX8 9).2.1 (TX8 9).2.2.1 ∈ wsX8_init := by decide +kernel
theorem xl_X8_init_39 : Cond.fieldLink RX8 39 (TX8 12).1 (TX8 12).2.1 (TX8 12).2.2.1 ∈ wsX8_init := by decide +kernel
theorem xl_X8_init_42 : Cond.fieldLink RX8 42 (TX8 13).1 (TX8 13).2.1 (TX8 13).2.2.1 ∈ wsX8_init := by decide +kernel
theorem xl_X8_init_45 : Cond.fieldLink RX8 45 (TX8 14).1 (TX8 14).2.1 (TX8 14).2.2.1 ∈ wsX8_init := by decide +kernel
theorem xl_X8_init_48 : Cond.fieldLink RX8 48 (TX8 15).1 (TX8 15).2.1 (TX8 15).2.2.1 ∈ wsX8_init := by decide +kernel
theorem xl_X8_init_51 : Cond.fieldLink RX8 51 (TX8 16).1 (TX8 16).2.1 (TX8 16).2.2.1 ∈ wsX8_init := by decide +kernel
theorem xar_X8_init_long : Cond.arrayClass (newarray.typeOf .long) ∈ wsX8_init := by decide +kernel
theorem xl_X8_init_54 : Cond.fieldLink RX8 54 (TX8 17).1 (TX8 17).2.1 (TX8 17).2.2.1 ∈ wsX8_init := by decide +kernel
theorem xl_X8_init_58 : Cond.fieldLink RX8 58 (TX8 18).1 (TX8 18).2.1 (TX8 18).2.2.1 ∈ wsX8_init := by decide +kernel
theorem xl_X8_init_61 : Cond.fieldLink RX8 61 (TX8 20).1 (TX8 20).2.1 (TX8 20).2.2.1 ∈ wsX8_init := by decide +kernel
theorem xl_X8_init_64 : Cond.fieldLink RX8 64 (TX8 21).1 (TX8 21).2.1 (TX8 21).2.2.1 ∈ wsX8_init := by decide +kernel
theorem xl_X8_init_67 : Cond.fieldLink RX8 67 (TX8 22).1 (TX8 22).2.1 (TX8 22).2.2.1 ∈ wsX8_init := by decide +kernel
theorem xl_X8_init_70 : Cond.fieldLink RX8 70 (TX8 23).1 (TX8 23).2.1 (TX8 23).2.2.1 ∈ wsX8_init := by decide +kernel
theorem xl_X8_init_73 : Cond.fieldLink RX8 73 (TX8 24).1 (TX8 24).2.1 (TX8 24).2.2.1 ∈ wsX8_init := by decide +kernel
theorem xl_X8_init_76 : Cond.fieldLink RX8 76 (TX8 25).1 (TX8 25).2.1 (TX8 25).2.2.1 ∈ wsX8_init := by decide +kernel
theorem xl_X8_init_79 : Cond.fieldLink RX8 79 (TX8 26).1 (TX8 26).2.1 (TX8 26).2.2.1 ∈ wsX8_init := by decide +kernel
theorem xl_X8_init_82 : Cond.fieldLink RX8 82 (TX8 27).1 (TX8 27).2.1 (TX8 27).2.2.1 ∈ wsX8_init := by decide +kernel
theorem xl_X8_init_85 : Cond.fieldLink RX8 85 (TX8 29).1 (TX8 29).2.1 (TX8 29).2.2.1 ∈ wsX8_init := by decide +kernel
theorem xc_X8_init_88 : Cond.constant RX8 88 (37600) ∈ wsX8_init := by decide +kernel
theorem xar_X8_init_byte : Cond.arrayClass (newarray.typeOf .byte) ∈ wsX8_init := by decide +kernel
theorem xl_X8_init_89 : Cond.fieldLink RX8 89 (TX8 30).1 (TX8 30).2.1 (TX8 30).2.2.1 ∈ wsX8_init := by decide +kernel
theorem xl_X8_init_93 : Cond.fieldLink RX8 93 (TX8 32).1 (TX8 32).2.1 (TX8 32).2.2.1 ∈ wsX8_init := by decide +kernel
theorem xl_X8_init_96 : Cond.fieldLink RX8 96 (TX8 33).1 (TX8 33).2.1 (TX8 33).2.2.1 ∈ wsX8_init := by decide +kernel
theorem xl_X8_init_99 : Cond.fieldLink RX8 99 (TX8 34).1 (TX8 34).2.1 (TX8 34).2.2.1 ∈ wsX8_init := by decide +kernel
def w_X8_init (P : List Nat → xG → Prop) (L : List Nat) (g : xG) (a0 : Nat) : Prop :=
  ∃ g1, (xp_i g 9 a0 1 3) = some g1 ∧
  ∀ (q3 : Nat) (L3 : List Nat) (g3 : xG), q3 ∉ L → L3 = L ++ [q3] → g3 = va_up g1 q3 (.inl (1, 6, .inl (fun _ => 0))) →
  ∃ g4, (xp g3 9 a0 2 (.ref q3)) = some g4 ∧
  ∀ (q6 : Nat) (L6 : List Nat) (g6 : xG), q6 ∉ L3 → L6 = L3 ++ [q6] → g6 = va_up g4 q6 (.inl (1, 6, .inl (fun _ => 0))) →
  ∃ g7, (xp g6 9 a0 3 (.ref q6)) = some g7 ∧
  ∀ (q9 : Nat) (L9 : List Nat) (g9 : xG), q9 ∉ L6 → L9 = L6 ++ [q9] → g9 = va_up g7 q9 (.inl (1, 6, .inl (fun _ => 0))) →
  ∃ g10, (xp g9 9 a0 4 (.ref q9)) = some g10 ∧
  ∀ (q12 : Nat) (L12 : List Nat) (g12 : xG), q12 ∉ L9 → L12 = L9 ++ [q12] → g12 = va_up g10 q12 (.inl (1, 906, .inl (fun _ => 0))) →
  ∃ g13, (xp g12 9 a0 5 (.ref q12)) = some g13 ∧
  ∀ (q15 : Nat) (L15 : List Nat) (g15 : xG), q15 ∉ L12 → L15 = L12 ++ [q15] → g15 = va_up g13 q15 (.inl (1, 906, .inl (fun _ => 0))) →
  ∃ g16, (xp g15 9 a0 6 (.ref q15)) = some g16 ∧
  ∀ (q18 : Nat) (L18 : List Nat) (g18 : xG), q18 ∉ L15 → L18 = L15 ++ [q18] → g18 = va_up g16 q18 (.inl (1, 906, .inl (fun _ => 0))) →
  ∃ g19, (xp g18 9 a0 7 (.ref q18)) = some g19 ∧
  ∀ (q21 : Nat) (L21 : List Nat) (g21 : xG), q21 ∉ L18 → L21 = L18 ++ [q21] → g21 = va_up g19 q21 (.inl (3, 6, .inl (fun _ => 0))) →
  ∃ g22, (xp g21 9 a0 8 (.ref q21)) = some g22 ∧
  ∀ (q24 : Nat) (L24 : List Nat) (g24 : xG), q24 ∉ L21 → L24 = L21 ++ [q24] → g24 = va_up g22 q24 (.inl (1, 36, .inl (fun _ => 0))) →
  ∃ g25, (xp g24 9 a0 9 (.ref q24)) = some g25 ∧
  ∀ (q27 : Nat) (L27 : List Nat) (g27 : xG), q27 ∉ L24 → L27 = L24 ++ [q27] → g27 = va_up g25 q27 (.inl (1, 200, .inl (fun _ => 0))) →
  ∃ g28, (xp g27 9 a0 12 (.ref q27)) = some g28 ∧
  ∀ (q30 : Nat) (L30 : List Nat) (g30 : xG), q30 ∉ L27 → L30 = L27 ++ [q30] → g30 = va_up g28 q30 (.inl (1, 200, .inl (fun _ => 0))) →
  ∃ g31, (xp g30 9 a0 13 (.ref q30)) = some g31 ∧
  ∀ (q33 : Nat) (L33 : List Nat) (g33 : xG), q33 ∉ L30 → L33 = L30 ++ [q33] → g33 = va_up g31 q33 (.inl (1, 200, .inl (fun _ => 0))) →
  ∃ g34, (xp g33 9 a0 14 (.ref q33)) = some g34 ∧
  ∀ (q36 : Nat) (L36 : List Nat) (g36 : xG), q36 ∉ L33 → L36 = L33 ++ [q36] → g36 = va_up g34 q36 (.inl (1, 200, .inl (fun _ => 0))) →
  ∃ g37, (xp g36 9 a0 15 (.ref q36)) = some g37 ∧
  ∀ (q39 : Nat) (L39 : List Nat) (g39 : xG), q39 ∉ L36 → L39 = L36 ++ [q39] → g39 = va_up g37 q39 (.inl (1, 200, .inl (fun _ => 0))) →
  ∃ g40, (xp g39 9 a0 16 (.ref q39)) = some g40 ∧
  ∀ (q42 : Nat) (L42 : List Nat) (g42 : xG), q42 ∉ L39 → L42 = L39 ++ [q42] → g42 = va_up g40 q42 (.inl (2, 200, .inr (.inl (fun _ => 0)))) →
  ∃ g43, (xp g42 9 a0 17 (.ref q42)) = some g43 ∧
  ∀ (q45 : Nat) (L45 : List Nat) (g45 : xG), q45 ∉ L42 → L45 = L42 ++ [q45] → g45 = va_up g43 q45 (.inl (2, 200, .inr (.inl (fun _ => 0)))) →
  ∃ g46, (xp g45 9 a0 18 (.ref q45)) = some g46 ∧
  ∀ (q48 : Nat) (L48 : List Nat) (g48 : xG), q48 ∉ L45 → L48 = L45 ++ [q48] → g48 = va_up g46 q48 (.inl (1, 600, .inl (fun _ => 0))) →
  ∃ g49, (xp g48 9 a0 20 (.ref q48)) = some g49 ∧
  ∀ (q51 : Nat) (L51 : List Nat) (g51 : xG), q51 ∉ L48 → L51 = L48 ++ [q51] → g51 = va_up g49 q51 (.inl (1, 600, .inl (fun _ => 0))) →
  ∃ g52, (xp g51 9 a0 21 (.ref q51)) = some g52 ∧
  ∀ (q54 : Nat) (L54 : List Nat) (g54 : xG), q54 ∉ L51 → L54 = L51 ++ [q54] → g54 = va_up g52 q54 (.inl (1, 600, .inl (fun _ => 0))) →
  ∃ g55, (xp g54 9 a0 22 (.ref q54)) = some g55 ∧
  ∀ (q57 : Nat) (L57 : List Nat) (g57 : xG), q57 ∉ L54 → L57 = L54 ++ [q57] → g57 = va_up g55 q57 (.inl (1, 6, .inl (fun _ => 0))) →
  ∃ g58, (xp g57 9 a0 23 (.ref q57)) = some g58 ∧
  ∀ (q60 : Nat) (L60 : List Nat) (g60 : xG), q60 ∉ L57 → L60 = L57 ++ [q60] → g60 = va_up g58 q60 (.inl (1, 1800, .inl (fun _ => 0))) →
  ∃ g61, (xp g60 9 a0 24 (.ref q60)) = some g61 ∧
  ∀ (q63 : Nat) (L63 : List Nat) (g63 : xG), q63 ∉ L60 → L63 = L60 ++ [q63] → g63 = va_up g61 q63 (.inl (1, 1800, .inl (fun _ => 0))) →
  ∃ g64, (xp g63 9 a0 25 (.ref q63)) = some g64 ∧
  ∀ (q66 : Nat) (L66 : List Nat) (g66 : xG), q66 ∉ L63 → L66 = L63 ++ [q66] → g66 = va_up g64 q66 (.inl (2, 1800, .inr (.inl (fun _ => 0)))) →
  ∃ g67, (xp g66 9 a0 26 (.ref q66)) = some g67 ∧
  ∀ (q69 : Nat) (L69 : List Nat) (g69 : xG), q69 ∉ L66 → L69 = L66 ++ [q69] → g69 = va_up g67 q69 (.inl (3, 1800, .inl (fun _ => 0))) →
  ∃ g70, (xp g69 9 a0 27 (.ref q69)) = some g70 ∧
  ∀ (q72 : Nat) (L72 : List Nat) (g72 : xG), q72 ∉ L69 → L72 = L69 ++ [q72] → g72 = va_up g70 q72 (.inl (1, 40, .inl (fun _ => 0))) →
  ∃ g73, (xp g72 9 a0 29 (.ref q72)) = some g73 ∧
  ∀ (q75 : Nat) (L75 : List Nat) (g75 : xG), q75 ∉ L72 → L75 = L72 ++ [q75] → g75 = va_up g73 q75 (.inl (0, 37600, .inl (fun _ => 0))) →
  ∃ g76, (xp g75 9 a0 30 (.ref q75)) = some g76 ∧
  ∀ (q78 : Nat) (L78 : List Nat) (g78 : xG), q78 ∉ L75 → L78 = L75 ++ [q78] → g78 = va_up g76 q78 (.inl (1, 151, .inl (fun _ => 0))) →
  ∃ g79, (xp g78 9 a0 32 (.ref q78)) = some g79 ∧
  ∀ (q81 : Nat) (L81 : List Nat) (g81 : xG), q81 ∉ L78 → L81 = L78 ++ [q81] → g81 = va_up g79 q81 (.inl (1, 151, .inl (fun _ => 0))) →
  ∃ g82, (xp g81 9 a0 33 (.ref q81)) = some g82 ∧
  ∀ (q84 : Nat) (L84 : List Nat) (g84 : xG), q84 ∉ L81 → L84 = L81 ++ [q84] → g84 = va_up g82 q84 (.inl (1, 151, .inl (fun _ => 0))) →
  ∃ g85, (xp g84 9 a0 34 (.ref q84)) = some g85 ∧
  P L84 g85
set_option maxHeartbeats 4000000 in
set_option maxRecDepth 100000 in
theorem c_X8_init (l : Launch) (D : va_G) (cy : Nat → ClassId) (t : Nat) (L : List Nat) (g : xG) (a0 : Nat) (P : List Nat → xG → Prop) (h : w_X8_init P L g a0) : xYv l yX8_init wsX8_init ({ frames := 1, cells := 28, slots := 51277, locals := 12 }) D cy t L g [.ref a0] P 28 51277 := by
  refine xma_v (cc := cX8_init) (maxL := 1) RX8 rfl rfl rfl (by decide +kernel) rfl (Nat.le_of_ble_eq_true rfl) ?_
  intro p e s m args below meth c Q A S w hA hN hZ hT hmn ret ls hl
  have hl : lv_has ls 1 [(0, .ref a0)] := hl
  rw [w_X8_init] at h
  refine lv_aload_n S.1 S.2.1 dX8_init_0 rfl (lv_at hl 0 rfl) ?_
  refine xr_obj S xo0_X8_init xo1_X8_init xo2_X8_init hl.1 dX8_init_1 (Nat.le_of_ble_eq_true rfl) (Nat.le_of_ble_eq_true rfl) ?_
  refine lv_aload_n S.1 S.2.1 dX8_init_4 rfl (lv_at hl 0 rfl) ?_
  refine lv_iconst (v := 3) S.1 S.2.1 dX8_init_5 (by decide) ?_
  obtain ⟨g1, h2, h⟩ := h
  refine xr_puti S w 9 xi_X8_init_X8 rfl tyX8 tyX8_ok nmX8 1 (by decide) xl_X8_init_7 rfl (tyX8_ok 1 (by decide)) h2 dX8_init_6 (fun H locs w => ?_)
  refine lv_aload_n S.1 S.2.1 dX8_init_9 rfl (lv_at hl 0 rfl) ?_
  refine lv_bipush (v := 6) S.1 S.2.1 dX8_init_10 (by decide) ?_
  refine xr_newa S w hA 1 .int xar_X8_init_int .int rfl (fun _ => rfl) 6 (.inl (fun _ => 0)) (fun _ => rfl) (by decide) (by decide) (by decide) dX8_init_12 ⟨Nat.le_of_ble_eq_true rfl, Nat.le_of_ble_eq_true rfl⟩ (fun q3 L3 g3 H e3a e3b e3c w => ?_)
  replace h := h q3 L3 g3 e3a e3b e3c
  obtain ⟨g4, h5, h⟩ := h
  refine xr_putF S w (hmn.trans rfl) 9 xi_X8_init_X8 rfl tyX8 tyX8_ok nmX8 2 (by decide) xl_X8_init_13 rfl rfl _ (tyX8_ok 2 (by decide)) rfl rfl h5 dX8_init_14 (fun H locs w => ?_)
  refine lv_aload_n S.1 S.2.1 dX8_init_17 rfl (lv_at hl 0 rfl) ?_
  refine lv_bipush (v := 6) S.1 S.2.1 dX8_init_18 (by decide) ?_
  refine xr_newa S w hA 1 .int xar_X8_init_int .int rfl (fun _ => rfl) 6 (.inl (fun _ => 0)) (fun _ => rfl) (by decide) (by decide) (by decide) dX8_init_20 ⟨Nat.le_of_ble_eq_true rfl, Nat.le_of_ble_eq_true rfl⟩ (fun q6 L6 g6 H e6a e6b e6c w => ?_)
  replace h := h q6 L6 g6 e6a e6b e6c
  obtain ⟨g7, h8, h⟩ := h
  refine xr_putF S w (hmn.trans rfl) 9 xi_X8_init_X8 rfl tyX8 tyX8_ok nmX8 3 (by decide) xl_X8_init_17 rfl rfl _ (tyX8_ok 3 (by decide)) rfl rfl h8 dX8_init_22 (fun H locs w => ?_)
  refine lv_aload_n S.1 S.2.1 dX8_init_25 rfl (lv_at hl 0 rfl) ?_
  refine lv_bipush (v := 6) S.1 S.2.1 dX8_init_26 (by decide) ?_
  refine xr_newa S w hA 1 .int xar_X8_init_int .int rfl (fun _ => rfl) 6 (.inl (fun _ => 0)) (fun _ => rfl) (by decide) (by decide) (by decide) dX8_init_28 ⟨Nat.le_of_ble_eq_true rfl, Nat.le_of_ble_eq_true rfl⟩ (fun q9 L9 g9 H e9a e9b e9c w => ?_)
  replace h := h q9 L9 g9 e9a e9b e9c
  obtain ⟨g10, h11, h⟩ := h
  refine xr_putF S w (hmn.trans rfl) 9 xi_X8_init_X8 rfl tyX8 tyX8_ok nmX8 4 (by decide) xl_X8_init_20 rfl rfl _ (tyX8_ok 4 (by decide)) rfl rfl h11 dX8_init_30 (fun H locs w => ?_)
  refine lv_aload_n S.1 S.2.1 dX8_init_33 rfl (lv_at hl 0 rfl) ?_
  refine lv_sipush (v := 906) S.1 S.2.1 dX8_init_34 (by decide) ?_
  refine xr_newa S w hA 1 .int xar_X8_init_int .int rfl (fun _ => rfl) 906 (.inl (fun _ => 0)) (fun _ => rfl) (by decide) (by decide) (by decide) dX8_init_37 ⟨Nat.le_of_ble_eq_true rfl, Nat.le_of_ble_eq_true rfl⟩ (fun q12 L12 g12 H e12a e12b e12c w => ?_)
  replace h := h q12 L12 g12 e12a e12b e12c
  obtain ⟨g13, h14, h⟩ := h
  refine xr_putF S w (hmn.trans rfl) 9 xi_X8_init_X8 rfl tyX8 tyX8_ok nmX8 5 (by decide) xl_X8_init_23 rfl rfl _ (tyX8_ok 5 (by decide)) rfl rfl h14 dX8_init_39 (fun H locs w => ?_)
  refine lv_aload_n S.1 S.2.1 dX8_init_42 rfl (lv_at hl 0 rfl) ?_
  refine lv_sipush (v := 906) S.1 S.2.1 dX8_init_43 (by decide) ?_
  refine xr_newa S w hA 1 .int xar_X8_init_int .int rfl (fun _ => rfl) 906 (.inl (fun _ => 0)) (fun _ => rfl) (by decide) (by decide) (by decide) dX8_init_46 ⟨Nat.le_of_ble_eq_true rfl, Nat.le_of_ble_eq_true rfl⟩ (fun q15 L15 g15 H e15a e15b e15c w => ?_)
  replace h := h q15 L15 g15 e15a e15b e15c
  obtain ⟨g16, h17, h⟩ := h
  refine xr_putF S w (hmn.trans rfl) 9 xi_X8_init_X8 rfl tyX8 tyX8_ok nmX8 6 (by decide) xl_X8_init_26 rfl rfl _ (tyX8_ok 6 (by decide)) rfl rfl h17 dX8_init_48 (fun H locs w => ?_)
  refine lv_aload_n S.1 S.2.1 dX8_init_51 rfl (lv_at hl 0 rfl) ?_
  refine lv_sipush (v := 906) S.1 S.2.1 dX8_init_52 (by decide) ?_
  refine xr_newa S w hA 1 .int xar_X8_init_int .int rfl (fun _ => rfl) 906 (.inl (fun _ => 0)) (fun _ => rfl) (by decide) (by decide) (by decide) dX8_init_55 ⟨Nat.le_of_ble_eq_true rfl, Nat.le_of_ble_eq_true rfl⟩ (fun q18 L18 g18 H e18a e18b e18c w => ?_)
  replace h := h q18 L18 g18 e18a e18b e18c
  obtain ⟨g19, h20, h⟩ := h
  refine xr_putF S w (hmn.trans rfl) 9 xi_X8_init_X8 rfl tyX8 tyX8_ok nmX8 7 (by decide) xl_X8_init_29 rfl rfl _ (tyX8_ok 7 (by decide)) rfl rfl h20 dX8_init_57 (fun H locs w => ?_)
  refine lv_aload_n S.1 S.2.1 dX8_init_60 rfl (lv_at hl 0 rfl) ?_
  refine lv_bipush (v := 6) S.1 S.2.1 dX8_init_61 (by decide) ?_
  refine xr_newa S w hA 3 .boolean xar_X8_init_boolean .boolean rfl (fun _ => rfl) 6 (.inl (fun _ => 0)) (fun _ => rfl) (by decide) (by decide) (by decide) dX8_init_63 ⟨Nat.le_of_ble_eq_true rfl, Nat.le_of_ble_eq_true rfl⟩ (fun q21 L21 g21 H e21a e21b e21c w => ?_)
  replace h := h q21 L21 g21 e21a e21b e21c
  obtain ⟨g22, h23, h⟩ := h
  refine xr_putF S w (hmn.trans rfl) 9 xi_X8_init_X8 rfl tyX8 tyX8_ok nmX8 8 (by decide) xl_X8_init_32 rfl rfl _ (tyX8_ok 8 (by decide)) rfl rfl h23 dX8_init_65 (fun H locs w => ?_)
  refine lv_aload_n S.1 S.2.1 dX8_init_68 rfl (lv_at hl 0 rfl) ?_
  refine lv_bipush (v := 36) S.1 S.2.1 dX8_init_69 (by decide) ?_
  refine xr_newa S w hA 1 .int xar_X8_init_int .int rfl (fun _ => rfl) 36 (.inl (fun _ => 0)) (fun _ => rfl) (by decide) (by decide) (by decide) dX8_init_71 ⟨Nat.le_of_ble_eq_true rfl, Nat.le_of_ble_eq_true rfl⟩ (fun q24 L24 g24 H e24a e24b e24c w => ?_)
  replace h := h q24 L24 g24 e24a e24b e24c
  obtain ⟨g25, h26, h⟩ := h
  refine xr_putF S w (hmn.trans rfl) 9 xi_X8_init_X8 rfl tyX8 tyX8_ok nmX8 9 (by decide) xl_X8_init_36 rfl rfl _ (tyX8_ok 9 (by decide)) rfl rfl h26 dX8_init_73 (fun H locs w => ?_)
  refine lv_aload_n S.1 S.2.1 dX8_init_76 rfl (lv_at hl 0 rfl) ?_
  refine lv_sipush (v := 200) S.1 S.2.1 dX8_init_77 (by decide) ?_
  refine xr_newa S w hA 1 .int xar_X8_init_int .int rfl (fun _ => rfl) 200 (.inl (fun _ => 0)) (fun _ => rfl) (by decide) (by decide) (by decide) dX8_init_80 ⟨Nat.le_of_ble_eq_true rfl, Nat.le_of_ble_eq_true rfl⟩ (fun q27 L27 g27 H e27a e27b e27c w => ?_)
  replace h := h q27 L27 g27 e27a e27b e27c
  obtain ⟨g28, h29, h⟩ := h
  refine xr_putF S w (hmn.trans rfl) 9 xi_X8_init_X8 rfl tyX8 tyX8_ok nmX8 12 (by decide) xl_X8_init_39 rfl rfl _ (tyX8_ok 12 (by decide)) rfl rfl h29 dX8_init_82 (fun H locs w => ?_)
  refine lv_aload_n S.1 S.2.1 dX8_init_85 rfl (lv_at hl 0 rfl) ?_
  refine lv_sipush (v := 200) S.1 S.2.1 dX8_init_86 (by decide) ?_
  refine xr_newa S w hA 1 .int xar_X8_init_int .int rfl (fun _ => rfl) 200 (.inl (fun _ => 0)) (fun _ => rfl) (by decide) (by decide) (by decide) dX8_init_89 ⟨Nat.le_of_ble_eq_true rfl, Nat.le_of_ble_eq_true rfl⟩ (fun q30 L30 g30 H e30a e30b e30c w => ?_)
  replace h := h q30 L30 g30 e30a e30b e30c
  obtain ⟨g31, h32, h⟩ := h
  refine xr_putF S w (hmn.trans rfl) 9 xi_X8_init_X8 rfl tyX8 tyX8_ok nmX8 13 (by decide) xl_X8_init_42 rfl rfl _ (tyX8_ok 13 (by decide)) rfl rfl h32 dX8_init_91 (fun H locs w => ?_)
  refine lv_aload_n S.1 S.2.1 dX8_init_94 rfl (lv_at hl 0 rfl) ?_
  refine lv_sipush (v := 200) S.1 S.2.1 dX8_init_95 (by decide) ?_
  refine xr_newa S w hA 1 .int xar_X8_init_int .int rfl (fun _ => rfl) 200 (.inl (fun _ => 0)) (fun _ => rfl) (by decide) (by decide) (by decide) dX8_init_98 ⟨Nat.le_of_ble_eq_true rfl, Nat.le_of_ble_eq_true rfl⟩ (fun q33 L33 g33 H e33a e33b e33c w => ?_)
  replace h := h q33 L33 g33 e33a e33b e33c
  obtain ⟨g34, h35, h⟩ := h
  refine xr_putF S w (hmn.trans rfl) 9 xi_X8_init_X8 rfl tyX8 tyX8_ok nmX8 14 (by decide) xl_X8_init_45 rfl rfl _ (tyX8_ok 14 (by decide)) rfl rfl h35 dX8_init_100 (fun H locs w => ?_)
  refine lv_aload_n S.1 S.2.1 dX8_init_103 rfl (lv_at hl 0 rfl) ?_
  refine lv_sipush (v := 200) S.1 S.2.1 dX8_init_104 (by decide) ?_
  refine xr_newa S w hA 1 .int xar_X8_init_int .int rfl (fun _ => rfl) 200 (.inl (fun _ => 0)) (fun _ => rfl) (by decide) (by decide) (by decide) dX8_init_107 ⟨Nat.le_of_ble_eq_true rfl, Nat.le_of_ble_eq_true rfl⟩ (fun q36 L36 g36 H e36a e36b e36c w => ?_)
  replace h := h q36 L36 g36 e36a e36b e36c
  obtain ⟨g37, h38, h⟩ := h
  refine xr_putF S w (hmn.trans rfl) 9 xi_X8_init_X8 rfl tyX8 tyX8_ok nmX8 15 (by decide) xl_X8_init_48 rfl rfl _ (tyX8_ok 15 (by decide)) rfl rfl h38 dX8_init_109 (fun H locs w => ?_)
  refine lv_aload_n S.1 S.2.1 dX8_init_112 rfl (lv_at hl 0 rfl) ?_
  refine lv_sipush (v := 200) S.1 S.2.1 dX8_init_113 (by decide) ?_
  refine xr_newa S w hA 1 .int xar_X8_init_int .int rfl (fun _ => rfl) 200 (.inl (fun _ => 0)) (fun _ => rfl) (by decide) (by decide) (by decide) dX8_init_116 ⟨Nat.le_of_ble_eq_true rfl, Nat.le_of_ble_eq_true rfl⟩ (fun q39 L39 g39 H e39a e39b e39c w => ?_)
  replace h := h q39 L39 g39 e39a e39b e39c
  obtain ⟨g40, h41, h⟩ := h
  refine xr_putF S w (hmn.trans rfl) 9 xi_X8_init_X8 rfl tyX8 tyX8_ok nmX8 16 (by decide) xl_X8_init_51 rfl rfl _ (tyX8_ok 16 (by decide)) rfl rfl h41 dX8_init_118 (fun H locs w => ?_)
  refine lv_aload_n S.1 S.2.1 dX8_init_121 rfl (lv_at hl 0 rfl) ?_
  refine lv_sipush (v := 200) S.1 S.2.1 dX8_init_122 (by decide) ?_
  refine xr_newa S w hA 2 .long xar_X8_init_long .long rfl (fun _ => rfl) 200 (.inr (.inl (fun _ => 0))) (fun _ => rfl) (by decide) (by decide) (by decide) dX8_init_125 ⟨Nat.le_of_ble_eq_true rfl, Nat.le_of_ble_eq_true rfl⟩ (fun q42 L42 g42 H e42a e42b e42c w => ?_)
  replace h := h q42 L42 g42 e42a e42b e42c
  obtain ⟨g43, h44, h⟩ := h
  refine xr_putF S w (hmn.trans rfl) 9 xi_X8_init_X8 rfl tyX8 tyX8_ok nmX8 17 (by decide) xl_X8_init_54 rfl rfl _ (tyX8_ok 17 (by decide)) rfl rfl h44 dX8_init_127 (fun H locs w => ?_)
  refine lv_aload_n S.1 S.2.1 dX8_init_130 rfl (lv_at hl 0 rfl) ?_
  refine lv_sipush (v := 200) S.1 S.2.1 dX8_init_131 (by decide) ?_
  refine xr_newa S w hA 2 .long xar_X8_init_long .long rfl (fun _ => rfl) 200 (.inr (.inl (fun _ => 0))) (fun _ => rfl) (by decide) (by decide) (by decide) dX8_init_134 ⟨Nat.le_of_ble_eq_true rfl, Nat.le_of_ble_eq_true rfl⟩ (fun q45 L45 g45 H e45a e45b e45c w => ?_)
  replace h := h q45 L45 g45 e45a e45b e45c
  obtain ⟨g46, h47, h⟩ := h
  refine xr_putF S w (hmn.trans rfl) 9 xi_X8_init_X8 rfl tyX8 tyX8_ok nmX8 18 (by decide) xl_X8_init_58 rfl rfl _ (tyX8_ok 18 (by decide)) rfl rfl h47 dX8_init_136 (fun H locs w => ?_)
  refine lv_aload_n S.1 S.2.1 dX8_init_139 rfl (lv_at hl 0 rfl) ?_
  refine lv_sipush (v := 600) S.1 S.2.1 dX8_init_140 (by decide) ?_
  refine xr_newa S w hA 1 .int xar_X8_init_int .int rfl (fun _ => rfl) 600 (.inl (fun _ => 0)) (fun _ => rfl) (by decide) (by decide) (by decide) dX8_init_143 ⟨Nat.le_of_ble_eq_true rfl, Nat.le_of_ble_eq_true rfl⟩ (fun q48 L48 g48 H e48a e48b e48c w => ?_)
  replace h := h q48 L48 g48 e48a e48b e48c
  obtain ⟨g49, h50, h⟩ := h
  refine xr_putF S w (hmn.trans rfl) 9 xi_X8_init_X8 rfl tyX8 tyX8_ok nmX8 20 (by decide) xl_X8_init_61 rfl rfl _ (tyX8_ok 20 (by decide)) rfl rfl h50 dX8_init_145 (fun H locs w => ?_)
  refine lv_aload_n S.1 S.2.1 dX8_init_148 rfl (lv_at hl 0 rfl) ?_
  refine lv_sipush (v := 600) S.1 S.2.1 dX8_init_149 (by decide) ?_
  refine xr_newa S w hA 1 .int xar_X8_init_int .int rfl (fun _ => rfl) 600 (.inl (fun _ => 0)) (fun _ => rfl) (by decide) (by decide) (by decide) dX8_init_152 ⟨Nat.le_of_ble_eq_true rfl, Nat.le_of_ble_eq_true rfl⟩ (fun q51 L51 g51 H e51a e51b e51c w => ?_)
  replace h := h q51 L51 g51 e51a e51b e51c
  obtain ⟨g52, h53, h⟩ := h
  refine xr_putF S w (hmn.trans rfl) 9 xi_X8_init_X8 rfl tyX8 tyX8_ok nmX8 21 (by decide) xl_X8_init_64 rfl rfl _ (tyX8_ok 21 (by decide)) rfl rfl h53 dX8_init_154 (fun H locs w => ?_)
  refine lv_aload_n S.1 S.2.1 dX8_init_157 rfl (lv_at hl 0 rfl) ?_
  refine lv_sipush (v := 600) S.1 S.2.1 dX8_init_158 (by decide) ?_
  refine xr_newa S w hA 1 .int xar_X8_init_int .int rfl (fun _ => rfl) 600 (.inl (fun _ => 0)) (fun _ => rfl) (by decide) (by decide) (by decide) dX8_init_161 ⟨Nat.le_of_ble_eq_true rfl, Nat.le_of_ble_eq_true rfl⟩ (fun q54 L54 g54 H e54a e54b e54c w => ?_)
  replace h := h q54 L54 g54 e54a e54b e54c
  obtain ⟨g55, h56, h⟩ := h
  refine xr_putF S w (hmn.trans rfl) 9 xi_X8_init_X8 rfl tyX8 tyX8_ok nmX8 22 (by decide) xl_X8_init_67 rfl rfl _ (tyX8_ok 22 (by decide)) rfl rfl h56 dX8_init_163 (fun H locs w => ?_)
  refine lv_aload_n S.1 S.2.1 dX8_init_166 rfl (lv_at hl 0 rfl) ?_
  refine lv_bipush (v := 6) S.1 S.2.1 dX8_init_167 (by decide) ?_
  refine xr_newa S w hA 1 .int xar_X8_init_int .int rfl (fun _ => rfl) 6 (.inl (fun _ => 0)) (fun _ => rfl) (by decide) (by decide) (by decide) dX8_init_169 ⟨Nat.le_of_ble_eq_true rfl, Nat.le_of_ble_eq_true rfl⟩ (fun q57 L57 g57 H e57a e57b e57c w => ?_)
  replace h := h q57 L57 g57 e57a e57b e57c
  obtain ⟨g58, h59, h⟩ := h
  refine xr_putF S w (hmn.trans rfl) 9 xi_X8_init_X8 rfl tyX8 tyX8_ok nmX8 23 (by decide) xl_X8_init_70 rfl rfl _ (tyX8_ok 23 (by decide)) rfl rfl h59 dX8_init_171 (fun H locs w => ?_)
  refine lv_aload_n S.1 S.2.1 dX8_init_174 rfl (lv_at hl 0 rfl) ?_
  refine lv_sipush (v := 1800) S.1 S.2.1 dX8_init_175 (by decide) ?_
  refine xr_newa S w hA 1 .int xar_X8_init_int .int rfl (fun _ => rfl) 1800 (.inl (fun _ => 0)) (fun _ => rfl) (by decide) (by decide) (by decide) dX8_init_178 ⟨Nat.le_of_ble_eq_true rfl, Nat.le_of_ble_eq_true rfl⟩ (fun q60 L60 g60 H e60a e60b e60c w => ?_)
  replace h := h q60 L60 g60 e60a e60b e60c
  obtain ⟨g61, h62, h⟩ := h
  refine xr_putF S w (hmn.trans rfl) 9 xi_X8_init_X8 rfl tyX8 tyX8_ok nmX8 24 (by decide) xl_X8_init_73 rfl rfl _ (tyX8_ok 24 (by decide)) rfl rfl h62 dX8_init_180 (fun H locs w => ?_)
  refine lv_aload_n S.1 S.2.1 dX8_init_183 rfl (lv_at hl 0 rfl) ?_
  refine lv_sipush (v := 1800) S.1 S.2.1 dX8_init_184 (by decide) ?_
  refine xr_newa S w hA 1 .int xar_X8_init_int .int rfl (fun _ => rfl) 1800 (.inl (fun _ => 0)) (fun _ => rfl) (by decide) (by decide) (by decide) dX8_init_187 ⟨Nat.le_of_ble_eq_true rfl, Nat.le_of_ble_eq_true rfl⟩ (fun q63 L63 g63 H e63a e63b e63c w => ?_)
  replace h := h q63 L63 g63 e63a e63b e63c
  obtain ⟨g64, h65, h⟩ := h
  refine xr_putF S w (hmn.trans rfl) 9 xi_X8_init_X8 rfl tyX8 tyX8_ok nmX8 25 (by decide) xl_X8_init_76 rfl rfl _ (tyX8_ok 25 (by decide)) rfl rfl h65 dX8_init_189 (fun H locs w => ?_)
  refine lv_aload_n S.1 S.2.1 dX8_init_192 rfl (lv_at hl 0 rfl) ?_
  refine lv_sipush (v := 1800) S.1 S.2.1 dX8_init_193 (by decide) ?_
  refine xr_newa S w hA 2 .long xar_X8_init_long .long rfl (fun _ => rfl) 1800 (.inr (.inl (fun _ => 0))) (fun _ => rfl) (by decide) (by decide) (by decide) dX8_init_196 ⟨Nat.le_of_ble_eq_true rfl, Nat.le_of_ble_eq_true rfl⟩ (fun q66 L66 g66 H e66a e66b e66c w => ?_)
  replace h := h q66 L66 g66 e66a e66b e66c
  obtain ⟨g67, h68, h⟩ := h
  refine xr_putF S w (hmn.trans rfl) 9 xi_X8_init_X8 rfl tyX8 tyX8_ok nmX8 26 (by decide) xl_X8_init_79 rfl rfl _ (tyX8_ok 26 (by decide)) rfl rfl h68 dX8_init_198 (fun H locs w => ?_)
  refine lv_aload_n S.1 S.2.1 dX8_init_201 rfl (lv_at hl 0 rfl) ?_
  refine lv_sipush (v := 1800) S.1 S.2.1 dX8_init_202 (by decide) ?_
  refine xr_newa S w hA 3 .boolean xar_X8_init_boolean .boolean rfl (fun _ => rfl) 1800 (.inl (fun _ => 0)) (fun _ => rfl) (by decide) (by decide) (by decide) dX8_init_205 ⟨Nat.le_of_ble_eq_true rfl, Nat.le_of_ble_eq_true rfl⟩ (fun q69 L69 g69 H e69a e69b e69c w => ?_)
  replace h := h q69 L69 g69 e69a e69b e69c
  obtain ⟨g70, h71, h⟩ := h
  refine xr_putF S w (hmn.trans rfl) 9 xi_X8_init_X8 rfl tyX8 tyX8_ok nmX8 27 (by decide) xl_X8_init_82 rfl rfl _ (tyX8_ok 27 (by decide)) rfl rfl h71 dX8_init_207 (fun H locs w => ?_)
  refine lv_aload_n S.1 S.2.1 dX8_init_210 rfl (lv_at hl 0 rfl) ?_
  refine lv_bipush (v := 40) S.1 S.2.1 dX8_init_211 (by decide) ?_
  refine xr_newa S w hA 1 .int xar_X8_init_int .int rfl (fun _ => rfl) 40 (.inl (fun _ => 0)) (fun _ => rfl) (by decide) (by decide) (by decide) dX8_init_213 ⟨Nat.le_of_ble_eq_true rfl, Nat.le_of_ble_eq_true rfl⟩ (fun q72 L72 g72 H e72a e72b e72c w => ?_)
  replace h := h q72 L72 g72 e72a e72b e72c
  obtain ⟨g73, h74, h⟩ := h
  refine xr_putF S w (hmn.trans rfl) 9 xi_X8_init_X8 rfl tyX8 tyX8_ok nmX8 29 (by decide) xl_X8_init_85 rfl rfl _ (tyX8_ok 29 (by decide)) rfl rfl h74 dX8_init_215 (fun H locs w => ?_)
  refine lv_aload_n S.1 S.2.1 dX8_init_218 rfl (lv_at hl 0 rfl) ?_
  refine lv_ldc (v := 37600) S.1 S.2.1 S.2.2.2.1 (S.2.2.2.2 _ xc_X8_init_88) dX8_init_219 ?_
  refine xr_newa S w hA 0 .byte xar_X8_init_byte .byte rfl (fun _ => rfl) 37600 (.inl (fun _ => 0)) (fun _ => rfl) (by decide) (by decide) (by decide) dX8_init_221 ⟨Nat.le_of_ble_eq_true rfl, Nat.le_of_ble_eq_true rfl⟩ (fun q75 L75 g75 H e75a e75b e75c w => ?_)
  replace h := h q75 L75 g75 e75a e75b e75c
  obtain ⟨g76, h77, h⟩ := h
  refine xr_putF S w (hmn.trans rfl) 9 xi_X8_init_X8 rfl tyX8 tyX8_ok nmX8 30 (by decide) xl_X8_init_89 rfl rfl _ (tyX8_ok 30 (by decide)) rfl rfl h77 dX8_init_223 (fun H locs w => ?_)
  refine lv_aload_n S.1 S.2.1 dX8_init_226 rfl (lv_at hl 0 rfl) ?_
  refine lv_sipush (v := 151) S.1 S.2.1 dX8_init_227 (by decide) ?_
  refine xr_newa S w hA 1 .int xar_X8_init_int .int rfl (fun _ => rfl) 151 (.inl (fun _ => 0)) (fun _ => rfl) (by decide) (by decide) (by decide) dX8_init_230 ⟨Nat.le_of_ble_eq_true rfl, Nat.le_of_ble_eq_true rfl⟩ (fun q78 L78 g78 H e78a e78b e78c w => ?_)
  replace h := h q78 L78 g78 e78a e78b e78c
  obtain ⟨g79, h80, h⟩ := h
  refine xr_putF S w (hmn.trans rfl) 9 xi_X8_init_X8 rfl tyX8 tyX8_ok nmX8 32 (by decide) xl_X8_init_93 rfl rfl _ (tyX8_ok 32 (by decide)) rfl rfl h80 dX8_init_232 (fun H locs w => ?_)
  refine lv_aload_n S.1 S.2.1 dX8_init_235 rfl (lv_at hl 0 rfl) ?_
  refine lv_sipush (v := 151) S.1 S.2.1 dX8_init_236 (by decide) ?_
  refine xr_newa S w hA 1 .int xar_X8_init_int .int rfl (fun _ => rfl) 151 (.inl (fun _ => 0)) (fun _ => rfl) (by decide) (by decide) (by decide) dX8_init_239 ⟨Nat.le_of_ble_eq_true rfl, Nat.le_of_ble_eq_true rfl⟩ (fun q81 L81 g81 H e81a e81b e81c w => ?_)
  replace h := h q81 L81 g81 e81a e81b e81c
  obtain ⟨g82, h83, h⟩ := h
  refine xr_putF S w (hmn.trans rfl) 9 xi_X8_init_X8 rfl tyX8 tyX8_ok nmX8 33 (by decide) xl_X8_init_96 rfl rfl _ (tyX8_ok 33 (by decide)) rfl rfl h83 dX8_init_241 (fun H locs w => ?_)
  refine lv_aload_n S.1 S.2.1 dX8_init_244 rfl (lv_at hl 0 rfl) ?_
  refine lv_sipush (v := 151) S.1 S.2.1 dX8_init_245 (by decide) ?_
  refine xr_newa S w hA 1 .int xar_X8_init_int .int rfl (fun _ => rfl) 151 (.inl (fun _ => 0)) (fun _ => rfl) (by decide) (by decide) (by decide) dX8_init_248 ⟨Nat.le_of_ble_eq_true rfl, Nat.le_of_ble_eq_true rfl⟩ (fun q84 L84 g84 H e84a e84b e84c w => ?_)
  replace h := h q84 L84 g84 e84a e84b e84c
  obtain ⟨g85, h86, h⟩ := h
  refine xr_putF S w (hmn.trans rfl) 9 xi_X8_init_X8 rfl tyX8 tyX8_ok nmX8 34 (by decide) xl_X8_init_99 rfl rfl _ (tyX8_ok 34 (by decide)) rfl rfl h86 dX8_init_250 (fun H locs w => ?_)
  exact ret _ _ _ _ _ _ _ _ h w dX8_init_253 ⟨Nat.le_of_ble_eq_true rfl, Nat.le_of_ble_eq_true rfl⟩
