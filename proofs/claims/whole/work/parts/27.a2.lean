theorem xc_J8_newLength_cabcc_200 : Cond.constant RJ8 200 (2147483639) ∈ wsJ8_newLength_cabcc := by decide +kernel
def f_J8_newLength_cabcc (a0 : Int32) (a1 : Int32) (a2 : Int32) : Option Int32 :=
  if (a0 + (if a1 < a2 then a2 else a1)) ≤ 0 then
    none
  else
    if 2147483639 < (a0 + (if a1 < a2 then a2 else a1)) then
      none
    else
      some (a0 + (if a1 < a2 then a2 else a1))
set_option maxHeartbeats 4000000 in
set_option maxRecDepth 100000 in
theorem c_J8_newLength_cabcc (l : Launch) (D : va_G) (cy : Nat → ClassId) (L : List Nat) (g : xG) (a0 : Int32) (a1 : Int32) (a2 : Int32) {r1 : Int32} (h : f_J8_newLength_cabcc a0 a1 a2 = some r1) : xMi l yJ8_newLength_cabcc wsJ8_newLength_cabcc ({ frames := 1, cells := 0, slots := 0, locals := 24 }) D cy L g [.int a0, .int a1, .int a2] r1 g := by
  refine xm_i (cc := cJ8_newLength_cabcc) (maxL := 4) RJ8 rfl rfl rfl (by decide +kernel) rfl (Nat.le_of_ble_eq_true rfl) ?_
  intro p e s m args below meth c Q A S w hA hN ret ls hl
  have hl : lv_has ls 4 [(0, .int a0), (1, .int a1), (2, .int a2)] := hl
  rw [f_J8_newLength_cabcc] at h
  refine lv_iload_n S.1 S.2.1 dJ8_newLength_cabcc_0 rfl (lv_at hl 0 rfl) ?_
  refine lv_iload_n S.1 S.2.1 dJ8_newLength_cabcc_1 rfl (lv_at hl 1 rfl) ?_
  refine lv_iload_n S.1 S.2.1 dJ8_newLength_cabcc_2 rfl (lv_at hl 2 rfl) ?_
  refine va_mmax S.1 S.2.1 (S.2.2.1.trans hl.1.symm) S.2.2.2.1 (S.2.2.2.2 _ (by decide +kernel)) (S.2.2.2.2 _ (by decide +kernel)) (S.2.2.2.2 _ (by decide +kernel)) (S.2.2.2.2 _ (by decide +kernel)) (Nat.le_of_ble_eq_true rfl) (Nat.le_of_ble_eq_true rfl) (Nat.le_of_ble_eq_true rfl) (Nat.le_of_ble_eq_true rfl) dJ8_newLength_cabcc_3 ?_
  refine lv_iadd S.1 S.2.1 dJ8_newLength_cabcc_6 ?_
  refine lv_istore_n (lv' := [(3, .int (a0 + (if a1 < a2 then a2 else a1))), (0, .int a0), (1, .int a1), (2, .int a2)]) S.1 S.2.1 dJ8_newLength_cabcc_7 rfl hl (by decide) rfl (fun ls hl => ?_)
  refine lv_iconst (v := 0) S.1 S.2.1 dJ8_newLength_cabcc_8 (by decide) ?_
  refine lv_iload_n S.1 S.2.1 dJ8_newLength_cabcc_9 rfl (lv_at hl 0 rfl) ?_
  refine lv_icmp_ge (tgt := 21) S.1 S.2.1 dJ8_newLength_cabcc_10 (by decide) (fun c10 => ?_) (fun c10 => ?_)
  · rw [if_pos c10] at h
    refine lv_iload_n S.1 S.2.1 dJ8_newLength_cabcc_21 rfl (lv_at hl 1 rfl) ?_
    refine lv_iload_n S.1 S.2.1 dJ8_newLength_cabcc_22 rfl (lv_at hl 2 rfl) ?_
    cases h
  · rw [if_neg c10] at h
    refine lv_iload_n S.1 S.2.1 dJ8_newLength_cabcc_13 rfl (lv_at hl 0 rfl) ?_
    refine lv_ldc (v := 2147483639) S.1 S.2.1 S.2.2.2.1 (S.2.2.2.2 _ xc_J8_newLength_cabcc_200) dJ8_newLength_cabcc_14 ?_
    refine lv_icmp_gt (tgt := 21) S.1 S.2.1 dJ8_newLength_cabcc_16 (by decide) (fun c16 => ?_) (fun c16 => ?_)
    · rw [if_pos c16] at h
      refine lv_iload_n S.1 S.2.1 dJ8_newLength_cabcc_21 rfl (lv_at hl 1 rfl) ?_
      refine lv_iload_n S.1 S.2.1 dJ8_newLength_cabcc_22 rfl (lv_at hl 2 rfl) ?_
      cases h
    · rw [if_neg c16] at h
      refine lv_iload_n S.1 S.2.1 dJ8_newLength_cabcc_19 rfl (lv_at hl 0 rfl) ?_
      exact ret _ _ _ _ _ _ (congrArg (fun z => some (z, g)) (Option.some.inj h)) w dJ8_newLength_cabcc_20
theorem xo0_Jxa1e45_init_da8c8 : Cond.methodLink RJxa1e45 1 objectInit ∈ wsJxa1e45_init_da8c8 := by decide +kernel
theorem xo1_Jxa1e45_init_da8c8 : Cond.instanceMethod objectInit ∈ wsJxa1e45_init_da8c8 := by decide +kernel
theorem xo2_Jxa1e45_init_da8c8 : Cond.code objectInit ⟨#[0xb1]⟩ 1 none ∈ wsJxa1e45_init_da8c8 := by decide +kernel
def w_Jxa1e45_init_da8c8 (P : List Nat → xG → Prop) (L : List Nat) (g : xG) (a0 : Nat) : Prop :=
  P L g
set_option maxHeartbeats 4000000 in
set_option maxRecDepth 100000 in
theorem c_Jxa1e45_init_da8c8 (l : Launch) (D : va_G) (cy : Nat → ClassId) (t : Nat) (L : List Nat) (g : xG) (a0 : Nat) (P : List Nat → xG → Prop) (h : w_Jxa1e45_init_da8c8 P L g a0) : xYv l yJxa1e45_init_da8c8 wsJxa1e45_init_da8c8 ({ frames := 1, cells := 0, slots := 0, locals := 12 }) D cy t L g [.ref a0] P 0 0 := by
  refine xma_v (cc := cJxa1e45_init_da8c8) (maxL := 1) RJxa1e45 rfl rfl rfl (by decide +kernel) rfl (Nat.le_of_ble_eq_true rfl) ?_
  intro p e s m args below meth c Q A S w hA hN hZ hT hmn ret ls hl
  have hl : lv_has ls 1 [(0, .ref a0)] := hl
  rw [w_Jxa1e45_init_da8c8] at h
  refine lv_aload_n S.1 S.2.1 dJxa1e45_init_da8c8_0 rfl (lv_at hl 0 rfl) ?_
  refine xr_obj S xo0_Jxa1e45_init_da8c8 xo1_Jxa1e45_init_da8c8 xo2_Jxa1e45_init_da8c8 hl.1 dJxa1e45_init_da8c8_1 (Nat.le_of_ble_eq_true rfl) (Nat.le_of_ble_eq_true rfl) ?_
  exact ret _ _ _ _ _ _ _ _ h w dJxa1e45_init_da8c8_4 ⟨Nat.le_of_ble_eq_true rfl, Nat.le_of_ble_eq_true rfl⟩
theorem xi_Jxc12de_init_da8c8_Jx4a65c : ∀ w ∈ wsJx4a65c0, w ∈ wsJxc12de_init_da8c8 := by decide +kernel
theorem xl_Jxc12de_init_da8c8_7 : Cond.fieldLink RJxc12de 7 (TJx4a65c 0).1 (TJx4a65c 0).2.1 (TJx4a65c 0).2.2.1 ∈ wsJxc12de_init_da8c8 := by decide +kernel
def w_Jxc12de_init_da8c8 (P : List Nat → xG → Prop) (L : List Nat) (g : xG) (a0 : Nat) : Prop :=
  w_Jxa1e45_init_da8c8 (fun L1 g1 =>
    ∃ g2, (xp_i g1 0 a0 0 0) = some g2 ∧
    P L1 g2
  ) L g a0
set_option maxHeartbeats 4000000 in
set_option maxRecDepth 100000 in
theorem c_Jxc12de_init_da8c8 (l : Launch) (D : va_G) (cy : Nat → ClassId) (t : Nat) (L : List Nat) (g : xG) (a0 : Nat) (P : List Nat → xG → Prop) (h : w_Jxc12de_init_da8c8 P L g a0) : xYv l yJxc12de_init_da8c8 wsJxc12de_init_da8c8 ({ frames := 2, cells := 0, slots := 0, locals := 32 }) D cy t L g [.ref a0] P 0 0 := by
  refine xma_v (cc := cJxc12de_init_da8c8) (maxL := 1) RJxc12de rfl rfl rfl (by decide +kernel) rfl (Nat.le_of_ble_eq_true rfl) ?_
  intro p e s m args below meth c Q A S w hA hN hZ hT hmn ret ls hl
  have hl : lv_has ls 1 [(0, .ref a0)] := hl
  rw [w_Jxc12de_init_da8c8] at h
  refine lv_aload_n S.1 S.2.1 dJxc12de_init_da8c8_0 rfl (lv_at hl 0 rfl) ?_
  refine xr_callYI_v S w hA hN hZ hT (c_Jxa1e45_init_da8c8 l D cy t L g a0 _ h) (cwI 0 S.2.2.2.2 gJxc12de_init_da8c8_Jxa1e45_init_da8c8 rfl rfl rfl (S.2.2.2.2 _ (by decide +kernel)) (S.2.2.2.2 _ (by decide +kernel)) (S.2.2.2.2 _ (by decide +kernel)) rfl (by decide +kernel) ⟨Nat.le_of_ble_eq_true rfl, Nat.le_of_ble_eq_true rfl⟩) rfl rfl hl.1 (Nat.le_of_ble_eq_true rfl) dJxc12de_init_da8c8_1 ⟨Nat.le_of_ble_eq_true rfl, Nat.le_of_ble_eq_true rfl⟩ (fun L1 g1 H locs h w => ?_)
  refine lv_aload_n S.1 S.2.1 dJxc12de_init_da8c8_4 rfl (lv_at hl 0 rfl) ?_
  refine lv_iconst (v := 0) S.1 S.2.1 dJxc12de_init_da8c8_5 (by decide) ?_
  obtain ⟨g2, h3, h⟩ := h
  refine xr_puti S w 0 xi_Jxc12de_init_da8c8_Jx4a65c rfl tyJx4a65c tyJx4a65c_ok nmJx4a65c 0 (by decide) xl_Jxc12de_init_da8c8_7 rfl (tyJx4a65c_ok 0 (by decide)) h3 dJxc12de_init_da8c8_6 (fun H locs w => ?_)
  exact ret _ _ _ _ _ _ _ _ h w dJxc12de_init_da8c8_9 ⟨Nat.le_of_ble_eq_true rfl, Nat.le_of_ble_eq_true rfl⟩
theorem xls_Jx4a65c_init_da8c8_39 : Cond.fieldLink RJx4a65c 39 "java/util/ArrayList" "DEFAULTCAPACITY_EMPTY_ELEMENTDATA" "[Ljava/lang/Object;" ∈ wsJx4a65c_init_da8c8 := by decide +kernel
theorem xi_Jx4a65c_init_da8c8_Jx4a65c : ∀ w ∈ wsJx4a65c0, w ∈ wsJx4a65c_init_da8c8 := by decide +kernel
theorem xl_Jx4a65c_init_da8c8_9 : Cond.fieldLink RJx4a65c 9 (TJx4a65c 1).1 (TJx4a65c 1).2.1 (TJx4a65c 1).2.2.1 ∈ wsJx4a65c_init_da8c8 := by decide +kernel
def w_Jx4a65c_init_da8c8 (t : Nat) (P : List Nat → xG → Prop) (L : List Nat) (g : xG) (a0 : Nat) : Prop :=
  w_Jxc12de_init_da8c8 (fun L1 g1 =>
    ∃ g2, (xp_r g1 0 a0 1 t) = some g2 ∧
    P L1 g2
  ) L g a0
set_option maxHeartbeats 4000000 in
set_option maxRecDepth 100000 in
theorem c_Jx4a65c_init_da8c8 (l : Launch) (D : va_G) (cy : Nat → ClassId) (t : Nat) (L : List Nat) (g : xG) (a0 : Nat) (P : List Nat → xG → Prop) (h : w_Jx4a65c_init_da8c8 t P L g a0) : xYv l yJx4a65c_init_da8c8 wsJx4a65c_init_da8c8 ({ frames := 3, cells := 0, slots := 0, locals := 52 }) D cy t L g [.ref a0] P 0 0 := by
  refine xma_v (cc := cJx4a65c_init_da8c8) (maxL := 1) RJx4a65c rfl rfl rfl (by decide +kernel) rfl (Nat.le_of_ble_eq_true rfl) ?_
  intro p e s m args below meth c Q A S w hA hN hZ hT hmn ret ls hl
  have hl : lv_has ls 1 [(0, .ref a0)] := hl
  rw [w_Jx4a65c_init_da8c8] at h
  refine lv_aload_n S.1 S.2.1 dJx4a65c_init_da8c8_0 rfl (lv_at hl 0 rfl) ?_
  refine xr_callYI_v S w hA hN hZ hT (c_Jxc12de_init_da8c8 l D cy t L g a0 _ h) (cwI 0 S.2.2.2.2 gJx4a65c_init_da8c8_Jxc12de_init_da8c8 rfl rfl rfl (S.2.2.2.2 _ (by decide +kernel)) (S.2.2.2.2 _ (by decide +kernel)) (S.2.2.2.2 _ (by decide +kernel)) rfl (by decide +kernel) ⟨Nat.le_of_ble_eq_true rfl, Nat.le_of_ble_eq_true rfl⟩) rfl rfl hl.1 (Nat.le_of_ble_eq_true rfl) dJx4a65c_init_da8c8_1 ⟨Nat.le_of_ble_eq_true rfl, Nat.le_of_ble_eq_true rfl⟩ (fun L1 g1 H locs h w => ?_)
  refine lv_aload_n S.1 S.2.1 dJx4a65c_init_da8c8_4 rfl (lv_at hl 0 rfl) ?_
  refine xr_getsT S w hT xls_Jx4a65c_init_da8c8_39 dJx4a65c_init_da8c8_5 ?_
  obtain ⟨g2, h3, h⟩ := h
  refine xr_put S w 0 xi_Jx4a65c_init_da8c8_Jx4a65c rfl tyJx4a65c tyJx4a65c_ok nmJx4a65c 1 (by decide) xl_Jx4a65c_init_da8c8_9 rfl _ (tyJx4a65c_ok 1 (by decide)) rfl rfl h3 dJx4a65c_init_da8c8_8 (fun H locs w => ?_)
  exact ret _ _ _ _ _ _ _ _ h w dJx4a65c_init_da8c8_11 ⟨Nat.le_of_ble_eq_true rfl, Nat.le_of_ble_eq_true rfl⟩
theorem xi_Jx4a65c_grow_92f84_Jx4a65c : ∀ w ∈ wsJx4a65c0, w ∈ wsJx4a65c_grow_92f84 := by decide +kernel
theorem xl_Jx4a65c_grow_92f84_9 : Cond.fieldLink RJx4a65c 9 (TJx4a65c 1).1 (TJx4a65c 1).2.1 (TJx4a65c 1).2.2.1 ∈ wsJx4a65c_grow_92f84 := by decide +kernel
theorem xls_Jx4a65c_grow_92f84_39 : Cond.fieldLink RJx4a65c 39 "java/util/ArrayList" "DEFAULTCAPACITY_EMPTY_ELEMENTDATA" "[Ljava/lang/Object;" ∈ wsJx4a65c_grow_92f84 := by decide +kernel
theorem xk_Jx4a65c_grow_92f84_7 : Cond.classLink RJx4a65c 7 "java/lang/Object" ∈ wsJx4a65c_grow_92f84 := by decide +kernel
def w_Jx4a65c_grow_92f84 (t : Nat) (P : Nat → List Nat → xG → Prop) (L : List Nat) (g : xG) (a0 : Nat) (a1 : Int32) : Prop :=
  ∃ x1, (xg_r g 0 a0 1) = some x1 ∧
  ∃ x3, (xn_t t g x1) = some x3 ∧
  if 0 < x3 then
    ∃ x6, (f_J8_newLength_cabcc x3 (a1 - x3) (x3 >>> (1 &&& 31))) = some x6 ∧
    ∃ x7, (xg_r g 0 a0 1) = some x7 ∧
    w_J7_copyOf_1904c t (fun x9 L9 g9 =>
      ∃ g10, (xp_r g9 0 a0 1 x9) = some g10 ∧
      P x9 L9 g10
    ) L g x7 x6
  else
    ∃ x12, (xg_r g 0 a0 1) = some x12 ∧
    if x12 = t then
      ∃ N14, (xcap (if 10 < a1 then a1 else 10)) = some N14 ∧
      ∀ (q14 : Nat) (L14 : List Nat) (g14 : xG), q14 ∉ L → q14 ≠ t → L14 = L ++ [q14] → g14 = va_up g q14 (.inl (6, N14, .inr (.inr (.inr (.inr (fun _ => none)))))) →
      ∃ g16, (xp_r g14 0 a0 1 q14) = some g16 ∧
      P q14 L14 g16
    else
      ∃ x19, (f_J8_newLength_cabcc x3 (a1 - x3) (x3 >>> (1 &&& 31))) = some x19 ∧
      ∃ x20, (xg_r g 0 a0 1) = some x20 ∧
      w_J7_copyOf_1904c t (fun x22 L22 g22 =>
        ∃ g23, (xp_r g22 0 a0 1 x22) = some g23 ∧
        P x22 L22 g23
      ) L g x20 x19
set_option maxHeartbeats 4000000 in
set_option maxRecDepth 100000 in
theorem c_Jx4a65c_grow_92f84 (l : Launch) (D : va_G) (cy : Nat → ClassId) (t : Nat) (L : List Nat) (g : xG) (a0 : Nat) (a1 : Int32) (P : Nat → List Nat → xG → Prop) (h : w_Jx4a65c_grow_92f84 t P L g a0 a1) : xYr l yJx4a65c_grow_92f84 wsJx4a65c_grow_92f84 ({ frames := 3, cells := 2, slots := 128, locals := 101 }) D cy t L g [.ref a0, .int a1] P 2 128 := by
  refine xma_r (cc := cJx4a65c_grow_92f84) (maxL := 4) (Or.inr ⟨_, rfl⟩) RJx4a65c rfl rfl rfl (by decide +kernel) rfl (Nat.le_of_ble_eq_true rfl) ?_
  intro p e s m args below meth c Q A S w hA hN hZ hT hmn ret ls hl
  have hl : lv_has ls 4 [(0, .ref a0), (1, .int a1)] := hl
  rw [w_Jx4a65c_grow_92f84] at h
  refine lv_aload_n S.1 S.2.1 dJx4a65c_grow_92f84_0 rfl (lv_at hl 0 rfl) ?_
  obtain ⟨x1, h2, h⟩ := h
  refine xr_getr S w 0 xi_Jx4a65c_grow_92f84_Jx4a65c rfl 1 (by decide) xl_Jx4a65c_grow_92f84_9 h2 dJx4a65c_grow_92f84_1 ?_
  obtain ⟨x3, h4, h⟩ := h
  refine xr_alenT S w hT h4 dJx4a65c_grow_92f84_4 ?_
  refine lv_istore_n (lv' := [(2, .int x3), (0, .ref a0), (1, .int a1)]) S.1 S.2.1 dJx4a65c_grow_92f84_5 rfl hl (by decide) rfl (fun ls hl => ?_)
  refine lv_iload_n S.1 S.2.1 dJx4a65c_grow_92f84_6 rfl (lv_at hl 0 rfl) ?_
  refine lv_if_gt (tgt := 20) S.1 S.2.1 dJx4a65c_grow_92f84_7 (by decide) (fun c7 => ?_) (fun c7 => ?_)
  · rw [if_pos c7] at h
    refine lv_iload_n S.1 S.2.1 dJx4a65c_grow_92f84_20 rfl (lv_at hl 0 rfl) ?_
    refine lv_iload_n S.1 S.2.1 dJx4a65c_grow_92f84_21 rfl (lv_at hl 2 rfl) ?_
    refine lv_iload_n S.1 S.2.1 dJx4a65c_grow_92f84_22 rfl (lv_at hl 0 rfl) ?_
    refine lv_isub S.1 S.2.1 dJx4a65c_grow_92f84_23 ?_
    refine lv_iload_n S.1 S.2.1 dJx4a65c_grow_92f84_24 rfl (lv_at hl 0 rfl) ?_
    refine lv_iconst (v := 1) S.1 S.2.1 dJx4a65c_grow_92f84_25 (by decide) ?_
    refine lv_ishr S.1 S.2.1 dJx4a65c_grow_92f84_26 ?_
    obtain ⟨x6, h5, h⟩ := h
    refine xr_callS_i S w hA hN (c_J8_newLength_cabcc l D cy L g x3 (a1 - x3) (x3 >>> (1 &&& 31)) h5) (va_cwS 3 S.2.2.2.2 gJx4a65c_grow_92f84_J8_newLength_cabcc rfl rfl rfl (by decide +kernel) ⟨Nat.le_of_ble_eq_true rfl, Nat.le_of_ble_eq_true rfl⟩) rfl rfl hl.1 (Nat.le_of_ble_eq_true rfl) dJx4a65c_grow_92f84_27 ⟨Nat.le_of_ble_eq_true rfl, Nat.le_of_ble_eq_true rfl⟩ (fun H locs w => ?_)
    refine lv_istore_n (lv' := [(3, .int x6), (2, .int x3), (0, .ref a0), (1, .int a1)]) S.1 S.2.1 dJx4a65c_grow_92f84_30 rfl hl (by decide) rfl (fun ls hl => ?_)
    refine lv_aload_n S.1 S.2.1 dJx4a65c_grow_92f84_31 rfl (lv_at hl 2 rfl) ?_
    refine lv_aload_n S.1 S.2.1 dJx4a65c_grow_92f84_32 rfl (lv_at hl 2 rfl) ?_
    obtain ⟨x7, h8, h⟩ := h
    refine xr_getr S w 0 xi_Jx4a65c_grow_92f84_Jx4a65c rfl 1 (by decide) xl_Jx4a65c_grow_92f84_9 h8 dJx4a65c_grow_92f84_33 ?_
    refine lv_iload_n S.1 S.2.1 dJx4a65c_grow_92f84_36 rfl (lv_at hl 0 rfl) ?_
    refine xr_callYS_r S w hA hN hZ hT (c_J7_copyOf_1904c l D cy t L g x7 x6 _ h) (va_cwS 2 S.2.2.2.2 gJx4a65c_grow_92f84_J7_copyOf_1904c rfl rfl rfl (by decide +kernel) ⟨Nat.le_of_ble_eq_true rfl, Nat.le_of_ble_eq_true rfl⟩) rfl rfl hl.1 (Nat.le_of_ble_eq_true rfl) dJx4a65c_grow_92f84_37 ⟨Nat.le_of_ble_eq_true rfl, Nat.le_of_ble_eq_true rfl⟩ (fun x9 L9 g9 H locs h w => ?_)
    refine lv_dup_x1 S.1 S.2.1 dJx4a65c_grow_92f84_40 rfl rfl ?_
    obtain ⟨g10, h11, h⟩ := h
    refine xr_put S w 0 xi_Jx4a65c_grow_92f84_Jx4a65c rfl tyJx4a65c tyJx4a65c_ok nmJx4a65c 1 (by decide) xl_Jx4a65c_grow_92f84_9 rfl _ (tyJx4a65c_ok 1 (by decide)) rfl rfl h11 dJx4a65c_grow_92f84_41 (fun H locs w => ?_)
    exact ret _ _ _ _ _ _ _ _ _ h w dJx4a65c_grow_92f84_44 ⟨Nat.le_of_ble_eq_true rfl, Nat.le_of_ble_eq_true rfl⟩
  · rw [if_neg c7] at h
    refine lv_aload_n S.1 S.2.1 dJx4a65c_grow_92f84_10 rfl (lv_at hl 1 rfl) ?_
    obtain ⟨x12, h13, h⟩ := h
    refine xr_getr S w 0 xi_Jx4a65c_grow_92f84_Jx4a65c rfl 1 (by decide) xl_Jx4a65c_grow_92f84_9 h13 dJx4a65c_grow_92f84_11 ?_
    refine xr_getsT S w hT xls_Jx4a65c_grow_92f84_39 dJx4a65c_grow_92f84_14 ?_
    refine xr_acmp (tgt := 45) S dJx4a65c_grow_92f84_17 (by decide) (fun c17 => ?_) (fun c17 => ?_)
    · rw [if_pos c17] at h
      refine lv_aload_n S.1 S.2.1 dJx4a65c_grow_92f84_45 rfl (lv_at hl 1 rfl) ?_
      refine lv_bipush (v := 10) S.1 S.2.1 dJx4a65c_grow_92f84_46 (by decide) ?_
      refine lv_iload_n S.1 S.2.1 dJx4a65c_grow_92f84_48 rfl (lv_at hl 2 rfl) ?_
      refine va_mmax S.1 S.2.1 (S.2.2.1.trans hl.1.symm) S.2.2.2.1 (S.2.2.2.2 _ (by decide +kernel)) (S.2.2.2.2 _ (by decide +kernel)) (S.2.2.2.2 _ (by decide +kernel)) (S.2.2.2.2 _ (by decide +kernel)) (Nat.le_of_ble_eq_true rfl) (Nat.le_of_ble_eq_true rfl) (Nat.le_of_ble_eq_true rfl) (Nat.le_of_ble_eq_true rfl) dJx4a65c_grow_92f84_49 ?_
      obtain ⟨N14, h15, h⟩ := h
      refine xr_newqv S w hA hT xk_Jx4a65c_grow_92f84_7 hN.2.2.2.2.2.2.2.2.2.2.2.2.2.2.2.1 h15 dJx4a65c_grow_92f84_52 ⟨Nat.le_of_ble_eq_true rfl, Nat.le_of_ble_eq_true rfl⟩ (fun q14 L14 g14 H e14a e14t e14b e14c w => ?_)
      replace h := h q14 L14 g14 e14a e14t e14b e14c
      refine lv_dup_x1 S.1 S.2.1 dJx4a65c_grow_92f84_55 rfl rfl ?_
      obtain ⟨g16, h17, h⟩ := h
      refine xr_put S w 0 xi_Jx4a65c_grow_92f84_Jx4a65c rfl tyJx4a65c tyJx4a65c_ok nmJx4a65c 1 (by decide) xl_Jx4a65c_grow_92f84_9 rfl _ (tyJx4a65c_ok 1 (by decide)) rfl rfl h17 dJx4a65c_grow_92f84_56 (fun H locs w => ?_)
      exact ret _ _ _ _ _ _ _ _ _ h w dJx4a65c_grow_92f84_59 ⟨Nat.le_of_ble_eq_true rfl, Nat.le_of_ble_eq_true rfl⟩
    · rw [if_neg c17] at h
      refine lv_iload_n S.1 S.2.1 dJx4a65c_grow_92f84_20 rfl (lv_at hl 0 rfl) ?_
      refine lv_iload_n S.1 S.2.1 dJx4a65c_grow_92f84_21 rfl (lv_at hl 2 rfl) ?_
      refine lv_iload_n S.1 S.2.1 dJx4a65c_grow_92f84_22 rfl (lv_at hl 0 rfl) ?_
      refine lv_isub S.1 S.2.1 dJx4a65c_grow_92f84_23 ?_
      refine lv_iload_n S.1 S.2.1 dJx4a65c_grow_92f84_24 rfl (lv_at hl 0 rfl) ?_
      refine lv_iconst (v := 1) S.1 S.2.1 dJx4a65c_grow_92f84_25 (by decide) ?_
      refine lv_ishr S.1 S.2.1 dJx4a65c_grow_92f84_26 ?_
      obtain ⟨x19, h18, h⟩ := h
      refine xr_callS_i S w hA hN (c_J8_newLength_cabcc l D cy L g x3 (a1 - x3) (x3 >>> (1 &&& 31)) h18) (va_cwS 3 S.2.2.2.2 gJx4a65c_grow_92f84_J8_newLength_cabcc rfl rfl rfl (by decide +kernel) ⟨Nat.le_of_ble_eq_true rfl, Nat.le_of_ble_eq_true rfl⟩) rfl rfl hl.1 (Nat.le_of_ble_eq_true rfl) dJx4a65c_grow_92f84_27 ⟨Nat.le_of_ble_eq_true rfl, Nat.le_of_ble_eq_true rfl⟩ (fun H locs w => ?_)
      refine lv_istore_n (lv' := [(3, .int x19), (2, .int x3), (0, .ref a0), (1, .int a1)]) S.1 S.2.1 dJx4a65c_grow_92f84_30 rfl hl (by decide) rfl (fun ls hl => ?_)
      refine lv_aload_n S.1 S.2.1 dJx4a65c_grow_92f84_31 rfl (lv_at hl 2 rfl) ?_
      refine lv_aload_n S.1 S.2.1 dJx4a65c_grow_92f84_32 rfl (lv_at hl 2 rfl) ?_
      obtain ⟨x20, h21, h⟩ := h
      refine xr_getr S w 0 xi_Jx4a65c_grow_92f84_Jx4a65c rfl 1 (by decide) xl_Jx4a65c_grow_92f84_9 h21 dJx4a65c_grow_92f84_33 ?_
      refine lv_iload_n S.1 S.2.1 dJx4a65c_grow_92f84_36 rfl (lv_at hl 0 rfl) ?_
      refine xr_callYS_r S w hA hN hZ hT (c_J7_copyOf_1904c l D cy t L g x20 x19 _ h) (va_cwS 2 S.2.2.2.2 gJx4a65c_grow_92f84_J7_copyOf_1904c rfl rfl rfl (by decide +kernel) ⟨Nat.le_of_ble_eq_true rfl, Nat.le_of_ble_eq_true rfl⟩) rfl rfl hl.1 (Nat.le_of_ble_eq_true rfl) dJx4a65c_grow_92f84_37 ⟨Nat.le_of_ble_eq_true rfl, Nat.le_of_ble_eq_true rfl⟩ (fun x22 L22 g22 H locs h w => ?_)
      refine lv_dup_x1 S.1 S.2.1 dJx4a65c_grow_92f84_40 rfl rfl ?_
      obtain ⟨g23, h24, h⟩ := h
      refine xr_put S w 0 xi_Jx4a65c_grow_92f84_Jx4a65c rfl tyJx4a65c tyJx4a65c_ok nmJx4a65c 1 (by decide) xl_Jx4a65c_grow_92f84_9 rfl _ (tyJx4a65c_ok 1 (by decide)) rfl rfl h24 dJx4a65c_grow_92f84_41 (fun H locs w => ?_)
      exact ret _ _ _ _ _ _ _ _ _ h w dJx4a65c_grow_92f84_44 ⟨Nat.le_of_ble_eq_true rfl, Nat.le_of_ble_eq_true rfl⟩
theorem xi_Jx4a65c_grow_d5877_Jx4a65c : ∀ w ∈ wsJx4a65c0, w ∈ wsJx4a65c_grow_d5877 := by decide +kernel
theorem xl_Jx4a65c_grow_d5877_48 : Cond.fieldLink RJx4a65c 48 (TJx4a65c 2).1 (TJx4a65c 2).2.1 (TJx4a65c 2).2.2.1 ∈ wsJx4a65c_grow_d5877 := by decide +kernel
def w_Jx4a65c_grow_d5877 (t : Nat) (P : Nat → List Nat → xG → Prop) (L : List Nat) (g : xG) (a0 : Nat) : Prop :=
  ∃ x1, (xg_i g 0 a0 2) = some x1 ∧
  ∃ u9, (xk g 0 a0) = some u9 ∧
  w_Jx4a65c_grow_92f84 t (fun x4 L4 g4 =>
    P x4 L4 g4
  ) L g a0 (x1 + 1)
set_option maxHeartbeats 4000000 in
set_option maxRecDepth 100000 in
theorem c_Jx4a65c_grow_d5877 (l : Launch) (D : va_G) (cy : Nat → ClassId) (t : Nat) (L : List Nat) (g : xG) (a0 : Nat) (P : Nat → List Nat → xG → Prop) (h : w_Jx4a65c_grow_d5877 t P L g a0) : xYr l yJx4a65c_grow_d5877 wsJx4a65c_grow_d5877 ({ frames := 4, cells := 2, slots := 128, locals := 124 }) D cy t L g [.ref a0] P 2 128 := by
  refine xma_r (cc := cJx4a65c_grow_d5877) (maxL := 1) (Or.inr ⟨_, rfl⟩) RJx4a65c rfl rfl rfl (by decide +kernel) rfl (Nat.le_of_ble_eq_true rfl) ?_
  intro p e s m args below meth c Q A S w hA hN hZ hT hmn ret ls hl
  have hl : lv_has ls 1 [(0, .ref a0)] := hl
  rw [w_Jx4a65c_grow_d5877] at h
  refine lv_aload_n S.1 S.2.1 dJx4a65c_grow_d5877_0 rfl (lv_at hl 0 rfl) ?_
  refine lv_aload_n S.1 S.2.1 dJx4a65c_grow_d5877_1 rfl (lv_at hl 0 rfl) ?_
  obtain ⟨x1, h2, h⟩ := h
  refine xr_geti S w 0 xi_Jx4a65c_grow_d5877_Jx4a65c rfl 2 (by decide) xl_Jx4a65c_grow_d5877_48 h2 dJx4a65c_grow_d5877_2 ?_
  refine lv_iconst (v := 1) S.1 S.2.1 dJx4a65c_grow_d5877_5 (by decide) ?_
  refine lv_iadd S.1 S.2.1 dJx4a65c_grow_d5877_6 ?_
  obtain ⟨_, h3, h⟩ := h
  refine xr_callYV_r S w hA hN hZ hT 0 rfl h3 (c_Jx4a65c_grow_92f84 l D cy t L g a0 (x1 + 1) _ h) (cwV 1 S.2.2.2.2 gJx4a65c_grow_d5877_Jx4a65c_grow_92f84 rfl rfl rfl (by decide +kernel) ⟨Nat.le_of_ble_eq_true rfl, Nat.le_of_ble_eq_true rfl⟩) rfl rfl hl.1 (Nat.le_of_ble_eq_true rfl) dJx4a65c_grow_d5877_7 ⟨Nat.le_of_ble_eq_true rfl, Nat.le_of_ble_eq_true rfl⟩ (fun x4 L4 g4 H locs h w => ?_)
  exact ret _ _ _ _ _ _ _ _ _ h w dJx4a65c_grow_d5877_10 ⟨Nat.le_of_ble_eq_true rfl, Nat.le_of_ble_eq_true rfl⟩
theorem xi_Jx4a65c_add_72be8_Jx4a65c : ∀ w ∈ wsJx4a65c0, w ∈ wsJx4a65c_add_72be8 := by decide +kernel
theorem xl_Jx4a65c_add_72be8_48 : Cond.fieldLink RJx4a65c 48 (TJx4a65c 2).1 (TJx4a65c 2).2.1 (TJx4a65c 2).2.2.1 ∈ wsJx4a65c_add_72be8 := by decide +kernel
def w_Jx4a65c_add_72be8 (t : Nat) (P : List Nat → xG → Prop) (L : List Nat) (g : xG) (a0 : Nat) (a1 : Nat) (a2 : Nat) (a3 : Int32) : Prop :=
  ∃ x1, (xn_t t g a2) = some x1 ∧
  if a3 = x1 then
    ∃ u9, (xk g 0 a0) = some u9 ∧
    w_Jx4a65c_grow_d5877 t (fun x8 L8 g8 =>
      ∃ g9, (xs_r 6 1 g8 x8 a3 a1) = some g9 ∧
      ∃ g11, (xp_i g9 0 a0 2 (a3 + 1)) = some g11 ∧
      P L8 g11
    ) L g a0
  else
    ∃ g3, (xs_r 6 1 g a2 a3 a1) = some g3 ∧
    ∃ g5, (xp_i g3 0 a0 2 (a3 + 1)) = some g5 ∧
    P L g5
set_option maxHeartbeats 4000000 in
set_option maxRecDepth 100000 in
theorem c_Jx4a65c_add_72be8 (l : Launch) (D : va_G) (cy : Nat → ClassId) (t : Nat) (L : List Nat) (g : xG) (a0 : Nat) (a1 : Nat) (a2 : Nat) (a3 : Int32) (P : List Nat → xG → Prop) (h : w_Jx4a65c_add_72be8 t P L g a0 a1 a2 a3) : xYv l yJx4a65c_add_72be8 wsJx4a65c_add_72be8 ({ frames := 5, cells := 2, slots := 128, locals := 144 }) D cy t L g [.ref a0, .ref a1, .ref a2, .int a3] P 2 128 := by
  refine xma_v (cc := cJx4a65c_add_72be8) (maxL := 4) RJx4a65c rfl rfl rfl (by decide +kernel) rfl (Nat.le_of_ble_eq_true rfl) ?_
  intro p e s m args below meth c Q A S w hA hN hZ hT hmn ret ls hl
  have hl : lv_has ls 4 [(0, .ref a0), (1, .ref a1), (2, .ref a2), (3, .int a3)] := hl
  rw [w_Jx4a65c_add_72be8] at h
  refine lv_iload_n S.1 S.2.1 dJx4a65c_add_72be8_0 rfl (lv_at hl 3 rfl) ?_
  refine lv_aload_n S.1 S.2.1 dJx4a65c_add_72be8_1 rfl (lv_at hl 2 rfl) ?_
  obtain ⟨x1, h2, h⟩ := h
  refine xr_alenT S w hT h2 dJx4a65c_add_72be8_2 ?_
  refine lv_icmp_ne (tgt := 11) S.1 S.2.1 dJx4a65c_add_72be8_3 (by decide) (fun c3 => ?_) (fun c3 => ?_)
  · rw [if_neg c3] at h
    refine lv_aload_n S.1 S.2.1 dJx4a65c_add_72be8_11 rfl (lv_at hl 2 rfl) ?_
    refine lv_iload_n S.1 S.2.1 dJx4a65c_add_72be8_12 rfl (lv_at hl 3 rfl) ?_
    refine lv_aload_n S.1 S.2.1 dJx4a65c_add_72be8_13 rfl (lv_at hl 1 rfl) ?_
    obtain ⟨g3, h4, h⟩ := h
    refine xr_aastO S w hN.2.2.2.2.2.2.2.2.2.2.2.2.2.2.2.2.1 h4 dJx4a65c_add_72be8_14 (fun H locs w => ?_)
    refine lv_aload_n S.1 S.2.1 dJx4a65c_add_72be8_15 rfl (lv_at hl 0 rfl) ?_
    refine lv_iload_n S.1 S.2.1 dJx4a65c_add_72be8_16 rfl (lv_at hl 3 rfl) ?_
    refine lv_iconst (v := 1) S.1 S.2.1 dJx4a65c_add_72be8_17 (by decide) ?_
    refine lv_iadd S.1 S.2.1 dJx4a65c_add_72be8_18 ?_
    obtain ⟨g5, h6, h⟩ := h
    refine xr_puti S w 0 xi_Jx4a65c_add_72be8_Jx4a65c rfl tyJx4a65c tyJx4a65c_ok nmJx4a65c 2 (by decide) xl_Jx4a65c_add_72be8_48 rfl (tyJx4a65c_ok 2 (by decide)) h6 dJx4a65c_add_72be8_19 (fun H locs w => ?_)
    exact ret _ _ _ _ _ _ _ _ h w dJx4a65c_add_72be8_22 ⟨Nat.le_of_ble_eq_true rfl, Nat.le_of_ble_eq_true rfl⟩
  · rw [if_pos c3] at h
    refine lv_aload_n S.1 S.2.1 dJx4a65c_add_72be8_6 rfl (lv_at hl 0 rfl) ?_
    obtain ⟨_, h7, h⟩ := h
    refine xr_callYV_r S w hA hN hZ hT 0 rfl h7 (c_Jx4a65c_grow_d5877 l D cy t L g a0 _ h) (cwV 0 S.2.2.2.2 gJx4a65c_add_72be8_Jx4a65c_grow_d5877 rfl rfl rfl (by decide +kernel) ⟨Nat.le_of_ble_eq_true rfl, Nat.le_of_ble_eq_true rfl⟩) rfl rfl hl.1 (Nat.le_of_ble_eq_true rfl) dJx4a65c_add_72be8_7 ⟨Nat.le_of_ble_eq_true rfl, Nat.le_of_ble_eq_true rfl⟩ (fun x8 L8 g8 H locs h w => ?_)
    refine lv_astore_n (lv' := [(2, .ref x8), (0, .ref a0), (1, .ref a1), (3, .int a3)]) S.1 S.2.1 dJx4a65c_add_72be8_10 rfl hl (by decide) rfl (fun ls hl => ?_)
    refine lv_aload_n S.1 S.2.1 dJx4a65c_add_72be8_11 rfl (lv_at hl 0 rfl) ?_
    refine lv_iload_n S.1 S.2.1 dJx4a65c_add_72be8_12 rfl (lv_at hl 3 rfl) ?_
    refine lv_aload_n S.1 S.2.1 dJx4a65c_add_72be8_13 rfl (lv_at hl 2 rfl) ?_
    obtain ⟨g9, h10, h⟩ := h
    refine xr_aastO S w hN.2.2.2.2.2.2.2.2.2.2.2.2.2.2.2.2.1 h10 dJx4a65c_add_72be8_14 (fun H locs w => ?_)
    refine lv_aload_n S.1 S.2.1 dJx4a65c_add_72be8_15 rfl (lv_at hl 1 rfl) ?_
    refine lv_iload_n S.1 S.2.1 dJx4a65c_add_72be8_16 rfl (lv_at hl 3 rfl) ?_
    refine lv_iconst (v := 1) S.1 S.2.1 dJx4a65c_add_72be8_17 (by decide) ?_
    refine lv_iadd S.1 S.2.1 dJx4a65c_add_72be8_18 ?_
    obtain ⟨g11, h12, h⟩ := h
    refine xr_puti S w 0 xi_Jx4a65c_add_72be8_Jx4a65c rfl tyJx4a65c tyJx4a65c_ok nmJx4a65c 2 (by decide) xl_Jx4a65c_add_72be8_48 rfl (tyJx4a65c_ok 2 (by decide)) h12 dJx4a65c_add_72be8_19 (fun H locs w => ?_)
    exact ret _ _ _ _ _ _ _ _ h w dJx4a65c_add_72be8_22 ⟨Nat.le_of_ble_eq_true rfl, Nat.le_of_ble_eq_true rfl⟩
theorem xl_Jx4a65c_add_9ea2d_63 : Cond.fieldLink RJx4a65c 63 "java/util/ArrayList" "modCount" "I" ∈ wsJx4a65c_add_9ea2d := by decide +kernel
theorem xsf_Jx4a65c_add_9ea2d_63 : Cond.sameField "java/util/ArrayList" "java/util/AbstractList" "modCount" "I" ∈ wsJx4a65c_add_9ea2d := by decide +kernel
theorem xi_Jx4a65c_add_9ea2d_Jx4a65c : ∀ w ∈ wsJx4a65c0, w ∈ wsJx4a65c_add_9ea2d := by decide +kernel
theorem xl_Jx4a65c_add_9ea2d_9 : Cond.fieldLink RJx4a65c 9 (TJx4a65c 1).1 (TJx4a65c 1).2.1 (TJx4a65c 1).2.2.1 ∈ wsJx4a65c_add_9ea2d := by decide +kernel
theorem xl_Jx4a65c_add_9ea2d_48 : Cond.fieldLink RJx4a65c 48 (TJx4a65c 2).1 (TJx4a65c 2).2.1 (TJx4a65c 2).2.2.1 ∈ wsJx4a65c_add_9ea2d := by decide +kernel
def w_Jx4a65c_add_9ea2d (t : Nat) (P : Int32 → List Nat → xG → Prop) (L : List Nat) (g : xG) (a0 : Nat) (a1 : Nat) : Prop :=
  ∃ x1, (xg_i g 0 a0 0) = some x1 ∧
  ∃ g3, (xp_i g 0 a0 0 (x1 + 1)) = some g3 ∧
  ∃ x5, (xg_r g3 0 a0 1) = some x5 ∧
  ∃ x7, (xg_i g3 0 a0 2) = some x7 ∧
  ∃ u9, (xk g3 0 a0) = some u9 ∧
  w_Jx4a65c_add_72be8 t (fun L10 g10 =>
    P 1 L10 g10
  ) L g3 a0 a1 x5 x7
set_option maxHeartbeats 4000000 in
set_option maxRecDepth 100000 in
theorem c_Jx4a65c_add_9ea2d (l : Launch) (D : va_G) (cy : Nat → ClassId) (t : Nat) (L : List Nat) (g : xG) (a0 : Nat) (a1 : Nat) (P : Int32 → List Nat → xG → Prop) (h : w_Jx4a65c_add_9ea2d t P L g a0 a1) : xYi l yJx4a65c_add_9ea2d wsJx4a65c_add_9ea2d ({ frames := 6, cells := 2, slots := 128, locals := 167 }) D cy t L g [.ref a0, .ref a1] P 2 128 := by
  refine xma_z (cc := cJx4a65c_add_9ea2d) (maxL := 2) RJx4a65c rfl rfl rfl (by decide +kernel) rfl (Nat.le_of_ble_eq_true rfl) ?_
  intro p e s m args below meth c Q A S w hA hN hZ hT hmn ret ls hl
  have hl : lv_has ls 2 [(0, .ref a0), (1, .ref a1)] := hl
  rw [w_Jx4a65c_add_9ea2d] at h
  refine lv_aload_n S.1 S.2.1 dJx4a65c_add_9ea2d_0 rfl (lv_at hl 0 rfl) ?_
  refine lv_dup S.1 S.2.1 dJx4a65c_add_9ea2d_1 rfl ?_
  obtain ⟨x1, h2, h⟩ := h
  refine xr_getiS S w 0 xi_Jx4a65c_add_9ea2d_Jx4a65c rfl 0 (by decide) xl_Jx4a65c_add_9ea2d_63 xsf_Jx4a65c_add_9ea2d_63 h2 dJx4a65c_add_9ea2d_2 ?_
  refine lv_iconst (v := 1) S.1 S.2.1 dJx4a65c_add_9ea2d_5 (by decide) ?_
  refine lv_iadd S.1 S.2.1 dJx4a65c_add_9ea2d_6 ?_
  obtain ⟨g3, h4, h⟩ := h
  refine xr_putiS S w 0 xi_Jx4a65c_add_9ea2d_Jx4a65c rfl tyJx4a65c tyJx4a65c_ok nmJx4a65c 0 (by decide) xl_Jx4a65c_add_9ea2d_63 xsf_Jx4a65c_add_9ea2d_63 rfl (tyJx4a65c_ok 0 (by decide)) h4 dJx4a65c_add_9ea2d_7 (fun H locs w => ?_)
  refine lv_aload_n S.1 S.2.1 dJx4a65c_add_9ea2d_10 rfl (lv_at hl 0 rfl) ?_
  refine lv_aload_n S.1 S.2.1 dJx4a65c_add_9ea2d_11 rfl (lv_at hl 1 rfl) ?_
  refine lv_aload_n S.1 S.2.1 dJx4a65c_add_9ea2d_12 rfl (lv_at hl 0 rfl) ?_
  obtain ⟨x5, h6, h⟩ := h
  refine xr_getr S w 0 xi_Jx4a65c_add_9ea2d_Jx4a65c rfl 1 (by decide) xl_Jx4a65c_add_9ea2d_9 h6 dJx4a65c_add_9ea2d_13 ?_
  refine lv_aload_n S.1 S.2.1 dJx4a65c_add_9ea2d_16 rfl (lv_at hl 0 rfl) ?_
  obtain ⟨x7, h8, h⟩ := h
  refine xr_geti S w 0 xi_Jx4a65c_add_9ea2d_Jx4a65c rfl 2 (by decide) xl_Jx4a65c_add_9ea2d_48 h8 dJx4a65c_add_9ea2d_17 ?_
  obtain ⟨_, h9, h⟩ := h
  refine xr_callYV_v S w hA hN hZ hT 0 rfl h9 (c_Jx4a65c_add_72be8 l D cy t L g3 a0 a1 x5 x7 _ h) (cwV 3 S.2.2.2.2 gJx4a65c_add_9ea2d_Jx4a65c_add_72be8 rfl rfl rfl (by decide +kernel) ⟨Nat.le_of_ble_eq_true rfl, Nat.le_of_ble_eq_true rfl⟩) rfl rfl hl.1 (Nat.le_of_ble_eq_true rfl) dJx4a65c_add_9ea2d_20 ⟨Nat.le_of_ble_eq_true rfl, Nat.le_of_ble_eq_true rfl⟩ (fun L10 g10 H locs h w => ?_)
  refine lv_iconst (v := 1) S.1 S.2.1 dJx4a65c_add_9ea2d_23 (by decide) ?_
  exact ret _ _ _ _ _ _ 1 1 _ _ (by decide) h w dJx4a65c_add_9ea2d_24 ⟨Nat.le_of_ble_eq_true rfl, Nat.le_of_ble_eq_true rfl⟩
theorem xi_X7_init_X7 : ∀ w ∈ wsX70, w ∈ wsX7_init := by decide +kernel
theorem xl_X7_init_11 : Cond.fieldLink RX7 11 (TX7 1).1 (TX7 1).2.1 (TX7 1).2.2.1 ∈ wsX7_init := by decide +kernel
theorem xk_X7_init_9 : Cond.classLink RX7 9 RX4 ∈ wsX7_init := by decide +kernel
theorem xst_X7_init_9 : Cond.instantiable RX4 8 ∈ wsX7_init := by decide +kernel
theorem xni_X7_init_9 : Cond.initialized RX4 ∈ wsX7_init := by decide +kernel
theorem xi_X7_init_X4 : ∀ w ∈ wsX40, w ∈ wsX7_init := by decide +kernel
theorem xo0_X7_init : Cond.methodLink RX7 3 objectInit ∈ wsX7_init := by decide +kernel
theorem xo1_X7_init : Cond.instanceMethod objectInit ∈ wsX7_init := by decide +kernel
theorem xo2_X7_init : Cond.code objectInit ⟨#[0xb1]⟩ 1 none ∈ wsX7_init := by decide +kernel
theorem xk_X7_init_15 : Cond.classLink RX7 15 RX5 ∈ wsX7_init := by decide +kernel
theorem xst_X7_init_15 : Cond.instantiable RX5 4 ∈ wsX7_init := by decide +kernel
theorem xni_X7_init_15 : Cond.initialized RX5 ∈ wsX7_init := by decide +kernel
theorem xi_X7_init_X5 : ∀ w ∈ wsX50, w ∈ wsX7_init := by decide +kernel
theorem xl_X7_init_18 : Cond.fieldLink RX7 18 (TX7 2).1 (TX7 2).2.1 (TX7 2).2.2.1 ∈ wsX7_init := by decide +kernel
theorem xk_X7_init_22 : Cond.classLink RX7 22 RJx4a65c ∈ wsX7_init := by decide +kernel
theorem xst_X7_init_22 : Cond.instantiable RJx4a65c 3 ∈ wsX7_init := by decide +kernel
theorem xni_X7_init_22 : Cond.initialized RJx4a65c ∈ wsX7_init := by decide +kernel
theorem xi_X7_init_Jx4a65c : ∀ w ∈ wsJx4a65c0, w ∈ wsX7_init := by decide +kernel
theorem xl_X7_init_25 : Cond.fieldLink RX7 25 (TX7 3).1 (TX7 3).2.1 (TX7 3).2.2.1 ∈ wsX7_init := by decide +kernel
theorem xk_X7_init_29 : Cond.classLink RX7 29 RX3 ∈ wsX7_init := by decide +kernel
theorem xst_X7_init_29 : Cond.instantiable RX3 7 ∈ wsX7_init := by decide +kernel
theorem xni_X7_init_29 : Cond.initialized RX3 ∈ wsX7_init := by decide +kernel
theorem xi_X7_init_X3 : ∀ w ∈ wsX30, w ∈ wsX7_init := by decide +kernel
theorem xl_X7_init_32 : Cond.fieldLink RX7 32 (TX7 5).1 (TX7 5).2.1 (TX7 5).2.2.1 ∈ wsX7_init := by decide +kernel
theorem xk_X7_init_36 : Cond.classLink RX7 36 RX2 ∈ wsX7_init := by decide +kernel
theorem xst_X7_init_36 : Cond.instantiable RX2 5 ∈ wsX7_init := by decide +kernel
theorem xni_X7_init_36 : Cond.initialized RX2 ∈ wsX7_init := by decide +kernel
theorem xi_X7_init_X2 : ∀ w ∈ wsX20, w ∈ wsX7_init := by decide +kernel
theorem xl_X7_init_39 : Cond.fieldLink RX7 39 (TX7 6).1 (TX7 6).2.1 (TX7 6).2.2.1 ∈ wsX7_init := by decide +kernel
def w_X7_init_59 (t : Nat) (P : List Nat → xG → Prop) : Nat → List Nat → xG → Nat → Int32 → Prop
  | 0, _, _, _, _ => False
  | n9 + 1, L, g, v0, v1 =>
  if 6 ≤ v1 then
    ∃ u9, (xk g 8 v0) = some u9 ∧
    ∃ g3, (f_X7_startWith g v0 3) = some g3 ∧
    P L g3
  else
    ∃ x4, (xg_r g 8 v0 1) = some x4 ∧
    ∀ (q6 : Nat) (L6 : List Nat) (g6 : xG), q6 ∉ L → L6 = L ++ [q6] → g6 = va_up g q6 (.inr (5, [.int 0, .null, .null, .null, .null, .null, .int 0, .int 0])) →
    w_X4_init (fun L7 g7 =>
      ∃ g8, (xs_r 5 5 g7 x4 v1 q6) = some g8 ∧
      w_X7_init_59 t P n9 L7 g8 v0 (v1 + 1)
    ) L6 g6 q6 v1
def w_X7_init (t : Nat) (P : List Nat → xG → Prop) (L : List Nat) (g : xG) (a0 : Nat) : Prop :=
  ∀ (q10 : Nat) (L10 : List Nat) (g10 : xG), q10 ∉ L → L10 = L ++ [q10] → g10 = va_up g q10 (.inl (5, 6, .inr (.inr (.inr (.inr (fun _ => none)))))) →
  ∃ g11, (xp g10 8 a0 1 (.ref q10)) = some g11 ∧
  ∀ (q13 : Nat) (L13 : List Nat) (g13 : xG), q13 ∉ L10 → L13 = L10 ++ [q13] → g13 = va_up g11 q13 (.inr (6, [.int 0, .int 0, .null, .null])) →
  w_X5_init (fun L14 g14 =>
    ∃ g15, (xp g14 8 a0 2 (.ref q13)) = some g15 ∧
    ∀ (q17 : Nat) (L17 : List Nat) (g17 : xG), q17 ∉ L14 → L17 = L14 ++ [q17] → g17 = va_up g15 q17 (.inr (0, [.int 0, .null, .int 0])) →
    w_Jx4a65c_init_da8c8 t (fun L18 g18 =>
      ∃ g19, (xp g18 8 a0 3 (.ref q17)) = some g19 ∧
      ∀ (q21 : Nat) (L21 : List Nat) (g21 : xG), q21 ∉ L18 → L21 = L18 ++ [q21] → g21 = va_up g19 q21 (.inr (4, [.int 0, .int 0, .int 0, .int 0, .int 0, .int 0, .int 0])) →
      w_X3_init (fun L22 g22 =>
        ∃ g23, (xp g22 8 a0 5 (.ref q21)) = some g23 ∧
        ∀ (q25 : Nat) (L25 : List Nat) (g25 : xG), q25 ∉ L22 → L25 = L22 ++ [q25] → g25 = va_up g23 q25 (.inr (3, [.int 0, .null, .null, .null, .null])) →
        w_X2_init (fun L26 g26 =>
          ∃ g27, (xp g26 8 a0 6 (.ref q25)) = some g27 ∧
          w_X7_init_59 t P 7 L26 g27 a0 0
        ) L25 g25 q25
      ) L21 g21 q21
    ) L17 g17 q17
  ) L13 g13 q13
set_option maxHeartbeats 4000000 in
set_option maxRecDepth 100000 in
theorem c_X7_init (l : Launch) (D : va_G) (cy : Nat → ClassId) (t : Nat) (L : List Nat) (g : xG) (a0 : Nat) (P : List Nat → xG → Prop) (h : w_X7_init t P L g a0) : xYv l yX7_init wsX7_init ({ frames := 4, cells := 310, slots := 21430, locals := 72 }) D cy t L g [.ref a0] P 310 21430 := by
  refine xma_v (cc := cX7_init) (maxL := 2) RX7 rfl rfl rfl (by decide +kernel) rfl (Nat.le_of_ble_eq_true rfl) ?_
  intro p e s m args below meth c Q A S w hA hN hZ hT hmn ret ls hl
  have hl : lv_has ls 2 [(0, .ref a0)] := hl
  have hb59 : ∀ (n9 : Nat) (L : List Nat) (g : xG) (v0 : Nat) (v1 : Int32), w_X7_init_59 t P n9 L g v0 v1 → ∀ (cz sl : Nat), cz + 14 * n9 ≤ 310 → sl + 2741 * n9 ≤ 21430 → ∀ (H : Heap) (locs : List Loc) (ls : Array Slot), xOK D cy A s.heap s L g H locs → lv_has ls 2 [(0, .ref v0), (1, .int v1)] → W p l e { frames := 4, cells := 310, slots := 21430, locals := 72 } s m args below meth c H locs cz sl Q (F0 m 59 ls []) := by
    intro n9
    induction n9 with
    | zero => intro L g v0 v1 h; exact h.elim
    | succ n9 ih =>
      intro L g v0 v1 h cz sl hcz hsl H locs ls w hl
      rw [w_X7_init_59] at h
      refine lv_iload_n S.1 S.2.1 dX7_init_59 rfl (lv_at hl 1 rfl) ?_
      refine lv_bipush (v := 6) S.1 S.2.1 dX7_init_60 (by decide) ?_
      refine lv_icmp_ge (tgt := 85) S.1 S.2.1 dX7_init_62 (by decide) (fun c62 => ?_) (fun c62 => ?_)
      · rw [if_pos c62] at h
        refine lv_aload_n S.1 S.2.1 dX7_init_85 rfl (lv_at hl 0 rfl) ?_
        refine lv_iconst (v := 3) S.1 S.2.1 dX7_init_86 (by decide) ?_
        obtain ⟨_, h1, h⟩ := h
        obtain ⟨g3, h2, h⟩ := h
        refine xr_callV_v S w hA hN 8 rfl h1 (c_X7_startWith l D cy L g v0 3 h2) (cwV 1 S.2.2.2.2 gX7_init_X7_startWith rfl rfl rfl (by decide +kernel) ⟨Nat.le_of_ble_eq_true rfl, Nat.le_of_ble_eq_true rfl⟩) rfl rfl hl.1 (Nat.le_of_ble_eq_true rfl) dX7_init_87 ⟨show _ ≤ 310 from by omega, show _ ≤ 21430 from by omega⟩ (fun H locs w => ?_)
        exact ret _ _ _ _ _ _ _ _ h w dX7_init_90 ⟨show _ ≤ 310 from by omega, show _ ≤ 21430 from by omega⟩
      · rw [if_neg c62] at h
        refine lv_aload_n S.1 S.2.1 dX7_init_65 rfl (lv_at hl 0 rfl) ?_
        obtain ⟨x4, h5, h⟩ := h
        refine xr_getr S w 8 xi_X7_init_X7 rfl 1 (by decide) xl_X7_init_11 h5 dX7_init_66 ?_
        refine lv_iload_n S.1 S.2.1 dX7_init_69 rfl (lv_at hl 1 rfl) ?_
        refine xr_new S w hA 5 xi_X7_init_X4 rfl tyX4 tyX4_ok xk_X7_init_9 xst_X7_init_9 xni_X7_init_9 [.int 0, .null, .null, .null, .null, .null, .int 0, .int 0] (fun j hj => by rcases (show j = 0 ∨ j = 1 ∨ j = 2 ∨ j = 3 ∨ j = 4 ∨ j = 5 ∨ j = 6 ∨ j = 7 by omega) with rfl | rfl | rfl | rfl | rfl | rfl | rfl | rfl <;> rfl) dX7_init_70 ⟨show _ ≤ 310 from by omega, show _ ≤ 21430 from by omega⟩ (fun q6 L6 g6 H e6a e6b e6c w => ?_)
        replace h := h q6 L6 g6 e6a e6b e6c
        refine lv_dup S.1 S.2.1 dX7_init_73 rfl ?_
        refine lv_iload_n S.1 S.2.1 dX7_init_74 rfl (lv_at hl 1 rfl) ?_
        refine xr_callYI_v S w hA hN hZ hT (c_X4_init l D cy t L6 g6 q6 v1 _ h) (cwI 1 S.2.2.2.2 gX7_init_X4_init rfl rfl rfl (S.2.2.2.2 _ (by decide +kernel)) (S.2.2.2.2 _ (by decide +kernel)) (S.2.2.2.2 _ (by decide +kernel)) rfl (by decide +kernel) ⟨Nat.le_of_ble_eq_true rfl, Nat.le_of_ble_eq_true rfl⟩) rfl rfl hl.1 (Nat.le_of_ble_eq_true rfl) dX7_init_75 ⟨show _ ≤ 310 from by omega, show _ ≤ 21430 from by omega⟩ (fun L7 g7 H locs h w => ?_)
        obtain ⟨g8, h9, h⟩ := h
        refine xr_aast S w 5 5 (r := (RX4, TX4, 8)) (fun _ => rfl) rfl h9 dX7_init_78 (fun H locs w => ?_)
        refine lv_iinc (v := (v1 + 1)) (lv' := [(1, .int (v1 + 1)), (0, .ref v0)]) S.1 S.2.1 dX7_init_79 hl (k := 1) rfl rfl (by decide) rfl (fun ls hl => ?_)
        refine lv_goto (tgt := 59) S.1 S.2.1 dX7_init_82 (by decide) ?_
        exact ih L7 g8 v0 (v1 + 1) h _ _ (by omega) (by omega) _ _ _ w (lv_sub hl [1, 0] rfl)
  rw [w_X7_init] at h
  refine lv_aload_n S.1 S.2.1 dX7_init_0 rfl (lv_at hl 0 rfl) ?_
  refine xr_obj S xo0_X7_init xo1_X7_init xo2_X7_init hl.1 dX7_init_1 (Nat.le_of_ble_eq_true rfl) (Nat.le_of_ble_eq_true rfl) ?_
  refine lv_aload_n S.1 S.2.1 dX7_init_4 rfl (lv_at hl 0 rfl) ?_
  refine lv_bipush (v := 6) S.1 S.2.1 dX7_init_5 (by decide) ?_
  refine xr_newq S w hA 5 "TellTale$Node" xk_X7_init_9 hN.2.2.2.2.2.2.2.2.2.2.2.2.2.2.1 (fun _ => rfl) 6 (by decide) (by decide) (by decide) dX7_init_7 ⟨Nat.le_of_ble_eq_true rfl, Nat.le_of_ble_eq_true rfl⟩ (fun q10 L10 g10 H e10a e10b e10c w => ?_)
  replace h := h q10 L10 g10 e10a e10b e10c
  obtain ⟨g11, h12, h⟩ := h
  refine xr_putF S w (hmn.trans rfl) 8 xi_X7_init_X7 rfl tyX7 tyX7_ok nmX7 1 (by decide) xl_X7_init_11 rfl rfl _ (tyX7_ok 1 (by decide)) rfl rfl h12 dX7_init_10 (fun H locs w => ?_)
  refine lv_aload_n S.1 S.2.1 dX7_init_13 rfl (lv_at hl 0 rfl) ?_
  refine xr_new S w hA 6 xi_X7_init_X5 rfl tyX5 tyX5_ok xk_X7_init_15 xst_X7_init_15 xni_X7_init_15 [.int 0, .int 0, .null, .null] (fun j hj => by rcases (show j = 0 ∨ j = 1 ∨ j = 2 ∨ j = 3 by omega) with rfl | rfl | rfl | rfl <;> rfl) dX7_init_14 ⟨Nat.le_of_ble_eq_true rfl, Nat.le_of_ble_eq_true rfl⟩ (fun q13 L13 g13 H e13a e13b e13c w => ?_)
  replace h := h q13 L13 g13 e13a e13b e13c
  refine lv_dup S.1 S.2.1 dX7_init_17 rfl ?_
  refine xr_callYI_v S w hA hN hZ hT (c_X5_init l D cy t L13 g13 q13 _ h) (cwI 0 S.2.2.2.2 gX7_init_X5_init rfl rfl rfl (S.2.2.2.2 _ (by decide +kernel)) (S.2.2.2.2 _ (by decide +kernel)) (S.2.2.2.2 _ (by decide +kernel)) rfl (by decide +kernel) ⟨Nat.le_of_ble_eq_true rfl, Nat.le_of_ble_eq_true rfl⟩) rfl rfl hl.1 (Nat.le_of_ble_eq_true rfl) dX7_init_18 ⟨Nat.le_of_ble_eq_true rfl, Nat.le_of_ble_eq_true rfl⟩ (fun L14 g14 H locs h w => ?_)
  obtain ⟨g15, h16, h⟩ := h
  refine xr_putF S w (hmn.trans rfl) 8 xi_X7_init_X7 rfl tyX7 tyX7_ok nmX7 2 (by decide) xl_X7_init_18 rfl rfl _ (tyX7_ok 2 (by decide)) rfl rfl h16 dX7_init_21 (fun H locs w => ?_)
  refine lv_aload_n S.1 S.2.1 dX7_init_24 rfl (lv_at hl 0 rfl) ?_
  refine xr_new S w hA 0 xi_X7_init_Jx4a65c rfl tyJx4a65c tyJx4a65c_ok xk_X7_init_22 xst_X7_init_22 xni_X7_init_22 [.int 0, .null, .int 0] (fun j hj => by rcases (show j = 0 ∨ j = 1 ∨ j = 2 by omega) with rfl | rfl | rfl <;> rfl) dX7_init_25 ⟨Nat.le_of_ble_eq_true rfl, Nat.le_of_ble_eq_true rfl⟩ (fun q17 L17 g17 H e17a e17b e17c w => ?_)
  replace h := h q17 L17 g17 e17a e17b e17c
  refine lv_dup S.1 S.2.1 dX7_init_28 rfl ?_
  refine xr_callYI_v S w hA hN hZ hT (c_Jx4a65c_init_da8c8 l D cy t L17 g17 q17 _ h) (cwI 0 S.2.2.2.2 gX7_init_Jx4a65c_init_da8c8 rfl rfl rfl (S.2.2.2.2 _ (by decide +kernel)) (S.2.2.2.2 _ (by decide +kernel)) (S.2.2.2.2 _ (by decide +kernel)) rfl (by decide +kernel) ⟨Nat.le_of_ble_eq_true rfl, Nat.le_of_ble_eq_true rfl⟩) rfl rfl hl.1 (Nat.le_of_ble_eq_true rfl) dX7_init_29 ⟨Nat.le_of_ble_eq_true rfl, Nat.le_of_ble_eq_true rfl⟩ (fun L18 g18 H locs h w => ?_)
  obtain ⟨g19, h20, h⟩ := h
  refine xr_putF S w (hmn.trans rfl) 8 xi_X7_init_X7 rfl tyX7 tyX7_ok nmX7 3 (by decide) xl_X7_init_25 rfl rfl _ (tyX7_ok 3 (by decide)) rfl rfl h20 dX7_init_32 (fun H locs w => ?_)
  refine lv_aload_n S.1 S.2.1 dX7_init_35 rfl (lv_at hl 0 rfl) ?_
  refine xr_new S w hA 4 xi_X7_init_X3 rfl tyX3 tyX3_ok xk_X7_init_29 xst_X7_init_29 xni_X7_init_29 [.int 0, .int 0, .int 0, .int 0, .int 0, .int 0, .int 0] (fun j hj => by rcases (show j = 0 ∨ j = 1 ∨ j = 2 ∨ j = 3 ∨ j = 4 ∨ j = 5 ∨ j = 6 by omega) with rfl | rfl | rfl | rfl | rfl | rfl | rfl <;> rfl) dX7_init_36 ⟨Nat.le_of_ble_eq_true rfl, Nat.le_of_ble_eq_true rfl⟩ (fun q21 L21 g21 H e21a e21b e21c w => ?_)
  replace h := h q21 L21 g21 e21a e21b e21c
  refine lv_dup S.1 S.2.1 dX7_init_39 rfl ?_
  refine xr_callYIN_v S w hA hN hZ hT (c_X3_init l D cy t L21 g21 q21 _ h) ⟨va_cnB 0 S.2.2.2.2 gX7_init_X3_init_n31 rfl rfl rfl hN.2.1 (S.2.2.2.2 _ (by decide +kernel)) (by decide +kernel) ⟨Nat.le_of_ble_eq_true rfl, Nat.le_of_ble_eq_true rfl⟩, rfl, (S.2.2.2.2 _ (by decide +kernel))⟩ rfl rfl hl.1 (Nat.le_of_ble_eq_true rfl) dX7_init_40 ⟨Nat.le_of_ble_eq_true rfl, Nat.le_of_ble_eq_true rfl⟩ (fun L22 g22 H locs h w => ?_)
  obtain ⟨g23, h24, h⟩ := h
  refine xr_putF S w (hmn.trans rfl) 8 xi_X7_init_X7 rfl tyX7 tyX7_ok nmX7 5 (by decide) xl_X7_init_32 rfl rfl _ (tyX7_ok 5 (by decide)) rfl rfl h24 dX7_init_43 (fun H locs w => ?_)
  refine lv_aload_n S.1 S.2.1 dX7_init_46 rfl (lv_at hl 0 rfl) ?_
  refine xr_new S w hA 3 xi_X7_init_X2 rfl tyX2 tyX2_ok xk_X7_init_36 xst_X7_init_36 xni_X7_init_36 [.int 0, .null, .null, .null, .null] (fun j hj => by rcases (show j = 0 ∨ j = 1 ∨ j = 2 ∨ j = 3 ∨ j = 4 by omega) with rfl | rfl | rfl | rfl | rfl <;> rfl) dX7_init_47 ⟨Nat.le_of_ble_eq_true rfl, Nat.le_of_ble_eq_true rfl⟩ (fun q25 L25 g25 H e25a e25b e25c w => ?_)
  replace h := h q25 L25 g25 e25a e25b e25c
  refine lv_dup S.1 S.2.1 dX7_init_50 rfl ?_
  refine xr_callYIN_v S w hA hN hZ hT (c_X2_init l D cy t L25 g25 q25 _ h) ⟨va_cnB 0 S.2.2.2.2 gX7_init_X2_init_n38 rfl rfl rfl hN.2.2.1 (S.2.2.2.2 _ (by decide +kernel)) (by decide +kernel) ⟨Nat.le_of_ble_eq_true rfl, Nat.le_of_ble_eq_true rfl⟩, rfl, (S.2.2.2.2 _ (by decide +kernel))⟩ rfl rfl hl.1 (Nat.le_of_ble_eq_true rfl) dX7_init_51 ⟨Nat.le_of_ble_eq_true rfl, Nat.le_of_ble_eq_true rfl⟩ (fun L26 g26 H locs h w => ?_)
  obtain ⟨g27, h28, h⟩ := h
  refine xr_putF S w (hmn.trans rfl) 8 xi_X7_init_X7 rfl tyX7 tyX7_ok nmX7 6 (by decide) xl_X7_init_39 rfl rfl _ (tyX7_ok 6 (by decide)) rfl rfl h28 dX7_init_54 (fun H locs w => ?_)
  refine lv_iconst (v := 0) S.1 S.2.1 dX7_init_57 (by decide) ?_
  refine lv_istore_n (lv' := [(1, .int 0), (0, .ref a0)]) S.1 S.2.1 dX7_init_58 rfl hl (by decide) rfl (fun ls hl => ?_)
  exact hb59 7 L26 g27 a0 0 h _ _ (Nat.le_of_ble_eq_true rfl) (Nat.le_of_ble_eq_true rfl) _ _ _ w (lv_sub hl [1, 0] rfl)
theorem xi_X7_newPiece_X7 : ∀ w ∈ wsX70, w ∈ wsX7_newPiece := by decide +kernel
theorem xl_X7_newPiece_149 : Cond.fieldLink RX7 149 (TX7 4).1 (TX7 4).2.1 (TX7 4).2.2.1 ∈ wsX7_newPiece := by decide +kernel
theorem xl_X7_newPiece_25 : Cond.fieldLink RX7 25 (TX7 3).1 (TX7 3).2.1 (TX7 3).2.2.1 ∈ wsX7_newPiece := by decide +kernel
theorem xk_X7_newPiece_166 : Cond.classLink RX7 166 RX0 ∈ wsX7_newPiece := by decide +kernel
theorem xi_X7_newPiece_X0 : ∀ w ∈ wsX00, w ∈ wsX7_newPiece := by decide +kernel
theorem xl_X7_newPiece_329 : Cond.fieldLink RX7 329 (TX0 0).1 (TX0 0).2.1 (TX0 0).2.2.1 ∈ wsX7_newPiece := by decide +kernel
theorem xst_X7_newPiece_166 : Cond.instantiable RX0 2 ∈ wsX7_newPiece := by decide +kernel
theorem xni_X7_newPiece_166 : Cond.initialized RX0 ∈ wsX7_newPiece := by decide +kernel
def w_X7_newPiece (t : Nat) (P : Nat → List Nat → xG → Prop) (L : List Nat) (g : xG) (a0 : Nat) : Prop :=
  ∃ x1, (xg_i g 8 a0 4) = some x1 ∧
  ∃ x3, (xg_r g 8 a0 3) = some x3 ∧
  ∃ u9, (xk g 0 x3) = some u9 ∧
  ∃ x7, (f_Jx4a65c_size_8abf5 g x3) = some x7 ∧
  if x1 = x7 then
    ∃ x22, (xg_r g 8 a0 3) = some x22 ∧
    ∀ (q24 : Nat) (L24 : List Nat) (g24 : xG), q24 ∉ L → L24 = L ++ [q24] → g24 = va_up g q24 (.inr (1, [.int 0, .null])) →
    w_X0_init (fun L25 g25 =>
      ∃ u9, (xk g25 0 x22) = some u9 ∧
      w_Jx4a65c_add_9ea2d t (fun x27 L27 g27 =>
        ∃ x28, (xg_r g27 8 a0 3) = some x28 ∧
        ∃ x30, (xg_i g27 8 a0 4) = some x30 ∧
        ∃ u9, (xk g27 0 x28) = some u9 ∧
        ∃ x34, (f_Jx4a65c_get_915e3 g27 x28 x30) = some x34 ∧
        ∃ u9, (xk g27 1 x34) = some u9 ∧
        ∃ g36, (xp_i g27 1 x34 0 0) = some g36 ∧
        ∃ x38, (xg_i g36 8 a0 4) = some x38 ∧
        ∃ g40, (xp_i g36 8 a0 4 (x38 + 1)) = some g40 ∧
        P x34 L27 g40
      ) L25 g25 x22 q24
    ) L24 g24 q24
  else
    ∃ x8, (xg_r g 8 a0 3) = some x8 ∧
    ∃ x10, (xg_i g 8 a0 4) = some x10 ∧
    ∃ u9, (xk g 0 x8) = some u9 ∧
    ∃ x14, (f_Jx4a65c_get_915e3 g x8 x10) = some x14 ∧
    ∃ u9, (xk g 1 x14) = some u9 ∧
    ∃ g16, (xp_i g 1 x14 0 0) = some g16 ∧
    ∃ x18, (xg_i g16 8 a0 4) = some x18 ∧
    ∃ g20, (xp_i g16 8 a0 4 (x18 + 1)) = some g20 ∧
    P x14 L g20
set_option maxHeartbeats 4000000 in
set_option maxRecDepth 100000 in
theorem c_X7_newPiece (l : Launch) (D : va_G) (cy : Nat → ClassId) (t : Nat) (L : List Nat) (g : xG) (a0 : Nat) (P : Nat → List Nat → xG → Prop) (h : w_X7_newPiece t P L g a0) : xYr l yX7_newPiece wsX7_newPiece ({ frames := 7, cells := 4, slots := 1060, locals := 188 }) D cy t L g [.ref a0] P 4 1060 := by
  refine xma_r (cc := cX7_newPiece) (maxL := 2) (Or.inl ⟨_, rfl⟩) RX7 rfl rfl rfl (by decide +kernel) rfl (Nat.le_of_ble_eq_true rfl) ?_
  intro p e s m args below meth c Q A S w hA hN hZ hT hmn ret ls hl
  have hl : lv_has ls 2 [(0, .ref a0)] := hl
  rw [w_X7_newPiece] at h
  refine lv_aload_n S.1 S.2.1 dX7_newPiece_0 rfl (lv_at hl 0 rfl) ?_
  obtain ⟨x1, h2, h⟩ := h
  refine xr_geti S w 8 xi_X7_newPiece_X7 rfl 4 (by decide) xl_X7_newPiece_149 h2 dX7_newPiece_1 ?_
  refine lv_aload_n S.1 S.2.1 dX7_newPiece_4 rfl (lv_at hl 0 rfl) ?_
  obtain ⟨x3, h4, h⟩ := h
  refine xr_getr S w 8 xi_X7_newPiece_X7 rfl 3 (by decide) xl_X7_newPiece_25 h4 dX7_newPiece_5 ?_
  obtain ⟨_, h5, h⟩ := h
  obtain ⟨x7, h6, h⟩ := h
  refine xr_callV_i S w hA hN 0 rfl h5 (c_Jx4a65c_size_8abf5 l D cy L g x3 h6) (cwV 0 S.2.2.2.2 gX7_newPiece_Jx4a65c_size_8abf5 rfl rfl rfl (by decide +kernel) ⟨Nat.le_of_ble_eq_true rfl, Nat.le_of_ble_eq_true rfl⟩) rfl rfl hl.1 (Nat.le_of_ble_eq_true rfl) dX7_newPiece_8 ⟨Nat.le_of_ble_eq_true rfl, Nat.le_of_ble_eq_true rfl⟩ (fun H locs w => ?_)
  refine lv_icmp_ne (tgt := 29) S.1 S.2.1 dX7_newPiece_11 (by decide) (fun c11 => ?_) (fun c11 => ?_)
  · rw [if_neg c11] at h
    refine lv_aload_n S.1 S.2.1 dX7_newPiece_29 rfl (lv_at hl 0 rfl) ?_
    obtain ⟨x8, h9, h⟩ := h
    refine xr_getr S w 8 xi_X7_newPiece_X7 rfl 3 (by decide) xl_X7_newPiece_25 h9 dX7_newPiece_30 ?_
    refine lv_aload_n S.1 S.2.1 dX7_newPiece_33 rfl (lv_at hl 0 rfl) ?_
    obtain ⟨x10, h11, h⟩ := h
    refine xr_geti S w 8 xi_X7_newPiece_X7 rfl 4 (by decide) xl_X7_newPiece_149 h11 dX7_newPiece_34 ?_
    obtain ⟨_, h12, h⟩ := h
    obtain ⟨x14, h13, h⟩ := h
    refine xr_callV_r S w hA hN 0 rfl h12 (c_Jx4a65c_get_915e3 l D cy L g x8 x10 h13) (cwV 1 S.2.2.2.2 gX7_newPiece_Jx4a65c_get_915e3 rfl rfl rfl (by decide +kernel) ⟨Nat.le_of_ble_eq_true rfl, Nat.le_of_ble_eq_true rfl⟩) rfl rfl hl.1 (Nat.le_of_ble_eq_true rfl) dX7_newPiece_37 ⟨Nat.le_of_ble_eq_true rfl, Nat.le_of_ble_eq_true rfl⟩ (fun H locs w => ?_)
    obtain ⟨_, h15, h⟩ := h
    refine xr_cast S w 1 rfl xk_X7_newPiece_166 h15 dX7_newPiece_40 ?_
    refine lv_astore_n (lv' := [(1, .ref x14), (0, .ref a0)]) S.1 S.2.1 dX7_newPiece_43 rfl hl (by decide) rfl (fun ls hl => ?_)
    refine lv_aload_n S.1 S.2.1 dX7_newPiece_44 rfl (lv_at hl 0 rfl) ?_
    refine lv_iconst (v := 0) S.1 S.2.1 dX7_newPiece_45 (by decide) ?_
    obtain ⟨g16, h17, h⟩ := h
    refine xr_puti S w 1 xi_X7_newPiece_X0 rfl tyX0 tyX0_ok nmX0 0 (by decide) xl_X7_newPiece_329 rfl (tyX0_ok 0 (by decide)) h17 dX7_newPiece_46 (fun H locs w => ?_)
    refine lv_aload_n S.1 S.2.1 dX7_newPiece_49 rfl (lv_at hl 1 rfl) ?_
    refine lv_dup S.1 S.2.1 dX7_newPiece_50 rfl ?_
    obtain ⟨x18, h19, h⟩ := h
    refine xr_geti S w 8 xi_X7_newPiece_X7 rfl 4 (by decide) xl_X7_newPiece_149 h19 dX7_newPiece_51 ?_
    refine lv_iconst (v := 1) S.1 S.2.1 dX7_newPiece_54 (by decide) ?_
    refine lv_iadd S.1 S.2.1 dX7_newPiece_55 ?_
    obtain ⟨g20, h21, h⟩ := h
    refine xr_puti S w 8 xi_X7_newPiece_X7 rfl tyX7 tyX7_ok nmX7 4 (by decide) xl_X7_newPiece_149 rfl (tyX7_ok 4 (by decide)) h21 dX7_newPiece_56 (fun H locs w => ?_)
    refine lv_aload_n S.1 S.2.1 dX7_newPiece_59 rfl (lv_at hl 0 rfl) ?_
    exact ret _ _ _ _ _ _ _ _ _ h w dX7_newPiece_60 ⟨Nat.le_of_ble_eq_true rfl, Nat.le_of_ble_eq_true rfl⟩
  · rw [if_pos c11] at h
    refine lv_aload_n S.1 S.2.1 dX7_newPiece_14 rfl (lv_at hl 0 rfl) ?_
    obtain ⟨x22, h23, h⟩ := h
    refine xr_getr S w 8 xi_X7_newPiece_X7 rfl 3 (by decide) xl_X7_newPiece_25 h23 dX7_newPiece_15 ?_
    refine xr_new S w hA 1 xi_X7_newPiece_X0 rfl tyX0 tyX0_ok xk_X7_newPiece_166 xst_X7_newPiece_166 xni_X7_newPiece_166 [.int 0, .null] (fun j hj => by rcases (show j = 0 ∨ j = 1 by omega) with rfl | rfl <;> rfl) dX7_newPiece_18 ⟨Nat.le_of_ble_eq_true rfl, Nat.le_of_ble_eq_true rfl⟩ (fun q24 L24 g24 H e24a e24b e24c w => ?_)
    replace h := h q24 L24 g24 e24a e24b e24c
    refine lv_dup S.1 S.2.1 dX7_newPiece_21 rfl ?_
    refine xr_callYIN_v S w hA hN hZ hT (c_X0_init l D cy t L24 g24 q24 _ h) ⟨va_cnB 0 S.2.2.2.2 gX7_newPiece_X0_init_n324 rfl rfl rfl hN.2.2.2.2.2.2.2.1 (S.2.2.2.2 _ (by decide +kernel)) (by decide +kernel) ⟨Nat.le_of_ble_eq_true rfl, Nat.le_of_ble_eq_true rfl⟩, rfl, (S.2.2.2.2 _ (by decide +kernel))⟩ rfl rfl hl.1 (Nat.le_of_ble_eq_true rfl) dX7_newPiece_22 ⟨Nat.le_of_ble_eq_true rfl, Nat.le_of_ble_eq_true rfl⟩ (fun L25 g25 H locs h w => ?_)
    obtain ⟨_, h26, h⟩ := h
    refine xr_callYV_i S w hA hN hZ hT 0 rfl h26 (c_Jx4a65c_add_9ea2d l D cy t L25 g25 x22 q24 _ h) (cwV 1 S.2.2.2.2 gX7_newPiece_Jx4a65c_add_9ea2d rfl rfl rfl (by decide +kernel) ⟨Nat.le_of_ble_eq_true rfl, Nat.le_of_ble_eq_true rfl⟩) rfl rfl hl.1 (Nat.le_of_ble_eq_true rfl) dX7_newPiece_25 ⟨Nat.le_of_ble_eq_true rfl, Nat.le_of_ble_eq_true rfl⟩ (fun x27 L27 g27 H locs h w => ?_)
    refine lv_pop S.1 S.2.1 dX7_newPiece_28 rfl ?_
    refine lv_aload_n S.1 S.2.1 dX7_newPiece_29 rfl (lv_at hl 0 rfl) ?_
    obtain ⟨x28, h29, h⟩ := h
    refine xr_getr S w 8 xi_X7_newPiece_X7 rfl 3 (by decide) xl_X7_newPiece_25 h29 dX7_newPiece_30 ?_
    refine lv_aload_n S.1 S.2.1 dX7_newPiece_33 rfl (lv_at hl 0 rfl) ?_
    obtain ⟨x30, h31, h⟩ := h
    refine xr_geti S w 8 xi_X7_newPiece_X7 rfl 4 (by decide) xl_X7_newPiece_149 h31 dX7_newPiece_34 ?_
    obtain ⟨_, h32, h⟩ := h
    obtain ⟨x34, h33, h⟩ := h
    refine xr_callV_r S w hA hN 0 rfl h32 (c_Jx4a65c_get_915e3 l D cy L27 g27 x28 x30 h33) (cwV 1 S.2.2.2.2 gX7_newPiece_Jx4a65c_get_915e3 rfl rfl rfl (by decide +kernel) ⟨Nat.le_of_ble_eq_true rfl, Nat.le_of_ble_eq_true rfl⟩) rfl rfl hl.1 (Nat.le_of_ble_eq_true rfl) dX7_newPiece_37 ⟨Nat.le_of_ble_eq_true rfl, Nat.le_of_ble_eq_true rfl⟩ (fun H locs w => ?_)
    obtain ⟨_, h35, h⟩ := h
    refine xr_cast S w 1 rfl xk_X7_newPiece_166 h35 dX7_newPiece_40 ?_
    refine lv_astore_n (lv' := [(1, .ref x34), (0, .ref a0)]) S.1 S.2.1 dX7_newPiece_43 rfl hl (by decide) rfl (fun ls hl => ?_)
    refine lv_aload_n S.1 S.2.1 dX7_newPiece_44 rfl (lv_at hl 0 rfl) ?_
    refine lv_iconst (v := 0) S.1 S.2.1 dX7_newPiece_45 (by decide) ?_
    obtain ⟨g36, h37, h⟩ := h
    refine xr_puti S w 1 xi_X7_newPiece_X0 rfl tyX0 tyX0_ok nmX0 0 (by decide) xl_X7_newPiece_329 rfl (tyX0_ok 0 (by decide)) h37 dX7_newPiece_46 (fun H locs w => ?_)
    refine lv_aload_n S.1 S.2.1 dX7_newPiece_49 rfl (lv_at hl 1 rfl) ?_
    refine lv_dup S.1 S.2.1 dX7_newPiece_50 rfl ?_
    obtain ⟨x38, h39, h⟩ := h
    refine xr_geti S w 8 xi_X7_newPiece_X7 rfl 4 (by decide) xl_X7_newPiece_149 h39 dX7_newPiece_51 ?_
    refine lv_iconst (v := 1) S.1 S.2.1 dX7_newPiece_54 (by decide) ?_
    refine lv_iadd S.1 S.2.1 dX7_newPiece_55 ?_
    obtain ⟨g40, h41, h⟩ := h
    refine xr_puti S w 8 xi_X7_newPiece_X7 rfl tyX7 tyX7_ok nmX7 4 (by decide) xl_X7_newPiece_149 rfl (tyX7_ok 4 (by decide)) h41 dX7_newPiece_56 (fun H locs w => ?_)
    refine lv_aload_n S.1 S.2.1 dX7_newPiece_59 rfl (lv_at hl 0 rfl) ?_
    exact ret _ _ _ _ _ _ _ _ _ h w dX7_newPiece_60 ⟨Nat.le_of_ble_eq_true rfl, Nat.le_of_ble_eq_true rfl⟩
theorem xi_X7_writeFork_X6 : ∀ w ∈ wsX60, w ∈ wsX7_writeFork := by decide +kernel
theorem xl_X7_writeFork_259 : Cond.fieldLink RX7 259 (TX6 2).1 (TX6 2).2.1 (TX6 2).2.2.1 ∈ wsX7_writeFork := by decide +kernel
theorem xl_X7_writeFork_262 : Cond.fieldLink RX7 262 (TX6 3).1 (TX6 3).2.1 (TX6 3).2.2.1 ∈ wsX7_writeFork := by decide +kernel
theorem xi_X7_writeFork_X4 : ∀ w ∈ wsX40, w ∈ wsX7_writeFork := by decide +kernel
theorem xl_X7_writeFork_242 : Cond.fieldLink RX7 242 (TX4 0).1 (TX4 0).2.1 (TX4 0).2.2.1 ∈ wsX7_writeFork := by decide +kernel
def w_X7_writeFork (t : Nat) (P : List Nat → xG → Prop) (L : List Nat) (g : xG) (a0 : Nat) (a1 : Nat) (a2 : Nat) (a3 : Int32) : Prop :=
  ∃ u9, (xk g 8 a0) = some u9 ∧
  w_X7_newPiece t (fun x2 L2 g2 =>
    ∃ x3, (xg_r g2 7 a2 2) = some x3 ∧
    ∃ x5, (xa_i 1 g2 x3 a3) = some x5 ∧
    ∃ x7, (xg_r g2 7 a2 3) = some x7 ∧
    ∃ x9, (xa_l g2 x7 a3) = some x9 ∧
    ∃ g12, (f_X7_writeLog g2 x2 1 a1) = some g12 ∧
    ∃ u9, (xk g12 1 x2) = some u9 ∧
    ∃ g15, (f_X0_append g12 x2 (Int32.toInt64 x5) 2) = some g15 ∧
    ∃ u9, (xk g15 1 x2) = some u9 ∧
    ∃ g18, (f_X0_append g15 x2 x9 8) = some g18 ∧
    ∃ x19, (xg_i g18 5 a1 0) = some x19 ∧
    ∃ x22, (f_X7_signatureOf x19 x5 x9) = some x22 ∧
    ∃ u9, (xk g18 1 x2) = some u9 ∧
    ∃ g25, (f_X0_append g18 x2 x22 8) = some g25 ∧
    P L2 g25
  ) L g a0
set_option maxHeartbeats 4000000 in
set_option maxRecDepth 100000 in
theorem c_X7_writeFork (l : Launch) (D : va_G) (cy : Nat → ClassId) (t : Nat) (L : List Nat) (g : xG) (a0 : Nat) (a1 : Nat) (a2 : Nat) (a3 : Int32) (P : List Nat → xG → Prop) (h : w_X7_writeFork t P L g a0 a1 a2 a3) : xYv l yX7_writeFork wsX7_writeFork ({ frames := 8, cells := 4, slots := 1060, locals := 209 }) D cy t L g [.ref a0, .ref a1, .ref a2, .int a3] P 4 1060 := by
  refine xma_v (cc := cX7_writeFork) (maxL := 8) RX7 rfl rfl rfl (by decide +kernel) rfl (Nat.le_of_ble_eq_true rfl) ?_
  intro p e s m args below meth c Q A S w hA hN hZ hT hmn ret ls hl
  have hl : lv_has ls 8 [(0, .ref a0), (1, .ref a1), (2, .ref a2), (3, .int a3)] := hl
  rw [w_X7_writeFork] at h
  refine lv_aload_n S.1 S.2.1 dX7_writeFork_0 rfl (lv_at hl 0 rfl) ?_
  obtain ⟨_, h1, h⟩ := h
  refine xr_callYV_r S w hA hN hZ hT 8 rfl h1 (c_X7_newPiece l D cy t L g a0 _ h) (cwV 0 S.2.2.2.2 gX7_writeFork_X7_newPiece rfl rfl rfl (by decide +kernel) ⟨Nat.le_of_ble_eq_true rfl, Nat.le_of_ble_eq_true rfl⟩) rfl rfl hl.1 (Nat.le_of_ble_eq_true rfl) dX7_writeFork_1 ⟨Nat.le_of_ble_eq_true rfl, Nat.le_of_ble_eq_true rfl⟩ (fun x2 L2 g2 H locs h w => ?_)
  refine lv_astore (lv' := [(4, .ref x2), (0, .ref a0), (1, .ref a1), (2, .ref a2), (3, .int a3)]) S.1 S.2.1 dX7_writeFork_4 hl (by decide) rfl (fun ls hl => ?_)
  refine lv_aload_n S.1 S.2.1 dX7_writeFork_6 rfl (lv_at hl 3 rfl) ?_
  obtain ⟨x3, h4, h⟩ := h
  refine xr_getr S w 7 xi_X7_writeFork_X6 rfl 2 (by decide) xl_X7_writeFork_259 h4 dX7_writeFork_7 ?_
  refine lv_iload_n S.1 S.2.1 dX7_writeFork_10 rfl (lv_at hl 4 rfl) ?_
  obtain ⟨x5, h6, h⟩ := h
  refine xr_iald S w h6 dX7_writeFork_11 ?_
  refine lv_istore (lv' := [(5, .int x5), (4, .ref x2), (0, .ref a0), (1, .ref a1), (2, .ref a2), (3, .int a3)]) S.1 S.2.1 dX7_writeFork_12 hl (by decide) rfl (fun ls hl => ?_)
  refine lv_aload_n S.1 S.2.1 dX7_writeFork_14 rfl (lv_at hl 4 rfl) ?_
  obtain ⟨x7, h8, h⟩ := h
  refine xr_getr S w 7 xi_X7_writeFork_X6 rfl 3 (by decide) xl_X7_writeFork_262 h8 dX7_writeFork_15 ?_
  refine lv_iload_n S.1 S.2.1 dX7_writeFork_18 rfl (lv_at hl 5 rfl) ?_
  obtain ⟨x9, h10, h⟩ := h
  refine xr_lald S w h10 dX7_writeFork_19 ?_
  refine lv_lstore (lv' := [(6, .long x9), (5, .int x5), (4, .ref x2), (0, .ref a0), (1, .ref a1), (2, .ref a2), (3, .int a3)]) S.1 S.2.1 dX7_writeFork_20 hl (by decide) rfl (fun ls hl => ?_)
  refine lv_aload S.1 S.2.1 dX7_writeFork_22 (lv_at hl 2 rfl) ?_
  refine lv_iconst (v := 1) S.1 S.2.1 dX7_writeFork_24 (by decide) ?_
  refine lv_aload_n S.1 S.2.1 dX7_writeFork_25 rfl (lv_at hl 4 rfl) ?_
  obtain ⟨g12, h11, h⟩ := h
  refine xr_callS_v S w hA hN (c_X7_writeLog l D cy L2 g2 x2 1 a1 h11) (va_cwS 3 S.2.2.2.2 gX7_writeFork_X7_writeLog rfl rfl rfl (by decide +kernel) ⟨Nat.le_of_ble_eq_true rfl, Nat.le_of_ble_eq_true rfl⟩) rfl rfl hl.1 (Nat.le_of_ble_eq_true rfl) dX7_writeFork_26 ⟨Nat.le_of_ble_eq_true rfl, Nat.le_of_ble_eq_true rfl⟩ (fun H locs w => ?_)
  refine lv_aload S.1 S.2.1 dX7_writeFork_29 (lv_at hl 2 rfl) ?_
  refine lv_iload S.1 S.2.1 dX7_writeFork_31 (lv_at hl 1 rfl) ?_
  refine lv_i2l (v := (Int32.toInt64 x5)) S.1 S.2.1 dX7_writeFork_33 rfl ?_
  refine lv_iconst (v := 2) S.1 S.2.1 dX7_writeFork_34 (by decide) ?_
  obtain ⟨_, h13, h⟩ := h
  obtain ⟨g15, h14, h⟩ := h
  refine xr_callV_v S w hA hN 1 rfl h13 (c_X0_append l D cy L2 g12 x2 (Int32.toInt64 x5) 2 h14) (cwV 2 S.2.2.2.2 gX7_writeFork_X0_append rfl rfl rfl (by decide +kernel) ⟨Nat.le_of_ble_eq_true rfl, Nat.le_of_ble_eq_true rfl⟩) rfl rfl hl.1 (Nat.le_of_ble_eq_true rfl) dX7_writeFork_35 ⟨Nat.le_of_ble_eq_true rfl, Nat.le_of_ble_eq_true rfl⟩ (fun H locs w => ?_)
  refine lv_aload S.1 S.2.1 dX7_writeFork_38 (lv_at hl 2 rfl) ?_
  refine lv_lload S.1 S.2.1 dX7_writeFork_40 (lv_at hl 0 rfl) ?_
  refine lv_bipush (v := 8) S.1 S.2.1 dX7_writeFork_42 (by decide) ?_
  obtain ⟨_, h16, h⟩ := h
  obtain ⟨g18, h17, h⟩ := h
  refine xr_callV_v S w hA hN 1 rfl h16 (c_X0_append l D cy L2 g15 x2 x9 8 h17) (cwV 2 S.2.2.2.2 gX7_writeFork_X0_append rfl rfl rfl (by decide +kernel) ⟨Nat.le_of_ble_eq_true rfl, Nat.le_of_ble_eq_true rfl⟩) rfl rfl hl.1 (Nat.le_of_ble_eq_true rfl) dX7_writeFork_44 ⟨Nat.le_of_ble_eq_true rfl, Nat.le_of_ble_eq_true rfl⟩ (fun H locs w => ?_)
  refine lv_aload S.1 S.2.1 dX7_writeFork_47 (lv_at hl 2 rfl) ?_
  refine lv_aload_n S.1 S.2.1 dX7_writeFork_49 rfl (lv_at hl 4 rfl) ?_
  obtain ⟨x19, h20, h⟩ := h
  refine xr_geti S w 5 xi_X7_writeFork_X4 rfl 0 (by decide) xl_X7_writeFork_242 h20 dX7_writeFork_50 ?_
  refine lv_iload S.1 S.2.1 dX7_writeFork_53 (lv_at hl 1 rfl) ?_
  refine lv_lload S.1 S.2.1 dX7_writeFork_55 (lv_at hl 0 rfl) ?_
  obtain ⟨x22, h21, h⟩ := h
  refine xr_callS_l S w hA hN (c_X7_signatureOf l D cy L2 g18 x19 x5 x9 h21) (va_cwS 3 S.2.2.2.2 gX7_writeFork_X7_signatureOf rfl rfl rfl (by decide +kernel) ⟨Nat.le_of_ble_eq_true rfl, Nat.le_of_ble_eq_true rfl⟩) rfl rfl hl.1 (Nat.le_of_ble_eq_true rfl) dX7_writeFork_57 ⟨Nat.le_of_ble_eq_true rfl, Nat.le_of_ble_eq_true rfl⟩ (fun H locs w => ?_)
  refine lv_bipush (v := 8) S.1 S.2.1 dX7_writeFork_60 (by decide) ?_
  obtain ⟨_, h23, h⟩ := h
  obtain ⟨g25, h24, h⟩ := h
  refine xr_callV_v S w hA hN 1 rfl h23 (c_X0_append l D cy L2 g18 x2 x22 8 h24) (cwV 2 S.2.2.2.2 gX7_writeFork_X0_append rfl rfl rfl (by decide +kernel) ⟨Nat.le_of_ble_eq_true rfl, Nat.le_of_ble_eq_true rfl⟩) rfl rfl hl.1 (Nat.le_of_ble_eq_true rfl) dX7_writeFork_62 ⟨Nat.le_of_ble_eq_true rfl, Nat.le_of_ble_eq_true rfl⟩ (fun H locs w => ?_)
  exact ret _ _ _ _ _ _ _ _ h w dX7_writeFork_65 ⟨Nat.le_of_ble_eq_true rfl, Nat.le_of_ble_eq_true rfl⟩
def w_X7_writeRun (t : Nat) (P : List Nat → xG → Prop) (L : List Nat) (g : xG) (a0 : Nat) (a1 : Nat) (a2 : Int32) : Prop :=
  ∃ u9, (xk g 8 a0) = some u9 ∧
  w_X7_newPiece t (fun x2 L2 g2 =>
    ∃ g4, (f_X7_writeLog g2 x2 2 a1) = some g4 ∧
    ∃ u9, (xk g4 1 x2) = some u9 ∧
    ∃ g7, (f_X0_append g4 x2 (Int32.toInt64 a2) 2) = some g7 ∧
    P L2 g7
  ) L g a0
set_option maxHeartbeats 4000000 in
set_option maxRecDepth 100000 in
theorem c_X7_writeRun (l : Launch) (D : va_G) (cy : Nat → ClassId) (t : Nat) (L : List Nat) (g : xG) (a0 : Nat) (a1 : Nat) (a2 : Int32) (P : List Nat → xG → Prop) (h : w_X7_writeRun t P L g a0 a1 a2) : xYv l yX7_writeRun wsX7_writeRun ({ frames := 8, cells := 4, slots := 1060, locals := 209 }) D cy t L g [.ref a0, .ref a1, .int a2] P 4 1060 := by
  refine xma_v (cc := cX7_writeRun) (maxL := 4) RX7 rfl rfl rfl (by decide +kernel) rfl (Nat.le_of_ble_eq_true rfl) ?_
  intro p e s m args below meth c Q A S w hA hN hZ hT hmn ret ls hl
  have hl : lv_has ls 4 [(0, .ref a0), (1, .ref a1), (2, .int a2)] := hl
  rw [w_X7_writeRun] at h
  refine lv_aload_n S.1 S.2.1 dX7_writeRun_0 rfl (lv_at hl 0 rfl) ?_
  obtain ⟨_, h1, h⟩ := h
  refine xr_callYV_r S w hA hN hZ hT 8 rfl h1 (c_X7_newPiece l D cy t L g a0 _ h) (cwV 0 S.2.2.2.2 gX7_writeRun_X7_newPiece rfl rfl rfl (by decide +kernel) ⟨Nat.le_of_ble_eq_true rfl, Nat.le_of_ble_eq_true rfl⟩) rfl rfl hl.1 (Nat.le_of_ble_eq_true rfl) dX7_writeRun_1 ⟨Nat.le_of_ble_eq_true rfl, Nat.le_of_ble_eq_true rfl⟩ (fun x2 L2 g2 H locs h w => ?_)
  refine lv_astore_n (lv' := [(3, .ref x2), (0, .ref a0), (1, .ref a1), (2, .int a2)]) S.1 S.2.1 dX7_writeRun_4 rfl hl (by decide) rfl (fun ls hl => ?_)
  refine lv_aload_n S.1 S.2.1 dX7_writeRun_5 rfl (lv_at hl 0 rfl) ?_
  refine lv_iconst (v := 2) S.1 S.2.1 dX7_writeRun_6 (by decide) ?_
  refine lv_aload_n S.1 S.2.1 dX7_writeRun_7 rfl (lv_at hl 2 rfl) ?_
  obtain ⟨g4, h3, h⟩ := h
  refine xr_callS_v S w hA hN (c_X7_writeLog l D cy L2 g2 x2 2 a1 h3) (va_cwS 3 S.2.2.2.2 gX7_writeRun_X7_writeLog rfl rfl rfl (by decide +kernel) ⟨Nat.le_of_ble_eq_true rfl, Nat.le_of_ble_eq_true rfl⟩) rfl rfl hl.1 (Nat.le_of_ble_eq_true rfl) dX7_writeRun_8 ⟨Nat.le_of_ble_eq_true rfl, Nat.le_of_ble_eq_true rfl⟩ (fun H locs w => ?_)
  refine lv_aload_n S.1 S.2.1 dX7_writeRun_11 rfl (lv_at hl 0 rfl) ?_
  refine lv_iload_n S.1 S.2.1 dX7_writeRun_12 rfl (lv_at hl 3 rfl) ?_
  refine lv_i2l (v := (Int32.toInt64 a2)) S.1 S.2.1 dX7_writeRun_13 rfl ?_
  refine lv_iconst (v := 2) S.1 S.2.1 dX7_writeRun_14 (by decide) ?_
  obtain ⟨_, h5, h⟩ := h
  obtain ⟨g7, h6, h⟩ := h
  refine xr_callV_v S w hA hN 1 rfl h5 (c_X0_append l D cy L2 g4 x2 (Int32.toInt64 a2) 2 h6) (cwV 2 S.2.2.2.2 gX7_writeRun_X0_append rfl rfl rfl (by decide +kernel) ⟨Nat.le_of_ble_eq_true rfl, Nat.le_of_ble_eq_true rfl⟩) rfl rfl hl.1 (Nat.le_of_ble_eq_true rfl) dX7_writeRun_15 ⟨Nat.le_of_ble_eq_true rfl, Nat.le_of_ble_eq_true rfl⟩ (fun H locs w => ?_)
  exact ret _ _ _ _ _ _ _ _ h w dX7_writeRun_18 ⟨Nat.le_of_ble_eq_true rfl, Nat.le_of_ble_eq_true rfl⟩
theorem xi_X7_examine_X4 : ∀ w ∈ wsX40, w ∈ wsX7_examine := by decide +kernel
theorem xl_X7_examine_141 : Cond.fieldLink RX7 141 (TX4 7).1 (TX4 7).2.1 (TX4 7).2.2.1 ∈ wsX7_examine := by decide +kernel
theorem xl_X7_examine_242 : Cond.fieldLink RX7 242 (TX4 0).1 (TX4 0).2.1 (TX4 0).2.2.1 ∈ wsX7_examine := by decide +kernel
theorem xl_X7_examine_57 : Cond.fieldLink RX7 57 (TX4 2).1 (TX4 2).2.1 (TX4 2).2.2.1 ∈ wsX7_examine := by decide +kernel
theorem xi_X7_examine_X2 : ∀ w ∈ wsX20, w ∈ wsX7_examine := by decide +kernel
theorem xl_X7_examine_81 : Cond.fieldLink RX7 81 (TX2 0).1 (TX2 0).2.1 (TX2 0).2.2.1 ∈ wsX7_examine := by decide +kernel
theorem xl_X7_examine_192 : Cond.fieldLink RX7 192 (TX2 4).1 (TX2 4).2.1 (TX2 4).2.2.1 ∈ wsX7_examine := by decide +kernel
def w_X7_examine (t : Nat) (P : Int32 → List Nat → xG → Prop) (L : List Nat) (g : xG) (a0 : Nat) (a1 : Nat) (a2 : Nat) : Prop :=
  ∃ x1, (xg_i g 5 a2 7) = some x1 ∧
  if x1 = 0 then
    ∃ x3, (xg_i g 5 a2 0) = some x3 ∧
    ∃ x5, (xg_r g 5 a2 2) = some x5 ∧
    ∃ u9, (xk g 7 a1) = some u9 ∧
    ∃ x9, (f_X6_leastFork g a1 x3 x5) = some x9 ∧
    if x9 = (-1) then
      ∃ x10, (xg_i g 5 a2 0) = some x10 ∧
      ∃ x12, (xg_r g 5 a2 2) = some x12 ∧
      ∃ u9, (xk g 8 a0) = some u9 ∧
      ∃ x16 g17, (f_X7_firstWrong g a0 x10 x12) = some (x16, g17) ∧
      if x16 = (-1) then
        ∃ x18, (xg_i g17 5 a2 0) = some x18 ∧
        ∃ x20, (xg_r g17 5 a2 2) = some x20 ∧
        ∃ x22, (xg_i g17 3 x20 0) = some x22 ∧
        ∃ u9, (xk g17 7 a1) = some u9 ∧
        ∃ x26, (f_X6_keepsBeyond g17 a1 x18 x22) = some x26 ∧
        if x26 = 0 then
          ∃ x27, (xg_r g17 5 a2 2) = some x27 ∧
          ∃ x29, (xg_i g17 3 x27 0) = some x29 ∧
          if x29 ≤ 0 then
            P 0 L g17
          else
            ∃ x31, (xg_i g17 5 a2 0) = some x31 ∧
            ∃ x33, (xg_r g17 5 a2 2) = some x33 ∧
            ∃ x35, (xg_i g17 3 x33 0) = some x35 ∧
            ∃ x37, (xg_r g17 5 a2 2) = some x37 ∧
            ∃ x39, (xg_r g17 3 x37 4) = some x39 ∧
            ∃ x41, (xg_r g17 5 a2 2) = some x41 ∧
            ∃ x43, (xg_i g17 3 x41 0) = some x43 ∧
            ∃ x45, (xa_l g17 x39 x43) = some x45 ∧
            ∃ u9, (xk g17 7 a1) = some u9 ∧
            ∃ x49 g50, (f_X6_keep g17 a1 x31 x35 x45 0) = some (x49, g50) ∧
            P 0 L g50
        else
          P 1 L g17
      else
        ∃ u9, (xk g17 8 a0) = some u9 ∧
        w_X7_writeRun t (fun L52 g52 =>
          P 2 L52 g52
        ) L g17 a0 a2 x16
    else
      ∃ u9, (xk g 8 a0) = some u9 ∧
      w_X7_writeFork t (fun L54 g54 =>
        P 2 L54 g54
      ) L g a0 a2 a1 x9
  else
    P 1 L g
set_option maxHeartbeats 4000000 in
set_option maxRecDepth 100000 in
theorem c_X7_examine (l : Launch) (D : va_G) (cy : Nat → ClassId) (t : Nat) (L : List Nat) (g : xG) (a0 : Nat) (a1 : Nat) (a2 : Nat) (P : Int32 → List Nat → xG → Prop) (h : w_X7_examine t P L g a0 a1 a2) : xYi l yX7_examine wsX7_examine ({ frames := 9, cells := 8, slots := 2120, locals := 236 }) D cy t L g [.ref a0, .ref a1, .ref a2] P 8 2120 := by
  refine xma_i (cc := cX7_examine) (maxL := 5) RX7 rfl rfl rfl (by decide +kernel) rfl (Nat.le_of_ble_eq_true rfl) ?_
  intro p e s m args below meth c Q A S w hA hN hZ hT hmn ret ls hl
  have hl : lv_has ls 5 [(0, .ref a0), (1, .ref a1), (2, .ref a2)] := hl
  rw [w_X7_examine] at h
  refine lv_aload_n S.1 S.2.1 dX7_examine_0 rfl (lv_at hl 2 rfl) ?_
  obtain ⟨x1, h2, h⟩ := h
  refine xr_geti S w 5 xi_X7_examine_X4 rfl 7 (by decide) xl_X7_examine_141 h2 dX7_examine_1 ?_
  refine lv_if_eq (tgt := 9) S.1 S.2.1 dX7_examine_4 (by decide) (fun c4 => ?_) (fun c4 => ?_)
  · rw [if_pos c4] at h
    refine lv_aload_n S.1 S.2.1 dX7_examine_9 rfl (lv_at hl 1 rfl) ?_
    refine lv_aload_n S.1 S.2.1 dX7_examine_10 rfl (lv_at hl 2 rfl) ?_
    obtain ⟨x3, h4, h⟩ := h
    refine xr_geti S w 5 xi_X7_examine_X4 rfl 0 (by decide) xl_X7_examine_242 h4 dX7_examine_11 ?_
    refine lv_aload_n S.1 S.2.1 dX7_examine_14 rfl (lv_at hl 2 rfl) ?_
    obtain ⟨x5, h6, h⟩ := h
    refine xr_getr S w 5 xi_X7_examine_X4 rfl 2 (by decide) xl_X7_examine_57 h6 dX7_examine_15 ?_
    obtain ⟨_, h7, h⟩ := h
    obtain ⟨x9, h8, h⟩ := h
    refine xr_callV_i S w hA hN 7 rfl h7 (c_X6_leastFork l D cy L g a1 x3 x5 h8) (cwV 2 S.2.2.2.2 gX7_examine_X6_leastFork rfl rfl rfl (by decide +kernel) ⟨Nat.le_of_ble_eq_true rfl, Nat.le_of_ble_eq_true rfl⟩) rfl rfl hl.1 (Nat.le_of_ble_eq_true rfl) dX7_examine_18 ⟨Nat.le_of_ble_eq_true rfl, Nat.le_of_ble_eq_true rfl⟩ (fun H locs w => ?_)
    refine lv_istore_n (lv' := [(3, .int x9), (0, .ref a0), (1, .ref a1), (2, .ref a2)]) S.1 S.2.1 dX7_examine_21 rfl hl (by decide) rfl (fun ls hl => ?_)
    refine lv_iload_n S.1 S.2.1 dX7_examine_22 rfl (lv_at hl 0 rfl) ?_
    refine lv_iconst (v := (-1)) S.1 S.2.1 dX7_examine_23 (by decide) ?_
    refine lv_icmp_eq (tgt := 36) S.1 S.2.1 dX7_examine_24 (by decide) (fun c24 => ?_) (fun c24 => ?_)
    · rw [if_pos c24] at h
      refine lv_aload_n S.1 S.2.1 dX7_examine_36 rfl (lv_at hl 1 rfl) ?_
      refine lv_aload_n S.1 S.2.1 dX7_examine_37 rfl (lv_at hl 3 rfl) ?_
      obtain ⟨x10, h11, h⟩ := h
      refine xr_geti S w 5 xi_X7_examine_X4 rfl 0 (by decide) xl_X7_examine_242 h11 dX7_examine_38 ?_
      refine lv_aload_n S.1 S.2.1 dX7_examine_41 rfl (lv_at hl 3 rfl) ?_
      obtain ⟨x12, h13, h⟩ := h
      refine xr_getr S w 5 xi_X7_examine_X4 rfl 2 (by decide) xl_X7_examine_57 h13 dX7_examine_42 ?_
      obtain ⟨_, h14, h⟩ := h
      obtain ⟨x16, g17, h15, h⟩ := h
      refine xr_callV_i S w hA hN 8 rfl h14 (c_X7_firstWrong l D cy L g a0 x10 x12 h15) (cwV 2 S.2.2.2.2 gX7_examine_X7_firstWrong rfl rfl rfl (by decide +kernel) ⟨Nat.le_of_ble_eq_true rfl, Nat.le_of_ble_eq_true rfl⟩) rfl rfl hl.1 (Nat.le_of_ble_eq_true rfl) dX7_examine_45 ⟨Nat.le_of_ble_eq_true rfl, Nat.le_of_ble_eq_true rfl⟩ (fun H locs w => ?_)
      refine lv_istore (lv' := [(4, .int x16), (3, .int x9), (0, .ref a0), (1, .ref a1), (2, .ref a2)]) S.1 S.2.1 dX7_examine_48 hl (by decide) rfl (fun ls hl => ?_)
      refine lv_iload S.1 S.2.1 dX7_examine_50 (lv_at hl 0 rfl) ?_
      refine lv_iconst (v := (-1)) S.1 S.2.1 dX7_examine_52 (by decide) ?_
      refine lv_icmp_eq (tgt := 65) S.1 S.2.1 dX7_examine_53 (by decide) (fun c53 => ?_) (fun c53 => ?_)
      · rw [if_pos c53] at h
        refine lv_aload_n S.1 S.2.1 dX7_examine_65 rfl (lv_at hl 3 rfl) ?_
        refine lv_aload_n S.1 S.2.1 dX7_examine_66 rfl (lv_at hl 4 rfl) ?_
        obtain ⟨x18, h19, h⟩ := h
        refine xr_geti S w 5 xi_X7_examine_X4 rfl 0 (by decide) xl_X7_examine_242 h19 dX7_examine_67 ?_
        refine lv_aload_n S.1 S.2.1 dX7_examine_70 rfl (lv_at hl 4 rfl) ?_
        obtain ⟨x20, h21, h⟩ := h
        refine xr_getr S w 5 xi_X7_examine_X4 rfl 2 (by decide) xl_X7_examine_57 h21 dX7_examine_71 ?_
        obtain ⟨x22, h23, h⟩ := h
        refine xr_geti S w 3 xi_X7_examine_X2 rfl 0 (by decide) xl_X7_examine_81 h23 dX7_examine_74 ?_
        obtain ⟨_, h24, h⟩ := h
        obtain ⟨x26, h25, h⟩ := h
        refine xr_callV_i S w hA hN 7 rfl h24 (c_X6_keepsBeyond l D cy L g17 a1 x18 x22 h25) (cwV 2 S.2.2.2.2 gX7_examine_X6_keepsBeyond rfl rfl rfl (by decide +kernel) ⟨Nat.le_of_ble_eq_true rfl, Nat.le_of_ble_eq_true rfl⟩) rfl rfl hl.1 (Nat.le_of_ble_eq_true rfl) dX7_examine_77 ⟨Nat.le_of_ble_eq_true rfl, Nat.le_of_ble_eq_true rfl⟩ (fun H locs w => ?_)
        refine lv_if_eq (tgt := 85) S.1 S.2.1 dX7_examine_80 (by decide) (fun c80 => ?_) (fun c80 => ?_)
        · rw [if_pos c80] at h
          refine lv_aload_n S.1 S.2.1 dX7_examine_85 rfl (lv_at hl 4 rfl) ?_
          obtain ⟨x27, h28, h⟩ := h
          refine xr_getr S w 5 xi_X7_examine_X4 rfl 2 (by decide) xl_X7_examine_57 h28 dX7_examine_86 ?_
          obtain ⟨x29, h30, h⟩ := h
          refine xr_geti S w 3 xi_X7_examine_X2 rfl 0 (by decide) xl_X7_examine_81 h30 dX7_examine_89 ?_
          refine lv_if_le (tgt := 127) S.1 S.2.1 dX7_examine_92 (by decide) (fun c92 => ?_) (fun c92 => ?_)
          · rw [if_pos c92] at h
            refine lv_iconst (v := 0) S.1 S.2.1 dX7_examine_127 (by decide) ?_
            exact ret _ _ _ _ _ _ _ _ _ h w dX7_examine_128 ⟨Nat.le_of_ble_eq_true rfl, Nat.le_of_ble_eq_true rfl⟩
          · rw [if_neg c92] at h
            refine lv_aload_n S.1 S.2.1 dX7_examine_95 rfl (lv_at hl 3 rfl) ?_
            refine lv_aload_n S.1 S.2.1 dX7_examine_96 rfl (lv_at hl 4 rfl) ?_
            obtain ⟨x31, h32, h⟩ := h
            refine xr_geti S w 5 xi_X7_examine_X4 rfl 0 (by decide) xl_X7_examine_242 h32 dX7_examine_97 ?_
            refine lv_aload_n S.1 S.2.1 dX7_examine_100 rfl (lv_at hl 4 rfl) ?_
            obtain ⟨x33, h34, h⟩ := h
            refine xr_getr S w 5 xi_X7_examine_X4 rfl 2 (by decide) xl_X7_examine_57 h34 dX7_examine_101 ?_
            obtain ⟨x35, h36, h⟩ := h
            refine xr_geti S w 3 xi_X7_examine_X2 rfl 0 (by decide) xl_X7_examine_81 h36 dX7_examine_104 ?_
            refine lv_aload_n S.1 S.2.1 dX7_examine_107 rfl (lv_at hl 4 rfl) ?_
            obtain ⟨x37, h38, h⟩ := h
            refine xr_getr S w 5 xi_X7_examine_X4 rfl 2 (by decide) xl_X7_examine_57 h38 dX7_examine_108 ?_
            obtain ⟨x39, h40, h⟩ := h
            refine xr_getr S w 3 xi_X7_examine_X2 rfl 4 (by decide) xl_X7_examine_192 h40 dX7_examine_111 ?_
            refine lv_aload_n S.1 S.2.1 dX7_examine_114 rfl (lv_at hl 4 rfl) ?_
            obtain ⟨x41, h42, h⟩ := h
            refine xr_getr S w 5 xi_X7_examine_X4 rfl 2 (by decide) xl_X7_examine_57 h42 dX7_examine_115 ?_
            obtain ⟨x43, h44, h⟩ := h
            refine xr_geti S w 3 xi_X7_examine_X2 rfl 0 (by decide) xl_X7_examine_81 h44 dX7_examine_118 ?_
            obtain ⟨x45, h46, h⟩ := h
            refine xr_lald S w h46 dX7_examine_121 ?_
            refine lv_iconst (v := 0) S.1 S.2.1 dX7_examine_122 (by decide) ?_
            obtain ⟨_, h47, h⟩ := h
            obtain ⟨x49, g50, h48, h⟩ := h
            refine xr_callV_i S w hA hN 7 rfl h47 (c_X6_keep l D cy L g17 a1 x31 x35 x45 0 h48) (cwV 4 S.2.2.2.2 gX7_examine_X6_keep rfl rfl rfl (by decide +kernel) ⟨Nat.le_of_ble_eq_true rfl, Nat.le_of_ble_eq_true rfl⟩) rfl rfl hl.1 (Nat.le_of_ble_eq_true rfl) dX7_examine_123 ⟨Nat.le_of_ble_eq_true rfl, Nat.le_of_ble_eq_true rfl⟩ (fun H locs w => ?_)
            refine lv_pop S.1 S.2.1 dX7_examine_126 rfl ?_
            refine lv_iconst (v := 0) S.1 S.2.1 dX7_examine_127 (by decide) ?_
            exact ret _ _ _ _ _ _ _ _ _ h w dX7_examine_128 ⟨Nat.le_of_ble_eq_true rfl, Nat.le_of_ble_eq_true rfl⟩
        · rw [if_neg c80] at h
          refine lv_iconst (v := 1) S.1 S.2.1 dX7_examine_83 (by decide) ?_
          exact ret _ _ _ _ _ _ _ _ _ h w dX7_examine_84 ⟨Nat.le_of_ble_eq_true rfl, Nat.le_of_ble_eq_true rfl⟩
      · rw [if_neg c53] at h
        refine lv_aload_n S.1 S.2.1 dX7_examine_56 rfl (lv_at hl 2 rfl) ?_
        refine lv_aload_n S.1 S.2.1 dX7_examine_57 rfl (lv_at hl 4 rfl) ?_
        refine lv_iload S.1 S.2.1 dX7_examine_58 (lv_at hl 0 rfl) ?_
        obtain ⟨_, h51, h⟩ := h
        refine xr_callYV_v S w hA hN hZ hT 8 rfl h51 (c_X7_writeRun l D cy t L g17 a0 a2 x16 _ h) (cwV 2 S.2.2.2.2 gX7_examine_X7_writeRun rfl rfl rfl (by decide +kernel) ⟨Nat.le_of_ble_eq_true rfl, Nat.le_of_ble_eq_true rfl⟩) rfl rfl hl.1 (Nat.le_of_ble_eq_true rfl) dX7_examine_60 ⟨Nat.le_of_ble_eq_true rfl, Nat.le_of_ble_eq_true rfl⟩ (fun L52 g52 H locs h w => ?_)
        refine lv_iconst (v := 2) S.1 S.2.1 dX7_examine_63 (by decide) ?_
        exact ret _ _ _ _ _ _ _ _ _ h w dX7_examine_64 ⟨Nat.le_of_ble_eq_true rfl, Nat.le_of_ble_eq_true rfl⟩
    · rw [if_neg c24] at h
      refine lv_aload_n S.1 S.2.1 dX7_examine_27 rfl (lv_at hl 1 rfl) ?_
      refine lv_aload_n S.1 S.2.1 dX7_examine_28 rfl (lv_at hl 3 rfl) ?_
      refine lv_aload_n S.1 S.2.1 dX7_examine_29 rfl (lv_at hl 2 rfl) ?_
      refine lv_iload_n S.1 S.2.1 dX7_examine_30 rfl (lv_at hl 0 rfl) ?_
      obtain ⟨_, h53, h⟩ := h
      refine xr_callYV_v S w hA hN hZ hT 8 rfl h53 (c_X7_writeFork l D cy t L g a0 a2 a1 x9 _ h) (cwV 3 S.2.2.2.2 gX7_examine_X7_writeFork rfl rfl rfl (by decide +kernel) ⟨Nat.le_of_ble_eq_true rfl, Nat.le_of_ble_eq_true rfl⟩) rfl rfl hl.1 (Nat.le_of_ble_eq_true rfl) dX7_examine_31 ⟨Nat.le_of_ble_eq_true rfl, Nat.le_of_ble_eq_true rfl⟩ (fun L54 g54 H locs h w => ?_)
      refine lv_iconst (v := 2) S.1 S.2.1 dX7_examine_34 (by decide) ?_
      exact ret _ _ _ _ _ _ _ _ _ h w dX7_examine_35 ⟨Nat.le_of_ble_eq_true rfl, Nat.le_of_ble_eq_true rfl⟩
  · rw [if_neg c4] at h
    refine lv_iconst (v := 1) S.1 S.2.1 dX7_examine_7 (by decide) ?_
    exact ret _ _ _ _ _ _ _ _ _ h w dX7_examine_8 ⟨Nat.le_of_ble_eq_true rfl, Nat.le_of_ble_eq_true rfl⟩
theorem xi_X7_audit_X7 : ∀ w ∈ wsX70, w ∈ wsX7_audit := by decide +kernel
theorem xl_X7_audit_149 : Cond.fieldLink RX7 149 (TX7 4).1 (TX7 4).2.1 (TX7 4).2.2.1 ∈ wsX7_audit := by decide +kernel
theorem xl_X7_audit_11 : Cond.fieldLink RX7 11 (TX7 1).1 (TX7 1).2.1 (TX7 1).2.2.1 ∈ wsX7_audit := by decide +kernel
theorem xi_X7_audit_X4 : ∀ w ∈ wsX40, w ∈ wsX7_audit := by decide +kernel
theorem xl_X7_audit_152 : Cond.fieldLink RX7 152 (TX4 4).1 (TX4 4).2.1 (TX4 4).2.2.1 ∈ wsX7_audit := by decide +kernel
theorem xl_X7_audit_114 : Cond.fieldLink RX7 114 (TX4 3).1 (TX4 3).2.1 (TX4 3).2.2.1 ∈ wsX7_audit := by decide +kernel
def w_X7_audit (t : Nat) (P : (Nat ⊕ Int32) → List Nat → xG → Prop) (L : List Nat) (g : xG) (a0 : Nat) (a1 : Int32) (a2 : Int32) : Prop :=
  ∃ u9, (xk g 8 a0) = some u9 ∧
  ∃ x3, (f_X7_isNode g a0 a1) = some x3 ∧
  if x3 = 0 then
    P (.inl 1) L g
  else
    ∃ u9, (xk g 8 a0) = some u9 ∧
    ∃ x6, (f_X7_isNode g a0 a2) = some x6 ∧
    if x6 = 0 then
      P (.inl 1) L g
    else
      ∃ u9, (xk g 8 a0) = some u9 ∧
      ∃ x9, (f_X7_isWitness g a0 a1 a2) = some x9 ∧
      if x9 = 0 then
        P (.inl 1) L g
      else
        ∃ x10, (xg_i g 8 a0 4) = some x10 ∧
        if 40 ≤ x10 then
          P (.inl 2) L g
        else
          ∃ x12, (xg_r g 8 a0 1) = some x12 ∧
          ∃ x14, (xa_r 5 g x12 a1) = some x14 ∧
          ∃ x16, (xg_r g 5 x14 4) = some x16 ∧
          ∃ x18, (xa_i 1 g x16 a2) = some x18 ∧
          if x18 = 2 then
            ∃ x20, (xa_i 1 g x16 a2) = some x20 ∧
            P (.inr x20) L g
          else
            ∃ x22, (xg_r g 8 a0 1) = some x22 ∧
            ∃ x24, (xa_r 5 g x22 a1) = some x24 ∧
            ∃ x26, (xg_r g 5 x24 3) = some x26 ∧
            ∃ x28, (xg_r g 8 a0 1) = some x28 ∧
            ∃ x30, (xa_r 5 g x28 a2) = some x30 ∧
            ∃ u9, (xk g 8 a0) = some u9 ∧
            w_X7_examine t (fun x33 L33 g33 =>
              ∃ g34, (xs_i 1 g33 x16 a2 x33) = some g34 ∧
              ∃ x36, (xa_i 1 g34 x16 a2) = some x36 ∧
              P (.inr x36) L33 g34
            ) L g a0 x26 x30
set_option maxHeartbeats 4000000 in
set_option maxRecDepth 100000 in
theorem c_X7_audit (l : Launch) (hst : l.stackTraces = false) (D : va_G) (cy : Nat → ClassId) (t : Nat) (L : List Nat) (g : xG) (a0 : Nat) (a1 : Int32) (a2 : Int32) (P : (Nat ⊕ Int32) → List Nat → xG → Prop) (h : w_X7_audit t P L g a0 a1 a2) : xYx l yX7_audit wsX7_audit ({ frames := 10, cells := 10, slots := 2132, locals := 260 }) D cy t L g [.ref a0, .int a1, .int a2] P 10 2132 := by
  refine xma_x hst (cc := cX7_audit) (maxL := 4) RX7 rfl rfl rfl (by decide +kernel) rfl (Nat.le_of_ble_eq_true rfl) ?_
  intro p e s m args below meth c Q A S w hA hN hZ hT hmn ret out ls hl
  have hl : lv_has ls 4 [(0, .ref a0), (1, .int a1), (2, .int a2)] := hl
  rw [w_X7_audit] at h
  refine lv_aload_n S.1 S.2.1 dX7_audit_0 rfl (lv_at hl 0 rfl) ?_
  refine lv_iload_n S.1 S.2.1 dX7_audit_1 rfl (lv_at hl 1 rfl) ?_
  obtain ⟨_, h1, h⟩ := h
  obtain ⟨x3, h2, h⟩ := h
  refine xr_callV_i S w hA hN 8 rfl h1 (c_X7_isNode l D cy L g a0 a1 h2) (cwV 1 S.2.2.2.2 gX7_audit_X7_isNode rfl rfl rfl (by decide +kernel) ⟨Nat.le_of_ble_eq_true rfl, Nat.le_of_ble_eq_true rfl⟩) rfl rfl hl.1 (Nat.le_of_ble_eq_true rfl) dX7_audit_2 ⟨Nat.le_of_ble_eq_true rfl, Nat.le_of_ble_eq_true rfl⟩ (fun H locs w => ?_)
  refine lv_if_eq (tgt := 29) S.1 S.2.1 dX7_audit_5 (by decide) (fun c5 => ?_) (fun c5 => ?_)
  · rw [if_pos c5] at h
    refine lv_iconst (v := 0) S.1 S.2.1 dX7_audit_29 (by decide) ?_
    exact xr_need0 S hst w hA hN hZ gX7_audit_X7_need ⟨Nat.le_of_ble_eq_true rfl, Nat.le_of_ble_eq_true rfl⟩ hl.1 (Nat.le_of_ble_eq_true rfl) dX7_audit_30 ⟨Nat.le_of_ble_eq_true rfl, Nat.le_of_ble_eq_true rfl⟩ (by decide) (fun H locs q ce w hc hv hcl => out _ _ _ _ _ _ _ _ _ _ h w hc hv hcl ⟨Nat.le_of_ble_eq_true rfl, Nat.le_of_ble_eq_true rfl⟩)
  · rw [if_neg c5] at h
    refine lv_aload_n S.1 S.2.1 dX7_audit_8 rfl (lv_at hl 0 rfl) ?_
    refine lv_iload_n S.1 S.2.1 dX7_audit_9 rfl (lv_at hl 2 rfl) ?_
    obtain ⟨_, h4, h⟩ := h
    obtain ⟨x6, h5, h⟩ := h
    refine xr_callV_i S w hA hN 8 rfl h4 (c_X7_isNode l D cy L g a0 a2 h5) (cwV 1 S.2.2.2.2 gX7_audit_X7_isNode rfl rfl rfl (by decide +kernel) ⟨Nat.le_of_ble_eq_true rfl, Nat.le_of_ble_eq_true rfl⟩) rfl rfl hl.1 (Nat.le_of_ble_eq_true rfl) dX7_audit_10 ⟨Nat.le_of_ble_eq_true rfl, Nat.le_of_ble_eq_true rfl⟩ (fun H locs w => ?_)
    refine lv_if_eq (tgt := 29) S.1 S.2.1 dX7_audit_13 (by decide) (fun c13 => ?_) (fun c13 => ?_)
    · rw [if_pos c13] at h
      refine lv_iconst (v := 0) S.1 S.2.1 dX7_audit_29 (by decide) ?_
      exact xr_need0 S hst w hA hN hZ gX7_audit_X7_need ⟨Nat.le_of_ble_eq_true rfl, Nat.le_of_ble_eq_true rfl⟩ hl.1 (Nat.le_of_ble_eq_true rfl) dX7_audit_30 ⟨Nat.le_of_ble_eq_true rfl, Nat.le_of_ble_eq_true rfl⟩ (by decide) (fun H locs q ce w hc hv hcl => out _ _ _ _ _ _ _ _ _ _ h w hc hv hcl ⟨Nat.le_of_ble_eq_true rfl, Nat.le_of_ble_eq_true rfl⟩)
    · rw [if_neg c13] at h
      refine lv_aload_n S.1 S.2.1 dX7_audit_16 rfl (lv_at hl 0 rfl) ?_
      refine lv_iload_n S.1 S.2.1 dX7_audit_17 rfl (lv_at hl 1 rfl) ?_
      refine lv_iload_n S.1 S.2.1 dX7_audit_18 rfl (lv_at hl 2 rfl) ?_
      obtain ⟨_, h7, h⟩ := h
      obtain ⟨x9, h8, h⟩ := h
      refine xr_callV_i S w hA hN 8 rfl h7 (c_X7_isWitness l D cy L g a0 a1 a2 h8) (cwV 2 S.2.2.2.2 gX7_audit_X7_isWitness rfl rfl rfl (by decide +kernel) ⟨Nat.le_of_ble_eq_true rfl, Nat.le_of_ble_eq_true rfl⟩) rfl rfl hl.1 (Nat.le_of_ble_eq_true rfl) dX7_audit_19 ⟨Nat.le_of_ble_eq_true rfl, Nat.le_of_ble_eq_true rfl⟩ (fun H locs w => ?_)
      refine lv_if_eq (tgt := 29) S.1 S.2.1 dX7_audit_22 (by decide) (fun c22 => ?_) (fun c22 => ?_)
      · rw [if_pos c22] at h
        refine lv_iconst (v := 0) S.1 S.2.1 dX7_audit_29 (by decide) ?_
        exact xr_need0 S hst w hA hN hZ gX7_audit_X7_need ⟨Nat.le_of_ble_eq_true rfl, Nat.le_of_ble_eq_true rfl⟩ hl.1 (Nat.le_of_ble_eq_true rfl) dX7_audit_30 ⟨Nat.le_of_ble_eq_true rfl, Nat.le_of_ble_eq_true rfl⟩ (by decide) (fun H locs q ce w hc hv hcl => out _ _ _ _ _ _ _ _ _ _ h w hc hv hcl ⟨Nat.le_of_ble_eq_true rfl, Nat.le_of_ble_eq_true rfl⟩)
      · rw [if_neg c22] at h
        refine lv_iconst (v := 1) S.1 S.2.1 dX7_audit_25 (by decide) ?_
        refine lv_goto (tgt := 30) S.1 S.2.1 dX7_audit_26 (by decide) ?_
        refine xr_need1 S hst w hA hN hZ gX7_audit_X7_need ⟨Nat.le_of_ble_eq_true rfl, Nat.le_of_ble_eq_true rfl⟩ hl.1 (Nat.le_of_ble_eq_true rfl) dX7_audit_30 ⟨Nat.le_of_ble_eq_true rfl, Nat.le_of_ble_eq_true rfl⟩ (by decide) (fun H locs w => ?_)
        refine lv_aload_n S.1 S.2.1 dX7_audit_33 rfl (lv_at hl 0 rfl) ?_
        obtain ⟨x10, h11, h⟩ := h
        refine xr_geti S w 8 xi_X7_audit_X7 rfl 4 (by decide) xl_X7_audit_149 h11 dX7_audit_34 ?_
        refine lv_bipush (v := 40) S.1 S.2.1 dX7_audit_37 (by decide) ?_
        refine lv_icmp_ge (tgt := 46) S.1 S.2.1 dX7_audit_39 (by decide) (fun c39 => ?_) (fun c39 => ?_)
        · rw [if_pos c39] at h
          refine lv_iconst (v := 0) S.1 S.2.1 dX7_audit_46 (by decide) ?_
          exact xr_needState0 S hst w hA hN hZ gX7_audit_X7_needState ⟨Nat.le_of_ble_eq_true rfl, Nat.le_of_ble_eq_true rfl⟩ hl.1 (Nat.le_of_ble_eq_true rfl) dX7_audit_47 ⟨Nat.le_of_ble_eq_true rfl, Nat.le_of_ble_eq_true rfl⟩ (by decide) (fun H locs q ce w hc hv hcl => out _ _ _ _ _ _ _ _ _ _ h w hc hv hcl ⟨Nat.le_of_ble_eq_true rfl, Nat.le_of_ble_eq_true rfl⟩)
        · rw [if_neg c39] at h
          refine lv_iconst (v := 1) S.1 S.2.1 dX7_audit_42 (by decide) ?_
          refine lv_goto (tgt := 47) S.1 S.2.1 dX7_audit_43 (by decide) ?_
          refine xr_needState1 S hst w hA hN hZ gX7_audit_X7_needState ⟨Nat.le_of_ble_eq_true rfl, Nat.le_of_ble_eq_true rfl⟩ hl.1 (Nat.le_of_ble_eq_true rfl) dX7_audit_47 ⟨Nat.le_of_ble_eq_true rfl, Nat.le_of_ble_eq_true rfl⟩ (by decide) (fun H locs w => ?_)
          refine lv_aload_n S.1 S.2.1 dX7_audit_50 rfl (lv_at hl 0 rfl) ?_
          obtain ⟨x12, h13, h⟩ := h
          refine xr_getr S w 8 xi_X7_audit_X7 rfl 1 (by decide) xl_X7_audit_11 h13 dX7_audit_51 ?_
          refine lv_iload_n S.1 S.2.1 dX7_audit_54 rfl (lv_at hl 1 rfl) ?_
          obtain ⟨x14, h15, h⟩ := h
          refine xr_aald S w 5 "TellTale$Node" (fun _ => rfl) h15 dX7_audit_55 ?_
          obtain ⟨x16, h17, h⟩ := h
          refine xr_getr S w 5 xi_X7_audit_X4 rfl 4 (by decide) xl_X7_audit_152 h17 dX7_audit_56 ?_
          refine lv_astore_n (lv' := [(3, .ref x16), (0, .ref a0), (1, .int a1), (2, .int a2)]) S.1 S.2.1 dX7_audit_59 rfl hl (by decide) rfl (fun ls hl => ?_)
          refine lv_aload_n S.1 S.2.1 dX7_audit_60 rfl (lv_at hl 0 rfl) ?_
          refine lv_iload_n S.1 S.2.1 dX7_audit_61 rfl (lv_at hl 3 rfl) ?_
          obtain ⟨x18, h19, h⟩ := h
          refine xr_iald S w h19 dX7_audit_62 ?_
          refine lv_iconst (v := 2) S.1 S.2.1 dX7_audit_63 (by decide) ?_
          refine lv_icmp_eq (tgt := 89) S.1 S.2.1 dX7_audit_64 (by decide) (fun c64 => ?_) (fun c64 => ?_)
          · rw [if_pos c64] at h
            refine lv_aload_n S.1 S.2.1 dX7_audit_89 rfl (lv_at hl 0 rfl) ?_
            refine lv_iload_n S.1 S.2.1 dX7_audit_90 rfl (lv_at hl 3 rfl) ?_
            obtain ⟨x20, h21, h⟩ := h
            refine xr_iald S w h21 dX7_audit_91 ?_
            exact ret _ _ _ _ _ _ _ _ _ h w dX7_audit_92 ⟨Nat.le_of_ble_eq_true rfl, Nat.le_of_ble_eq_true rfl⟩
          · rw [if_neg c64] at h
            refine lv_aload_n S.1 S.2.1 dX7_audit_67 rfl (lv_at hl 0 rfl) ?_
            refine lv_iload_n S.1 S.2.1 dX7_audit_68 rfl (lv_at hl 3 rfl) ?_
            refine lv_aload_n S.1 S.2.1 dX7_audit_69 rfl (lv_at hl 1 rfl) ?_
            refine lv_aload_n S.1 S.2.1 dX7_audit_70 rfl (lv_at hl 1 rfl) ?_
            obtain ⟨x22, h23, h⟩ := h
            refine xr_getr S w 8 xi_X7_audit_X7 rfl 1 (by decide) xl_X7_audit_11 h23 dX7_audit_71 ?_
            refine lv_iload_n S.1 S.2.1 dX7_audit_74 rfl (lv_at hl 2 rfl) ?_
            obtain ⟨x24, h25, h⟩ := h
            refine xr_aald S w 5 "TellTale$Node" (fun _ => rfl) h25 dX7_audit_75 ?_
            obtain ⟨x26, h27, h⟩ := h
            refine xr_getr S w 5 xi_X7_audit_X4 rfl 3 (by decide) xl_X7_audit_114 h27 dX7_audit_76 ?_
            refine lv_aload_n S.1 S.2.1 dX7_audit_79 rfl (lv_at hl 1 rfl) ?_
            obtain ⟨x28, h29, h⟩ := h
            refine xr_getr S w 8 xi_X7_audit_X7 rfl 1 (by decide) xl_X7_audit_11 h29 dX7_audit_80 ?_
            refine lv_iload_n S.1 S.2.1 dX7_audit_83 rfl (lv_at hl 3 rfl) ?_
            obtain ⟨x30, h31, h⟩ := h
            refine xr_aald S w 5 "TellTale$Node" (fun _ => rfl) h31 dX7_audit_84 ?_
            obtain ⟨_, h32, h⟩ := h
            refine xr_callYV_i S w hA hN hZ hT 8 rfl h32 (c_X7_examine l D cy t L g a0 x26 x30 _ h) (cwV 2 S.2.2.2.2 gX7_audit_X7_examine rfl rfl rfl (by decide +kernel) ⟨Nat.le_of_ble_eq_true rfl, Nat.le_of_ble_eq_true rfl⟩) rfl rfl hl.1 (Nat.le_of_ble_eq_true rfl) dX7_audit_85 ⟨Nat.le_of_ble_eq_true rfl, Nat.le_of_ble_eq_true rfl⟩ (fun x33 L33 g33 H locs h w => ?_)
            obtain ⟨g34, h35, h⟩ := h
            refine xr_iast S w h35 dX7_audit_88 (fun H locs w => ?_)
            refine lv_aload_n S.1 S.2.1 dX7_audit_89 rfl (lv_at hl 0 rfl) ?_
            refine lv_iload_n S.1 S.2.1 dX7_audit_90 rfl (lv_at hl 3 rfl) ?_
            obtain ⟨x36, h37, h⟩ := h
            refine xr_iald S w h37 dX7_audit_91 ?_
            exact ret _ _ _ _ _ _ _ _ _ h w dX7_audit_92 ⟨Nat.le_of_ble_eq_true rfl, Nat.le_of_ble_eq_true rfl⟩
