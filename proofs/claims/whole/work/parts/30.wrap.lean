theorem xhk_L_open_13 : Cond.classLink RL 13 "java/lang/IllegalArgumentException" ∈ wsL_open := by decide +kernel
def w_L_open (P : Int32 → List Nat → xG → Prop) (L : List Nat) (g : xG) (a0 : Nat) (a1 : Int32) : Prop :=
  ∃ u9, (xk g 8 a0) = some u9 ∧
  ∃ oc, f_X7_open g a0 a1 = some oc ∧
  (∀ k : Nat, oc = .inl k → k = 1 ∧ P 1 L g) ∧
  ∀ (g2 : xG), oc = .inr g2 →
  P 0 L g2
set_option maxHeartbeats 4000000 in
set_option maxRecDepth 100000 in
theorem c_L_open (l : Launch) (hst : l.stackTraces = false) (D : va_G) (cy : Nat → ClassId) (t : Nat) (L : List Nat) (g : xG) (a0 : Nat) (a1 : Int32) (P : Int32 → List Nat → xG → Prop) (h : w_L_open P L g a0 a1) : xYi l yL_open wsL_open ({ frames := 8, cells := 1, slots := 6, locals := 131 }) D cy t L g [.ref a0, .int a1] P 1 6 := by
  refine xmh_i (cc := cL_open) (maxL := 3) RL rfl rfl rfl (by decide +kernel) rfl (Nat.le_of_ble_eq_true rfl) ?_
  intro p e s m args below meth c Q A S w hA hN hZ hT htab ret ls hl
  have hl : lv_has ls 3 [(0, .ref a0), (1, .int a1)] := hl
  rw [w_L_open] at h
  refine lv_aload_n S.1 S.2.1 dL_open_0 rfl (lv_at hl 0 rfl) ?_
  refine lv_iload_n S.1 S.2.1 dL_open_1 rfl (lv_at hl 1 rfl) ?_
  obtain ⟨_, h1, h⟩ := h
  obtain ⟨oc, hoc, hex, h⟩ := h
  refine xr_callXV_v S w hA hN hZ 8 rfl h1 (c_X7_open l hst D cy L g a0 a1 hoc) (cwV 1 S.2.2.2.2 gL_open_X7_open rfl rfl rfl (by decide +kernel) ⟨Nat.le_of_ble_eq_true rfl, Nat.le_of_ble_eq_true rfl⟩) rfl rfl hl.1 (Nat.le_of_ble_eq_true rfl) dL_open_2 ⟨Nat.le_of_ble_eq_true rfl, Nat.le_of_ble_eq_true rfl⟩ (fun k H locs q ce ho w hc hv hcl => ?_) (fun g2 H locs ho w => ?_)
  · have hex := hex k ho
    rcases hex with ⟨rfl, hP⟩
    · have h := hP
      refine vx_catch S.2.2.2.1 [] ⟨0, 5, 8, 13⟩ [] htab (fun z hz => absurd hz List.not_mem_nil) (by decide) (by decide) (S.2.2.2.2 _ xhk_L_open_13) (va_Nw.use rfl hN.2.2.2.2.2.2.2.2.1) hc hv hcl ?_
      refine lv_astore_n (lv' := [(2, .ref q), (0, .ref a0), (1, .int a1)]) S.1 S.2.1 dL_open_8 rfl hl (by decide) rfl (fun ls hl => ?_)
      refine lv_iconst (v := 1) S.1 S.2.1 dL_open_9 (by decide) ?_
      exact ret _ _ _ _ _ _ _ _ _ h w dL_open_10 ⟨Nat.le_of_ble_eq_true rfl, Nat.le_of_ble_eq_true rfl⟩
  replace h := h g2 ho
  refine lv_goto (tgt := 11) S.1 S.2.1 dL_open_5 (by decide) ?_
  refine lv_iconst (v := 0) S.1 S.2.1 dL_open_11 (by decide) ?_
  exact ret _ _ _ _ _ _ _ _ _ h w dL_open_12 ⟨Nat.le_of_ble_eq_true rfl, Nat.le_of_ble_eq_true rfl⟩
theorem xhk_L_input_13 : Cond.classLink RL 13 "java/lang/IllegalArgumentException" ∈ wsL_input := by decide +kernel
theorem xhk_L_input_19 : Cond.classLink RL 19 "java/lang/IllegalStateException" ∈ wsL_input := by decide +kernel
def w_L_input (P : Int32 → List Nat → xG → Prop) (L : List Nat) (g : xG) (a0 : Nat) (a1 : Int32) (a2 : Int32) (a3 : Nat) : Prop :=
  ∃ u9, (xk g 8 a0) = some u9 ∧
  ∃ oc, f_X7_input g a0 a1 a2 = some oc ∧
  (∀ k : Nat, oc = .inl k → k = 1 ∧ P 1 L g ∨ k = 2 ∧ P 2 L g) ∧
  ∀ (x2 : Int32) (g2 : xG), oc = .inr (x2, g2) →
  ∃ g3, (xs_l g2 a3 0 (Int32.toInt64 x2)) = some g3 ∧
  P 0 L g3
set_option maxHeartbeats 4000000 in
set_option maxRecDepth 100000 in
theorem c_L_input (l : Launch) (hst : l.stackTraces = false) (D : va_G) (cy : Nat → ClassId) (t : Nat) (L : List Nat) (g : xG) (a0 : Nat) (a1 : Int32) (a2 : Int32) (a3 : Nat) (P : Int32 → List Nat → xG → Prop) (h : w_L_input P L g a0 a1 a2 a3) : xYi l yL_input wsL_input ({ frames := 8, cells := 2, slots := 12, locals := 142 }) D cy t L g [.ref a0, .int a1, .int a2, .ref a3] P 2 12 := by
  refine xmh_i (cc := cL_input) (maxL := 5) RL rfl rfl rfl (by decide +kernel) rfl (Nat.le_of_ble_eq_true rfl) ?_
  intro p e s m args below meth c Q A S w hA hN hZ hT htab ret ls hl
  have hl : lv_has ls 5 [(0, .ref a0), (1, .int a1), (2, .int a2), (3, .ref a3)] := hl
  rw [w_L_input] at h
  refine lv_aload_n S.1 S.2.1 dL_input_0 rfl (lv_at hl 3 rfl) ?_
  refine lv_iconst (v := 0) S.1 S.2.1 dL_input_1 (by decide) ?_
  refine lv_aload_n S.1 S.2.1 dL_input_2 rfl (lv_at hl 0 rfl) ?_
  refine lv_iload_n S.1 S.2.1 dL_input_3 rfl (lv_at hl 1 rfl) ?_
  refine lv_iload_n S.1 S.2.1 dL_input_4 rfl (lv_at hl 2 rfl) ?_
  obtain ⟨_, h1, h⟩ := h
  obtain ⟨oc, hoc, hex, h⟩ := h
  refine xr_callXV_i S w hA hN hZ 8 rfl h1 (c_X7_input l hst D cy L g a0 a1 a2 hoc) (cwV 2 S.2.2.2.2 gL_input_X7_input rfl rfl rfl (by decide +kernel) ⟨Nat.le_of_ble_eq_true rfl, Nat.le_of_ble_eq_true rfl⟩) rfl rfl hl.1 (Nat.le_of_ble_eq_true rfl) dL_input_5 ⟨Nat.le_of_ble_eq_true rfl, Nat.le_of_ble_eq_true rfl⟩ (fun k H locs q ce ho w hc hv hcl => ?_) (fun x2 g2 H locs ho w => ?_)
  · have hex := hex k ho
    rcases hex with ⟨rfl, hP⟩ | ⟨rfl, hP⟩
    · have h := hP
      refine vx_catch S.2.2.2.1 [] ⟨0, 10, 13, 13⟩ [⟨0, 10, 17, 19⟩] htab (fun z hz => absurd hz List.not_mem_nil) (by decide) (by decide) (S.2.2.2.2 _ xhk_L_input_13) (va_Nw.use rfl hN.2.2.2.2.2.2.2.2.1) hc hv hcl ?_
      refine lv_astore (lv' := [(4, .ref q), (0, .ref a0), (1, .int a1), (2, .int a2), (3, .ref a3)]) S.1 S.2.1 dL_input_13 hl (by decide) rfl (fun ls hl => ?_)
      refine lv_iconst (v := 1) S.1 S.2.1 dL_input_15 (by decide) ?_
      exact ret _ _ _ _ _ _ _ _ _ h w dL_input_16 ⟨Nat.le_of_ble_eq_true rfl, Nat.le_of_ble_eq_true rfl⟩
    · have h := hP
      refine vx_catch S.2.2.2.1 [⟨0, 10, 13, 13⟩] ⟨0, 10, 17, 19⟩ [] htab (fun z hz => by rw [List.mem_singleton.mp hz]; exact Or.inr ⟨by decide, "java/lang/IllegalArgumentException", S.2.2.2.2 _ xhk_L_input_13, hN.2.2.2.2.2.2.2.2.2.2.2.2.2.2.2.2.2.2.2⟩) (by decide) (by decide) (S.2.2.2.2 _ xhk_L_input_19) (va_Nw.use rfl hN.2.2.2.2.2.2.2.2.2.1) hc hv hcl ?_
      refine lv_astore (lv' := [(4, .ref q), (0, .ref a0), (1, .int a1), (2, .int a2), (3, .ref a3)]) S.1 S.2.1 dL_input_17 hl (by decide) rfl (fun ls hl => ?_)
      refine lv_iconst (v := 2) S.1 S.2.1 dL_input_19 (by decide) ?_
      exact ret _ _ _ _ _ _ _ _ _ h w dL_input_20 ⟨Nat.le_of_ble_eq_true rfl, Nat.le_of_ble_eq_true rfl⟩
  replace h := h x2 g2 ho
  refine lv_i2l (v := (Int32.toInt64 x2)) S.1 S.2.1 dL_input_8 rfl ?_
  obtain ⟨g3, h4, h⟩ := h
  refine xr_last S w h4 dL_input_9 (fun H locs w => ?_)
  refine lv_goto (tgt := 21) S.1 S.2.1 dL_input_10 (by decide) ?_
  refine lv_iconst (v := 0) S.1 S.2.1 dL_input_21 (by decide) ?_
  exact ret _ _ _ _ _ _ _ _ _ h w dL_input_22 ⟨Nat.le_of_ble_eq_true rfl, Nat.le_of_ble_eq_true rfl⟩
theorem xhk_L_deliver_13 : Cond.classLink RL 13 "java/lang/IllegalArgumentException" ∈ wsL_deliver := by decide +kernel
def w_L_deliver (P : Int32 → List Nat → xG → Prop) (L : List Nat) (g : xG) (a0 : Nat) (a1 : Int32) (a2 : Nat) : Prop :=
  ∃ u9, (xk g 8 a0) = some u9 ∧
  ∃ oc, f_X7_deliver g a0 a1 = some oc ∧
  (∀ k : Nat, oc = .inl k → k = 1 ∧ P 1 L g) ∧
  ∀ (x2 : Int32) (g2 : xG), oc = .inr (x2, g2) →
  if x2 = 0 then
    ∃ g3, (xs_l g2 a2 0 0) = some g3 ∧
    P 0 L g3
  else
    ∃ g5, (xs_l g2 a2 0 1) = some g5 ∧
    P 0 L g5
set_option maxHeartbeats 4000000 in
set_option maxRecDepth 100000 in
theorem c_L_deliver (l : Launch) (hst : l.stackTraces = false) (D : va_G) (cy : Nat → ClassId) (t : Nat) (L : List Nat) (g : xG) (a0 : Nat) (a1 : Int32) (a2 : Nat) (P : Int32 → List Nat → xG → Prop) (h : w_L_deliver P L g a0 a1 a2) : xYi l yL_deliver wsL_deliver ({ frames := 8, cells := 1, slots := 6, locals := 166 }) D cy t L g [.ref a0, .int a1, .ref a2] P 1 6 := by
  refine xmh_i (cc := cL_deliver) (maxL := 4) RL rfl rfl rfl (by decide +kernel) rfl (Nat.le_of_ble_eq_true rfl) ?_
  intro p e s m args below meth c Q A S w hA hN hZ hT htab ret ls hl
  have hl : lv_has ls 4 [(0, .ref a0), (1, .int a1), (2, .ref a2)] := hl
  rw [w_L_deliver] at h
  refine lv_aload_n S.1 S.2.1 dL_deliver_0 rfl (lv_at hl 2 rfl) ?_
  refine lv_iconst (v := 0) S.1 S.2.1 dL_deliver_1 (by decide) ?_
  refine lv_aload_n S.1 S.2.1 dL_deliver_2 rfl (lv_at hl 0 rfl) ?_
  refine lv_iload_n S.1 S.2.1 dL_deliver_3 rfl (lv_at hl 1 rfl) ?_
  obtain ⟨_, h1, h⟩ := h
  obtain ⟨oc, hoc, hex, h⟩ := h
  refine xr_callXV_i S w hA hN hZ 8 rfl h1 (c_X7_deliver l hst D cy L g a0 a1 hoc) (cwV 1 S.2.2.2.2 gL_deliver_X7_deliver rfl rfl rfl (by decide +kernel) ⟨Nat.le_of_ble_eq_true rfl, Nat.le_of_ble_eq_true rfl⟩) rfl rfl hl.1 (Nat.le_of_ble_eq_true rfl) dL_deliver_4 ⟨Nat.le_of_ble_eq_true rfl, Nat.le_of_ble_eq_true rfl⟩ (fun k H locs q ce ho w hc hv hcl => ?_) (fun x2 g2 H locs ho w => ?_)
  · have hex := hex k ho
    rcases hex with ⟨rfl, hP⟩
    · have h := hP
      refine vx_catch S.2.2.2.1 [] ⟨0, 16, 19, 13⟩ [] htab (fun z hz => absurd hz List.not_mem_nil) (by decide) (by decide) (S.2.2.2.2 _ xhk_L_deliver_13) (va_Nw.use rfl hN.2.2.2.2.2.2.2.2.1) hc hv hcl ?_
      refine lv_astore_n (lv' := [(3, .ref q), (0, .ref a0), (1, .int a1), (2, .ref a2)]) S.1 S.2.1 dL_deliver_19 rfl hl (by decide) rfl (fun ls hl => ?_)
      refine lv_iconst (v := 1) S.1 S.2.1 dL_deliver_20 (by decide) ?_
      exact ret _ _ _ _ _ _ _ _ _ h w dL_deliver_21 ⟨Nat.le_of_ble_eq_true rfl, Nat.le_of_ble_eq_true rfl⟩
  replace h := h x2 g2 ho
  refine lv_if_eq (tgt := 14) S.1 S.2.1 dL_deliver_7 (by decide) (fun c7 => ?_) (fun c7 => ?_)
  · rw [if_pos c7] at h
    refine lv_lconst (v := 0) S.1 S.2.1 dL_deliver_14 (by decide) ?_
    obtain ⟨g3, h4, h⟩ := h
    refine xr_last S w h4 dL_deliver_15 (fun H locs w => ?_)
    refine lv_goto (tgt := 22) S.1 S.2.1 dL_deliver_16 (by decide) ?_
    refine lv_iconst (v := 0) S.1 S.2.1 dL_deliver_22 (by decide) ?_
    exact ret _ _ _ _ _ _ _ _ _ h w dL_deliver_23 ⟨Nat.le_of_ble_eq_true rfl, Nat.le_of_ble_eq_true rfl⟩
  · rw [if_neg c7] at h
    refine lv_lconst (v := 1) S.1 S.2.1 dL_deliver_10 (by decide) ?_
    refine lv_goto (tgt := 15) S.1 S.2.1 dL_deliver_11 (by decide) ?_
    obtain ⟨g5, h6, h⟩ := h
    refine xr_last S w h6 dL_deliver_15 (fun H locs w => ?_)
    refine lv_goto (tgt := 22) S.1 S.2.1 dL_deliver_16 (by decide) ?_
    refine lv_iconst (v := 0) S.1 S.2.1 dL_deliver_22 (by decide) ?_
    exact ret _ _ _ _ _ _ _ _ _ h w dL_deliver_23 ⟨Nat.le_of_ble_eq_true rfl, Nat.le_of_ble_eq_true rfl⟩
theorem xhk_L_drop_13 : Cond.classLink RL 13 "java/lang/IllegalArgumentException" ∈ wsL_drop := by decide +kernel
def w_L_drop (P : Int32 → List Nat → xG → Prop) (L : List Nat) (g : xG) (a0 : Nat) (a1 : Int32) (a2 : Nat) : Prop :=
  ∃ u9, (xk g 8 a0) = some u9 ∧
  ∃ oc, f_X7_drop g a0 a1 = some oc ∧
  (∀ k : Nat, oc = .inl k → k = 1 ∧ P 1 L g) ∧
  ∀ (x2 : Int32) (g2 : xG), oc = .inr (x2, g2) →
  ∃ g3, (xs_l g2 a2 0 (Int32.toInt64 x2)) = some g3 ∧
  P 0 L g3
set_option maxHeartbeats 4000000 in
set_option maxRecDepth 100000 in
theorem c_L_drop (l : Launch) (hst : l.stackTraces = false) (D : va_G) (cy : Nat → ClassId) (t : Nat) (L : List Nat) (g : xG) (a0 : Nat) (a1 : Int32) (a2 : Nat) (P : Int32 → List Nat → xG → Prop) (h : w_L_drop P L g a0 a1 a2) : xYi l yL_drop wsL_drop ({ frames := 8, cells := 1, slots := 6, locals := 131 }) D cy t L g [.ref a0, .int a1, .ref a2] P 1 6 := by
  refine xmh_i (cc := cL_drop) (maxL := 4) RL rfl rfl rfl (by decide +kernel) rfl (Nat.le_of_ble_eq_true rfl) ?_
  intro p e s m args below meth c Q A S w hA hN hZ hT htab ret ls hl
  have hl : lv_has ls 4 [(0, .ref a0), (1, .int a1), (2, .ref a2)] := hl
  rw [w_L_drop] at h
  refine lv_aload_n S.1 S.2.1 dL_drop_0 rfl (lv_at hl 2 rfl) ?_
  refine lv_iconst (v := 0) S.1 S.2.1 dL_drop_1 (by decide) ?_
  refine lv_aload_n S.1 S.2.1 dL_drop_2 rfl (lv_at hl 0 rfl) ?_
  refine lv_iload_n S.1 S.2.1 dL_drop_3 rfl (lv_at hl 1 rfl) ?_
  obtain ⟨_, h1, h⟩ := h
  obtain ⟨oc, hoc, hex, h⟩ := h
  refine xr_callXV_i S w hA hN hZ 8 rfl h1 (c_X7_drop l hst D cy L g a0 a1 hoc) (cwV 1 S.2.2.2.2 gL_drop_X7_drop rfl rfl rfl (by decide +kernel) ⟨Nat.le_of_ble_eq_true rfl, Nat.le_of_ble_eq_true rfl⟩) rfl rfl hl.1 (Nat.le_of_ble_eq_true rfl) dL_drop_4 ⟨Nat.le_of_ble_eq_true rfl, Nat.le_of_ble_eq_true rfl⟩ (fun k H locs q ce ho w hc hv hcl => ?_) (fun x2 g2 H locs ho w => ?_)
  · have hex := hex k ho
    rcases hex with ⟨rfl, hP⟩
    · have h := hP
      refine vx_catch S.2.2.2.1 [] ⟨0, 9, 12, 13⟩ [] htab (fun z hz => absurd hz List.not_mem_nil) (by decide) (by decide) (S.2.2.2.2 _ xhk_L_drop_13) (va_Nw.use rfl hN.2.2.2.2.2.2.2.2.1) hc hv hcl ?_
      refine lv_astore_n (lv' := [(3, .ref q), (0, .ref a0), (1, .int a1), (2, .ref a2)]) S.1 S.2.1 dL_drop_12 rfl hl (by decide) rfl (fun ls hl => ?_)
      refine lv_iconst (v := 1) S.1 S.2.1 dL_drop_13 (by decide) ?_
      exact ret _ _ _ _ _ _ _ _ _ h w dL_drop_14 ⟨Nat.le_of_ble_eq_true rfl, Nat.le_of_ble_eq_true rfl⟩
  replace h := h x2 g2 ho
  refine lv_i2l (v := (Int32.toInt64 x2)) S.1 S.2.1 dL_drop_7 rfl ?_
  obtain ⟨g3, h4, h⟩ := h
  refine xr_last S w h4 dL_drop_8 (fun H locs w => ?_)
  refine lv_goto (tgt := 15) S.1 S.2.1 dL_drop_9 (by decide) ?_
  refine lv_iconst (v := 0) S.1 S.2.1 dL_drop_15 (by decide) ?_
  exact ret _ _ _ _ _ _ _ _ _ h w dL_drop_16 ⟨Nat.le_of_ble_eq_true rfl, Nat.le_of_ble_eq_true rfl⟩
theorem xhk_L_copy_13 : Cond.classLink RL 13 "java/lang/IllegalArgumentException" ∈ wsL_copy := by decide +kernel
def w_L_copy (P : Int32 → List Nat → xG → Prop) (L : List Nat) (g : xG) (a0 : Nat) (a1 : Int32) (a2 : Nat) : Prop :=
  ∃ u9, (xk g 8 a0) = some u9 ∧
  ∃ oc, f_X7_copy g a0 a1 = some oc ∧
  (∀ k : Nat, oc = .inl k → k = 1 ∧ P 1 L g) ∧
  ∀ (x2 : Int32) (g2 : xG), oc = .inr (x2, g2) →
  if x2 = 0 then
    ∃ g3, (xs_l g2 a2 0 0) = some g3 ∧
    P 0 L g3
  else
    ∃ g5, (xs_l g2 a2 0 1) = some g5 ∧
    P 0 L g5
set_option maxHeartbeats 4000000 in
set_option maxRecDepth 100000 in
theorem c_L_copy (l : Launch) (hst : l.stackTraces = false) (D : va_G) (cy : Nat → ClassId) (t : Nat) (L : List Nat) (g : xG) (a0 : Nat) (a1 : Int32) (a2 : Nat) (P : Int32 → List Nat → xG → Prop) (h : w_L_copy P L g a0 a1 a2) : xYi l yL_copy wsL_copy ({ frames := 8, cells := 1, slots := 6, locals := 131 }) D cy t L g [.ref a0, .int a1, .ref a2] P 1 6 := by
  refine xmh_i (cc := cL_copy) (maxL := 4) RL rfl rfl rfl (by decide +kernel) rfl (Nat.le_of_ble_eq_true rfl) ?_
  intro p e s m args below meth c Q A S w hA hN hZ hT htab ret ls hl
  have hl : lv_has ls 4 [(0, .ref a0), (1, .int a1), (2, .ref a2)] := hl
  rw [w_L_copy] at h
  refine lv_aload_n S.1 S.2.1 dL_copy_0 rfl (lv_at hl 2 rfl) ?_
  refine lv_iconst (v := 0) S.1 S.2.1 dL_copy_1 (by decide) ?_
  refine lv_aload_n S.1 S.2.1 dL_copy_2 rfl (lv_at hl 0 rfl) ?_
  refine lv_iload_n S.1 S.2.1 dL_copy_3 rfl (lv_at hl 1 rfl) ?_
  obtain ⟨_, h1, h⟩ := h
  obtain ⟨oc, hoc, hex, h⟩ := h
  refine xr_callXV_i S w hA hN hZ 8 rfl h1 (c_X7_copy l hst D cy L g a0 a1 hoc) (cwV 1 S.2.2.2.2 gL_copy_X7_copy rfl rfl rfl (by decide +kernel) ⟨Nat.le_of_ble_eq_true rfl, Nat.le_of_ble_eq_true rfl⟩) rfl rfl hl.1 (Nat.le_of_ble_eq_true rfl) dL_copy_4 ⟨Nat.le_of_ble_eq_true rfl, Nat.le_of_ble_eq_true rfl⟩ (fun k H locs q ce ho w hc hv hcl => ?_) (fun x2 g2 H locs ho w => ?_)
  · have hex := hex k ho
    rcases hex with ⟨rfl, hP⟩
    · have h := hP
      refine vx_catch S.2.2.2.1 [] ⟨0, 16, 19, 13⟩ [] htab (fun z hz => absurd hz List.not_mem_nil) (by decide) (by decide) (S.2.2.2.2 _ xhk_L_copy_13) (va_Nw.use rfl hN.2.2.2.2.2.2.2.2.1) hc hv hcl ?_
      refine lv_astore_n (lv' := [(3, .ref q), (0, .ref a0), (1, .int a1), (2, .ref a2)]) S.1 S.2.1 dL_copy_19 rfl hl (by decide) rfl (fun ls hl => ?_)
      refine lv_iconst (v := 1) S.1 S.2.1 dL_copy_20 (by decide) ?_
      exact ret _ _ _ _ _ _ _ _ _ h w dL_copy_21 ⟨Nat.le_of_ble_eq_true rfl, Nat.le_of_ble_eq_true rfl⟩
  replace h := h x2 g2 ho
  refine lv_if_eq (tgt := 14) S.1 S.2.1 dL_copy_7 (by decide) (fun c7 => ?_) (fun c7 => ?_)
  · rw [if_pos c7] at h
    refine lv_lconst (v := 0) S.1 S.2.1 dL_copy_14 (by decide) ?_
    obtain ⟨g3, h4, h⟩ := h
    refine xr_last S w h4 dL_copy_15 (fun H locs w => ?_)
    refine lv_goto (tgt := 22) S.1 S.2.1 dL_copy_16 (by decide) ?_
    refine lv_iconst (v := 0) S.1 S.2.1 dL_copy_22 (by decide) ?_
    exact ret _ _ _ _ _ _ _ _ _ h w dL_copy_23 ⟨Nat.le_of_ble_eq_true rfl, Nat.le_of_ble_eq_true rfl⟩
  · rw [if_neg c7] at h
    refine lv_lconst (v := 1) S.1 S.2.1 dL_copy_10 (by decide) ?_
    refine lv_goto (tgt := 15) S.1 S.2.1 dL_copy_11 (by decide) ?_
    obtain ⟨g5, h6, h⟩ := h
    refine xr_last S w h6 dL_copy_15 (fun H locs w => ?_)
    refine lv_goto (tgt := 22) S.1 S.2.1 dL_copy_16 (by decide) ?_
    refine lv_iconst (v := 0) S.1 S.2.1 dL_copy_22 (by decide) ?_
    exact ret _ _ _ _ _ _ _ _ _ h w dL_copy_23 ⟨Nat.le_of_ble_eq_true rfl, Nat.le_of_ble_eq_true rfl⟩
theorem xhk_L_spoil_13 : Cond.classLink RL 13 "java/lang/IllegalArgumentException" ∈ wsL_spoil := by decide +kernel
def w_L_spoil (P : Int32 → List Nat → xG → Prop) (L : List Nat) (g : xG) (a0 : Nat) (a1 : Int32) (a2 : Int32) (a3 : Nat) : Prop :=
  ∃ u9, (xk g 8 a0) = some u9 ∧
  ∃ oc, f_X7_spoil g a0 a1 a2 = some oc ∧
  (∀ k : Nat, oc = .inl k → k = 1 ∧ P 1 L g) ∧
  ∀ (x2 : Int32) (g2 : xG), oc = .inr (x2, g2) →
  ∃ g3, (xs_l g2 a3 0 (Int32.toInt64 x2)) = some g3 ∧
  P 0 L g3
set_option maxHeartbeats 4000000 in
set_option maxRecDepth 100000 in
theorem c_L_spoil (l : Launch) (hst : l.stackTraces = false) (D : va_G) (cy : Nat → ClassId) (t : Nat) (L : List Nat) (g : xG) (a0 : Nat) (a1 : Int32) (a2 : Int32) (a3 : Nat) (P : Int32 → List Nat → xG → Prop) (h : w_L_spoil P L g a0 a1 a2 a3) : xYi l yL_spoil wsL_spoil ({ frames := 8, cells := 1, slots := 6, locals := 133 }) D cy t L g [.ref a0, .int a1, .int a2, .ref a3] P 1 6 := by
  refine xmh_i (cc := cL_spoil) (maxL := 5) RL rfl rfl rfl (by decide +kernel) rfl (Nat.le_of_ble_eq_true rfl) ?_
  intro p e s m args below meth c Q A S w hA hN hZ hT htab ret ls hl
  have hl : lv_has ls 5 [(0, .ref a0), (1, .int a1), (2, .int a2), (3, .ref a3)] := hl
  rw [w_L_spoil] at h
  refine lv_aload_n S.1 S.2.1 dL_spoil_0 rfl (lv_at hl 3 rfl) ?_
  refine lv_iconst (v := 0) S.1 S.2.1 dL_spoil_1 (by decide) ?_
  refine lv_aload_n S.1 S.2.1 dL_spoil_2 rfl (lv_at hl 0 rfl) ?_
  refine lv_iload_n S.1 S.2.1 dL_spoil_3 rfl (lv_at hl 1 rfl) ?_
  refine lv_iload_n S.1 S.2.1 dL_spoil_4 rfl (lv_at hl 2 rfl) ?_
  obtain ⟨_, h1, h⟩ := h
  obtain ⟨oc, hoc, hex, h⟩ := h
  refine xr_callXV_i S w hA hN hZ 8 rfl h1 (c_X7_spoil l hst D cy L g a0 a1 a2 hoc) (cwV 2 S.2.2.2.2 gL_spoil_X7_spoil rfl rfl rfl (by decide +kernel) ⟨Nat.le_of_ble_eq_true rfl, Nat.le_of_ble_eq_true rfl⟩) rfl rfl hl.1 (Nat.le_of_ble_eq_true rfl) dL_spoil_5 ⟨Nat.le_of_ble_eq_true rfl, Nat.le_of_ble_eq_true rfl⟩ (fun k H locs q ce ho w hc hv hcl => ?_) (fun x2 g2 H locs ho w => ?_)
  · have hex := hex k ho
    rcases hex with ⟨rfl, hP⟩
    · have h := hP
      refine vx_catch S.2.2.2.1 [] ⟨0, 10, 13, 13⟩ [] htab (fun z hz => absurd hz List.not_mem_nil) (by decide) (by decide) (S.2.2.2.2 _ xhk_L_spoil_13) (va_Nw.use rfl hN.2.2.2.2.2.2.2.2.1) hc hv hcl ?_
      refine lv_astore (lv' := [(4, .ref q), (0, .ref a0), (1, .int a1), (2, .int a2), (3, .ref a3)]) S.1 S.2.1 dL_spoil_13 hl (by decide) rfl (fun ls hl => ?_)
      refine lv_iconst (v := 1) S.1 S.2.1 dL_spoil_15 (by decide) ?_
      exact ret _ _ _ _ _ _ _ _ _ h w dL_spoil_16 ⟨Nat.le_of_ble_eq_true rfl, Nat.le_of_ble_eq_true rfl⟩
  replace h := h x2 g2 ho
  refine lv_i2l (v := (Int32.toInt64 x2)) S.1 S.2.1 dL_spoil_8 rfl ?_
  obtain ⟨g3, h4, h⟩ := h
  refine xr_last S w h4 dL_spoil_9 (fun H locs w => ?_)
  refine lv_goto (tgt := 17) S.1 S.2.1 dL_spoil_10 (by decide) ?_
  refine lv_iconst (v := 0) S.1 S.2.1 dL_spoil_17 (by decide) ?_
  exact ret _ _ _ _ _ _ _ _ _ h w dL_spoil_18 ⟨Nat.le_of_ble_eq_true rfl, Nat.le_of_ble_eq_true rfl⟩
theorem xhk_L_forward_13 : Cond.classLink RL 13 "java/lang/IllegalArgumentException" ∈ wsL_forward := by decide +kernel
def w_L_forward (P : Int32 → List Nat → xG → Prop) (L : List Nat) (g : xG) (a0 : Nat) (a1 : Int32) (a2 : Nat) : Prop :=
  ∃ u9, (xk g 8 a0) = some u9 ∧
  ∃ oc, f_X7_forward g a0 a1 = some oc ∧
  (∀ k : Nat, oc = .inl k → k = 1 ∧ P 1 L g) ∧
  ∀ (x2 : Int32) (g2 : xG), oc = .inr (x2, g2) →
  ∃ g3, (xs_l g2 a2 0 (Int32.toInt64 x2)) = some g3 ∧
  P 0 L g3
set_option maxHeartbeats 4000000 in
set_option maxRecDepth 100000 in
theorem c_L_forward (l : Launch) (hst : l.stackTraces = false) (D : va_G) (cy : Nat → ClassId) (t : Nat) (L : List Nat) (g : xG) (a0 : Nat) (a1 : Int32) (a2 : Nat) (P : Int32 → List Nat → xG → Prop) (h : w_L_forward P L g a0 a1 a2) : xYi l yL_forward wsL_forward ({ frames := 8, cells := 1, slots := 6, locals := 134 }) D cy t L g [.ref a0, .int a1, .ref a2] P 1 6 := by
  refine xmh_i (cc := cL_forward) (maxL := 4) RL rfl rfl rfl (by decide +kernel) rfl (Nat.le_of_ble_eq_true rfl) ?_
  intro p e s m args below meth c Q A S w hA hN hZ hT htab ret ls hl
  have hl : lv_has ls 4 [(0, .ref a0), (1, .int a1), (2, .ref a2)] := hl
  rw [w_L_forward] at h
  refine lv_aload_n S.1 S.2.1 dL_forward_0 rfl (lv_at hl 2 rfl) ?_
  refine lv_iconst (v := 0) S.1 S.2.1 dL_forward_1 (by decide) ?_
  refine lv_aload_n S.1 S.2.1 dL_forward_2 rfl (lv_at hl 0 rfl) ?_
  refine lv_iload_n S.1 S.2.1 dL_forward_3 rfl (lv_at hl 1 rfl) ?_
  obtain ⟨_, h1, h⟩ := h
  obtain ⟨oc, hoc, hex, h⟩ := h
  refine xr_callXV_i S w hA hN hZ 8 rfl h1 (c_X7_forward l hst D cy L g a0 a1 hoc) (cwV 1 S.2.2.2.2 gL_forward_X7_forward rfl rfl rfl (by decide +kernel) ⟨Nat.le_of_ble_eq_true rfl, Nat.le_of_ble_eq_true rfl⟩) rfl rfl hl.1 (Nat.le_of_ble_eq_true rfl) dL_forward_4 ⟨Nat.le_of_ble_eq_true rfl, Nat.le_of_ble_eq_true rfl⟩ (fun k H locs q ce ho w hc hv hcl => ?_) (fun x2 g2 H locs ho w => ?_)
  · have hex := hex k ho
    rcases hex with ⟨rfl, hP⟩
    · have h := hP
      refine vx_catch S.2.2.2.1 [] ⟨0, 9, 12, 13⟩ [] htab (fun z hz => absurd hz List.not_mem_nil) (by decide) (by decide) (S.2.2.2.2 _ xhk_L_forward_13) (va_Nw.use rfl hN.2.2.2.2.2.2.2.2.1) hc hv hcl ?_
      refine lv_astore_n (lv' := [(3, .ref q), (0, .ref a0), (1, .int a1), (2, .ref a2)]) S.1 S.2.1 dL_forward_12 rfl hl (by decide) rfl (fun ls hl => ?_)
      refine lv_iconst (v := 1) S.1 S.2.1 dL_forward_13 (by decide) ?_
      exact ret _ _ _ _ _ _ _ _ _ h w dL_forward_14 ⟨Nat.le_of_ble_eq_true rfl, Nat.le_of_ble_eq_true rfl⟩
  replace h := h x2 g2 ho
  refine lv_i2l (v := (Int32.toInt64 x2)) S.1 S.2.1 dL_forward_7 rfl ?_
  obtain ⟨g3, h4, h⟩ := h
  refine xr_last S w h4 dL_forward_8 (fun H locs w => ?_)
  refine lv_goto (tgt := 15) S.1 S.2.1 dL_forward_9 (by decide) ?_
  refine lv_iconst (v := 0) S.1 S.2.1 dL_forward_15 (by decide) ?_
  exact ret _ _ _ _ _ _ _ _ _ h w dL_forward_16 ⟨Nat.le_of_ble_eq_true rfl, Nat.le_of_ble_eq_true rfl⟩
theorem xhk_L_lie_13 : Cond.classLink RL 13 "java/lang/IllegalArgumentException" ∈ wsL_lie := by decide +kernel
theorem xhk_L_lie_19 : Cond.classLink RL 19 "java/lang/IllegalStateException" ∈ wsL_lie := by decide +kernel
def w_L_lie (P : Int32 → List Nat → xG → Prop) (L : List Nat) (g : xG) (a0 : Nat) (a1 : Int32) (a2 : Int32) (a3 : Int32) (a4 : Nat) : Prop :=
  ∃ u9, (xk g 8 a0) = some u9 ∧
  ∃ oc, f_X7_lie g a0 a1 a2 a3 = some oc ∧
  (∀ k : Nat, oc = .inl k → k = 1 ∧ P 1 L g ∨ k = 2 ∧ P 2 L g) ∧
  ∀ (x2 : Int32) (g2 : xG), oc = .inr (x2, g2) →
  ∃ g3, (xs_l g2 a4 0 (Int32.toInt64 x2)) = some g3 ∧
  P 0 L g3
set_option maxHeartbeats 4000000 in
set_option maxRecDepth 100000 in
theorem c_L_lie (l : Launch) (hst : l.stackTraces = false) (D : va_G) (cy : Nat → ClassId) (t : Nat) (L : List Nat) (g : xG) (a0 : Nat) (a1 : Int32) (a2 : Int32) (a3 : Int32) (a4 : Nat) (P : Int32 → List Nat → xG → Prop) (h : w_L_lie P L g a0 a1 a2 a3 a4) : xYi l yL_lie wsL_lie ({ frames := 8, cells := 2, slots := 12, locals := 133 }) D cy t L g [.ref a0, .int a1, .int a2, .int a3, .ref a4] P 2 12 := by
  refine xmh_i (cc := cL_lie) (maxL := 6) RL rfl rfl rfl (by decide +kernel) rfl (Nat.le_of_ble_eq_true rfl) ?_
  intro p e s m args below meth c Q A S w hA hN hZ hT htab ret ls hl
  have hl : lv_has ls 6 [(0, .ref a0), (1, .int a1), (2, .int a2), (3, .int a3), (4, .ref a4)] := hl
  rw [w_L_lie] at h
  refine lv_aload S.1 S.2.1 dL_lie_0 (lv_at hl 4 rfl) ?_
  refine lv_iconst (v := 0) S.1 S.2.1 dL_lie_2 (by decide) ?_
  refine lv_aload_n S.1 S.2.1 dL_lie_3 rfl (lv_at hl 0 rfl) ?_
  refine lv_iload_n S.1 S.2.1 dL_lie_4 rfl (lv_at hl 1 rfl) ?_
  refine lv_iload_n S.1 S.2.1 dL_lie_5 rfl (lv_at hl 2 rfl) ?_
  refine lv_iload_n S.1 S.2.1 dL_lie_6 rfl (lv_at hl 3 rfl) ?_
  obtain ⟨_, h1, h⟩ := h
  obtain ⟨oc, hoc, hex, h⟩ := h
  refine xr_callXV_i S w hA hN hZ 8 rfl h1 (c_X7_lie l hst D cy L g a0 a1 a2 a3 hoc) (cwV 3 S.2.2.2.2 gL_lie_X7_lie rfl rfl rfl (by decide +kernel) ⟨Nat.le_of_ble_eq_true rfl, Nat.le_of_ble_eq_true rfl⟩) rfl rfl hl.1 (Nat.le_of_ble_eq_true rfl) dL_lie_7 ⟨Nat.le_of_ble_eq_true rfl, Nat.le_of_ble_eq_true rfl⟩ (fun k H locs q ce ho w hc hv hcl => ?_) (fun x2 g2 H locs ho w => ?_)
  · have hex := hex k ho
    rcases hex with ⟨rfl, hP⟩ | ⟨rfl, hP⟩
    · have h := hP
      refine vx_catch S.2.2.2.1 [] ⟨0, 12, 15, 13⟩ [⟨0, 12, 19, 19⟩] htab (fun z hz => absurd hz List.not_mem_nil) (by decide) (by decide) (S.2.2.2.2 _ xhk_L_lie_13) (va_Nw.use rfl hN.2.2.2.2.2.2.2.2.1) hc hv hcl ?_
      refine lv_astore (lv' := [(5, .ref q), (0, .ref a0), (1, .int a1), (2, .int a2), (3, .int a3), (4, .ref a4)]) S.1 S.2.1 dL_lie_15 hl (by decide) rfl (fun ls hl => ?_)
      refine lv_iconst (v := 1) S.1 S.2.1 dL_lie_17 (by decide) ?_
      exact ret _ _ _ _ _ _ _ _ _ h w dL_lie_18 ⟨Nat.le_of_ble_eq_true rfl, Nat.le_of_ble_eq_true rfl⟩
    · have h := hP
      refine vx_catch S.2.2.2.1 [⟨0, 12, 15, 13⟩] ⟨0, 12, 19, 19⟩ [] htab (fun z hz => by rw [List.mem_singleton.mp hz]; exact Or.inr ⟨by decide, "java/lang/IllegalArgumentException", S.2.2.2.2 _ xhk_L_lie_13, hN.2.2.2.2.2.2.2.2.2.2.2.2.2.2.2.2.2.2.2⟩) (by decide) (by decide) (S.2.2.2.2 _ xhk_L_lie_19) (va_Nw.use rfl hN.2.2.2.2.2.2.2.2.2.1) hc hv hcl ?_
      refine lv_astore (lv' := [(5, .ref q), (0, .ref a0), (1, .int a1), (2, .int a2), (3, .int a3), (4, .ref a4)]) S.1 S.2.1 dL_lie_19 hl (by decide) rfl (fun ls hl => ?_)
      refine lv_iconst (v := 2) S.1 S.2.1 dL_lie_21 (by decide) ?_
      exact ret _ _ _ _ _ _ _ _ _ h w dL_lie_22 ⟨Nat.le_of_ble_eq_true rfl, Nat.le_of_ble_eq_true rfl⟩
  replace h := h x2 g2 ho
  refine lv_i2l (v := (Int32.toInt64 x2)) S.1 S.2.1 dL_lie_10 rfl ?_
  obtain ⟨g3, h4, h⟩ := h
  refine xr_last S w h4 dL_lie_11 (fun H locs w => ?_)
  refine lv_goto (tgt := 23) S.1 S.2.1 dL_lie_12 (by decide) ?_
  refine lv_iconst (v := 0) S.1 S.2.1 dL_lie_23 (by decide) ?_
  exact ret _ _ _ _ _ _ _ _ _ h w dL_lie_24 ⟨Nat.le_of_ble_eq_true rfl, Nat.le_of_ble_eq_true rfl⟩
theorem xhk_L_bend_13 : Cond.classLink RL 13 "java/lang/IllegalArgumentException" ∈ wsL_bend := by decide +kernel
def w_L_bend (P : Int32 → List Nat → xG → Prop) (L : List Nat) (g : xG) (a0 : Nat) (a1 : Int32) (a2 : Int32) (a3 : Int32) (a4 : Nat) : Prop :=
  ∃ u9, (xk g 8 a0) = some u9 ∧
  ∃ oc, f_X7_bend g a0 a1 a2 a3 = some oc ∧
  (∀ k : Nat, oc = .inl k → k = 1 ∧ P 1 L g) ∧
  ∀ (x2 : Int32) (g2 : xG), oc = .inr (x2, g2) →
  ∃ g3, (xs_l g2 a4 0 (Int32.toInt64 x2)) = some g3 ∧
  P 0 L g3
set_option maxHeartbeats 4000000 in
set_option maxRecDepth 100000 in
theorem c_L_bend (l : Launch) (hst : l.stackTraces = false) (D : va_G) (cy : Nat → ClassId) (t : Nat) (L : List Nat) (g : xG) (a0 : Nat) (a1 : Int32) (a2 : Int32) (a3 : Int32) (a4 : Nat) (P : Int32 → List Nat → xG → Prop) (h : w_L_bend P L g a0 a1 a2 a3 a4) : xYi l yL_bend wsL_bend ({ frames := 8, cells := 1, slots := 6, locals := 134 }) D cy t L g [.ref a0, .int a1, .int a2, .int a3, .ref a4] P 1 6 := by
  refine xmh_i (cc := cL_bend) (maxL := 6) RL rfl rfl rfl (by decide +kernel) rfl (Nat.le_of_ble_eq_true rfl) ?_
  intro p e s m args below meth c Q A S w hA hN hZ hT htab ret ls hl
  have hl : lv_has ls 6 [(0, .ref a0), (1, .int a1), (2, .int a2), (3, .int a3), (4, .ref a4)] := hl
  rw [w_L_bend] at h
  refine lv_aload S.1 S.2.1 dL_bend_0 (lv_at hl 4 rfl) ?_
  refine lv_iconst (v := 0) S.1 S.2.1 dL_bend_2 (by decide) ?_
  refine lv_aload_n S.1 S.2.1 dL_bend_3 rfl (lv_at hl 0 rfl) ?_
  refine lv_iload_n S.1 S.2.1 dL_bend_4 rfl (lv_at hl 1 rfl) ?_
  refine lv_iload_n S.1 S.2.1 dL_bend_5 rfl (lv_at hl 2 rfl) ?_
  refine lv_iload_n S.1 S.2.1 dL_bend_6 rfl (lv_at hl 3 rfl) ?_
  obtain ⟨_, h1, h⟩ := h
  obtain ⟨oc, hoc, hex, h⟩ := h
  refine xr_callXV_i S w hA hN hZ 8 rfl h1 (c_X7_bend l hst D cy L g a0 a1 a2 a3 hoc) (cwV 3 S.2.2.2.2 gL_bend_X7_bend rfl rfl rfl (by decide +kernel) ⟨Nat.le_of_ble_eq_true rfl, Nat.le_of_ble_eq_true rfl⟩) rfl rfl hl.1 (Nat.le_of_ble_eq_true rfl) dL_bend_7 ⟨Nat.le_of_ble_eq_true rfl, Nat.le_of_ble_eq_true rfl⟩ (fun k H locs q ce ho w hc hv hcl => ?_) (fun x2 g2 H locs ho w => ?_)
  · have hex := hex k ho
    rcases hex with ⟨rfl, hP⟩
    · have h := hP
      refine vx_catch S.2.2.2.1 [] ⟨0, 12, 15, 13⟩ [] htab (fun z hz => absurd hz List.not_mem_nil) (by decide) (by decide) (S.2.2.2.2 _ xhk_L_bend_13) (va_Nw.use rfl hN.2.2.2.2.2.2.2.2.1) hc hv hcl ?_
      refine lv_astore (lv' := [(5, .ref q), (0, .ref a0), (1, .int a1), (2, .int a2), (3, .int a3), (4, .ref a4)]) S.1 S.2.1 dL_bend_15 hl (by decide) rfl (fun ls hl => ?_)
      refine lv_iconst (v := 1) S.1 S.2.1 dL_bend_17 (by decide) ?_
      exact ret _ _ _ _ _ _ _ _ _ h w dL_bend_18 ⟨Nat.le_of_ble_eq_true rfl, Nat.le_of_ble_eq_true rfl⟩
  replace h := h x2 g2 ho
  refine lv_i2l (v := (Int32.toInt64 x2)) S.1 S.2.1 dL_bend_10 rfl ?_
  obtain ⟨g3, h4, h⟩ := h
  refine xr_last S w h4 dL_bend_11 (fun H locs w => ?_)
  refine lv_goto (tgt := 19) S.1 S.2.1 dL_bend_12 (by decide) ?_
  refine lv_iconst (v := 0) S.1 S.2.1 dL_bend_19 (by decide) ?_
  exact ret _ _ _ _ _ _ _ _ _ h w dL_bend_20 ⟨Nat.le_of_ble_eq_true rfl, Nat.le_of_ble_eq_true rfl⟩
theorem xhk_L_cut_13 : Cond.classLink RL 13 "java/lang/IllegalArgumentException" ∈ wsL_cut := by decide +kernel
def w_L_cut (P : Int32 → List Nat → xG → Prop) (L : List Nat) (g : xG) (a0 : Nat) (a1 : Int32) (a2 : Int32) (a3 : Nat) : Prop :=
  ∃ u9, (xk g 8 a0) = some u9 ∧
  ∃ oc, f_X7_cut g a0 a1 a2 = some oc ∧
  (∀ k : Nat, oc = .inl k → k = 1 ∧ P 1 L g) ∧
  ∀ (x2 : Int32) (g2 : xG), oc = .inr (x2, g2) →
  ∃ g3, (xs_l g2 a3 0 (Int32.toInt64 x2)) = some g3 ∧
  P 0 L g3
set_option maxHeartbeats 4000000 in
set_option maxRecDepth 100000 in
theorem c_L_cut (l : Launch) (hst : l.stackTraces = false) (D : va_G) (cy : Nat → ClassId) (t : Nat) (L : List Nat) (g : xG) (a0 : Nat) (a1 : Int32) (a2 : Int32) (a3 : Nat) (P : Int32 → List Nat → xG → Prop) (h : w_L_cut P L g a0 a1 a2 a3) : xYi l yL_cut wsL_cut ({ frames := 8, cells := 1, slots := 6, locals := 133 }) D cy t L g [.ref a0, .int a1, .int a2, .ref a3] P 1 6 := by
  refine xmh_i (cc := cL_cut) (maxL := 5) RL rfl rfl rfl (by decide +kernel) rfl (Nat.le_of_ble_eq_true rfl) ?_
  intro p e s m args below meth c Q A S w hA hN hZ hT htab ret ls hl
  have hl : lv_has ls 5 [(0, .ref a0), (1, .int a1), (2, .int a2), (3, .ref a3)] := hl
  rw [w_L_cut] at h
  refine lv_aload_n S.1 S.2.1 dL_cut_0 rfl (lv_at hl 3 rfl) ?_
  refine lv_iconst (v := 0) S.1 S.2.1 dL_cut_1 (by decide) ?_
  refine lv_aload_n S.1 S.2.1 dL_cut_2 rfl (lv_at hl 0 rfl) ?_
  refine lv_iload_n S.1 S.2.1 dL_cut_3 rfl (lv_at hl 1 rfl) ?_
  refine lv_iload_n S.1 S.2.1 dL_cut_4 rfl (lv_at hl 2 rfl) ?_
  obtain ⟨_, h1, h⟩ := h
  obtain ⟨oc, hoc, hex, h⟩ := h
  refine xr_callXV_i S w hA hN hZ 8 rfl h1 (c_X7_cut l hst D cy L g a0 a1 a2 hoc) (cwV 2 S.2.2.2.2 gL_cut_X7_cut rfl rfl rfl (by decide +kernel) ⟨Nat.le_of_ble_eq_true rfl, Nat.le_of_ble_eq_true rfl⟩) rfl rfl hl.1 (Nat.le_of_ble_eq_true rfl) dL_cut_5 ⟨Nat.le_of_ble_eq_true rfl, Nat.le_of_ble_eq_true rfl⟩ (fun k H locs q ce ho w hc hv hcl => ?_) (fun x2 g2 H locs ho w => ?_)
  · have hex := hex k ho
    rcases hex with ⟨rfl, hP⟩
    · have h := hP
      refine vx_catch S.2.2.2.1 [] ⟨0, 10, 13, 13⟩ [] htab (fun z hz => absurd hz List.not_mem_nil) (by decide) (by decide) (S.2.2.2.2 _ xhk_L_cut_13) (va_Nw.use rfl hN.2.2.2.2.2.2.2.2.1) hc hv hcl ?_
      refine lv_astore (lv' := [(4, .ref q), (0, .ref a0), (1, .int a1), (2, .int a2), (3, .ref a3)]) S.1 S.2.1 dL_cut_13 hl (by decide) rfl (fun ls hl => ?_)
      refine lv_iconst (v := 1) S.1 S.2.1 dL_cut_15 (by decide) ?_
      exact ret _ _ _ _ _ _ _ _ _ h w dL_cut_16 ⟨Nat.le_of_ble_eq_true rfl, Nat.le_of_ble_eq_true rfl⟩
  replace h := h x2 g2 ho
  refine lv_i2l (v := (Int32.toInt64 x2)) S.1 S.2.1 dL_cut_8 rfl ?_
  obtain ⟨g3, h4, h⟩ := h
  refine xr_last S w h4 dL_cut_9 (fun H locs w => ?_)
  refine lv_goto (tgt := 17) S.1 S.2.1 dL_cut_10 (by decide) ?_
  refine lv_iconst (v := 0) S.1 S.2.1 dL_cut_17 (by decide) ?_
  exact ret _ _ _ _ _ _ _ _ _ h w dL_cut_18 ⟨Nat.le_of_ble_eq_true rfl, Nat.le_of_ble_eq_true rfl⟩
theorem xhk_L_hide_13 : Cond.classLink RL 13 "java/lang/IllegalArgumentException" ∈ wsL_hide := by decide +kernel
def w_L_hide (P : Int32 → List Nat → xG → Prop) (L : List Nat) (g : xG) (a0 : Nat) (a1 : Int32) (a2 : Int32) (a3 : Nat) : Prop :=
  ∃ u9, (xk g 8 a0) = some u9 ∧
  ∃ oc, f_X7_hide g a0 a1 a2 = some oc ∧
  (∀ k : Nat, oc = .inl k → k = 1 ∧ P 1 L g) ∧
  ∀ (x2 : Int32) (g2 : xG), oc = .inr (x2, g2) →
  if x2 = 0 then
    ∃ g3, (xs_l g2 a3 0 0) = some g3 ∧
    P 0 L g3
  else
    ∃ g5, (xs_l g2 a3 0 1) = some g5 ∧
    P 0 L g5
set_option maxHeartbeats 4000000 in
set_option maxRecDepth 100000 in
theorem c_L_hide (l : Launch) (hst : l.stackTraces = false) (D : va_G) (cy : Nat → ClassId) (t : Nat) (L : List Nat) (g : xG) (a0 : Nat) (a1 : Int32) (a2 : Int32) (a3 : Nat) (P : Int32 → List Nat → xG → Prop) (h : w_L_hide P L g a0 a1 a2 a3) : xYi l yL_hide wsL_hide ({ frames := 8, cells := 1, slots := 6, locals := 133 }) D cy t L g [.ref a0, .int a1, .int a2, .ref a3] P 1 6 := by
  refine xmh_i (cc := cL_hide) (maxL := 5) RL rfl rfl rfl (by decide +kernel) rfl (Nat.le_of_ble_eq_true rfl) ?_
  intro p e s m args below meth c Q A S w hA hN hZ hT htab ret ls hl
  have hl : lv_has ls 5 [(0, .ref a0), (1, .int a1), (2, .int a2), (3, .ref a3)] := hl
  rw [w_L_hide] at h
  refine lv_aload_n S.1 S.2.1 dL_hide_0 rfl (lv_at hl 3 rfl) ?_
  refine lv_iconst (v := 0) S.1 S.2.1 dL_hide_1 (by decide) ?_
  refine lv_aload_n S.1 S.2.1 dL_hide_2 rfl (lv_at hl 0 rfl) ?_
  refine lv_iload_n S.1 S.2.1 dL_hide_3 rfl (lv_at hl 1 rfl) ?_
  refine lv_iload_n S.1 S.2.1 dL_hide_4 rfl (lv_at hl 2 rfl) ?_
  obtain ⟨_, h1, h⟩ := h
  obtain ⟨oc, hoc, hex, h⟩ := h
  refine xr_callXV_i S w hA hN hZ 8 rfl h1 (c_X7_hide l hst D cy L g a0 a1 a2 hoc) (cwV 2 S.2.2.2.2 gL_hide_X7_hide rfl rfl rfl (by decide +kernel) ⟨Nat.le_of_ble_eq_true rfl, Nat.le_of_ble_eq_true rfl⟩) rfl rfl hl.1 (Nat.le_of_ble_eq_true rfl) dL_hide_5 ⟨Nat.le_of_ble_eq_true rfl, Nat.le_of_ble_eq_true rfl⟩ (fun k H locs q ce ho w hc hv hcl => ?_) (fun x2 g2 H locs ho w => ?_)
  · have hex := hex k ho
    rcases hex with ⟨rfl, hP⟩
    · have h := hP
      refine vx_catch S.2.2.2.1 [] ⟨0, 17, 20, 13⟩ [] htab (fun z hz => absurd hz List.not_mem_nil) (by decide) (by decide) (S.2.2.2.2 _ xhk_L_hide_13) (va_Nw.use rfl hN.2.2.2.2.2.2.2.2.1) hc hv hcl ?_
      refine lv_astore (lv' := [(4, .ref q), (0, .ref a0), (1, .int a1), (2, .int a2), (3, .ref a3)]) S.1 S.2.1 dL_hide_20 hl (by decide) rfl (fun ls hl => ?_)
      refine lv_iconst (v := 1) S.1 S.2.1 dL_hide_22 (by decide) ?_
      exact ret _ _ _ _ _ _ _ _ _ h w dL_hide_23 ⟨Nat.le_of_ble_eq_true rfl, Nat.le_of_ble_eq_true rfl⟩
  replace h := h x2 g2 ho
  refine lv_if_eq (tgt := 15) S.1 S.2.1 dL_hide_8 (by decide) (fun c8 => ?_) (fun c8 => ?_)
  · rw [if_pos c8] at h
    refine lv_lconst (v := 0) S.1 S.2.1 dL_hide_15 (by decide) ?_
    obtain ⟨g3, h4, h⟩ := h
    refine xr_last S w h4 dL_hide_16 (fun H locs w => ?_)
    refine lv_goto (tgt := 24) S.1 S.2.1 dL_hide_17 (by decide) ?_
    refine lv_iconst (v := 0) S.1 S.2.1 dL_hide_24 (by decide) ?_
    exact ret _ _ _ _ _ _ _ _ _ h w dL_hide_25 ⟨Nat.le_of_ble_eq_true rfl, Nat.le_of_ble_eq_true rfl⟩
  · rw [if_neg c8] at h
    refine lv_lconst (v := 1) S.1 S.2.1 dL_hide_11 (by decide) ?_
    refine lv_goto (tgt := 16) S.1 S.2.1 dL_hide_12 (by decide) ?_
    obtain ⟨g5, h6, h⟩ := h
    refine xr_last S w h6 dL_hide_16 (fun H locs w => ?_)
    refine lv_goto (tgt := 24) S.1 S.2.1 dL_hide_17 (by decide) ?_
    refine lv_iconst (v := 0) S.1 S.2.1 dL_hide_24 (by decide) ?_
    exact ret _ _ _ _ _ _ _ _ _ h w dL_hide_25 ⟨Nat.le_of_ble_eq_true rfl, Nat.le_of_ble_eq_true rfl⟩
theorem xhk_L_audit_13 : Cond.classLink RL 13 "java/lang/IllegalArgumentException" ∈ wsL_audit := by decide +kernel
theorem xhk_L_audit_19 : Cond.classLink RL 19 "java/lang/IllegalStateException" ∈ wsL_audit := by decide +kernel
def w_L_audit (t : Nat) (P : Int32 → List Nat → xG → Prop) (L : List Nat) (g : xG) (a0 : Nat) (a1 : Int32) (a2 : Int32) (a3 : Nat) : Prop :=
  ∃ u9, (xk g 8 a0) = some u9 ∧
  w_X7_audit t (fun oc L2 g2 =>
    (∀ k : Nat, oc = .inl k → k = 1 ∧ P 1 L2 g2 ∨ k = 2 ∧ P 2 L2 g2) ∧
    ∀ x2 : Int32, oc = .inr x2 →
    ∃ g3, (xs_l g2 a3 0 (Int32.toInt64 x2)) = some g3 ∧
    P 0 L2 g3
  ) L g a0 a1 a2
set_option maxHeartbeats 4000000 in
set_option maxRecDepth 100000 in
theorem c_L_audit (l : Launch) (hst : l.stackTraces = false) (D : va_G) (cy : Nat → ClassId) (t : Nat) (L : List Nat) (g : xG) (a0 : Nat) (a1 : Int32) (a2 : Int32) (a3 : Nat) (P : Int32 → List Nat → xG → Prop) (h : w_L_audit t P L g a0 a1 a2 a3) : xYi l yL_audit wsL_audit ({ frames := 11, cells := 10, slots := 2132, locals := 283 }) D cy t L g [.ref a0, .int a1, .int a2, .ref a3] P 10 2132 := by
  refine xmh_i (cc := cL_audit) (maxL := 5) RL rfl rfl rfl (by decide +kernel) rfl (Nat.le_of_ble_eq_true rfl) ?_
  intro p e s m args below meth c Q A S w hA hN hZ hT htab ret ls hl
  have hl : lv_has ls 5 [(0, .ref a0), (1, .int a1), (2, .int a2), (3, .ref a3)] := hl
  rw [w_L_audit] at h
  refine lv_aload_n S.1 S.2.1 dL_audit_0 rfl (lv_at hl 3 rfl) ?_
  refine lv_iconst (v := 0) S.1 S.2.1 dL_audit_1 (by decide) ?_
  refine lv_aload_n S.1 S.2.1 dL_audit_2 rfl (lv_at hl 0 rfl) ?_
  refine lv_iload_n S.1 S.2.1 dL_audit_3 rfl (lv_at hl 1 rfl) ?_
  refine lv_iload_n S.1 S.2.1 dL_audit_4 rfl (lv_at hl 2 rfl) ?_
  obtain ⟨_, h1, h⟩ := h
  refine xr_callYX S w hA hN hZ hT 8 rfl h1 (c_X7_audit l hst D cy t L g a0 a1 a2 _ h) (cwV 2 S.2.2.2.2 gL_audit_X7_audit rfl rfl rfl (by decide +kernel) ⟨Nat.le_of_ble_eq_true rfl, Nat.le_of_ble_eq_true rfl⟩) rfl rfl hl.1 (Nat.le_of_ble_eq_true rfl) dL_audit_5 ⟨Nat.le_of_ble_eq_true rfl, Nat.le_of_ble_eq_true rfl⟩ (fun k H locs q ce h w hc hv hcl => ?_) (fun x2 L2 g2 H locs h w => ?_)
  · obtain hex := h.1 k rfl
    rcases hex with ⟨rfl, hP⟩ | ⟨rfl, hP⟩
    · have h := hP
      refine vx_catch S.2.2.2.1 [] ⟨0, 10, 13, 13⟩ [⟨0, 10, 17, 19⟩] htab (fun z hz => absurd hz List.not_mem_nil) (by decide) (by decide) (S.2.2.2.2 _ xhk_L_audit_13) (va_Nw.use rfl hN.2.2.2.2.2.2.2.2.1) hc hv hcl ?_
      refine lv_astore (lv' := [(4, .ref q), (0, .ref a0), (1, .int a1), (2, .int a2), (3, .ref a3)]) S.1 S.2.1 dL_audit_13 hl (by decide) rfl (fun ls hl => ?_)
      refine lv_iconst (v := 1) S.1 S.2.1 dL_audit_15 (by decide) ?_
      exact ret _ _ _ _ _ _ _ _ _ h w dL_audit_16 ⟨Nat.le_of_ble_eq_true rfl, Nat.le_of_ble_eq_true rfl⟩
    · have h := hP
      refine vx_catch S.2.2.2.1 [⟨0, 10, 13, 13⟩] ⟨0, 10, 17, 19⟩ [] htab (fun z hz => by rw [List.mem_singleton.mp hz]; exact Or.inr ⟨by decide, "java/lang/IllegalArgumentException", S.2.2.2.2 _ xhk_L_audit_13, hN.2.2.2.2.2.2.2.2.2.2.2.2.2.2.2.2.2.2.2⟩) (by decide) (by decide) (S.2.2.2.2 _ xhk_L_audit_19) (va_Nw.use rfl hN.2.2.2.2.2.2.2.2.2.1) hc hv hcl ?_
      refine lv_astore (lv' := [(4, .ref q), (0, .ref a0), (1, .int a1), (2, .int a2), (3, .ref a3)]) S.1 S.2.1 dL_audit_17 hl (by decide) rfl (fun ls hl => ?_)
      refine lv_iconst (v := 2) S.1 S.2.1 dL_audit_19 (by decide) ?_
      exact ret _ _ _ _ _ _ _ _ _ h w dL_audit_20 ⟨Nat.le_of_ble_eq_true rfl, Nat.le_of_ble_eq_true rfl⟩
  replace h := h.2 x2 rfl
  refine lv_i2l (v := (Int32.toInt64 x2)) S.1 S.2.1 dL_audit_8 rfl ?_
  obtain ⟨g3, h4, h⟩ := h
  refine xr_last S w h4 dL_audit_9 (fun H locs w => ?_)
  refine lv_goto (tgt := 21) S.1 S.2.1 dL_audit_10 (by decide) ?_
  refine lv_iconst (v := 0) S.1 S.2.1 dL_audit_21 (by decide) ?_
  exact ret _ _ _ _ _ _ _ _ _ h w dL_audit_22 ⟨Nat.le_of_ble_eq_true rfl, Nat.le_of_ble_eq_true rfl⟩
theorem xhk_L_judge_13 : Cond.classLink RL 13 "java/lang/IllegalArgumentException" ∈ wsL_judge := by decide +kernel
def w_L_judge (P : Int32 → List Nat → xG → Prop) (L : List Nat) (g : xG) (a0 : Nat) (a1 : Int32) (a2 : Int32) (a3 : Nat) : Prop :=
  ∃ u9, (xk g 8 a0) = some u9 ∧
  ∃ oc, f_X7_judge g a0 a1 a2 = some oc ∧
  (∀ k : Nat, oc = .inl k → k = 1 ∧ P 1 L g) ∧
  ∀ (x2 : Int32) (g2 : xG), oc = .inr (x2, g2) →
  if x2 = 0 then
    ∃ g3, (xs_l g2 a3 0 0) = some g3 ∧
    P 0 L g3
  else
    ∃ g5, (xs_l g2 a3 0 1) = some g5 ∧
    P 0 L g5
set_option maxHeartbeats 4000000 in
set_option maxRecDepth 100000 in
theorem c_L_judge (l : Launch) (hst : l.stackTraces = false) (D : va_G) (cy : Nat → ClassId) (t : Nat) (L : List Nat) (g : xG) (a0 : Nat) (a1 : Int32) (a2 : Int32) (a3 : Nat) (P : Int32 → List Nat → xG → Prop) (h : w_L_judge P L g a0 a1 a2 a3) : xYi l yL_judge wsL_judge ({ frames := 8, cells := 1, slots := 6, locals := 144 }) D cy t L g [.ref a0, .int a1, .int a2, .ref a3] P 1 6 := by
  refine xmh_i (cc := cL_judge) (maxL := 5) RL rfl rfl rfl (by decide +kernel) rfl (Nat.le_of_ble_eq_true rfl) ?_
  intro p e s m args below meth c Q A S w hA hN hZ hT htab ret ls hl
  have hl : lv_has ls 5 [(0, .ref a0), (1, .int a1), (2, .int a2), (3, .ref a3)] := hl
  rw [w_L_judge] at h
  refine lv_aload_n S.1 S.2.1 dL_judge_0 rfl (lv_at hl 3 rfl) ?_
  refine lv_iconst (v := 0) S.1 S.2.1 dL_judge_1 (by decide) ?_
  refine lv_aload_n S.1 S.2.1 dL_judge_2 rfl (lv_at hl 0 rfl) ?_
  refine lv_iload_n S.1 S.2.1 dL_judge_3 rfl (lv_at hl 1 rfl) ?_
  refine lv_iload_n S.1 S.2.1 dL_judge_4 rfl (lv_at hl 2 rfl) ?_
  obtain ⟨_, h1, h⟩ := h
  obtain ⟨oc, hoc, hex, h⟩ := h
  refine xr_callXV_i S w hA hN hZ 8 rfl h1 (c_X7_judge l hst D cy L g a0 a1 a2 hoc) (cwV 2 S.2.2.2.2 gL_judge_X7_judge rfl rfl rfl (by decide +kernel) ⟨Nat.le_of_ble_eq_true rfl, Nat.le_of_ble_eq_true rfl⟩) rfl rfl hl.1 (Nat.le_of_ble_eq_true rfl) dL_judge_5 ⟨Nat.le_of_ble_eq_true rfl, Nat.le_of_ble_eq_true rfl⟩ (fun k H locs q ce ho w hc hv hcl => ?_) (fun x2 g2 H locs ho w => ?_)
  · have hex := hex k ho
    rcases hex with ⟨rfl, hP⟩
    · have h := hP
      refine vx_catch S.2.2.2.1 [] ⟨0, 17, 20, 13⟩ [] htab (fun z hz => absurd hz List.not_mem_nil) (by decide) (by decide) (S.2.2.2.2 _ xhk_L_judge_13) (va_Nw.use rfl hN.2.2.2.2.2.2.2.2.1) hc hv hcl ?_
      refine lv_astore (lv' := [(4, .ref q), (0, .ref a0), (1, .int a1), (2, .int a2), (3, .ref a3)]) S.1 S.2.1 dL_judge_20 hl (by decide) rfl (fun ls hl => ?_)
      refine lv_iconst (v := 1) S.1 S.2.1 dL_judge_22 (by decide) ?_
      exact ret _ _ _ _ _ _ _ _ _ h w dL_judge_23 ⟨Nat.le_of_ble_eq_true rfl, Nat.le_of_ble_eq_true rfl⟩
  replace h := h x2 g2 ho
  refine lv_if_eq (tgt := 15) S.1 S.2.1 dL_judge_8 (by decide) (fun c8 => ?_) (fun c8 => ?_)
  · rw [if_pos c8] at h
    refine lv_lconst (v := 0) S.1 S.2.1 dL_judge_15 (by decide) ?_
    obtain ⟨g3, h4, h⟩ := h
    refine xr_last S w h4 dL_judge_16 (fun H locs w => ?_)
    refine lv_goto (tgt := 24) S.1 S.2.1 dL_judge_17 (by decide) ?_
    refine lv_iconst (v := 0) S.1 S.2.1 dL_judge_24 (by decide) ?_
    exact ret _ _ _ _ _ _ _ _ _ h w dL_judge_25 ⟨Nat.le_of_ble_eq_true rfl, Nat.le_of_ble_eq_true rfl⟩
  · rw [if_neg c8] at h
    refine lv_lconst (v := 1) S.1 S.2.1 dL_judge_11 (by decide) ?_
    refine lv_goto (tgt := 16) S.1 S.2.1 dL_judge_12 (by decide) ?_
    obtain ⟨g5, h6, h⟩ := h
    refine xr_last S w h6 dL_judge_16 (fun H locs w => ?_)
    refine lv_goto (tgt := 24) S.1 S.2.1 dL_judge_17 (by decide) ?_
    refine lv_iconst (v := 0) S.1 S.2.1 dL_judge_24 (by decide) ?_
    exact ret _ _ _ _ _ _ _ _ _ h w dL_judge_25 ⟨Nat.le_of_ble_eq_true rfl, Nat.le_of_ble_eq_true rfl⟩
theorem xhk_L_holds_13 : Cond.classLink RL 13 "java/lang/IllegalArgumentException" ∈ wsL_holds := by decide +kernel
def w_L_holds (P : Int32 → List Nat → xG → Prop) (L : List Nat) (g : xG) (a0 : Nat) (a1 : Int32) (a2 : Nat) : Prop :=
  ∃ u9, (xk g 8 a0) = some u9 ∧
  ∃ oc, f_X7_holds g a0 a1 = some oc ∧
  (∀ k : Nat, oc = .inl k → k = 1 ∧ P 1 L g) ∧
  ∀ (x2 : Int32) (g2 : xG), oc = .inr (x2, g2) →
  if x2 = 0 then
    ∃ g3, (xs_l g2 a2 0 0) = some g3 ∧
    P 0 L g3
  else
    ∃ g5, (xs_l g2 a2 0 1) = some g5 ∧
    P 0 L g5
set_option maxHeartbeats 4000000 in
set_option maxRecDepth 100000 in
theorem c_L_holds (l : Launch) (hst : l.stackTraces = false) (D : va_G) (cy : Nat → ClassId) (t : Nat) (L : List Nat) (g : xG) (a0 : Nat) (a1 : Int32) (a2 : Nat) (P : Int32 → List Nat → xG → Prop) (h : w_L_holds P L g a0 a1 a2) : xYi l yL_holds wsL_holds ({ frames := 8, cells := 1, slots := 6, locals := 141 }) D cy t L g [.ref a0, .int a1, .ref a2] P 1 6 := by
  refine xmh_i (cc := cL_holds) (maxL := 4) RL rfl rfl rfl (by decide +kernel) rfl (Nat.le_of_ble_eq_true rfl) ?_
  intro p e s m args below meth c Q A S w hA hN hZ hT htab ret ls hl
  have hl : lv_has ls 4 [(0, .ref a0), (1, .int a1), (2, .ref a2)] := hl
  rw [w_L_holds] at h
  refine lv_aload_n S.1 S.2.1 dL_holds_0 rfl (lv_at hl 2 rfl) ?_
  refine lv_iconst (v := 0) S.1 S.2.1 dL_holds_1 (by decide) ?_
  refine lv_aload_n S.1 S.2.1 dL_holds_2 rfl (lv_at hl 0 rfl) ?_
  refine lv_iload_n S.1 S.2.1 dL_holds_3 rfl (lv_at hl 1 rfl) ?_
  obtain ⟨_, h1, h⟩ := h
  obtain ⟨oc, hoc, hex, h⟩ := h
  refine xr_callXV_i S w hA hN hZ 8 rfl h1 (c_X7_holds l hst D cy L g a0 a1 hoc) (cwV 1 S.2.2.2.2 gL_holds_X7_holds rfl rfl rfl (by decide +kernel) ⟨Nat.le_of_ble_eq_true rfl, Nat.le_of_ble_eq_true rfl⟩) rfl rfl hl.1 (Nat.le_of_ble_eq_true rfl) dL_holds_4 ⟨Nat.le_of_ble_eq_true rfl, Nat.le_of_ble_eq_true rfl⟩ (fun k H locs q ce ho w hc hv hcl => ?_) (fun x2 g2 H locs ho w => ?_)
  · have hex := hex k ho
    rcases hex with ⟨rfl, hP⟩
    · have h := hP
      refine vx_catch S.2.2.2.1 [] ⟨0, 16, 19, 13⟩ [] htab (fun z hz => absurd hz List.not_mem_nil) (by decide) (by decide) (S.2.2.2.2 _ xhk_L_holds_13) (va_Nw.use rfl hN.2.2.2.2.2.2.2.2.1) hc hv hcl ?_
      refine lv_astore_n (lv' := [(3, .ref q), (0, .ref a0), (1, .int a1), (2, .ref a2)]) S.1 S.2.1 dL_holds_19 rfl hl (by decide) rfl (fun ls hl => ?_)
      refine lv_iconst (v := 1) S.1 S.2.1 dL_holds_20 (by decide) ?_
      exact ret _ _ _ _ _ _ _ _ _ h w dL_holds_21 ⟨Nat.le_of_ble_eq_true rfl, Nat.le_of_ble_eq_true rfl⟩
  replace h := h x2 g2 ho
  refine lv_if_eq (tgt := 14) S.1 S.2.1 dL_holds_7 (by decide) (fun c7 => ?_) (fun c7 => ?_)
  · rw [if_pos c7] at h
    refine lv_lconst (v := 0) S.1 S.2.1 dL_holds_14 (by decide) ?_
    obtain ⟨g3, h4, h⟩ := h
    refine xr_last S w h4 dL_holds_15 (fun H locs w => ?_)
    refine lv_goto (tgt := 22) S.1 S.2.1 dL_holds_16 (by decide) ?_
    refine lv_iconst (v := 0) S.1 S.2.1 dL_holds_22 (by decide) ?_
    exact ret _ _ _ _ _ _ _ _ _ h w dL_holds_23 ⟨Nat.le_of_ble_eq_true rfl, Nat.le_of_ble_eq_true rfl⟩
  · rw [if_neg c7] at h
    refine lv_lconst (v := 1) S.1 S.2.1 dL_holds_10 (by decide) ?_
    refine lv_goto (tgt := 15) S.1 S.2.1 dL_holds_11 (by decide) ?_
    obtain ⟨g5, h6, h⟩ := h
    refine xr_last S w h6 dL_holds_15 (fun H locs w => ?_)
    refine lv_goto (tgt := 22) S.1 S.2.1 dL_holds_16 (by decide) ?_
    refine lv_iconst (v := 0) S.1 S.2.1 dL_holds_22 (by decide) ?_
    exact ret _ _ _ _ _ _ _ _ _ h w dL_holds_23 ⟨Nat.le_of_ble_eq_true rfl, Nat.le_of_ble_eq_true rfl⟩
theorem xhk_L_byteOf_13 : Cond.classLink RL 13 "java/lang/IllegalArgumentException" ∈ wsL_byteOf := by decide +kernel
def w_L_byteOf (P : Int32 → List Nat → xG → Prop) (L : List Nat) (g : xG) (a0 : Nat) (a1 : Int32) (a2 : Int32) (a3 : Nat) : Prop :=
  ∃ u9, (xk g 8 a0) = some u9 ∧
  ∃ oc, f_X7_byteOf g a0 a1 a2 = some oc ∧
  (∀ k : Nat, oc = .inl k → k = 1 ∧ P 1 L g) ∧
  ∀ (x2 : Int32) (g2 : xG), oc = .inr (x2, g2) →
  ∃ g3, (xs_l g2 a3 0 (Int32.toInt64 x2)) = some g3 ∧
  P 0 L g3
set_option maxHeartbeats 4000000 in
set_option maxRecDepth 100000 in
theorem c_L_byteOf (l : Launch) (hst : l.stackTraces = false) (D : va_G) (cy : Nat → ClassId) (t : Nat) (L : List Nat) (g : xG) (a0 : Nat) (a1 : Int32) (a2 : Int32) (a3 : Nat) (P : Int32 → List Nat → xG → Prop) (h : w_L_byteOf P L g a0 a1 a2 a3) : xYi l yL_byteOf wsL_byteOf ({ frames := 8, cells := 1, slots := 6, locals := 133 }) D cy t L g [.ref a0, .int a1, .int a2, .ref a3] P 1 6 := by
  refine xmh_i (cc := cL_byteOf) (maxL := 5) RL rfl rfl rfl (by decide +kernel) rfl (Nat.le_of_ble_eq_true rfl) ?_
  intro p e s m args below meth c Q A S w hA hN hZ hT htab ret ls hl
  have hl : lv_has ls 5 [(0, .ref a0), (1, .int a1), (2, .int a2), (3, .ref a3)] := hl
  rw [w_L_byteOf] at h
  refine lv_aload_n S.1 S.2.1 dL_byteOf_0 rfl (lv_at hl 3 rfl) ?_
  refine lv_iconst (v := 0) S.1 S.2.1 dL_byteOf_1 (by decide) ?_
  refine lv_aload_n S.1 S.2.1 dL_byteOf_2 rfl (lv_at hl 0 rfl) ?_
  refine lv_iload_n S.1 S.2.1 dL_byteOf_3 rfl (lv_at hl 1 rfl) ?_
  refine lv_iload_n S.1 S.2.1 dL_byteOf_4 rfl (lv_at hl 2 rfl) ?_
  obtain ⟨_, h1, h⟩ := h
  obtain ⟨oc, hoc, hex, h⟩ := h
  refine xr_callXV_i S w hA hN hZ 8 rfl h1 (c_X7_byteOf l hst D cy L g a0 a1 a2 hoc) (cwV 2 S.2.2.2.2 gL_byteOf_X7_byteOf rfl rfl rfl (by decide +kernel) ⟨Nat.le_of_ble_eq_true rfl, Nat.le_of_ble_eq_true rfl⟩) rfl rfl hl.1 (Nat.le_of_ble_eq_true rfl) dL_byteOf_5 ⟨Nat.le_of_ble_eq_true rfl, Nat.le_of_ble_eq_true rfl⟩ (fun k H locs q ce ho w hc hv hcl => ?_) (fun x2 g2 H locs ho w => ?_)
  · have hex := hex k ho
    rcases hex with ⟨rfl, hP⟩
    · have h := hP
      refine vx_catch S.2.2.2.1 [] ⟨0, 10, 13, 13⟩ [] htab (fun z hz => absurd hz List.not_mem_nil) (by decide) (by decide) (S.2.2.2.2 _ xhk_L_byteOf_13) (va_Nw.use rfl hN.2.2.2.2.2.2.2.2.1) hc hv hcl ?_
      refine lv_astore (lv' := [(4, .ref q), (0, .ref a0), (1, .int a1), (2, .int a2), (3, .ref a3)]) S.1 S.2.1 dL_byteOf_13 hl (by decide) rfl (fun ls hl => ?_)
      refine lv_iconst (v := 1) S.1 S.2.1 dL_byteOf_15 (by decide) ?_
      exact ret _ _ _ _ _ _ _ _ _ h w dL_byteOf_16 ⟨Nat.le_of_ble_eq_true rfl, Nat.le_of_ble_eq_true rfl⟩
  replace h := h x2 g2 ho
  refine lv_i2l (v := (Int32.toInt64 x2)) S.1 S.2.1 dL_byteOf_8 rfl ?_
  obtain ⟨g3, h4, h⟩ := h
  refine xr_last S w h4 dL_byteOf_9 (fun H locs w => ?_)
  refine lv_goto (tgt := 17) S.1 S.2.1 dL_byteOf_10 (by decide) ?_
  refine lv_iconst (v := 0) S.1 S.2.1 dL_byteOf_17 (by decide) ?_
  exact ret _ _ _ _ _ _ _ _ _ h w dL_byteOf_18 ⟨Nat.le_of_ble_eq_true rfl, Nat.le_of_ble_eq_true rfl⟩
theorem xhk_L_smudge_13 : Cond.classLink RL 13 "java/lang/IllegalArgumentException" ∈ wsL_smudge := by decide +kernel
def w_L_smudge (P : Int32 → List Nat → xG → Prop) (L : List Nat) (g : xG) (a0 : Nat) (a1 : Int32) (a2 : Int32) (a3 : Int32) (a4 : Nat) : Prop :=
  ∃ u9, (xk g 8 a0) = some u9 ∧
  ∃ oc, f_X7_smudge g a0 a1 a2 a3 = some oc ∧
  (∀ k : Nat, oc = .inl k → k = 1 ∧ P 1 L g) ∧
  ∀ (x2 : Int32) (g2 : xG), oc = .inr (x2, g2) →
  ∃ g3, (xs_l g2 a4 0 (Int32.toInt64 x2)) = some g3 ∧
  P 0 L g3
set_option maxHeartbeats 4000000 in
set_option maxRecDepth 100000 in
theorem c_L_smudge (l : Launch) (hst : l.stackTraces = false) (D : va_G) (cy : Nat → ClassId) (t : Nat) (L : List Nat) (g : xG) (a0 : Nat) (a1 : Int32) (a2 : Int32) (a3 : Int32) (a4 : Nat) (P : Int32 → List Nat → xG → Prop) (h : w_L_smudge P L g a0 a1 a2 a3 a4) : xYi l yL_smudge wsL_smudge ({ frames := 8, cells := 1, slots := 6, locals := 135 }) D cy t L g [.ref a0, .int a1, .int a2, .int a3, .ref a4] P 1 6 := by
  refine xmh_i (cc := cL_smudge) (maxL := 6) RL rfl rfl rfl (by decide +kernel) rfl (Nat.le_of_ble_eq_true rfl) ?_
  intro p e s m args below meth c Q A S w hA hN hZ hT htab ret ls hl
  have hl : lv_has ls 6 [(0, .ref a0), (1, .int a1), (2, .int a2), (3, .int a3), (4, .ref a4)] := hl
  rw [w_L_smudge] at h
  refine lv_aload S.1 S.2.1 dL_smudge_0 (lv_at hl 4 rfl) ?_
  refine lv_iconst (v := 0) S.1 S.2.1 dL_smudge_2 (by decide) ?_
  refine lv_aload_n S.1 S.2.1 dL_smudge_3 rfl (lv_at hl 0 rfl) ?_
  refine lv_iload_n S.1 S.2.1 dL_smudge_4 rfl (lv_at hl 1 rfl) ?_
  refine lv_iload_n S.1 S.2.1 dL_smudge_5 rfl (lv_at hl 2 rfl) ?_
  refine lv_iload_n S.1 S.2.1 dL_smudge_6 rfl (lv_at hl 3 rfl) ?_
  obtain ⟨_, h1, h⟩ := h
  obtain ⟨oc, hoc, hex, h⟩ := h
  refine xr_callXV_i S w hA hN hZ 8 rfl h1 (c_X7_smudge l hst D cy L g a0 a1 a2 a3 hoc) (cwV 3 S.2.2.2.2 gL_smudge_X7_smudge rfl rfl rfl (by decide +kernel) ⟨Nat.le_of_ble_eq_true rfl, Nat.le_of_ble_eq_true rfl⟩) rfl rfl hl.1 (Nat.le_of_ble_eq_true rfl) dL_smudge_7 ⟨Nat.le_of_ble_eq_true rfl, Nat.le_of_ble_eq_true rfl⟩ (fun k H locs q ce ho w hc hv hcl => ?_) (fun x2 g2 H locs ho w => ?_)
  · have hex := hex k ho
    rcases hex with ⟨rfl, hP⟩
    · have h := hP
      refine vx_catch S.2.2.2.1 [] ⟨0, 12, 15, 13⟩ [] htab (fun z hz => absurd hz List.not_mem_nil) (by decide) (by decide) (S.2.2.2.2 _ xhk_L_smudge_13) (va_Nw.use rfl hN.2.2.2.2.2.2.2.2.1) hc hv hcl ?_
      refine lv_astore (lv' := [(5, .ref q), (0, .ref a0), (1, .int a1), (2, .int a2), (3, .int a3), (4, .ref a4)]) S.1 S.2.1 dL_smudge_15 hl (by decide) rfl (fun ls hl => ?_)
      refine lv_iconst (v := 1) S.1 S.2.1 dL_smudge_17 (by decide) ?_
      exact ret _ _ _ _ _ _ _ _ _ h w dL_smudge_18 ⟨Nat.le_of_ble_eq_true rfl, Nat.le_of_ble_eq_true rfl⟩
  replace h := h x2 g2 ho
  refine lv_i2l (v := (Int32.toInt64 x2)) S.1 S.2.1 dL_smudge_10 rfl ?_
  obtain ⟨g3, h4, h⟩ := h
  refine xr_last S w h4 dL_smudge_11 (fun H locs w => ?_)
  refine lv_goto (tgt := 19) S.1 S.2.1 dL_smudge_12 (by decide) ?_
  refine lv_iconst (v := 0) S.1 S.2.1 dL_smudge_19 (by decide) ?_
  exact ret _ _ _ _ _ _ _ _ _ h w dL_smudge_20 ⟨Nat.le_of_ble_eq_true rfl, Nat.le_of_ble_eq_true rfl⟩
theorem xhk_L_verdict_13 : Cond.classLink RL 13 "java/lang/IllegalArgumentException" ∈ wsL_verdict := by decide +kernel
def w_L_verdict (P : Int32 → List Nat → xG → Prop) (L : List Nat) (g : xG) (a0 : Nat) (a1 : Int32) (a2 : Int32) (a3 : Nat) : Prop :=
  ∃ u9, (xk g 8 a0) = some u9 ∧
  ∃ oc, f_X7_verdict g a0 a1 a2 = some oc ∧
  (∀ k : Nat, oc = .inl k → k = 1 ∧ P 1 L g) ∧
  ∀ (x2 : Int32) (g2 : xG), oc = .inr (x2, g2) →
  ∃ g3, (xs_l g2 a3 0 (Int32.toInt64 x2)) = some g3 ∧
  P 0 L g3
set_option maxHeartbeats 4000000 in
set_option maxRecDepth 100000 in
theorem c_L_verdict (l : Launch) (hst : l.stackTraces = false) (D : va_G) (cy : Nat → ClassId) (t : Nat) (L : List Nat) (g : xG) (a0 : Nat) (a1 : Int32) (a2 : Int32) (a3 : Nat) (P : Int32 → List Nat → xG → Prop) (h : w_L_verdict P L g a0 a1 a2 a3) : xYi l yL_verdict wsL_verdict ({ frames := 8, cells := 1, slots := 6, locals := 132 }) D cy t L g [.ref a0, .int a1, .int a2, .ref a3] P 1 6 := by
  refine xmh_i (cc := cL_verdict) (maxL := 5) RL rfl rfl rfl (by decide +kernel) rfl (Nat.le_of_ble_eq_true rfl) ?_
  intro p e s m args below meth c Q A S w hA hN hZ hT htab ret ls hl
  have hl : lv_has ls 5 [(0, .ref a0), (1, .int a1), (2, .int a2), (3, .ref a3)] := hl
  rw [w_L_verdict] at h
  refine lv_aload_n S.1 S.2.1 dL_verdict_0 rfl (lv_at hl 3 rfl) ?_
  refine lv_iconst (v := 0) S.1 S.2.1 dL_verdict_1 (by decide) ?_
  refine lv_aload_n S.1 S.2.1 dL_verdict_2 rfl (lv_at hl 0 rfl) ?_
  refine lv_iload_n S.1 S.2.1 dL_verdict_3 rfl (lv_at hl 1 rfl) ?_
  refine lv_iload_n S.1 S.2.1 dL_verdict_4 rfl (lv_at hl 2 rfl) ?_
  obtain ⟨_, h1, h⟩ := h
  obtain ⟨oc, hoc, hex, h⟩ := h
  refine xr_callXV_i S w hA hN hZ 8 rfl h1 (c_X7_verdict l hst D cy L g a0 a1 a2 hoc) (cwV 2 S.2.2.2.2 gL_verdict_X7_verdict rfl rfl rfl (by decide +kernel) ⟨Nat.le_of_ble_eq_true rfl, Nat.le_of_ble_eq_true rfl⟩) rfl rfl hl.1 (Nat.le_of_ble_eq_true rfl) dL_verdict_5 ⟨Nat.le_of_ble_eq_true rfl, Nat.le_of_ble_eq_true rfl⟩ (fun k H locs q ce ho w hc hv hcl => ?_) (fun x2 g2 H locs ho w => ?_)
  · have hex := hex k ho
    rcases hex with ⟨rfl, hP⟩
    · have h := hP
      refine vx_catch S.2.2.2.1 [] ⟨0, 10, 13, 13⟩ [] htab (fun z hz => absurd hz List.not_mem_nil) (by decide) (by decide) (S.2.2.2.2 _ xhk_L_verdict_13) (va_Nw.use rfl hN.2.2.2.2.2.2.2.2.1) hc hv hcl ?_
      refine lv_astore (lv' := [(4, .ref q), (0, .ref a0), (1, .int a1), (2, .int a2), (3, .ref a3)]) S.1 S.2.1 dL_verdict_13 hl (by decide) rfl (fun ls hl => ?_)
      refine lv_iconst (v := 1) S.1 S.2.1 dL_verdict_15 (by decide) ?_
      exact ret _ _ _ _ _ _ _ _ _ h w dL_verdict_16 ⟨Nat.le_of_ble_eq_true rfl, Nat.le_of_ble_eq_true rfl⟩
  replace h := h x2 g2 ho
  refine lv_i2l (v := (Int32.toInt64 x2)) S.1 S.2.1 dL_verdict_8 rfl ?_
  obtain ⟨g3, h4, h⟩ := h
  refine xr_last S w h4 dL_verdict_9 (fun H locs w => ?_)
  refine lv_goto (tgt := 17) S.1 S.2.1 dL_verdict_10 (by decide) ?_
  refine lv_iconst (v := 0) S.1 S.2.1 dL_verdict_17 (by decide) ?_
  exact ret _ _ _ _ _ _ _ _ _ h w dL_verdict_18 ⟨Nat.le_of_ble_eq_true rfl, Nat.le_of_ble_eq_true rfl⟩
theorem xhk_L_entry_13 : Cond.classLink RL 13 "java/lang/IllegalArgumentException" ∈ wsL_entry := by decide +kernel
def w_L_entry (P : Int32 → List Nat → xG → Prop) (L : List Nat) (g : xG) (a0 : Nat) (a1 : Int32) (a2 : Int32) (a3 : Int32) (a4 : Nat) : Prop :=
  ∃ u9, (xk g 8 a0) = some u9 ∧
  ∃ oc, f_X7_entry g a0 a1 a2 a3 = some oc ∧
  (∀ k : Nat, oc = .inl k → k = 1 ∧ P 1 L g) ∧
  ∀ (x2 : Int32) (g2 : xG), oc = .inr (x2, g2) →
  ∃ g3, (xs_l g2 a4 0 (Int32.toInt64 x2)) = some g3 ∧
  P 0 L g3
set_option maxHeartbeats 4000000 in
set_option maxRecDepth 100000 in
theorem c_L_entry (l : Launch) (hst : l.stackTraces = false) (D : va_G) (cy : Nat → ClassId) (t : Nat) (L : List Nat) (g : xG) (a0 : Nat) (a1 : Int32) (a2 : Int32) (a3 : Int32) (a4 : Nat) (P : Int32 → List Nat → xG → Prop) (h : w_L_entry P L g a0 a1 a2 a3 a4) : xYi l yL_entry wsL_entry ({ frames := 8, cells := 2, slots := 12, locals := 133 }) D cy t L g [.ref a0, .int a1, .int a2, .int a3, .ref a4] P 2 12 := by
  refine xmh_i (cc := cL_entry) (maxL := 6) RL rfl rfl rfl (by decide +kernel) rfl (Nat.le_of_ble_eq_true rfl) ?_
  intro p e s m args below meth c Q A S w hA hN hZ hT htab ret ls hl
  have hl : lv_has ls 6 [(0, .ref a0), (1, .int a1), (2, .int a2), (3, .int a3), (4, .ref a4)] := hl
  rw [w_L_entry] at h
  refine lv_aload S.1 S.2.1 dL_entry_0 (lv_at hl 4 rfl) ?_
  refine lv_iconst (v := 0) S.1 S.2.1 dL_entry_2 (by decide) ?_
  refine lv_aload_n S.1 S.2.1 dL_entry_3 rfl (lv_at hl 0 rfl) ?_
  refine lv_iload_n S.1 S.2.1 dL_entry_4 rfl (lv_at hl 1 rfl) ?_
  refine lv_iload_n S.1 S.2.1 dL_entry_5 rfl (lv_at hl 2 rfl) ?_
  refine lv_iload_n S.1 S.2.1 dL_entry_6 rfl (lv_at hl 3 rfl) ?_
  obtain ⟨_, h1, h⟩ := h
  obtain ⟨oc, hoc, hex, h⟩ := h
  refine xr_callXV_i S w hA hN hZ 8 rfl h1 (c_X7_entry l hst D cy L g a0 a1 a2 a3 hoc) (cwV 3 S.2.2.2.2 gL_entry_X7_entry rfl rfl rfl (by decide +kernel) ⟨Nat.le_of_ble_eq_true rfl, Nat.le_of_ble_eq_true rfl⟩) rfl rfl hl.1 (Nat.le_of_ble_eq_true rfl) dL_entry_7 ⟨Nat.le_of_ble_eq_true rfl, Nat.le_of_ble_eq_true rfl⟩ (fun k H locs q ce ho w hc hv hcl => ?_) (fun x2 g2 H locs ho w => ?_)
  · have hex := hex k ho
    rcases hex with ⟨rfl, hP⟩
    · have h := hP
      refine vx_catch S.2.2.2.1 [] ⟨0, 12, 15, 13⟩ [] htab (fun z hz => absurd hz List.not_mem_nil) (by decide) (by decide) (S.2.2.2.2 _ xhk_L_entry_13) (va_Nw.use rfl hN.2.2.2.2.2.2.2.2.1) hc hv hcl ?_
      refine lv_astore (lv' := [(5, .ref q), (0, .ref a0), (1, .int a1), (2, .int a2), (3, .int a3), (4, .ref a4)]) S.1 S.2.1 dL_entry_15 hl (by decide) rfl (fun ls hl => ?_)
      refine lv_iconst (v := 1) S.1 S.2.1 dL_entry_17 (by decide) ?_
      exact ret _ _ _ _ _ _ _ _ _ h w dL_entry_18 ⟨Nat.le_of_ble_eq_true rfl, Nat.le_of_ble_eq_true rfl⟩
  replace h := h x2 g2 ho
  refine lv_i2l (v := (Int32.toInt64 x2)) S.1 S.2.1 dL_entry_10 rfl ?_
  obtain ⟨g3, h4, h⟩ := h
  refine xr_last S w h4 dL_entry_11 (fun H locs w => ?_)
  refine lv_goto (tgt := 19) S.1 S.2.1 dL_entry_12 (by decide) ?_
  refine lv_iconst (v := 0) S.1 S.2.1 dL_entry_19 (by decide) ?_
  exact ret _ _ _ _ _ _ _ _ _ h w dL_entry_20 ⟨Nat.le_of_ble_eq_true rfl, Nat.le_of_ble_eq_true rfl⟩
theorem xhk_L_head_13 : Cond.classLink RL 13 "java/lang/IllegalArgumentException" ∈ wsL_head := by decide +kernel
def w_L_head (P : Int32 → List Nat → xG → Prop) (L : List Nat) (g : xG) (a0 : Nat) (a1 : Int32) (a2 : Int32) (a3 : Nat) : Prop :=
  ∃ u9, (xk g 8 a0) = some u9 ∧
  ∃ oc, f_X7_head g a0 a1 a2 = some oc ∧
  (∀ k : Nat, oc = .inl k → k = 1 ∧ P 1 L g) ∧
  ∀ (x2 : Int64) (g2 : xG), oc = .inr (x2, g2) →
  ∃ g3, (xs_l g2 a3 0 x2) = some g3 ∧
  P 0 L g3
set_option maxHeartbeats 4000000 in
set_option maxRecDepth 100000 in
theorem c_L_head (l : Launch) (hst : l.stackTraces = false) (D : va_G) (cy : Nat → ClassId) (t : Nat) (L : List Nat) (g : xG) (a0 : Nat) (a1 : Int32) (a2 : Int32) (a3 : Nat) (P : Int32 → List Nat → xG → Prop) (h : w_L_head P L g a0 a1 a2 a3) : xYi l yL_head wsL_head ({ frames := 8, cells := 1, slots := 6, locals := 132 }) D cy t L g [.ref a0, .int a1, .int a2, .ref a3] P 1 6 := by
  refine xmh_i (cc := cL_head) (maxL := 5) RL rfl rfl rfl (by decide +kernel) rfl (Nat.le_of_ble_eq_true rfl) ?_
  intro p e s m args below meth c Q A S w hA hN hZ hT htab ret ls hl
  have hl : lv_has ls 5 [(0, .ref a0), (1, .int a1), (2, .int a2), (3, .ref a3)] := hl
  rw [w_L_head] at h
  refine lv_aload_n S.1 S.2.1 dL_head_0 rfl (lv_at hl 3 rfl) ?_
  refine lv_iconst (v := 0) S.1 S.2.1 dL_head_1 (by decide) ?_
  refine lv_aload_n S.1 S.2.1 dL_head_2 rfl (lv_at hl 0 rfl) ?_
  refine lv_iload_n S.1 S.2.1 dL_head_3 rfl (lv_at hl 1 rfl) ?_
  refine lv_iload_n S.1 S.2.1 dL_head_4 rfl (lv_at hl 2 rfl) ?_
  obtain ⟨_, h1, h⟩ := h
  obtain ⟨oc, hoc, hex, h⟩ := h
  refine xr_callXV_l S w hA hN hZ 8 rfl h1 (c_X7_head l hst D cy L g a0 a1 a2 hoc) (cwV 2 S.2.2.2.2 gL_head_X7_head rfl rfl rfl (by decide +kernel) ⟨Nat.le_of_ble_eq_true rfl, Nat.le_of_ble_eq_true rfl⟩) rfl rfl hl.1 (Nat.le_of_ble_eq_true rfl) dL_head_5 ⟨Nat.le_of_ble_eq_true rfl, Nat.le_of_ble_eq_true rfl⟩ (fun k H locs q ce ho w hc hv hcl => ?_) (fun x2 g2 H locs ho w => ?_)
  · have hex := hex k ho
    rcases hex with ⟨rfl, hP⟩
    · have h := hP
      refine vx_catch S.2.2.2.1 [] ⟨0, 9, 12, 13⟩ [] htab (fun z hz => absurd hz List.not_mem_nil) (by decide) (by decide) (S.2.2.2.2 _ xhk_L_head_13) (va_Nw.use rfl hN.2.2.2.2.2.2.2.2.1) hc hv hcl ?_
      refine lv_astore (lv' := [(4, .ref q), (0, .ref a0), (1, .int a1), (2, .int a2), (3, .ref a3)]) S.1 S.2.1 dL_head_12 hl (by decide) rfl (fun ls hl => ?_)
      refine lv_iconst (v := 1) S.1 S.2.1 dL_head_14 (by decide) ?_
      exact ret _ _ _ _ _ _ _ _ _ h w dL_head_15 ⟨Nat.le_of_ble_eq_true rfl, Nat.le_of_ble_eq_true rfl⟩
  replace h := h x2 g2 ho
  obtain ⟨g3, h4, h⟩ := h
  refine xr_last S w h4 dL_head_8 (fun H locs w => ?_)
  refine lv_goto (tgt := 16) S.1 S.2.1 dL_head_9 (by decide) ?_
  refine lv_iconst (v := 0) S.1 S.2.1 dL_head_16 (by decide) ?_
  exact ret _ _ _ _ _ _ _ _ _ h w dL_head_17 ⟨Nat.le_of_ble_eq_true rfl, Nat.le_of_ble_eq_true rfl⟩
theorem xhk_L_about_13 : Cond.classLink RL 13 "java/lang/IllegalArgumentException" ∈ wsL_about := by decide +kernel
def w_L_about (P : Int32 → List Nat → xG → Prop) (L : List Nat) (g : xG) (a0 : Nat) (a1 : Int32) (a2 : Int32) (a3 : Nat) : Prop :=
  ∃ u9, (xk g 8 a0) = some u9 ∧
  ∃ oc, f_X7_about g a0 a1 a2 = some oc ∧
  (∀ k : Nat, oc = .inl k → k = 1 ∧ P 1 L g) ∧
  ∀ (x2 : Int32) (g2 : xG), oc = .inr (x2, g2) →
  ∃ g3, (xs_l g2 a3 0 (Int32.toInt64 x2)) = some g3 ∧
  P 0 L g3
set_option maxHeartbeats 4000000 in
set_option maxRecDepth 100000 in
theorem c_L_about (l : Launch) (hst : l.stackTraces = false) (D : va_G) (cy : Nat → ClassId) (t : Nat) (L : List Nat) (g : xG) (a0 : Nat) (a1 : Int32) (a2 : Int32) (a3 : Nat) (P : Int32 → List Nat → xG → Prop) (h : w_L_about P L g a0 a1 a2 a3) : xYi l yL_about wsL_about ({ frames := 8, cells := 2, slots := 12, locals := 132 }) D cy t L g [.ref a0, .int a1, .int a2, .ref a3] P 2 12 := by
  refine xmh_i (cc := cL_about) (maxL := 5) RL rfl rfl rfl (by decide +kernel) rfl (Nat.le_of_ble_eq_true rfl) ?_
  intro p e s m args below meth c Q A S w hA hN hZ hT htab ret ls hl
  have hl : lv_has ls 5 [(0, .ref a0), (1, .int a1), (2, .int a2), (3, .ref a3)] := hl
  rw [w_L_about] at h
  refine lv_aload_n S.1 S.2.1 dL_about_0 rfl (lv_at hl 3 rfl) ?_
  refine lv_iconst (v := 0) S.1 S.2.1 dL_about_1 (by decide) ?_
  refine lv_aload_n S.1 S.2.1 dL_about_2 rfl (lv_at hl 0 rfl) ?_
  refine lv_iload_n S.1 S.2.1 dL_about_3 rfl (lv_at hl 1 rfl) ?_
  refine lv_iload_n S.1 S.2.1 dL_about_4 rfl (lv_at hl 2 rfl) ?_
  obtain ⟨_, h1, h⟩ := h
  obtain ⟨oc, hoc, hex, h⟩ := h
  refine xr_callXV_i S w hA hN hZ 8 rfl h1 (c_X7_about l hst D cy L g a0 a1 a2 hoc) (cwV 2 S.2.2.2.2 gL_about_X7_about rfl rfl rfl (by decide +kernel) ⟨Nat.le_of_ble_eq_true rfl, Nat.le_of_ble_eq_true rfl⟩) rfl rfl hl.1 (Nat.le_of_ble_eq_true rfl) dL_about_5 ⟨Nat.le_of_ble_eq_true rfl, Nat.le_of_ble_eq_true rfl⟩ (fun k H locs q ce ho w hc hv hcl => ?_) (fun x2 g2 H locs ho w => ?_)
  · have hex := hex k ho
    rcases hex with ⟨rfl, hP⟩
    · have h := hP
      refine vx_catch S.2.2.2.1 [] ⟨0, 10, 13, 13⟩ [] htab (fun z hz => absurd hz List.not_mem_nil) (by decide) (by decide) (S.2.2.2.2 _ xhk_L_about_13) (va_Nw.use rfl hN.2.2.2.2.2.2.2.2.1) hc hv hcl ?_
      refine lv_astore (lv' := [(4, .ref q), (0, .ref a0), (1, .int a1), (2, .int a2), (3, .ref a3)]) S.1 S.2.1 dL_about_13 hl (by decide) rfl (fun ls hl => ?_)
      refine lv_iconst (v := 1) S.1 S.2.1 dL_about_15 (by decide) ?_
      exact ret _ _ _ _ _ _ _ _ _ h w dL_about_16 ⟨Nat.le_of_ble_eq_true rfl, Nat.le_of_ble_eq_true rfl⟩
  replace h := h x2 g2 ho
  refine lv_i2l (v := (Int32.toInt64 x2)) S.1 S.2.1 dL_about_8 rfl ?_
  obtain ⟨g3, h4, h⟩ := h
  refine xr_last S w h4 dL_about_9 (fun H locs w => ?_)
  refine lv_goto (tgt := 17) S.1 S.2.1 dL_about_10 (by decide) ?_
  refine lv_iconst (v := 0) S.1 S.2.1 dL_about_17 (by decide) ?_
  exact ret _ _ _ _ _ _ _ _ _ h w dL_about_18 ⟨Nat.le_of_ble_eq_true rfl, Nat.le_of_ble_eq_true rfl⟩
theorem xhk_L_total_13 : Cond.classLink RL 13 "java/lang/IllegalArgumentException" ∈ wsL_total := by decide +kernel
def w_L_total (P : Int32 → List Nat → xG → Prop) (L : List Nat) (g : xG) (a0 : Nat) (a1 : Int32) (a2 : Nat) : Prop :=
  ∃ u9, (xk g 8 a0) = some u9 ∧
  ∃ oc, f_X7_total g a0 a1 = some oc ∧
  (∀ k : Nat, oc = .inl k → k = 1 ∧ P 1 L g) ∧
  ∀ (x2 : Int32) (g2 : xG), oc = .inr (x2, g2) →
  ∃ g3, (xs_l g2 a2 0 (Int32.toInt64 x2)) = some g3 ∧
  P 0 L g3
set_option maxHeartbeats 4000000 in
set_option maxRecDepth 100000 in
theorem c_L_total (l : Launch) (hst : l.stackTraces = false) (D : va_G) (cy : Nat → ClassId) (t : Nat) (L : List Nat) (g : xG) (a0 : Nat) (a1 : Int32) (a2 : Nat) (P : Int32 → List Nat → xG → Prop) (h : w_L_total P L g a0 a1 a2) : xYi l yL_total wsL_total ({ frames := 7, cells := 1, slots := 6, locals := 111 }) D cy t L g [.ref a0, .int a1, .ref a2] P 1 6 := by
  refine xmh_i (cc := cL_total) (maxL := 4) RL rfl rfl rfl (by decide +kernel) rfl (Nat.le_of_ble_eq_true rfl) ?_
  intro p e s m args below meth c Q A S w hA hN hZ hT htab ret ls hl
  have hl : lv_has ls 4 [(0, .ref a0), (1, .int a1), (2, .ref a2)] := hl
  rw [w_L_total] at h
  refine lv_aload_n S.1 S.2.1 dL_total_0 rfl (lv_at hl 2 rfl) ?_
  refine lv_iconst (v := 0) S.1 S.2.1 dL_total_1 (by decide) ?_
  refine lv_aload_n S.1 S.2.1 dL_total_2 rfl (lv_at hl 0 rfl) ?_
  refine lv_iload_n S.1 S.2.1 dL_total_3 rfl (lv_at hl 1 rfl) ?_
  obtain ⟨_, h1, h⟩ := h
  obtain ⟨oc, hoc, hex, h⟩ := h
  refine xr_callXV_i S w hA hN hZ 8 rfl h1 (c_X7_total l hst D cy L g a0 a1 hoc) (cwV 1 S.2.2.2.2 gL_total_X7_total rfl rfl rfl (by decide +kernel) ⟨Nat.le_of_ble_eq_true rfl, Nat.le_of_ble_eq_true rfl⟩) rfl rfl hl.1 (Nat.le_of_ble_eq_true rfl) dL_total_4 ⟨Nat.le_of_ble_eq_true rfl, Nat.le_of_ble_eq_true rfl⟩ (fun k H locs q ce ho w hc hv hcl => ?_) (fun x2 g2 H locs ho w => ?_)
  · have hex := hex k ho
    rcases hex with ⟨rfl, hP⟩
    · have h := hP
      refine vx_catch S.2.2.2.1 [] ⟨0, 9, 12, 13⟩ [] htab (fun z hz => absurd hz List.not_mem_nil) (by decide) (by decide) (S.2.2.2.2 _ xhk_L_total_13) (va_Nw.use rfl hN.2.2.2.2.2.2.2.2.1) hc hv hcl ?_
      refine lv_astore_n (lv' := [(3, .ref q), (0, .ref a0), (1, .int a1), (2, .ref a2)]) S.1 S.2.1 dL_total_12 rfl hl (by decide) rfl (fun ls hl => ?_)
      refine lv_iconst (v := 1) S.1 S.2.1 dL_total_13 (by decide) ?_
      exact ret _ _ _ _ _ _ _ _ _ h w dL_total_14 ⟨Nat.le_of_ble_eq_true rfl, Nat.le_of_ble_eq_true rfl⟩
  replace h := h x2 g2 ho
  refine lv_i2l (v := (Int32.toInt64 x2)) S.1 S.2.1 dL_total_7 rfl ?_
  obtain ⟨g3, h4, h⟩ := h
  refine xr_last S w h4 dL_total_8 (fun H locs w => ?_)
  refine lv_goto (tgt := 15) S.1 S.2.1 dL_total_9 (by decide) ?_
  refine lv_iconst (v := 0) S.1 S.2.1 dL_total_15 (by decide) ?_
  exact ret _ _ _ _ _ _ _ _ _ h w dL_total_16 ⟨Nat.le_of_ble_eq_true rfl, Nat.le_of_ble_eq_true rfl⟩
