theorem xi_X7_startWith_X7 : ∀ w ∈ wsX70, w ∈ wsX7_startWith := by decide +kernel
theorem xl_X7_startWith_18 : Cond.fieldLink RX7 18 (TX7 2).1 (TX7 2).2.1 (TX7 2).2.2.1 ∈ wsX7_startWith := by decide +kernel
theorem xi_X7_startWith_X5 : ∀ w ∈ wsX50, w ∈ wsX7_startWith := by decide +kernel
theorem xl_X7_startWith_205 : Cond.fieldLink RX7 205 (TX5 0).1 (TX5 0).2.1 (TX5 0).2.2.1 ∈ wsX7_startWith := by decide +kernel
theorem xl_X7_startWith_206 : Cond.fieldLink RX7 206 (TX5 1).1 (TX5 1).2.1 (TX5 1).2.2.1 ∈ wsX7_startWith := by decide +kernel
theorem xl_X7_startWith_149 : Cond.fieldLink RX7 149 (TX7 4).1 (TX7 4).2.1 (TX7 4).2.2.1 ∈ wsX7_startWith := by decide +kernel
theorem xl_X7_startWith_11 : Cond.fieldLink RX7 11 (TX7 1).1 (TX7 1).2.1 (TX7 1).2.2.1 ∈ wsX7_startWith := by decide +kernel
theorem xl_X7_startWith_209 : Cond.fieldLink RX7 209 (TX7 0).1 (TX7 0).2.1 (TX7 0).2.2.1 ∈ wsX7_startWith := by decide +kernel
def f_X7_startWith_7 : Nat → xG → Nat → Int32 → Int32 → Option xG
  | 0, _, _, _, _ => none
  | n9 + 1, g, v0, v1, v2 =>
  if 6 ≤ v2 then
    (xg_r g 8 v0 2).bind fun x1 =>
    (xp_i g 6 x1 0 0).bind fun g3 =>
    (xg_r g3 8 v0 2).bind fun x5 =>
    (xp_i g3 6 x5 1 0).bind fun g7 =>
    (xp_i g7 8 v0 4 0).bind fun g9 =>
    some g9
  else
    (xg_r g 8 v0 1).bind fun x11 =>
    (xa_r 5 g x11 v2).bind fun x13 =>
    (xk g 5 x13).bind fun _ =>
    (f_X4_restart g x13 v1).bind fun g17 =>
    f_X7_startWith_7 n9 g17 v0 v1 (v2 + 1)
def f_X7_startWith (g : xG) (a0 : Nat) (a1 : Int32) : Option xG :=
  (xp_i g 8 a0 0 a1).bind fun g18 =>
  f_X7_startWith_7 xFU g18 a0 a1 0
set_option maxHeartbeats 4000000 in
set_option maxRecDepth 100000 in
theorem c_X7_startWith (l : Launch) (D : va_G) (cy : Nat → ClassId) (L : List Nat) (g : xG) (a0 : Nat) (a1 : Int32) {g1 : xG} (h : f_X7_startWith g a0 a1 = some g1) : xMv l yX7_startWith wsX7_startWith ({ frames := 2, cells := 0, slots := 0, locals := 44 }) D cy L g [.ref a0, .int a1] g1 := by
  refine xm_v (cc := cX7_startWith) (maxL := 3) RX7 rfl rfl rfl (by decide +kernel) rfl (Nat.le_of_ble_eq_true rfl) ?_
  intro p e s m args below meth c Q A S w hA hN ret ls hl
  have hl : lv_has ls 3 [(0, .ref a0), (1, .int a1)] := hl
  obtain ⟨rr, hrr⟩ : ∃ z, z = g1 := ⟨_, rfl⟩
  rw [← hrr] at h
  have hb7 : ∀ (n9 : Nat), ∀ (g : xG) (v0 : Nat) (v1 : Int32) (v2 : Int32) , f_X7_startWith_7 n9 g v0 v1 v2 = some rr → ∀ (H : Heap) (locs : List Loc) (ls : Array Slot), xOK D cy A s.heap s L g H locs → lv_has ls 3 [(0, .ref v0), (1, .int v1), (2, .int v2)] → W p l e { frames := 2, cells := 0, slots := 0, locals := 44 } s m args below meth c H locs 0 0 Q (F0 m 7 ls []) := by
    intro n9
    induction n9 with
    | zero => intro g v0 v1 v2 h; cases h
    | succ n9 ih =>
      intro g v0 v1 v2 h H locs ls w hl
      rw [f_X7_startWith_7] at h
      refine lv_iload_n S.1 S.2.1 dX7_startWith_7 rfl (lv_at hl 2 rfl) ?_
      refine lv_bipush (v := 6) S.1 S.2.1 dX7_startWith_8 (by decide) ?_
      refine lv_icmp_ge (tgt := 29) S.1 S.2.1 dX7_startWith_10 (by decide) (fun c10 => ?_) (fun c10 => ?_)
      · rw [if_pos c10] at h
        refine lv_aload_n S.1 S.2.1 dX7_startWith_29 rfl (lv_at hl 0 rfl) ?_
        obtain ⟨x1, h2, h⟩ := xb h
        refine xr_getr S w 8 xi_X7_startWith_X7 rfl 2 (by decide) xl_X7_startWith_18 h2 dX7_startWith_30 ?_
        refine lv_iconst (v := 0) S.1 S.2.1 dX7_startWith_33 (by decide) ?_
        obtain ⟨g3, h4, h⟩ := xb h
        refine xr_puti S w 6 xi_X7_startWith_X5 rfl tyX5 tyX5_ok nmX5 0 (by decide) xl_X7_startWith_205 rfl (tyX5_ok 0 (by decide)) h4 dX7_startWith_34 (fun H locs w => ?_)
        refine lv_aload_n S.1 S.2.1 dX7_startWith_37 rfl (lv_at hl 0 rfl) ?_
        obtain ⟨x5, h6, h⟩ := xb h
        refine xr_getr S w 8 xi_X7_startWith_X7 rfl 2 (by decide) xl_X7_startWith_18 h6 dX7_startWith_38 ?_
        refine lv_iconst (v := 0) S.1 S.2.1 dX7_startWith_41 (by decide) ?_
        obtain ⟨g7, h8, h⟩ := xb h
        refine xr_puti S w 6 xi_X7_startWith_X5 rfl tyX5 tyX5_ok nmX5 1 (by decide) xl_X7_startWith_206 rfl (tyX5_ok 1 (by decide)) h8 dX7_startWith_42 (fun H locs w => ?_)
        refine lv_aload_n S.1 S.2.1 dX7_startWith_45 rfl (lv_at hl 0 rfl) ?_
        refine lv_iconst (v := 0) S.1 S.2.1 dX7_startWith_46 (by decide) ?_
        obtain ⟨g9, h10, h⟩ := xb h
        refine xr_puti S w 8 xi_X7_startWith_X7 rfl tyX7 tyX7_ok nmX7 4 (by decide) xl_X7_startWith_149 rfl (tyX7_ok 4 (by decide)) h10 dX7_startWith_47 (fun H locs w => ?_)
        exact ret _ _ _ _ _ (h.trans (congrArg some hrr)) w dX7_startWith_50
      · rw [if_neg c10] at h
        refine lv_aload_n S.1 S.2.1 dX7_startWith_13 rfl (lv_at hl 0 rfl) ?_
        obtain ⟨x11, h12, h⟩ := xb h
        refine xr_getr S w 8 xi_X7_startWith_X7 rfl 1 (by decide) xl_X7_startWith_11 h12 dX7_startWith_14 ?_
        refine lv_iload_n S.1 S.2.1 dX7_startWith_17 rfl (lv_at hl 2 rfl) ?_
        obtain ⟨x13, h14, h⟩ := xb h
        refine xr_aald S w 5 "TellTale$Node" (fun _ => rfl) h14 dX7_startWith_18 ?_
        refine lv_iload_n S.1 S.2.1 dX7_startWith_19 rfl (lv_at hl 1 rfl) ?_
        obtain ⟨_, h15, h⟩ := xb h
        obtain ⟨g17, h16, h⟩ := xb h
        refine xr_callV_v S w hA hN 5 rfl h15 (c_X4_restart l D cy L g x13 v1 h16) (cwV 1 S.2.2.2.2 gX7_startWith_X4_restart rfl rfl rfl (by decide +kernel) ⟨Nat.le_of_ble_eq_true rfl, Nat.le_of_ble_eq_true rfl⟩) rfl rfl hl.1 (Nat.le_of_ble_eq_true rfl) dX7_startWith_20 ⟨Nat.le_of_ble_eq_true rfl, Nat.le_of_ble_eq_true rfl⟩ (fun H locs w => ?_)
        refine lv_iinc (v := (v2 + 1)) (lv' := [(2, .int (v2 + 1)), (0, .ref v0), (1, .int v1)]) S.1 S.2.1 dX7_startWith_23 hl (k := 2) rfl rfl (by decide) rfl (fun ls hl => ?_)
        refine lv_goto (tgt := 7) S.1 S.2.1 dX7_startWith_26 (by decide) ?_
        exact ih g17 v0 v1 (v2 + 1) h _ _ _ w (lv_sub hl [1, 2, 0] rfl)
  rw [f_X7_startWith] at h
  refine lv_aload_n S.1 S.2.1 dX7_startWith_0 rfl (lv_at hl 0 rfl) ?_
  refine lv_iload_n S.1 S.2.1 dX7_startWith_1 rfl (lv_at hl 1 rfl) ?_
  obtain ⟨g18, h19, h⟩ := xb h
  refine xr_puti S w 8 xi_X7_startWith_X7 rfl tyX7 tyX7_ok nmX7 0 (by decide) xl_X7_startWith_209 rfl (tyX7_ok 0 (by decide)) h19 dX7_startWith_2 (fun H locs w => ?_)
  refine lv_iconst (v := 0) S.1 S.2.1 dX7_startWith_5 (by decide) ?_
  refine lv_istore_n (lv' := [(2, .int 0), (0, .ref a0), (1, .int a1)]) S.1 S.2.1 dX7_startWith_6 rfl hl (by decide) rfl (fun ls hl => ?_)
  exact hb7 xFU g18 a0 a1 0 h _ _ _ w (lv_sub hl [1, 2, 0] rfl)
theorem xi_X7_isNode_X7 : ∀ w ∈ wsX70, w ∈ wsX7_isNode := by decide +kernel
theorem xl_X7_isNode_209 : Cond.fieldLink RX7 209 (TX7 0).1 (TX7 0).2.1 (TX7 0).2.2.1 ∈ wsX7_isNode := by decide +kernel
def f_X7_isNode (g : xG) (a0 : Nat) (a1 : Int32) : Option Int32 :=
  if a1 < 0 then
    some 0
  else
    (xg_i g 8 a0 0).bind fun x1 =>
    if x1 ≤ a1 then
      some 0
    else
      some 1
set_option maxHeartbeats 4000000 in
set_option maxRecDepth 100000 in
theorem c_X7_isNode (l : Launch) (D : va_G) (cy : Nat → ClassId) (L : List Nat) (g : xG) (a0 : Nat) (a1 : Int32) {r1 : Int32} (h : f_X7_isNode g a0 a1 = some r1) : xMi l yX7_isNode wsX7_isNode ({ frames := 0, cells := 0, slots := 0, locals := 0 }) D cy L g [.ref a0, .int a1] r1 g := by
  refine xm_z (cc := cX7_isNode) (maxL := 2) RX7 rfl rfl rfl (by decide +kernel) rfl (Nat.le_of_ble_eq_true rfl) ?_
  intro p e s m args below meth c Q A S w hA hN ret ls hl
  have hl : lv_has ls 2 [(0, .ref a0), (1, .int a1)] := hl
  rw [f_X7_isNode] at h
  refine lv_iload_n S.1 S.2.1 dX7_isNode_0 rfl (lv_at hl 1 rfl) ?_
  refine lv_if_lt (tgt := 16) S.1 S.2.1 dX7_isNode_1 (by decide) (fun c1 => ?_) (fun c1 => ?_)
  · rw [if_pos c1] at h
    refine lv_iconst (v := 0) S.1 S.2.1 dX7_isNode_16 (by decide) ?_
    exact ret _ _ _ _ 0 0 _ (by decide) (congrArg (fun z => some (z, g)) (Option.some.inj h)) w dX7_isNode_17
  · rw [if_neg c1] at h
    refine lv_iload_n S.1 S.2.1 dX7_isNode_4 rfl (lv_at hl 1 rfl) ?_
    refine lv_aload_n S.1 S.2.1 dX7_isNode_5 rfl (lv_at hl 0 rfl) ?_
    obtain ⟨x1, h2, h⟩ := xb h
    refine xr_geti S w 8 xi_X7_isNode_X7 rfl 0 (by decide) xl_X7_isNode_209 h2 dX7_isNode_6 ?_
    refine lv_icmp_ge (tgt := 16) S.1 S.2.1 dX7_isNode_9 (by decide) (fun c9 => ?_) (fun c9 => ?_)
    · rw [if_pos c9] at h
      refine lv_iconst (v := 0) S.1 S.2.1 dX7_isNode_16 (by decide) ?_
      exact ret _ _ _ _ 0 0 _ (by decide) (congrArg (fun z => some (z, g)) (Option.some.inj h)) w dX7_isNode_17
    · rw [if_neg c9] at h
      refine lv_iconst (v := 1) S.1 S.2.1 dX7_isNode_12 (by decide) ?_
      refine lv_goto (tgt := 17) S.1 S.2.1 dX7_isNode_13 (by decide) ?_
      exact ret _ _ _ _ 1 1 _ (by decide) (congrArg (fun z => some (z, g)) (Option.some.inj h)) w dX7_isNode_17
theorem xi_X7_isLetter_X7 : ∀ w ∈ wsX70, w ∈ wsX7_isLetter := by decide +kernel
theorem xl_X7_isLetter_18 : Cond.fieldLink RX7 18 (TX7 2).1 (TX7 2).2.1 (TX7 2).2.2.1 ∈ wsX7_isLetter := by decide +kernel
theorem xi_X7_isLetter_X5 : ∀ w ∈ wsX50, w ∈ wsX7_isLetter := by decide +kernel
theorem xl_X7_isLetter_205 : Cond.fieldLink RX7 205 (TX5 0).1 (TX5 0).2.1 (TX5 0).2.2.1 ∈ wsX7_isLetter := by decide +kernel
def f_X7_isLetter (g : xG) (a0 : Nat) (a1 : Int32) : Option Int32 :=
  if a1 < 0 then
    some 0
  else
    (xg_r g 8 a0 2).bind fun x1 =>
    (xg_i g 6 x1 0).bind fun x3 =>
    if x3 ≤ a1 then
      some 0
    else
      some 1
set_option maxHeartbeats 4000000 in
set_option maxRecDepth 100000 in
theorem c_X7_isLetter (l : Launch) (D : va_G) (cy : Nat → ClassId) (L : List Nat) (g : xG) (a0 : Nat) (a1 : Int32) {r1 : Int32} (h : f_X7_isLetter g a0 a1 = some r1) : xMi l yX7_isLetter wsX7_isLetter ({ frames := 0, cells := 0, slots := 0, locals := 0 }) D cy L g [.ref a0, .int a1] r1 g := by
  refine xm_z (cc := cX7_isLetter) (maxL := 2) RX7 rfl rfl rfl (by decide +kernel) rfl (Nat.le_of_ble_eq_true rfl) ?_
  intro p e s m args below meth c Q A S w hA hN ret ls hl
  have hl : lv_has ls 2 [(0, .ref a0), (1, .int a1)] := hl
  rw [f_X7_isLetter] at h
  refine lv_iload_n S.1 S.2.1 dX7_isLetter_0 rfl (lv_at hl 1 rfl) ?_
  refine lv_if_lt (tgt := 19) S.1 S.2.1 dX7_isLetter_1 (by decide) (fun c1 => ?_) (fun c1 => ?_)
  · rw [if_pos c1] at h
    refine lv_iconst (v := 0) S.1 S.2.1 dX7_isLetter_19 (by decide) ?_
    exact ret _ _ _ _ 0 0 _ (by decide) (congrArg (fun z => some (z, g)) (Option.some.inj h)) w dX7_isLetter_20
  · rw [if_neg c1] at h
    refine lv_iload_n S.1 S.2.1 dX7_isLetter_4 rfl (lv_at hl 1 rfl) ?_
    refine lv_aload_n S.1 S.2.1 dX7_isLetter_5 rfl (lv_at hl 0 rfl) ?_
    obtain ⟨x1, h2, h⟩ := xb h
    refine xr_getr S w 8 xi_X7_isLetter_X7 rfl 2 (by decide) xl_X7_isLetter_18 h2 dX7_isLetter_6 ?_
    obtain ⟨x3, h4, h⟩ := xb h
    refine xr_geti S w 6 xi_X7_isLetter_X5 rfl 0 (by decide) xl_X7_isLetter_205 h4 dX7_isLetter_9 ?_
    refine lv_icmp_ge (tgt := 19) S.1 S.2.1 dX7_isLetter_12 (by decide) (fun c12 => ?_) (fun c12 => ?_)
    · rw [if_pos c12] at h
      refine lv_iconst (v := 0) S.1 S.2.1 dX7_isLetter_19 (by decide) ?_
      exact ret _ _ _ _ 0 0 _ (by decide) (congrArg (fun z => some (z, g)) (Option.some.inj h)) w dX7_isLetter_20
    · rw [if_neg c12] at h
      refine lv_iconst (v := 1) S.1 S.2.1 dX7_isLetter_15 (by decide) ?_
      refine lv_goto (tgt := 20) S.1 S.2.1 dX7_isLetter_16 (by decide) ?_
      exact ret _ _ _ _ 1 1 _ (by decide) (congrArg (fun z => some (z, g)) (Option.some.inj h)) w dX7_isLetter_20
theorem xi_X7_isEvidence_X7 : ∀ w ∈ wsX70, w ∈ wsX7_isEvidence := by decide +kernel
theorem xl_X7_isEvidence_149 : Cond.fieldLink RX7 149 (TX7 4).1 (TX7 4).2.1 (TX7 4).2.2.1 ∈ wsX7_isEvidence := by decide +kernel
def f_X7_isEvidence (g : xG) (a0 : Nat) (a1 : Int32) : Option Int32 :=
  if a1 < 0 then
    some 0
  else
    (xg_i g 8 a0 4).bind fun x1 =>
    if x1 ≤ a1 then
      some 0
    else
      some 1
set_option maxHeartbeats 4000000 in
set_option maxRecDepth 100000 in
theorem c_X7_isEvidence (l : Launch) (D : va_G) (cy : Nat → ClassId) (L : List Nat) (g : xG) (a0 : Nat) (a1 : Int32) {r1 : Int32} (h : f_X7_isEvidence g a0 a1 = some r1) : xMi l yX7_isEvidence wsX7_isEvidence ({ frames := 0, cells := 0, slots := 0, locals := 0 }) D cy L g [.ref a0, .int a1] r1 g := by
  refine xm_z (cc := cX7_isEvidence) (maxL := 2) RX7 rfl rfl rfl (by decide +kernel) rfl (Nat.le_of_ble_eq_true rfl) ?_
  intro p e s m args below meth c Q A S w hA hN ret ls hl
  have hl : lv_has ls 2 [(0, .ref a0), (1, .int a1)] := hl
  rw [f_X7_isEvidence] at h
  refine lv_iload_n S.1 S.2.1 dX7_isEvidence_0 rfl (lv_at hl 1 rfl) ?_
  refine lv_if_lt (tgt := 16) S.1 S.2.1 dX7_isEvidence_1 (by decide) (fun c1 => ?_) (fun c1 => ?_)
  · rw [if_pos c1] at h
    refine lv_iconst (v := 0) S.1 S.2.1 dX7_isEvidence_16 (by decide) ?_
    exact ret _ _ _ _ 0 0 _ (by decide) (congrArg (fun z => some (z, g)) (Option.some.inj h)) w dX7_isEvidence_17
  · rw [if_neg c1] at h
    refine lv_iload_n S.1 S.2.1 dX7_isEvidence_4 rfl (lv_at hl 1 rfl) ?_
    refine lv_aload_n S.1 S.2.1 dX7_isEvidence_5 rfl (lv_at hl 0 rfl) ?_
    obtain ⟨x1, h2, h⟩ := xb h
    refine xr_geti S w 8 xi_X7_isEvidence_X7 rfl 4 (by decide) xl_X7_isEvidence_149 h2 dX7_isEvidence_6 ?_
    refine lv_icmp_ge (tgt := 16) S.1 S.2.1 dX7_isEvidence_9 (by decide) (fun c9 => ?_) (fun c9 => ?_)
    · rw [if_pos c9] at h
      refine lv_iconst (v := 0) S.1 S.2.1 dX7_isEvidence_16 (by decide) ?_
      exact ret _ _ _ _ 0 0 _ (by decide) (congrArg (fun z => some (z, g)) (Option.some.inj h)) w dX7_isEvidence_17
    · rw [if_neg c9] at h
      refine lv_iconst (v := 1) S.1 S.2.1 dX7_isEvidence_12 (by decide) ?_
      refine lv_goto (tgt := 17) S.1 S.2.1 dX7_isEvidence_13 (by decide) ?_
      exact ret _ _ _ _ 1 1 _ (by decide) (congrArg (fun z => some (z, g)) (Option.some.inj h)) w dX7_isEvidence_17
theorem xi_X7_isWitness_X7 : ∀ w ∈ wsX70, w ∈ wsX7_isWitness := by decide +kernel
theorem xl_X7_isWitness_209 : Cond.fieldLink RX7 209 (TX7 0).1 (TX7 0).2.1 (TX7 0).2.2.1 ∈ wsX7_isWitness := by decide +kernel
def f_X7_isWitness (g : xG) (a0 : Nat) (a1 : Int32) (a2 : Int32) : Option Int32 :=
  (xg_i g 8 a0 0).bind fun x1 =>
  (xnz x1).bind fun _ =>
  if a1 = ((a2 + 1) - (a2 + 1) / x1 * x1) then
    some 1
  else
    (xg_i g 8 a0 0).bind fun x4 =>
    (xnz x4).bind fun _ =>
    if a1 = ((a2 + 2) - (a2 + 2) / x4 * x4) then
      some 1
    else
      some 0
set_option maxHeartbeats 4000000 in
set_option maxRecDepth 100000 in
theorem c_X7_isWitness (l : Launch) (D : va_G) (cy : Nat → ClassId) (L : List Nat) (g : xG) (a0 : Nat) (a1 : Int32) (a2 : Int32) {r1 : Int32} (h : f_X7_isWitness g a0 a1 a2 = some r1) : xMi l yX7_isWitness wsX7_isWitness ({ frames := 0, cells := 0, slots := 0, locals := 0 }) D cy L g [.ref a0, .int a1, .int a2] r1 g := by
  refine xm_z (cc := cX7_isWitness) (maxL := 3) RX7 rfl rfl rfl (by decide +kernel) rfl (Nat.le_of_ble_eq_true rfl) ?_
  intro p e s m args below meth c Q A S w hA hN ret ls hl
  have hl : lv_has ls 3 [(0, .ref a0), (1, .int a1), (2, .int a2)] := hl
  rw [f_X7_isWitness] at h
  refine lv_iload_n S.1 S.2.1 dX7_isWitness_0 rfl (lv_at hl 1 rfl) ?_
  refine lv_iload_n S.1 S.2.1 dX7_isWitness_1 rfl (lv_at hl 2 rfl) ?_
  refine lv_iconst (v := 1) S.1 S.2.1 dX7_isWitness_2 (by decide) ?_
  refine lv_iadd S.1 S.2.1 dX7_isWitness_3 ?_
  refine lv_aload_n S.1 S.2.1 dX7_isWitness_4 rfl (lv_at hl 0 rfl) ?_
  obtain ⟨x1, h2, h⟩ := xb h
  refine xr_geti S w 8 xi_X7_isWitness_X7 rfl 0 (by decide) xl_X7_isWitness_209 h2 dX7_isWitness_5 ?_
  obtain ⟨_, h3, h⟩ := xb h
  refine lv_irem S.1 S.2.1 dX7_isWitness_8 (xnz_ok h3) ?_
  refine lv_icmp_eq (tgt := 24) S.1 S.2.1 dX7_isWitness_9 (by decide) (fun c9 => ?_) (fun c9 => ?_)
  · rw [if_pos c9] at h
    refine lv_iconst (v := 1) S.1 S.2.1 dX7_isWitness_24 (by decide) ?_
    refine lv_goto (tgt := 29) S.1 S.2.1 dX7_isWitness_25 (by decide) ?_
    exact ret _ _ _ _ 1 1 _ (by decide) (congrArg (fun z => some (z, g)) (Option.some.inj h)) w dX7_isWitness_29
  · rw [if_neg c9] at h
    refine lv_iload_n S.1 S.2.1 dX7_isWitness_12 rfl (lv_at hl 1 rfl) ?_
    refine lv_iload_n S.1 S.2.1 dX7_isWitness_13 rfl (lv_at hl 2 rfl) ?_
    refine lv_iconst (v := 2) S.1 S.2.1 dX7_isWitness_14 (by decide) ?_
    refine lv_iadd S.1 S.2.1 dX7_isWitness_15 ?_
    refine lv_aload_n S.1 S.2.1 dX7_isWitness_16 rfl (lv_at hl 0 rfl) ?_
    obtain ⟨x4, h5, h⟩ := xb h
    refine xr_geti S w 8 xi_X7_isWitness_X7 rfl 0 (by decide) xl_X7_isWitness_209 h5 dX7_isWitness_17 ?_
    obtain ⟨_, h6, h⟩ := xb h
    refine lv_irem S.1 S.2.1 dX7_isWitness_20 (xnz_ok h6) ?_
    refine lv_icmp_ne (tgt := 28) S.1 S.2.1 dX7_isWitness_21 (by decide) (fun c21 => ?_) (fun c21 => ?_)
    · rw [if_neg c21] at h
      refine lv_iconst (v := 0) S.1 S.2.1 dX7_isWitness_28 (by decide) ?_
      exact ret _ _ _ _ 0 0 _ (by decide) (congrArg (fun z => some (z, g)) (Option.some.inj h)) w dX7_isWitness_29
    · rw [if_pos c21] at h
      refine lv_iconst (v := 1) S.1 S.2.1 dX7_isWitness_24 (by decide) ?_
      refine lv_goto (tgt := 29) S.1 S.2.1 dX7_isWitness_25 (by decide) ?_
      exact ret _ _ _ _ 1 1 _ (by decide) (congrArg (fun z => some (z, g)) (Option.some.inj h)) w dX7_isWitness_29
theorem xi_X7_sendMessage_X4 : ∀ w ∈ wsX40, w ∈ wsX7_sendMessage := by decide +kernel
theorem xl_X7_sendMessage_57 : Cond.fieldLink RX7 57 (TX4 2).1 (TX4 2).2.1 (TX4 2).2.2.1 ∈ wsX7_sendMessage := by decide +kernel
theorem xi_X7_sendMessage_X2 : ∀ w ∈ wsX20, w ∈ wsX7_sendMessage := by decide +kernel
theorem xl_X7_sendMessage_192 : Cond.fieldLink RX7 192 (TX2 4).1 (TX2 4).2.1 (TX2 4).2.2.1 ∈ wsX7_sendMessage := by decide +kernel
theorem xl_X7_sendMessage_81 : Cond.fieldLink RX7 81 (TX2 0).1 (TX2 0).2.1 (TX2 0).2.2.1 ∈ wsX7_sendMessage := by decide +kernel
theorem xi_X7_sendMessage_X7 : ∀ w ∈ wsX70, w ∈ wsX7_sendMessage := by decide +kernel
theorem xl_X7_sendMessage_18 : Cond.fieldLink RX7 18 (TX7 2).1 (TX7 2).2.1 (TX7 2).2.2.1 ∈ wsX7_sendMessage := by decide +kernel
theorem xi_X7_sendMessage_X5 : ∀ w ∈ wsX50, w ∈ wsX7_sendMessage := by decide +kernel
theorem xl_X7_sendMessage_206 : Cond.fieldLink RX7 206 (TX5 1).1 (TX5 1).2.1 (TX5 1).2.2.1 ∈ wsX7_sendMessage := by decide +kernel
theorem xl_X7_sendMessage_242 : Cond.fieldLink RX7 242 (TX4 0).1 (TX4 0).2.1 (TX4 0).2.2.1 ∈ wsX7_sendMessage := by decide +kernel
theorem xi_X7_sendMessage_X1 : ∀ w ∈ wsX10, w ∈ wsX7_sendMessage := by decide +kernel
theorem xl_X7_sendMessage_111 : Cond.fieldLink RX7 111 (TX1 3).1 (TX1 3).2.1 (TX1 3).2.2.1 ∈ wsX7_sendMessage := by decide +kernel
def f_X7_sendMessage (g : xG) (a0 : Nat) (a1 : Nat) (a2 : Int32) (a3 : Int32) : Option xG :=
  (xg_r g 5 a1 2).bind fun x1 =>
  (xg_r g 3 x1 4).bind fun x3 =>
  (xg_i g 3 x1 0).bind fun x5 =>
  (xa_l g x3 x5).bind fun x7 =>
  (xk g 3 x1).bind fun _ =>
  (f_X2_append g x1 3 a2 a3).bind fun g11 =>
  (xg_r g11 8 a0 2).bind fun x12 =>
  (xg_i g11 6 x12 1).bind fun x14 =>
  (xp_i g11 6 x12 1 (x14 + 1)).bind fun g16 =>
  (xg_r g16 8 a0 2).bind fun x18 =>
  (xk g16 6 x18).bind fun _ =>
  (f_X5_hasRoom g16 x18).bind fun x22 =>
  if x22 = 0 then
    some g16
  else
    (xg_r g16 8 a0 2).bind fun x23 =>
    (xk g16 6 x23).bind fun _ =>
    x2 (f_X5_addLast g16 x23) fun x27 g28 =>
    (xg_i g28 5 a1 0).bind fun x29 =>
    (xk g28 2 x27).bind fun _ =>
    (f_X1_address g28 x27 1 x29 a2).bind fun g33 =>
    (xp_i g33 2 x27 3 a3).bind fun g34 =>
    (xg_i g34 3 x1 0).bind fun x36 =>
    (xg_i g34 5 a1 0).bind fun x38 =>
    (xg_i g34 3 x1 0).bind fun x40 =>
    (xg_r g34 3 x1 4).bind fun x42 =>
    (xg_i g34 3 x1 0).bind fun x44 =>
    (xa_l g34 x42 x44).bind fun x46 =>
    (f_X7_signatureOf x38 x40 x46).bind fun x49 =>
    (xk g34 2 x27).bind fun _ =>
    (f_X1_seal g34 x27 x36 x7 x49).bind fun g52 =>
    some g52
set_option maxHeartbeats 4000000 in
set_option maxRecDepth 100000 in
theorem c_X7_sendMessage (l : Launch) (D : va_G) (cy : Nat → ClassId) (L : List Nat) (g : xG) (a0 : Nat) (a1 : Nat) (a2 : Int32) (a3 : Int32) {g1 : xG} (h : f_X7_sendMessage g a0 a1 a2 a3 = some g1) : xMv l yX7_sendMessage wsX7_sendMessage ({ frames := 3, cells := 0, slots := 0, locals := 72 }) D cy L g [.ref a0, .ref a1, .int a2, .int a3] g1 := by
  refine xm_v (cc := cX7_sendMessage) (maxL := 8) RX7 rfl rfl rfl (by decide +kernel) rfl (Nat.le_of_ble_eq_true rfl) ?_
  intro p e s m args below meth c Q A S w hA hN ret ls hl
  have hl : lv_has ls 8 [(0, .ref a0), (1, .ref a1), (2, .int a2), (3, .int a3)] := hl
  rw [f_X7_sendMessage] at h
  refine lv_aload_n S.1 S.2.1 dX7_sendMessage_0 rfl (lv_at hl 1 rfl) ?_
  obtain ⟨x1, h2, h⟩ := xb h
  refine xr_getr S w 5 xi_X7_sendMessage_X4 rfl 2 (by decide) xl_X7_sendMessage_57 h2 dX7_sendMessage_1 ?_
  refine lv_astore (lv' := [(4, .ref x1), (0, .ref a0), (1, .ref a1), (2, .int a2), (3, .int a3)]) S.1 S.2.1 dX7_sendMessage_4 hl (by decide) rfl (fun ls hl => ?_)
  refine lv_aload S.1 S.2.1 dX7_sendMessage_6 (lv_at hl 0 rfl) ?_
  obtain ⟨x3, h4, h⟩ := xb h
  refine xr_getr S w 3 xi_X7_sendMessage_X2 rfl 4 (by decide) xl_X7_sendMessage_192 h4 dX7_sendMessage_8 ?_
  refine lv_aload S.1 S.2.1 dX7_sendMessage_11 (lv_at hl 0 rfl) ?_
  obtain ⟨x5, h6, h⟩ := xb h
  refine xr_geti S w 3 xi_X7_sendMessage_X2 rfl 0 (by decide) xl_X7_sendMessage_81 h6 dX7_sendMessage_13 ?_
  obtain ⟨x7, h8, h⟩ := xb h
  refine xr_lald S w h8 dX7_sendMessage_16 ?_
  refine lv_lstore (lv' := [(5, .long x7), (4, .ref x1), (0, .ref a0), (1, .ref a1), (2, .int a2), (3, .int a3)]) S.1 S.2.1 dX7_sendMessage_17 hl (by decide) rfl (fun ls hl => ?_)
  refine lv_aload S.1 S.2.1 dX7_sendMessage_19 (lv_at hl 1 rfl) ?_
  refine lv_iconst (v := 3) S.1 S.2.1 dX7_sendMessage_21 (by decide) ?_
  refine lv_iload_n S.1 S.2.1 dX7_sendMessage_22 rfl (lv_at hl 4 rfl) ?_
  refine lv_iload_n S.1 S.2.1 dX7_sendMessage_23 rfl (lv_at hl 5 rfl) ?_
  obtain ⟨_, h9, h⟩ := xb h
  obtain ⟨g11, h10, h⟩ := xb h
  refine xr_callV_v S w hA hN 3 rfl h9 (c_X2_append l D cy L g x1 3 a2 a3 h10) (cwV 3 S.2.2.2.2 gX7_sendMessage_X2_append rfl rfl rfl (by decide +kernel) ⟨Nat.le_of_ble_eq_true rfl, Nat.le_of_ble_eq_true rfl⟩) rfl rfl hl.1 (Nat.le_of_ble_eq_true rfl) dX7_sendMessage_24 ⟨Nat.le_of_ble_eq_true rfl, Nat.le_of_ble_eq_true rfl⟩ (fun H locs w => ?_)
  refine lv_aload_n S.1 S.2.1 dX7_sendMessage_27 rfl (lv_at hl 2 rfl) ?_
  obtain ⟨x12, h13, h⟩ := xb h
  refine xr_getr S w 8 xi_X7_sendMessage_X7 rfl 2 (by decide) xl_X7_sendMessage_18 h13 dX7_sendMessage_28 ?_
  refine lv_dup S.1 S.2.1 dX7_sendMessage_31 rfl ?_
  obtain ⟨x14, h15, h⟩ := xb h
  refine xr_geti S w 6 xi_X7_sendMessage_X5 rfl 1 (by decide) xl_X7_sendMessage_206 h15 dX7_sendMessage_32 ?_
  refine lv_iconst (v := 1) S.1 S.2.1 dX7_sendMessage_35 (by decide) ?_
  refine lv_iadd S.1 S.2.1 dX7_sendMessage_36 ?_
  obtain ⟨g16, h17, h⟩ := xb h
  refine xr_puti S w 6 xi_X7_sendMessage_X5 rfl tyX5 tyX5_ok nmX5 1 (by decide) xl_X7_sendMessage_206 rfl (tyX5_ok 1 (by decide)) h17 dX7_sendMessage_37 (fun H locs w => ?_)
  refine lv_aload_n S.1 S.2.1 dX7_sendMessage_40 rfl (lv_at hl 2 rfl) ?_
  obtain ⟨x18, h19, h⟩ := xb h
  refine xr_getr S w 8 xi_X7_sendMessage_X7 rfl 2 (by decide) xl_X7_sendMessage_18 h19 dX7_sendMessage_41 ?_
  obtain ⟨_, h20, h⟩ := xb h
  obtain ⟨x22, h21, h⟩ := xb h
  refine xr_callV_i S w hA hN 6 rfl h20 (c_X5_hasRoom l D cy L g16 x18 h21) (cwV 0 S.2.2.2.2 gX7_sendMessage_X5_hasRoom rfl rfl rfl (by decide +kernel) ⟨Nat.le_of_ble_eq_true rfl, Nat.le_of_ble_eq_true rfl⟩) rfl rfl hl.1 (Nat.le_of_ble_eq_true rfl) dX7_sendMessage_44 ⟨Nat.le_of_ble_eq_true rfl, Nat.le_of_ble_eq_true rfl⟩ (fun H locs w => ?_)
  refine lv_if_eq (tgt := 111) S.1 S.2.1 dX7_sendMessage_47 (by decide) (fun c47 => ?_) (fun c47 => ?_)
  · rw [if_pos c47] at h
    exact ret _ _ _ _ _ h w dX7_sendMessage_111
  · rw [if_neg c47] at h
    refine lv_aload_n S.1 S.2.1 dX7_sendMessage_50 rfl (lv_at hl 2 rfl) ?_
    obtain ⟨x23, h24, h⟩ := xb h
    refine xr_getr S w 8 xi_X7_sendMessage_X7 rfl 2 (by decide) xl_X7_sendMessage_18 h24 dX7_sendMessage_51 ?_
    obtain ⟨_, h25, h⟩ := xb h
    obtain ⟨x27, g28, h26, h⟩ := x2b h
    refine xr_callV_r S w hA hN 6 rfl h25 (c_X5_addLast l D cy L g16 x23 h26) (cwV 0 S.2.2.2.2 gX7_sendMessage_X5_addLast rfl rfl rfl (by decide +kernel) ⟨Nat.le_of_ble_eq_true rfl, Nat.le_of_ble_eq_true rfl⟩) rfl rfl hl.1 (Nat.le_of_ble_eq_true rfl) dX7_sendMessage_54 ⟨Nat.le_of_ble_eq_true rfl, Nat.le_of_ble_eq_true rfl⟩ (fun H locs w => ?_)
    refine lv_astore (lv' := [(7, .ref x27), (5, .long x7), (4, .ref x1), (0, .ref a0), (1, .ref a1), (2, .int a2), (3, .int a3)]) S.1 S.2.1 dX7_sendMessage_57 hl (by decide) rfl (fun ls hl => ?_)
    refine lv_aload S.1 S.2.1 dX7_sendMessage_59 (lv_at hl 0 rfl) ?_
    refine lv_iconst (v := 1) S.1 S.2.1 dX7_sendMessage_61 (by decide) ?_
    refine lv_aload_n S.1 S.2.1 dX7_sendMessage_62 rfl (lv_at hl 4 rfl) ?_
    obtain ⟨x29, h30, h⟩ := xb h
    refine xr_geti S w 5 xi_X7_sendMessage_X4 rfl 0 (by decide) xl_X7_sendMessage_242 h30 dX7_sendMessage_63 ?_
    refine lv_iload_n S.1 S.2.1 dX7_sendMessage_66 rfl (lv_at hl 5 rfl) ?_
    obtain ⟨_, h31, h⟩ := xb h
    obtain ⟨g33, h32, h⟩ := xb h
    refine xr_callV_v S w hA hN 2 rfl h31 (c_X1_address l D cy L g28 x27 1 x29 a2 h32) (cwV 3 S.2.2.2.2 gX7_sendMessage_X1_address rfl rfl rfl (by decide +kernel) ⟨Nat.le_of_ble_eq_true rfl, Nat.le_of_ble_eq_true rfl⟩) rfl rfl hl.1 (Nat.le_of_ble_eq_true rfl) dX7_sendMessage_67 ⟨Nat.le_of_ble_eq_true rfl, Nat.le_of_ble_eq_true rfl⟩ (fun H locs w => ?_)
    refine lv_aload S.1 S.2.1 dX7_sendMessage_70 (lv_at hl 0 rfl) ?_
    refine lv_iload_n S.1 S.2.1 dX7_sendMessage_72 rfl (lv_at hl 6 rfl) ?_
    obtain ⟨g34, h35, h⟩ := xb h
    refine xr_puti S w 2 xi_X7_sendMessage_X1 rfl tyX1 tyX1_ok nmX1 3 (by decide) xl_X7_sendMessage_111 rfl (tyX1_ok 3 (by decide)) h35 dX7_sendMessage_73 (fun H locs w => ?_)
    refine lv_aload S.1 S.2.1 dX7_sendMessage_76 (lv_at hl 0 rfl) ?_
    refine lv_aload S.1 S.2.1 dX7_sendMessage_78 (lv_at hl 2 rfl) ?_
    obtain ⟨x36, h37, h⟩ := xb h
    refine xr_geti S w 3 xi_X7_sendMessage_X2 rfl 0 (by decide) xl_X7_sendMessage_81 h37 dX7_sendMessage_80 ?_
    refine lv_lload S.1 S.2.1 dX7_sendMessage_83 (lv_at hl 1 rfl) ?_
    refine lv_aload_n S.1 S.2.1 dX7_sendMessage_85 rfl (lv_at hl 4 rfl) ?_
    obtain ⟨x38, h39, h⟩ := xb h
    refine xr_geti S w 5 xi_X7_sendMessage_X4 rfl 0 (by decide) xl_X7_sendMessage_242 h39 dX7_sendMessage_86 ?_
    refine lv_aload S.1 S.2.1 dX7_sendMessage_89 (lv_at hl 2 rfl) ?_
    obtain ⟨x40, h41, h⟩ := xb h
    refine xr_geti S w 3 xi_X7_sendMessage_X2 rfl 0 (by decide) xl_X7_sendMessage_81 h41 dX7_sendMessage_91 ?_
    refine lv_aload S.1 S.2.1 dX7_sendMessage_94 (lv_at hl 2 rfl) ?_
    obtain ⟨x42, h43, h⟩ := xb h
    refine xr_getr S w 3 xi_X7_sendMessage_X2 rfl 4 (by decide) xl_X7_sendMessage_192 h43 dX7_sendMessage_96 ?_
    refine lv_aload S.1 S.2.1 dX7_sendMessage_99 (lv_at hl 2 rfl) ?_
    obtain ⟨x44, h45, h⟩ := xb h
    refine xr_geti S w 3 xi_X7_sendMessage_X2 rfl 0 (by decide) xl_X7_sendMessage_81 h45 dX7_sendMessage_101 ?_
    obtain ⟨x46, h47, h⟩ := xb h
    refine xr_lald S w h47 dX7_sendMessage_104 ?_
    obtain ⟨x49, h48, h⟩ := xb h
    refine xr_callS_l S w hA hN (c_X7_signatureOf l D cy L g34 x38 x40 x46 h48) (va_cwS 3 S.2.2.2.2 gX7_sendMessage_X7_signatureOf rfl rfl rfl (by decide +kernel) ⟨Nat.le_of_ble_eq_true rfl, Nat.le_of_ble_eq_true rfl⟩) rfl rfl hl.1 (Nat.le_of_ble_eq_true rfl) dX7_sendMessage_105 ⟨Nat.le_of_ble_eq_true rfl, Nat.le_of_ble_eq_true rfl⟩ (fun H locs w => ?_)
    obtain ⟨_, h50, h⟩ := xb h
    obtain ⟨g52, h51, h⟩ := xb h
    refine xr_callV_v S w hA hN 2 rfl h50 (c_X1_seal l D cy L g34 x27 x36 x7 x49 h51) (cwV 3 S.2.2.2.2 gX7_sendMessage_X1_seal rfl rfl rfl (by decide +kernel) ⟨Nat.le_of_ble_eq_true rfl, Nat.le_of_ble_eq_true rfl⟩) rfl rfl hl.1 (Nat.le_of_ble_eq_true rfl) dX7_sendMessage_108 ⟨Nat.le_of_ble_eq_true rfl, Nat.le_of_ble_eq_true rfl⟩ (fun H locs w => ?_)
    exact ret _ _ _ _ _ h w dX7_sendMessage_111
theorem xi_X7_sendWhatIsDue_X4 : ∀ w ∈ wsX40, w ∈ wsX7_sendWhatIsDue := by decide +kernel
theorem xl_X7_sendWhatIsDue_71 : Cond.fieldLink RX7 71 (TX4 1).1 (TX4 1).2.1 (TX4 1).2.2.1 ∈ wsX7_sendWhatIsDue := by decide +kernel
theorem xi_X7_sendWhatIsDue_X3 : ∀ w ∈ wsX30, w ∈ wsX7_sendWhatIsDue := by decide +kernel
theorem xl_X7_sendWhatIsDue_226 : Cond.fieldLink RX7 226 (TX3 4).1 (TX3 4).2.1 (TX3 4).2.2.1 ∈ wsX7_sendWhatIsDue := by decide +kernel
theorem xl_X7_sendWhatIsDue_229 : Cond.fieldLink RX7 229 (TX3 5).1 (TX3 5).2.1 (TX3 5).2.2.1 ∈ wsX7_sendWhatIsDue := by decide +kernel
theorem xl_X7_sendWhatIsDue_232 : Cond.fieldLink RX7 232 (TX3 6).1 (TX3 6).2.1 (TX3 6).2.2.1 ∈ wsX7_sendWhatIsDue := by decide +kernel
def f_X7_sendWhatIsDue (g : xG) (a0 : Nat) (a1 : Nat) : Option xG :=
  (xg_r g 5 a1 1).bind fun x1 =>
  (xg_i g 4 x1 4).bind fun x3 =>
  if x3 = 0 then
    some g
  else
    (xg_r g 5 a1 1).bind fun x5 =>
    (xg_i g 4 x5 5).bind fun x7 =>
    (xg_r g 5 a1 1).bind fun x9 =>
    (xg_i g 4 x9 6).bind fun x11 =>
    (xk g 8 a0).bind fun _ =>
    (f_X7_sendMessage g a0 a1 x7 x11).bind fun g15 =>
    some g15
set_option maxHeartbeats 4000000 in
set_option maxRecDepth 100000 in
theorem c_X7_sendWhatIsDue (l : Launch) (D : va_G) (cy : Nat → ClassId) (L : List Nat) (g : xG) (a0 : Nat) (a1 : Nat) {g1 : xG} (h : f_X7_sendWhatIsDue g a0 a1 = some g1) : xMv l yX7_sendWhatIsDue wsX7_sendWhatIsDue ({ frames := 4, cells := 0, slots := 0, locals := 99 }) D cy L g [.ref a0, .ref a1] g1 := by
  refine xm_v (cc := cX7_sendWhatIsDue) (maxL := 2) RX7 rfl rfl rfl (by decide +kernel) rfl (Nat.le_of_ble_eq_true rfl) ?_
  intro p e s m args below meth c Q A S w hA hN ret ls hl
  have hl : lv_has ls 2 [(0, .ref a0), (1, .ref a1)] := hl
  rw [f_X7_sendWhatIsDue] at h
  refine lv_aload_n S.1 S.2.1 dX7_sendWhatIsDue_0 rfl (lv_at hl 1 rfl) ?_
  obtain ⟨x1, h2, h⟩ := xb h
  refine xr_getr S w 5 xi_X7_sendWhatIsDue_X4 rfl 1 (by decide) xl_X7_sendWhatIsDue_71 h2 dX7_sendWhatIsDue_1 ?_
  obtain ⟨x3, h4, h⟩ := xb h
  refine xr_geti S w 4 xi_X7_sendWhatIsDue_X3 rfl 4 (by decide) xl_X7_sendWhatIsDue_226 h4 dX7_sendWhatIsDue_4 ?_
  refine lv_if_eq (tgt := 29) S.1 S.2.1 dX7_sendWhatIsDue_7 (by decide) (fun c7 => ?_) (fun c7 => ?_)
  · rw [if_pos c7] at h
    exact ret _ _ _ _ _ h w dX7_sendWhatIsDue_29
  · rw [if_neg c7] at h
    refine lv_aload_n S.1 S.2.1 dX7_sendWhatIsDue_10 rfl (lv_at hl 0 rfl) ?_
    refine lv_aload_n S.1 S.2.1 dX7_sendWhatIsDue_11 rfl (lv_at hl 1 rfl) ?_
    refine lv_aload_n S.1 S.2.1 dX7_sendWhatIsDue_12 rfl (lv_at hl 1 rfl) ?_
    obtain ⟨x5, h6, h⟩ := xb h
    refine xr_getr S w 5 xi_X7_sendWhatIsDue_X4 rfl 1 (by decide) xl_X7_sendWhatIsDue_71 h6 dX7_sendWhatIsDue_13 ?_
    obtain ⟨x7, h8, h⟩ := xb h
    refine xr_geti S w 4 xi_X7_sendWhatIsDue_X3 rfl 5 (by decide) xl_X7_sendWhatIsDue_229 h8 dX7_sendWhatIsDue_16 ?_
    refine lv_aload_n S.1 S.2.1 dX7_sendWhatIsDue_19 rfl (lv_at hl 1 rfl) ?_
    obtain ⟨x9, h10, h⟩ := xb h
    refine xr_getr S w 5 xi_X7_sendWhatIsDue_X4 rfl 1 (by decide) xl_X7_sendWhatIsDue_71 h10 dX7_sendWhatIsDue_20 ?_
    obtain ⟨x11, h12, h⟩ := xb h
    refine xr_geti S w 4 xi_X7_sendWhatIsDue_X3 rfl 6 (by decide) xl_X7_sendWhatIsDue_232 h12 dX7_sendWhatIsDue_23 ?_
    obtain ⟨_, h13, h⟩ := xb h
    obtain ⟨g15, h14, h⟩ := xb h
    refine xr_callV_v S w hA hN 8 rfl h13 (c_X7_sendMessage l D cy L g a0 a1 x7 x11 h14) (cwV 3 S.2.2.2.2 gX7_sendWhatIsDue_X7_sendMessage rfl rfl rfl (by decide +kernel) ⟨Nat.le_of_ble_eq_true rfl, Nat.le_of_ble_eq_true rfl⟩) rfl rfl hl.1 (Nat.le_of_ble_eq_true rfl) dX7_sendWhatIsDue_26 ⟨Nat.le_of_ble_eq_true rfl, Nat.le_of_ble_eq_true rfl⟩ (fun H locs w => ?_)
    exact ret _ _ _ _ _ h w dX7_sendWhatIsDue_29
theorem xi_X7_sendNote_X6 : ∀ w ∈ wsX60, w ∈ wsX7_sendNote := by decide +kernel
theorem xl_X7_sendNote_256 : Cond.fieldLink RX7 256 (TX6 1).1 (TX6 1).2.1 (TX6 1).2.2.1 ∈ wsX7_sendNote := by decide +kernel
theorem xi_X7_sendNote_X7 : ∀ w ∈ wsX70, w ∈ wsX7_sendNote := by decide +kernel
theorem xl_X7_sendNote_209 : Cond.fieldLink RX7 209 (TX7 0).1 (TX7 0).2.1 (TX7 0).2.2.1 ∈ wsX7_sendNote := by decide +kernel
theorem xl_X7_sendNote_18 : Cond.fieldLink RX7 18 (TX7 2).1 (TX7 2).2.1 (TX7 2).2.2.1 ∈ wsX7_sendNote := by decide +kernel
theorem xi_X7_sendNote_X5 : ∀ w ∈ wsX50, w ∈ wsX7_sendNote := by decide +kernel
theorem xl_X7_sendNote_206 : Cond.fieldLink RX7 206 (TX5 1).1 (TX5 1).2.1 (TX5 1).2.2.1 ∈ wsX7_sendNote := by decide +kernel
theorem xl_X7_sendNote_259 : Cond.fieldLink RX7 259 (TX6 2).1 (TX6 2).2.1 (TX6 2).2.2.1 ∈ wsX7_sendNote := by decide +kernel
theorem xl_X7_sendNote_262 : Cond.fieldLink RX7 262 (TX6 3).1 (TX6 3).2.1 (TX6 3).2.2.1 ∈ wsX7_sendNote := by decide +kernel
def f_X7_sendNote (g : xG) (a0 : Nat) (a1 : Int32) (a2 : Nat) (a3 : Int32) (a4 : Int32) : Option (Int32 × xG) :=
  (xg_r g 7 a2 1).bind fun x1 =>
  (xa_i 1 g x1 a3).bind fun x3 =>
  (xg_i g 8 a0 0).bind fun x5 =>
  (xnz x5).bind fun _ =>
  if ((x3 + a4) - (x3 + a4) / x5 * x5) = a1 then
    some (0, g)
  else
    (xg_r g 8 a0 2).bind fun x8 =>
    (xg_i g 6 x8 1).bind fun x10 =>
    (xp_i g 6 x8 1 (x10 + 1)).bind fun g12 =>
    (xg_r g12 8 a0 2).bind fun x14 =>
    (xk g12 6 x14).bind fun _ =>
    (f_X5_hasRoom g12 x14).bind fun x18 =>
    if x18 = 0 then
      some (1, g12)
    else
      (xg_r g12 8 a0 2).bind fun x19 =>
      (xk g12 6 x19).bind fun _ =>
      x2 (f_X5_addLast g12 x19) fun x23 g24 =>
      (xk g24 2 x23).bind fun _ =>
      (f_X1_address g24 x23 2 x3 ((x3 + a4) - (x3 + a4) / x5 * x5)).bind fun g27 =>
      (xg_r g27 7 a2 2).bind fun x28 =>
      (xa_i 1 g27 x28 a3).bind fun x30 =>
      (xg_r g27 7 a2 3).bind fun x32 =>
      (xa_l g27 x32 a3).bind fun x34 =>
      (xg_r g27 7 a2 2).bind fun x36 =>
      (xa_i 1 g27 x36 a3).bind fun x38 =>
      (xg_r g27 7 a2 3).bind fun x40 =>
      (xa_l g27 x40 a3).bind fun x42 =>
      (f_X7_signatureOf x3 x38 x42).bind fun x45 =>
      (xk g27 2 x23).bind fun _ =>
      (f_X1_seal g27 x23 x30 x34 x45).bind fun g48 =>
      some (1, g48)
set_option maxHeartbeats 4000000 in
set_option maxRecDepth 100000 in
theorem c_X7_sendNote (l : Launch) (D : va_G) (cy : Nat → ClassId) (L : List Nat) (g : xG) (a0 : Nat) (a1 : Int32) (a2 : Nat) (a3 : Int32) (a4 : Int32) {r1 : Int32} {g1 : xG} (h : f_X7_sendNote g a0 a1 a2 a3 a4 = some (r1, g1)) : xMi l yX7_sendNote wsX7_sendNote ({ frames := 2, cells := 0, slots := 0, locals := 48 }) D cy L g [.ref a0, .int a1, .ref a2, .int a3, .int a4] r1 g1 := by
  refine xm_i (cc := cX7_sendNote) (maxL := 8) RX7 rfl rfl rfl (by decide +kernel) rfl (Nat.le_of_ble_eq_true rfl) ?_
  intro p e s m args below meth c Q A S w hA hN ret ls hl
  have hl : lv_has ls 8 [(0, .ref a0), (1, .int a1), (2, .ref a2), (3, .int a3), (4, .int a4)] := hl
  rw [f_X7_sendNote] at h
  refine lv_aload_n S.1 S.2.1 dX7_sendNote_0 rfl (lv_at hl 2 rfl) ?_
  obtain ⟨x1, h2, h⟩ := xb h
  refine xr_getr S w 7 xi_X7_sendNote_X6 rfl 1 (by decide) xl_X7_sendNote_256 h2 dX7_sendNote_1 ?_
  refine lv_iload_n S.1 S.2.1 dX7_sendNote_4 rfl (lv_at hl 3 rfl) ?_
  obtain ⟨x3, h4, h⟩ := xb h
  refine xr_iald S w h4 dX7_sendNote_5 ?_
  refine lv_istore (lv' := [(5, .int x3), (0, .ref a0), (1, .int a1), (2, .ref a2), (3, .int a3), (4, .int a4)]) S.1 S.2.1 dX7_sendNote_6 hl (by decide) rfl (fun ls hl => ?_)
  refine lv_iload S.1 S.2.1 dX7_sendNote_8 (lv_at hl 0 rfl) ?_
  refine lv_iload S.1 S.2.1 dX7_sendNote_10 (lv_at hl 5 rfl) ?_
  refine lv_iadd S.1 S.2.1 dX7_sendNote_12 ?_
  refine lv_aload_n S.1 S.2.1 dX7_sendNote_13 rfl (lv_at hl 1 rfl) ?_
  obtain ⟨x5, h6, h⟩ := xb h
  refine xr_geti S w 8 xi_X7_sendNote_X7 rfl 0 (by decide) xl_X7_sendNote_209 h6 dX7_sendNote_14 ?_
  obtain ⟨_, h7, h⟩ := xb h
  refine lv_irem S.1 S.2.1 dX7_sendNote_17 (xnz_ok h7) ?_
  refine lv_istore (lv' := [(6, .int ((x3 + a4) - (x3 + a4) / x5 * x5)), (5, .int x3), (0, .ref a0), (1, .int a1), (2, .ref a2), (3, .int a3), (4, .int a4)]) S.1 S.2.1 dX7_sendNote_18 hl (by decide) rfl (fun ls hl => ?_)
  refine lv_iload S.1 S.2.1 dX7_sendNote_20 (lv_at hl 0 rfl) ?_
  refine lv_iload_n S.1 S.2.1 dX7_sendNote_22 rfl (lv_at hl 3 rfl) ?_
  refine lv_icmp_ne (tgt := 28) S.1 S.2.1 dX7_sendNote_23 (by decide) (fun c23 => ?_) (fun c23 => ?_)
  · rw [if_neg c23] at h
    refine lv_aload_n S.1 S.2.1 dX7_sendNote_28 rfl (lv_at hl 2 rfl) ?_
    obtain ⟨x8, h9, h⟩ := xb h
    refine xr_getr S w 8 xi_X7_sendNote_X7 rfl 2 (by decide) xl_X7_sendNote_18 h9 dX7_sendNote_29 ?_
    refine lv_dup S.1 S.2.1 dX7_sendNote_32 rfl ?_
    obtain ⟨x10, h11, h⟩ := xb h
    refine xr_geti S w 6 xi_X7_sendNote_X5 rfl 1 (by decide) xl_X7_sendNote_206 h11 dX7_sendNote_33 ?_
    refine lv_iconst (v := 1) S.1 S.2.1 dX7_sendNote_36 (by decide) ?_
    refine lv_iadd S.1 S.2.1 dX7_sendNote_37 ?_
    obtain ⟨g12, h13, h⟩ := xb h
    refine xr_puti S w 6 xi_X7_sendNote_X5 rfl tyX5 tyX5_ok nmX5 1 (by decide) xl_X7_sendNote_206 rfl (tyX5_ok 1 (by decide)) h13 dX7_sendNote_38 (fun H locs w => ?_)
    refine lv_aload_n S.1 S.2.1 dX7_sendNote_41 rfl (lv_at hl 2 rfl) ?_
    obtain ⟨x14, h15, h⟩ := xb h
    refine xr_getr S w 8 xi_X7_sendNote_X7 rfl 2 (by decide) xl_X7_sendNote_18 h15 dX7_sendNote_42 ?_
    obtain ⟨_, h16, h⟩ := xb h
    obtain ⟨x18, h17, h⟩ := xb h
    refine xr_callV_i S w hA hN 6 rfl h16 (c_X5_hasRoom l D cy L g12 x14 h17) (cwV 0 S.2.2.2.2 gX7_sendNote_X5_hasRoom rfl rfl rfl (by decide +kernel) ⟨Nat.le_of_ble_eq_true rfl, Nat.le_of_ble_eq_true rfl⟩) rfl rfl hl.1 (Nat.le_of_ble_eq_true rfl) dX7_sendNote_45 ⟨Nat.le_of_ble_eq_true rfl, Nat.le_of_ble_eq_true rfl⟩ (fun H locs w => ?_)
    refine lv_if_eq (tgt := 104) S.1 S.2.1 dX7_sendNote_48 (by decide) (fun c48 => ?_) (fun c48 => ?_)
    · rw [if_pos c48] at h
      refine lv_iconst (v := 1) S.1 S.2.1 dX7_sendNote_104 (by decide) ?_
      exact ret _ _ _ _ _ _ h w dX7_sendNote_105
    · rw [if_neg c48] at h
      refine lv_aload_n S.1 S.2.1 dX7_sendNote_51 rfl (lv_at hl 2 rfl) ?_
      obtain ⟨x19, h20, h⟩ := xb h
      refine xr_getr S w 8 xi_X7_sendNote_X7 rfl 2 (by decide) xl_X7_sendNote_18 h20 dX7_sendNote_52 ?_
      obtain ⟨_, h21, h⟩ := xb h
      obtain ⟨x23, g24, h22, h⟩ := x2b h
      refine xr_callV_r S w hA hN 6 rfl h21 (c_X5_addLast l D cy L g12 x19 h22) (cwV 0 S.2.2.2.2 gX7_sendNote_X5_addLast rfl rfl rfl (by decide +kernel) ⟨Nat.le_of_ble_eq_true rfl, Nat.le_of_ble_eq_true rfl⟩) rfl rfl hl.1 (Nat.le_of_ble_eq_true rfl) dX7_sendNote_55 ⟨Nat.le_of_ble_eq_true rfl, Nat.le_of_ble_eq_true rfl⟩ (fun H locs w => ?_)
      refine lv_astore (lv' := [(7, .ref x23), (6, .int ((x3 + a4) - (x3 + a4) / x5 * x5)), (5, .int x3), (0, .ref a0), (1, .int a1), (2, .ref a2), (3, .int a3), (4, .int a4)]) S.1 S.2.1 dX7_sendNote_58 hl (by decide) rfl (fun ls hl => ?_)
      refine lv_aload S.1 S.2.1 dX7_sendNote_60 (lv_at hl 0 rfl) ?_
      refine lv_iconst (v := 2) S.1 S.2.1 dX7_sendNote_62 (by decide) ?_
      refine lv_iload S.1 S.2.1 dX7_sendNote_63 (lv_at hl 2 rfl) ?_
      refine lv_iload S.1 S.2.1 dX7_sendNote_65 (lv_at hl 1 rfl) ?_
      obtain ⟨_, h25, h⟩ := xb h
      obtain ⟨g27, h26, h⟩ := xb h
      refine xr_callV_v S w hA hN 2 rfl h25 (c_X1_address l D cy L g24 x23 2 x3 ((x3 + a4) - (x3 + a4) / x5 * x5) h26) (cwV 3 S.2.2.2.2 gX7_sendNote_X1_address rfl rfl rfl (by decide +kernel) ⟨Nat.le_of_ble_eq_true rfl, Nat.le_of_ble_eq_true rfl⟩) rfl rfl hl.1 (Nat.le_of_ble_eq_true rfl) dX7_sendNote_67 ⟨Nat.le_of_ble_eq_true rfl, Nat.le_of_ble_eq_true rfl⟩ (fun H locs w => ?_)
      refine lv_aload S.1 S.2.1 dX7_sendNote_70 (lv_at hl 0 rfl) ?_
      refine lv_aload_n S.1 S.2.1 dX7_sendNote_72 rfl (lv_at hl 5 rfl) ?_
      obtain ⟨x28, h29, h⟩ := xb h
      refine xr_getr S w 7 xi_X7_sendNote_X6 rfl 2 (by decide) xl_X7_sendNote_259 h29 dX7_sendNote_73 ?_
      refine lv_iload_n S.1 S.2.1 dX7_sendNote_76 rfl (lv_at hl 6 rfl) ?_
      obtain ⟨x30, h31, h⟩ := xb h
      refine xr_iald S w h31 dX7_sendNote_77 ?_
      refine lv_aload_n S.1 S.2.1 dX7_sendNote_78 rfl (lv_at hl 5 rfl) ?_
      obtain ⟨x32, h33, h⟩ := xb h
      refine xr_getr S w 7 xi_X7_sendNote_X6 rfl 3 (by decide) xl_X7_sendNote_262 h33 dX7_sendNote_79 ?_
      refine lv_iload_n S.1 S.2.1 dX7_sendNote_82 rfl (lv_at hl 6 rfl) ?_
      obtain ⟨x34, h35, h⟩ := xb h
      refine xr_lald S w h35 dX7_sendNote_83 ?_
      refine lv_iload S.1 S.2.1 dX7_sendNote_84 (lv_at hl 2 rfl) ?_
      refine lv_aload_n S.1 S.2.1 dX7_sendNote_86 rfl (lv_at hl 5 rfl) ?_
      obtain ⟨x36, h37, h⟩ := xb h
      refine xr_getr S w 7 xi_X7_sendNote_X6 rfl 2 (by decide) xl_X7_sendNote_259 h37 dX7_sendNote_87 ?_
      refine lv_iload_n S.1 S.2.1 dX7_sendNote_90 rfl (lv_at hl 6 rfl) ?_
      obtain ⟨x38, h39, h⟩ := xb h
      refine xr_iald S w h39 dX7_sendNote_91 ?_
      refine lv_aload_n S.1 S.2.1 dX7_sendNote_92 rfl (lv_at hl 5 rfl) ?_
      obtain ⟨x40, h41, h⟩ := xb h
      refine xr_getr S w 7 xi_X7_sendNote_X6 rfl 3 (by decide) xl_X7_sendNote_262 h41 dX7_sendNote_93 ?_
      refine lv_iload_n S.1 S.2.1 dX7_sendNote_96 rfl (lv_at hl 6 rfl) ?_
      obtain ⟨x42, h43, h⟩ := xb h
      refine xr_lald S w h43 dX7_sendNote_97 ?_
      obtain ⟨x45, h44, h⟩ := xb h
      refine xr_callS_l S w hA hN (c_X7_signatureOf l D cy L g27 x3 x38 x42 h44) (va_cwS 3 S.2.2.2.2 gX7_sendNote_X7_signatureOf rfl rfl rfl (by decide +kernel) ⟨Nat.le_of_ble_eq_true rfl, Nat.le_of_ble_eq_true rfl⟩) rfl rfl hl.1 (Nat.le_of_ble_eq_true rfl) dX7_sendNote_98 ⟨Nat.le_of_ble_eq_true rfl, Nat.le_of_ble_eq_true rfl⟩ (fun H locs w => ?_)
      obtain ⟨_, h46, h⟩ := xb h
      obtain ⟨g48, h47, h⟩ := xb h
      refine xr_callV_v S w hA hN 2 rfl h46 (c_X1_seal l D cy L g27 x23 x30 x34 x45 h47) (cwV 3 S.2.2.2.2 gX7_sendNote_X1_seal rfl rfl rfl (by decide +kernel) ⟨Nat.le_of_ble_eq_true rfl, Nat.le_of_ble_eq_true rfl⟩) rfl rfl hl.1 (Nat.le_of_ble_eq_true rfl) dX7_sendNote_101 ⟨Nat.le_of_ble_eq_true rfl, Nat.le_of_ble_eq_true rfl⟩ (fun H locs w => ?_)
      refine lv_iconst (v := 1) S.1 S.2.1 dX7_sendNote_104 (by decide) ?_
      exact ret _ _ _ _ _ _ h w dX7_sendNote_105
  · rw [if_pos c23] at h
    refine lv_iconst (v := 0) S.1 S.2.1 dX7_sendNote_26 (by decide) ?_
    exact ret _ _ _ _ _ _ h w dX7_sendNote_27
theorem xi_X7_takeMessage_X7 : ∀ w ∈ wsX70, w ∈ wsX7_takeMessage := by decide +kernel
theorem xl_X7_takeMessage_11 : Cond.fieldLink RX7 11 (TX7 1).1 (TX7 1).2.1 (TX7 1).2.2.1 ∈ wsX7_takeMessage := by decide +kernel
theorem xi_X7_takeMessage_X1 : ∀ w ∈ wsX10, w ∈ wsX7_takeMessage := by decide +kernel
theorem xl_X7_takeMessage_263 : Cond.fieldLink RX7 263 (TX1 2).1 (TX1 2).2.1 (TX1 2).2.2.1 ∈ wsX7_takeMessage := by decide +kernel
theorem xl_X7_takeMessage_266 : Cond.fieldLink RX7 266 (TX1 5).1 (TX1 5).2.1 (TX1 5).2.2.1 ∈ wsX7_takeMessage := by decide +kernel
theorem xl_X7_takeMessage_111 : Cond.fieldLink RX7 111 (TX1 3).1 (TX1 3).2.1 (TX1 3).2.2.1 ∈ wsX7_takeMessage := by decide +kernel
theorem xl_X7_takeMessage_274 : Cond.fieldLink RX7 274 (TX1 6).1 (TX1 6).2.1 (TX1 6).2.2.1 ∈ wsX7_takeMessage := by decide +kernel
theorem xl_X7_takeMessage_277 : Cond.fieldLink RX7 277 (TX1 1).1 (TX1 1).2.1 (TX1 1).2.2.1 ∈ wsX7_takeMessage := by decide +kernel
theorem xl_X7_takeMessage_280 : Cond.fieldLink RX7 280 (TX1 4).1 (TX1 4).2.1 (TX1 4).2.2.1 ∈ wsX7_takeMessage := by decide +kernel
theorem xi_X7_takeMessage_X4 : ∀ w ∈ wsX40, w ∈ wsX7_takeMessage := by decide +kernel
theorem xl_X7_takeMessage_57 : Cond.fieldLink RX7 57 (TX4 2).1 (TX4 2).2.1 (TX4 2).2.2.1 ∈ wsX7_takeMessage := by decide +kernel
theorem xl_X7_takeMessage_114 : Cond.fieldLink RX7 114 (TX4 3).1 (TX4 3).2.1 (TX4 3).2.2.1 ∈ wsX7_takeMessage := by decide +kernel
theorem xl_X7_takeMessage_71 : Cond.fieldLink RX7 71 (TX4 1).1 (TX4 1).2.1 (TX4 1).2.2.1 ∈ wsX7_takeMessage := by decide +kernel
def f_X7_takeMessage (g : xG) (a0 : Nat) (a1 : Nat) : Option (Int32 × xG) :=
  (xg_r g 8 a0 1).bind fun x1 =>
  (xg_i g 2 a1 2).bind fun x3 =>
  (xa_r 5 g x1 x3).bind fun x5 =>
  (xg_l g 2 a1 5).bind fun x7 =>
  (xg_i g 2 a1 2).bind fun x9 =>
  (xg_i g 2 a1 3).bind fun x11 =>
  (f_X7_headBehind x7 3 x9 x11).bind fun x14 =>
  (xg_l g 2 a1 6).bind fun x15 =>
  (xg_i g 2 a1 1).bind fun x17 =>
  (xg_i g 2 a1 4).bind fun x19 =>
  (f_X7_signatureOf x17 x19 x14).bind fun x22 =>
  if x15 = x22 then
    (xg_i g 2 a1 1).bind fun x23 =>
    (xg_i g 2 a1 4).bind fun x25 =>
    (xk g 5 x5).bind fun _ =>
    (f_X4_hasTaken g x5 x23 x25).bind fun x29 =>
    if x29 = 0 then
      (xg_r g 5 x5 2).bind fun x30 =>
      (xk g 3 x30).bind fun _ =>
      (f_X2_hasTwoPlaces g x30).bind fun x34 =>
      if x34 = 0 then
        some (0, g)
      else
        (xg_i g 2 a1 1).bind fun x35 =>
        (xg_i g 2 a1 4).bind fun x37 =>
        (xk g 5 x5).bind fun _ =>
        (f_X4_noteTaken g x5 x35 x37).bind fun g41 =>
        (xg_r g41 5 x5 2).bind fun x42 =>
        (xg_i g41 2 a1 1).bind fun x44 =>
        (xg_i g41 2 a1 3).bind fun x46 =>
        (xk g41 3 x42).bind fun _ =>
        (f_X2_append g41 x42 2 x44 x46).bind fun g50 =>
        (xg_r g50 5 x5 3).bind fun x51 =>
        (xg_i g50 2 a1 1).bind fun x53 =>
        (xg_i g50 2 a1 4).bind fun x55 =>
        (xk g50 7 x51).bind fun _ =>
        x2 (f_X6_keep g50 x51 x53 x55 x14 0) fun x59 g60 =>
        (xg_r g60 5 x5 1).bind fun x61 =>
        (xg_i g60 2 a1 3).bind fun x63 =>
        (xg_i g60 2 a1 1).bind fun x65 =>
        (xk g60 4 x61).bind fun _ =>
        (f_X3_stepReceipt g60 x61 x63 x65).bind fun g69 =>
        (xk g69 8 a0).bind fun _ =>
        (f_X7_sendWhatIsDue g69 a0 x5).bind fun g72 =>
        some (1, g72)
    else
      some (0, g)
  else
    some (0, g)
set_option maxHeartbeats 4000000 in
set_option maxRecDepth 100000 in
theorem c_X7_takeMessage (l : Launch) (D : va_G) (cy : Nat → ClassId) (L : List Nat) (g : xG) (a0 : Nat) (a1 : Nat) {r1 : Int32} {g1 : xG} (h : f_X7_takeMessage g a0 a1 = some (r1, g1)) : xMi l yX7_takeMessage wsX7_takeMessage ({ frames := 5, cells := 0, slots := 0, locals := 120 }) D cy L g [.ref a0, .ref a1] r1 g1 := by
  refine xm_z (cc := cX7_takeMessage) (maxL := 5) RX7 rfl rfl rfl (by decide +kernel) rfl (Nat.le_of_ble_eq_true rfl) ?_
  intro p e s m args below meth c Q A S w hA hN ret ls hl
  have hl : lv_has ls 5 [(0, .ref a0), (1, .ref a1)] := hl
  rw [f_X7_takeMessage] at h
  refine lv_aload_n S.1 S.2.1 dX7_takeMessage_0 rfl (lv_at hl 0 rfl) ?_
  obtain ⟨x1, h2, h⟩ := xb h
  refine xr_getr S w 8 xi_X7_takeMessage_X7 rfl 1 (by decide) xl_X7_takeMessage_11 h2 dX7_takeMessage_1 ?_
  refine lv_aload_n S.1 S.2.1 dX7_takeMessage_4 rfl (lv_at hl 1 rfl) ?_
  obtain ⟨x3, h4, h⟩ := xb h
  refine xr_geti S w 2 xi_X7_takeMessage_X1 rfl 2 (by decide) xl_X7_takeMessage_263 h4 dX7_takeMessage_5 ?_
  obtain ⟨x5, h6, h⟩ := xb h
  refine xr_aald S w 5 "TellTale$Node" (fun _ => rfl) h6 dX7_takeMessage_8 ?_
  refine lv_astore_n (lv' := [(2, .ref x5), (0, .ref a0), (1, .ref a1)]) S.1 S.2.1 dX7_takeMessage_9 rfl hl (by decide) rfl (fun ls hl => ?_)
  refine lv_aload_n S.1 S.2.1 dX7_takeMessage_10 rfl (lv_at hl 2 rfl) ?_
  obtain ⟨x7, h8, h⟩ := xb h
  refine xr_getl S w 2 xi_X7_takeMessage_X1 rfl 5 (by decide) xl_X7_takeMessage_266 h8 dX7_takeMessage_11 ?_
  refine lv_iconst (v := 3) S.1 S.2.1 dX7_takeMessage_14 (by decide) ?_
  refine lv_aload_n S.1 S.2.1 dX7_takeMessage_15 rfl (lv_at hl 2 rfl) ?_
  obtain ⟨x9, h10, h⟩ := xb h
  refine xr_geti S w 2 xi_X7_takeMessage_X1 rfl 2 (by decide) xl_X7_takeMessage_263 h10 dX7_takeMessage_16 ?_
  refine lv_aload_n S.1 S.2.1 dX7_takeMessage_19 rfl (lv_at hl 2 rfl) ?_
  obtain ⟨x11, h12, h⟩ := xb h
  refine xr_geti S w 2 xi_X7_takeMessage_X1 rfl 3 (by decide) xl_X7_takeMessage_111 h12 dX7_takeMessage_20 ?_
  obtain ⟨x14, h13, h⟩ := xb h
  refine xr_callS_l S w hA hN (c_X7_headBehind l D cy L g x7 3 x9 x11 h13) (va_cwS 4 S.2.2.2.2 gX7_takeMessage_X7_headBehind rfl rfl rfl (by decide +kernel) ⟨Nat.le_of_ble_eq_true rfl, Nat.le_of_ble_eq_true rfl⟩) rfl rfl hl.1 (Nat.le_of_ble_eq_true rfl) dX7_takeMessage_23 ⟨Nat.le_of_ble_eq_true rfl, Nat.le_of_ble_eq_true rfl⟩ (fun H locs w => ?_)
  refine lv_lstore_n (lv' := [(3, .long x14), (2, .ref x5), (0, .ref a0), (1, .ref a1)]) S.1 S.2.1 dX7_takeMessage_26 rfl hl (by decide) rfl (fun ls hl => ?_)
  refine lv_aload_n S.1 S.2.1 dX7_takeMessage_27 rfl (lv_at hl 3 rfl) ?_
  obtain ⟨x15, h16, h⟩ := xb h
  refine xr_getl S w 2 xi_X7_takeMessage_X1 rfl 6 (by decide) xl_X7_takeMessage_274 h16 dX7_takeMessage_28 ?_
  refine lv_aload_n S.1 S.2.1 dX7_takeMessage_31 rfl (lv_at hl 3 rfl) ?_
  obtain ⟨x17, h18, h⟩ := xb h
  refine xr_geti S w 2 xi_X7_takeMessage_X1 rfl 1 (by decide) xl_X7_takeMessage_277 h18 dX7_takeMessage_32 ?_
  refine lv_aload_n S.1 S.2.1 dX7_takeMessage_35 rfl (lv_at hl 3 rfl) ?_
  obtain ⟨x19, h20, h⟩ := xb h
  refine xr_geti S w 2 xi_X7_takeMessage_X1 rfl 4 (by decide) xl_X7_takeMessage_280 h20 dX7_takeMessage_36 ?_
  refine lv_lload_n S.1 S.2.1 dX7_takeMessage_39 rfl (lv_at hl 0 rfl) ?_
  obtain ⟨x22, h21, h⟩ := xb h
  refine xr_callS_l S w hA hN (c_X7_signatureOf l D cy L g x17 x19 x14 h21) (va_cwS 3 S.2.2.2.2 gX7_takeMessage_X7_signatureOf rfl rfl rfl (by decide +kernel) ⟨Nat.le_of_ble_eq_true rfl, Nat.le_of_ble_eq_true rfl⟩) rfl rfl hl.1 (Nat.le_of_ble_eq_true rfl) dX7_takeMessage_40 ⟨Nat.le_of_ble_eq_true rfl, Nat.le_of_ble_eq_true rfl⟩ (fun H locs w => ?_)
  refine xr_lcne (tgt := 72) S dX7_takeMessage_43 dX7_takeMessage_44 (by decide) (fun c43 => ?_) (fun c43 => ?_)
  · rw [if_neg c43] at h
    refine lv_iconst (v := 0) S.1 S.2.1 dX7_takeMessage_72 (by decide) ?_
    exact ret _ _ _ _ 0 0 _ (by decide) h w dX7_takeMessage_73
  · rw [if_pos c43] at h
    refine lv_aload_n S.1 S.2.1 dX7_takeMessage_47 rfl (lv_at hl 1 rfl) ?_
    refine lv_aload_n S.1 S.2.1 dX7_takeMessage_48 rfl (lv_at hl 3 rfl) ?_
    obtain ⟨x23, h24, h⟩ := xb h
    refine xr_geti S w 2 xi_X7_takeMessage_X1 rfl 1 (by decide) xl_X7_takeMessage_277 h24 dX7_takeMessage_49 ?_
    refine lv_aload_n S.1 S.2.1 dX7_takeMessage_52 rfl (lv_at hl 3 rfl) ?_
    obtain ⟨x25, h26, h⟩ := xb h
    refine xr_geti S w 2 xi_X7_takeMessage_X1 rfl 4 (by decide) xl_X7_takeMessage_280 h26 dX7_takeMessage_53 ?_
    obtain ⟨_, h27, h⟩ := xb h
    obtain ⟨x29, h28, h⟩ := xb h
    refine xr_callV_i S w hA hN 5 rfl h27 (c_X4_hasTaken l D cy L g x5 x23 x25 h28) (cwV 2 S.2.2.2.2 gX7_takeMessage_X4_hasTaken rfl rfl rfl (by decide +kernel) ⟨Nat.le_of_ble_eq_true rfl, Nat.le_of_ble_eq_true rfl⟩) rfl rfl hl.1 (Nat.le_of_ble_eq_true rfl) dX7_takeMessage_56 ⟨Nat.le_of_ble_eq_true rfl, Nat.le_of_ble_eq_true rfl⟩ (fun H locs w => ?_)
    refine lv_if_ne (tgt := 72) S.1 S.2.1 dX7_takeMessage_59 (by decide) (fun c59 => ?_) (fun c59 => ?_)
    · rw [if_neg c59] at h
      refine lv_iconst (v := 0) S.1 S.2.1 dX7_takeMessage_72 (by decide) ?_
      exact ret _ _ _ _ 0 0 _ (by decide) h w dX7_takeMessage_73
    · rw [if_pos c59] at h
      refine lv_aload_n S.1 S.2.1 dX7_takeMessage_62 rfl (lv_at hl 1 rfl) ?_
      obtain ⟨x30, h31, h⟩ := xb h
      refine xr_getr S w 5 xi_X7_takeMessage_X4 rfl 2 (by decide) xl_X7_takeMessage_57 h31 dX7_takeMessage_63 ?_
      obtain ⟨_, h32, h⟩ := xb h
      obtain ⟨x34, h33, h⟩ := xb h
      refine xr_callV_i S w hA hN 3 rfl h32 (c_X2_hasTwoPlaces l D cy L g x30 h33) (cwV 0 S.2.2.2.2 gX7_takeMessage_X2_hasTwoPlaces rfl rfl rfl (by decide +kernel) ⟨Nat.le_of_ble_eq_true rfl, Nat.le_of_ble_eq_true rfl⟩) rfl rfl hl.1 (Nat.le_of_ble_eq_true rfl) dX7_takeMessage_66 ⟨Nat.le_of_ble_eq_true rfl, Nat.le_of_ble_eq_true rfl⟩ (fun H locs w => ?_)
      refine lv_if_ne (tgt := 74) S.1 S.2.1 dX7_takeMessage_69 (by decide) (fun c69 => ?_) (fun c69 => ?_)
      · rw [if_neg c69] at h
        refine lv_aload_n S.1 S.2.1 dX7_takeMessage_74 rfl (lv_at hl 1 rfl) ?_
        refine lv_aload_n S.1 S.2.1 dX7_takeMessage_75 rfl (lv_at hl 3 rfl) ?_
        obtain ⟨x35, h36, h⟩ := xb h
        refine xr_geti S w 2 xi_X7_takeMessage_X1 rfl 1 (by decide) xl_X7_takeMessage_277 h36 dX7_takeMessage_76 ?_
        refine lv_aload_n S.1 S.2.1 dX7_takeMessage_79 rfl (lv_at hl 3 rfl) ?_
        obtain ⟨x37, h38, h⟩ := xb h
        refine xr_geti S w 2 xi_X7_takeMessage_X1 rfl 4 (by decide) xl_X7_takeMessage_280 h38 dX7_takeMessage_80 ?_
        obtain ⟨_, h39, h⟩ := xb h
        obtain ⟨g41, h40, h⟩ := xb h
        refine xr_callV_v S w hA hN 5 rfl h39 (c_X4_noteTaken l D cy L g x5 x35 x37 h40) (cwV 2 S.2.2.2.2 gX7_takeMessage_X4_noteTaken rfl rfl rfl (by decide +kernel) ⟨Nat.le_of_ble_eq_true rfl, Nat.le_of_ble_eq_true rfl⟩) rfl rfl hl.1 (Nat.le_of_ble_eq_true rfl) dX7_takeMessage_83 ⟨Nat.le_of_ble_eq_true rfl, Nat.le_of_ble_eq_true rfl⟩ (fun H locs w => ?_)
        refine lv_aload_n S.1 S.2.1 dX7_takeMessage_86 rfl (lv_at hl 1 rfl) ?_
        obtain ⟨x42, h43, h⟩ := xb h
        refine xr_getr S w 5 xi_X7_takeMessage_X4 rfl 2 (by decide) xl_X7_takeMessage_57 h43 dX7_takeMessage_87 ?_
        refine lv_iconst (v := 2) S.1 S.2.1 dX7_takeMessage_90 (by decide) ?_
        refine lv_aload_n S.1 S.2.1 dX7_takeMessage_91 rfl (lv_at hl 3 rfl) ?_
        obtain ⟨x44, h45, h⟩ := xb h
        refine xr_geti S w 2 xi_X7_takeMessage_X1 rfl 1 (by decide) xl_X7_takeMessage_277 h45 dX7_takeMessage_92 ?_
        refine lv_aload_n S.1 S.2.1 dX7_takeMessage_95 rfl (lv_at hl 3 rfl) ?_
        obtain ⟨x46, h47, h⟩ := xb h
        refine xr_geti S w 2 xi_X7_takeMessage_X1 rfl 3 (by decide) xl_X7_takeMessage_111 h47 dX7_takeMessage_96 ?_
        obtain ⟨_, h48, h⟩ := xb h
        obtain ⟨g50, h49, h⟩ := xb h
        refine xr_callV_v S w hA hN 3 rfl h48 (c_X2_append l D cy L g41 x42 2 x44 x46 h49) (cwV 3 S.2.2.2.2 gX7_takeMessage_X2_append rfl rfl rfl (by decide +kernel) ⟨Nat.le_of_ble_eq_true rfl, Nat.le_of_ble_eq_true rfl⟩) rfl rfl hl.1 (Nat.le_of_ble_eq_true rfl) dX7_takeMessage_99 ⟨Nat.le_of_ble_eq_true rfl, Nat.le_of_ble_eq_true rfl⟩ (fun H locs w => ?_)
        refine lv_aload_n S.1 S.2.1 dX7_takeMessage_102 rfl (lv_at hl 1 rfl) ?_
        obtain ⟨x51, h52, h⟩ := xb h
        refine xr_getr S w 5 xi_X7_takeMessage_X4 rfl 3 (by decide) xl_X7_takeMessage_114 h52 dX7_takeMessage_103 ?_
        refine lv_aload_n S.1 S.2.1 dX7_takeMessage_106 rfl (lv_at hl 3 rfl) ?_
        obtain ⟨x53, h54, h⟩ := xb h
        refine xr_geti S w 2 xi_X7_takeMessage_X1 rfl 1 (by decide) xl_X7_takeMessage_277 h54 dX7_takeMessage_107 ?_
        refine lv_aload_n S.1 S.2.1 dX7_takeMessage_110 rfl (lv_at hl 3 rfl) ?_
        obtain ⟨x55, h56, h⟩ := xb h
        refine xr_geti S w 2 xi_X7_takeMessage_X1 rfl 4 (by decide) xl_X7_takeMessage_280 h56 dX7_takeMessage_111 ?_
        refine lv_lload_n S.1 S.2.1 dX7_takeMessage_114 rfl (lv_at hl 0 rfl) ?_
        refine lv_iconst (v := 0) S.1 S.2.1 dX7_takeMessage_115 (by decide) ?_
        obtain ⟨_, h57, h⟩ := xb h
        obtain ⟨x59, g60, h58, h⟩ := x2b h
        refine xr_callV_i S w hA hN 7 rfl h57 (c_X6_keep l D cy L g50 x51 x53 x55 x14 0 h58) (cwV 4 S.2.2.2.2 gX7_takeMessage_X6_keep rfl rfl rfl (by decide +kernel) ⟨Nat.le_of_ble_eq_true rfl, Nat.le_of_ble_eq_true rfl⟩) rfl rfl hl.1 (Nat.le_of_ble_eq_true rfl) dX7_takeMessage_116 ⟨Nat.le_of_ble_eq_true rfl, Nat.le_of_ble_eq_true rfl⟩ (fun H locs w => ?_)
        refine lv_pop S.1 S.2.1 dX7_takeMessage_119 rfl ?_
        refine lv_aload_n S.1 S.2.1 dX7_takeMessage_120 rfl (lv_at hl 1 rfl) ?_
        obtain ⟨x61, h62, h⟩ := xb h
        refine xr_getr S w 5 xi_X7_takeMessage_X4 rfl 1 (by decide) xl_X7_takeMessage_71 h62 dX7_takeMessage_121 ?_
        refine lv_aload_n S.1 S.2.1 dX7_takeMessage_124 rfl (lv_at hl 3 rfl) ?_
        obtain ⟨x63, h64, h⟩ := xb h
        refine xr_geti S w 2 xi_X7_takeMessage_X1 rfl 3 (by decide) xl_X7_takeMessage_111 h64 dX7_takeMessage_125 ?_
        refine lv_aload_n S.1 S.2.1 dX7_takeMessage_128 rfl (lv_at hl 3 rfl) ?_
        obtain ⟨x65, h66, h⟩ := xb h
        refine xr_geti S w 2 xi_X7_takeMessage_X1 rfl 1 (by decide) xl_X7_takeMessage_277 h66 dX7_takeMessage_129 ?_
        obtain ⟨_, h67, h⟩ := xb h
        obtain ⟨g69, h68, h⟩ := xb h
        refine xr_callV_v S w hA hN 4 rfl h67 (c_X3_stepReceipt l D cy L g60 x61 x63 x65 h68) (cwV 2 S.2.2.2.2 gX7_takeMessage_X3_stepReceipt rfl rfl rfl (by decide +kernel) ⟨Nat.le_of_ble_eq_true rfl, Nat.le_of_ble_eq_true rfl⟩) rfl rfl hl.1 (Nat.le_of_ble_eq_true rfl) dX7_takeMessage_132 ⟨Nat.le_of_ble_eq_true rfl, Nat.le_of_ble_eq_true rfl⟩ (fun H locs w => ?_)
        refine lv_aload_n S.1 S.2.1 dX7_takeMessage_135 rfl (lv_at hl 2 rfl) ?_
        refine lv_aload_n S.1 S.2.1 dX7_takeMessage_136 rfl (lv_at hl 1 rfl) ?_
        obtain ⟨_, h70, h⟩ := xb h
        obtain ⟨g72, h71, h⟩ := xb h
        refine xr_callV_v S w hA hN 8 rfl h70 (c_X7_sendWhatIsDue l D cy L g69 a0 x5 h71) (cwV 1 S.2.2.2.2 gX7_takeMessage_X7_sendWhatIsDue rfl rfl rfl (by decide +kernel) ⟨Nat.le_of_ble_eq_true rfl, Nat.le_of_ble_eq_true rfl⟩) rfl rfl hl.1 (Nat.le_of_ble_eq_true rfl) dX7_takeMessage_137 ⟨Nat.le_of_ble_eq_true rfl, Nat.le_of_ble_eq_true rfl⟩ (fun H locs w => ?_)
        refine lv_iconst (v := 1) S.1 S.2.1 dX7_takeMessage_140 (by decide) ?_
        exact ret _ _ _ _ 1 1 _ (by decide) h w dX7_takeMessage_141
      · rw [if_pos c69] at h
        refine lv_iconst (v := 0) S.1 S.2.1 dX7_takeMessage_72 (by decide) ?_
        exact ret _ _ _ _ 0 0 _ (by decide) h w dX7_takeMessage_73
theorem xi_X7_takeNote_X1 : ∀ w ∈ wsX10, w ∈ wsX7_takeNote := by decide +kernel
theorem xl_X7_takeNote_274 : Cond.fieldLink RX7 274 (TX1 6).1 (TX1 6).2.1 (TX1 6).2.2.1 ∈ wsX7_takeNote := by decide +kernel
theorem xl_X7_takeNote_277 : Cond.fieldLink RX7 277 (TX1 1).1 (TX1 1).2.1 (TX1 1).2.2.1 ∈ wsX7_takeNote := by decide +kernel
theorem xl_X7_takeNote_280 : Cond.fieldLink RX7 280 (TX1 4).1 (TX1 4).2.1 (TX1 4).2.2.1 ∈ wsX7_takeNote := by decide +kernel
theorem xl_X7_takeNote_266 : Cond.fieldLink RX7 266 (TX1 5).1 (TX1 5).2.1 (TX1 5).2.2.1 ∈ wsX7_takeNote := by decide +kernel
theorem xi_X7_takeNote_X7 : ∀ w ∈ wsX70, w ∈ wsX7_takeNote := by decide +kernel
theorem xl_X7_takeNote_11 : Cond.fieldLink RX7 11 (TX7 1).1 (TX7 1).2.1 (TX7 1).2.2.1 ∈ wsX7_takeNote := by decide +kernel
theorem xl_X7_takeNote_263 : Cond.fieldLink RX7 263 (TX1 2).1 (TX1 2).2.1 (TX1 2).2.2.1 ∈ wsX7_takeNote := by decide +kernel
theorem xi_X7_takeNote_X4 : ∀ w ∈ wsX40, w ∈ wsX7_takeNote := by decide +kernel
theorem xl_X7_takeNote_114 : Cond.fieldLink RX7 114 (TX4 3).1 (TX4 3).2.1 (TX4 3).2.2.1 ∈ wsX7_takeNote := by decide +kernel
def f_X7_takeNote (g : xG) (a0 : Nat) (a1 : Nat) : Option (Int32 × xG) :=
  (xg_l g 2 a1 6).bind fun x1 =>
  (xg_i g 2 a1 1).bind fun x3 =>
  (xg_i g 2 a1 4).bind fun x5 =>
  (xg_l g 2 a1 5).bind fun x7 =>
  (f_X7_signatureOf x3 x5 x7).bind fun x10 =>
  if x1 = x10 then
    (xg_r g 8 a0 1).bind fun x11 =>
    (xg_i g 2 a1 2).bind fun x13 =>
    (xa_r 5 g x11 x13).bind fun x15 =>
    (xg_r g 5 x15 3).bind fun x17 =>
    (xg_i g 2 a1 1).bind fun x19 =>
    (xg_i g 2 a1 4).bind fun x21 =>
    (xg_l g 2 a1 5).bind fun x23 =>
    (xk g 7 x17).bind fun _ =>
    x2 (f_X6_keep g x17 x19 x21 x23 1) fun x27 g28 =>
    if x27 = 0 then
      some (0, g28)
    else
      some (1, g28)
  else
    some (0, g)
set_option maxHeartbeats 4000000 in
set_option maxRecDepth 100000 in
theorem c_X7_takeNote (l : Launch) (D : va_G) (cy : Nat → ClassId) (L : List Nat) (g : xG) (a0 : Nat) (a1 : Nat) {r1 : Int32} {g1 : xG} (h : f_X7_takeNote g a0 a1 = some (r1, g1)) : xMi l yX7_takeNote wsX7_takeNote ({ frames := 2, cells := 0, slots := 0, locals := 50 }) D cy L g [.ref a0, .ref a1] r1 g1 := by
  refine xm_z (cc := cX7_takeNote) (maxL := 2) RX7 rfl rfl rfl (by decide +kernel) rfl (Nat.le_of_ble_eq_true rfl) ?_
  intro p e s m args below meth c Q A S w hA hN ret ls hl
  have hl : lv_has ls 2 [(0, .ref a0), (1, .ref a1)] := hl
  rw [f_X7_takeNote] at h
  refine lv_aload_n S.1 S.2.1 dX7_takeNote_0 rfl (lv_at hl 1 rfl) ?_
  obtain ⟨x1, h2, h⟩ := xb h
  refine xr_getl S w 2 xi_X7_takeNote_X1 rfl 6 (by decide) xl_X7_takeNote_274 h2 dX7_takeNote_1 ?_
  refine lv_aload_n S.1 S.2.1 dX7_takeNote_4 rfl (lv_at hl 1 rfl) ?_
  obtain ⟨x3, h4, h⟩ := xb h
  refine xr_geti S w 2 xi_X7_takeNote_X1 rfl 1 (by decide) xl_X7_takeNote_277 h4 dX7_takeNote_5 ?_
  refine lv_aload_n S.1 S.2.1 dX7_takeNote_8 rfl (lv_at hl 1 rfl) ?_
  obtain ⟨x5, h6, h⟩ := xb h
  refine xr_geti S w 2 xi_X7_takeNote_X1 rfl 4 (by decide) xl_X7_takeNote_280 h6 dX7_takeNote_9 ?_
  refine lv_aload_n S.1 S.2.1 dX7_takeNote_12 rfl (lv_at hl 1 rfl) ?_
  obtain ⟨x7, h8, h⟩ := xb h
  refine xr_getl S w 2 xi_X7_takeNote_X1 rfl 5 (by decide) xl_X7_takeNote_266 h8 dX7_takeNote_13 ?_
  obtain ⟨x10, h9, h⟩ := xb h
  refine xr_callS_l S w hA hN (c_X7_signatureOf l D cy L g x3 x5 x7 h9) (va_cwS 3 S.2.2.2.2 gX7_takeNote_X7_signatureOf rfl rfl rfl (by decide +kernel) ⟨Nat.le_of_ble_eq_true rfl, Nat.le_of_ble_eq_true rfl⟩) rfl rfl hl.1 (Nat.le_of_ble_eq_true rfl) dX7_takeNote_16 ⟨Nat.le_of_ble_eq_true rfl, Nat.le_of_ble_eq_true rfl⟩ (fun H locs w => ?_)
  refine xr_lcne (tgt := 58) S dX7_takeNote_19 dX7_takeNote_20 (by decide) (fun c19 => ?_) (fun c19 => ?_)
  · rw [if_neg c19] at h
    refine lv_iconst (v := 0) S.1 S.2.1 dX7_takeNote_58 (by decide) ?_
    exact ret _ _ _ _ 0 0 _ (by decide) h w dX7_takeNote_59
  · rw [if_pos c19] at h
    refine lv_aload_n S.1 S.2.1 dX7_takeNote_23 rfl (lv_at hl 0 rfl) ?_
    obtain ⟨x11, h12, h⟩ := xb h
    refine xr_getr S w 8 xi_X7_takeNote_X7 rfl 1 (by decide) xl_X7_takeNote_11 h12 dX7_takeNote_24 ?_
    refine lv_aload_n S.1 S.2.1 dX7_takeNote_27 rfl (lv_at hl 1 rfl) ?_
    obtain ⟨x13, h14, h⟩ := xb h
    refine xr_geti S w 2 xi_X7_takeNote_X1 rfl 2 (by decide) xl_X7_takeNote_263 h14 dX7_takeNote_28 ?_
    obtain ⟨x15, h16, h⟩ := xb h
    refine xr_aald S w 5 "TellTale$Node" (fun _ => rfl) h16 dX7_takeNote_31 ?_
    obtain ⟨x17, h18, h⟩ := xb h
    refine xr_getr S w 5 xi_X7_takeNote_X4 rfl 3 (by decide) xl_X7_takeNote_114 h18 dX7_takeNote_32 ?_
    refine lv_aload_n S.1 S.2.1 dX7_takeNote_35 rfl (lv_at hl 1 rfl) ?_
    obtain ⟨x19, h20, h⟩ := xb h
    refine xr_geti S w 2 xi_X7_takeNote_X1 rfl 1 (by decide) xl_X7_takeNote_277 h20 dX7_takeNote_36 ?_
    refine lv_aload_n S.1 S.2.1 dX7_takeNote_39 rfl (lv_at hl 1 rfl) ?_
    obtain ⟨x21, h22, h⟩ := xb h
    refine xr_geti S w 2 xi_X7_takeNote_X1 rfl 4 (by decide) xl_X7_takeNote_280 h22 dX7_takeNote_40 ?_
    refine lv_aload_n S.1 S.2.1 dX7_takeNote_43 rfl (lv_at hl 1 rfl) ?_
    obtain ⟨x23, h24, h⟩ := xb h
    refine xr_getl S w 2 xi_X7_takeNote_X1 rfl 5 (by decide) xl_X7_takeNote_266 h24 dX7_takeNote_44 ?_
    refine lv_iconst (v := 1) S.1 S.2.1 dX7_takeNote_47 (by decide) ?_
    obtain ⟨_, h25, h⟩ := xb h
    obtain ⟨x27, g28, h26, h⟩ := x2b h
    refine xr_callV_i S w hA hN 7 rfl h25 (c_X6_keep l D cy L g x17 x19 x21 x23 1 h26) (cwV 4 S.2.2.2.2 gX7_takeNote_X6_keep rfl rfl rfl (by decide +kernel) ⟨Nat.le_of_ble_eq_true rfl, Nat.le_of_ble_eq_true rfl⟩) rfl rfl hl.1 (Nat.le_of_ble_eq_true rfl) dX7_takeNote_48 ⟨Nat.le_of_ble_eq_true rfl, Nat.le_of_ble_eq_true rfl⟩ (fun H locs w => ?_)
    refine lv_if_eq (tgt := 58) S.1 S.2.1 dX7_takeNote_51 (by decide) (fun c51 => ?_) (fun c51 => ?_)
    · rw [if_pos c51] at h
      refine lv_iconst (v := 0) S.1 S.2.1 dX7_takeNote_58 (by decide) ?_
      exact ret _ _ _ _ 0 0 _ (by decide) h w dX7_takeNote_59
    · rw [if_neg c51] at h
      refine lv_iconst (v := 1) S.1 S.2.1 dX7_takeNote_54 (by decide) ?_
      refine lv_goto (tgt := 59) S.1 S.2.1 dX7_takeNote_55 (by decide) ?_
      exact ret _ _ _ _ 1 1 _ (by decide) h w dX7_takeNote_59
theorem xi_X7_replayEntry_X2 : ∀ w ∈ wsX20, w ∈ wsX7_replayEntry := by decide +kernel
theorem xl_X7_replayEntry_183 : Cond.fieldLink RX7 183 (TX2 1).1 (TX2 1).2.1 (TX2 1).2.2.1 ∈ wsX7_replayEntry := by decide +kernel
theorem xl_X7_replayEntry_186 : Cond.fieldLink RX7 186 (TX2 2).1 (TX2 2).2.1 (TX2 2).2.2.1 ∈ wsX7_replayEntry := by decide +kernel
theorem xl_X7_replayEntry_133 : Cond.fieldLink RX7 133 (TX2 3).1 (TX2 3).2.1 (TX2 3).2.2.1 ∈ wsX7_replayEntry := by decide +kernel
theorem xi_X7_replayEntry_X7 : ∀ w ∈ wsX70, w ∈ wsX7_replayEntry := by decide +kernel
theorem xl_X7_replayEntry_32 : Cond.fieldLink RX7 32 (TX7 5).1 (TX7 5).2.1 (TX7 5).2.2.1 ∈ wsX7_replayEntry := by decide +kernel
theorem xi_X7_replayEntry_X3 : ∀ w ∈ wsX30, w ∈ wsX7_replayEntry := by decide +kernel
theorem xl_X7_replayEntry_226 : Cond.fieldLink RX7 226 (TX3 4).1 (TX3 4).2.1 (TX3 4).2.2.1 ∈ wsX7_replayEntry := by decide +kernel
theorem xl_X7_replayEntry_229 : Cond.fieldLink RX7 229 (TX3 5).1 (TX3 5).2.1 (TX3 5).2.2.1 ∈ wsX7_replayEntry := by decide +kernel
theorem xl_X7_replayEntry_232 : Cond.fieldLink RX7 232 (TX3 6).1 (TX3 6).2.1 (TX3 6).2.2.1 ∈ wsX7_replayEntry := by decide +kernel
def f_X7_replayEntry (g : xG) (a0 : Nat) (a1 : Int32) (a2 : Nat) (a3 : Int32) : Option (Int32 × xG) :=
  (xg_r g 3 a2 1).bind fun x1 =>
  (xa_i 1 g x1 a3).bind fun x3 =>
  (xg_r g 3 a2 2).bind fun x5 =>
  (xa_i 1 g x5 a3).bind fun x7 =>
  (xg_r g 3 a2 3).bind fun x9 =>
  (xa_i 1 g x9 a3).bind fun x11 =>
  (xg_r g 8 a0 5).bind fun x13 =>
  (xg_i g 4 x13 4).bind fun x15 =>
  if x15 = 0 then
    if x3 = 1 then
      if x7 = 0 then
        (xg_r g 8 a0 5).bind fun x33 =>
        (xk g 4 x33).bind fun _ =>
        (f_X3_stepInput g x33 x11).bind fun g37 =>
        some (1, g37)
      else
        if x3 = 2 then
          (xk g 8 a0).bind fun _ =>
          (f_X7_isNode g a0 x7).bind fun x27 =>
          if x27 = 0 then
            some (0, g)
          else
            if x7 = a1 then
              some (0, g)
            else
              (xg_r g 8 a0 5).bind fun x28 =>
              (xk g 4 x28).bind fun _ =>
              (f_X3_stepReceipt g x28 x11 x7).bind fun g32 =>
              some (1, g32)
        else
          some (0, g)
    else
      if x3 = 2 then
        (xk g 8 a0).bind fun _ =>
        (f_X7_isNode g a0 x7).bind fun x19 =>
        if x19 = 0 then
          some (0, g)
        else
          if x7 = a1 then
            some (0, g)
          else
            (xg_r g 8 a0 5).bind fun x20 =>
            (xk g 4 x20).bind fun _ =>
            (f_X3_stepReceipt g x20 x11 x7).bind fun g24 =>
            some (1, g24)
      else
        some (0, g)
  else
    (xg_r g 8 a0 5).bind fun x38 =>
    (xp_z g 4 x38 4 0).bind fun g40 =>
    if x3 = 3 then
      (xg_r g40 8 a0 5).bind fun x42 =>
      (xg_i g40 4 x42 5).bind fun x44 =>
      if x7 = x44 then
        (xg_r g40 8 a0 5).bind fun x46 =>
        (xg_i g40 4 x46 6).bind fun x48 =>
        if x11 = x48 then
          some (1, g40)
        else
          some (0, g40)
      else
        some (0, g40)
    else
      some (0, g40)
set_option maxHeartbeats 4000000 in
set_option maxRecDepth 100000 in
theorem c_X7_replayEntry (l : Launch) (D : va_G) (cy : Nat → ClassId) (L : List Nat) (g : xG) (a0 : Nat) (a1 : Int32) (a2 : Nat) (a3 : Int32) {r1 : Int32} {g1 : xG} (h : f_X7_replayEntry g a0 a1 a2 a3 = some (r1, g1)) : xMi l yX7_replayEntry wsX7_replayEntry ({ frames := 1, cells := 0, slots := 0, locals := 23 }) D cy L g [.ref a0, .int a1, .ref a2, .int a3] r1 g1 := by
  refine xm_z (cc := cX7_replayEntry) (maxL := 7) RX7 rfl rfl rfl (by decide +kernel) rfl (Nat.le_of_ble_eq_true rfl) ?_
  intro p e s m args below meth c Q A S w hA hN ret ls hl
  have hl : lv_has ls 7 [(0, .ref a0), (1, .int a1), (2, .ref a2), (3, .int a3)] := hl
  rw [f_X7_replayEntry] at h
  refine lv_aload_n S.1 S.2.1 dX7_replayEntry_0 rfl (lv_at hl 2 rfl) ?_
  obtain ⟨x1, h2, h⟩ := xb h
  refine xr_getr S w 3 xi_X7_replayEntry_X2 rfl 1 (by decide) xl_X7_replayEntry_183 h2 dX7_replayEntry_1 ?_
  refine lv_iload_n S.1 S.2.1 dX7_replayEntry_4 rfl (lv_at hl 3 rfl) ?_
  obtain ⟨x3, h4, h⟩ := xb h
  refine xr_iald S w h4 dX7_replayEntry_5 ?_
  refine lv_istore (lv' := [(4, .int x3), (0, .ref a0), (1, .int a1), (2, .ref a2), (3, .int a3)]) S.1 S.2.1 dX7_replayEntry_6 hl (by decide) rfl (fun ls hl => ?_)
  refine lv_aload_n S.1 S.2.1 dX7_replayEntry_8 rfl (lv_at hl 3 rfl) ?_
  obtain ⟨x5, h6, h⟩ := xb h
  refine xr_getr S w 3 xi_X7_replayEntry_X2 rfl 2 (by decide) xl_X7_replayEntry_186 h6 dX7_replayEntry_9 ?_
  refine lv_iload_n S.1 S.2.1 dX7_replayEntry_12 rfl (lv_at hl 4 rfl) ?_
  obtain ⟨x7, h8, h⟩ := xb h
  refine xr_iald S w h8 dX7_replayEntry_13 ?_
  refine lv_istore (lv' := [(5, .int x7), (4, .int x3), (0, .ref a0), (1, .int a1), (2, .ref a2), (3, .int a3)]) S.1 S.2.1 dX7_replayEntry_14 hl (by decide) rfl (fun ls hl => ?_)
  refine lv_aload_n S.1 S.2.1 dX7_replayEntry_16 rfl (lv_at hl 4 rfl) ?_
  obtain ⟨x9, h10, h⟩ := xb h
  refine xr_getr S w 3 xi_X7_replayEntry_X2 rfl 3 (by decide) xl_X7_replayEntry_133 h10 dX7_replayEntry_17 ?_
  refine lv_iload_n S.1 S.2.1 dX7_replayEntry_20 rfl (lv_at hl 5 rfl) ?_
  obtain ⟨x11, h12, h⟩ := xb h
  refine xr_iald S w h12 dX7_replayEntry_21 ?_
  refine lv_istore (lv' := [(6, .int x11), (5, .int x7), (4, .int x3), (0, .ref a0), (1, .int a1), (2, .ref a2), (3, .int a3)]) S.1 S.2.1 dX7_replayEntry_22 hl (by decide) rfl (fun ls hl => ?_)
  refine lv_aload_n S.1 S.2.1 dX7_replayEntry_24 rfl (lv_at hl 3 rfl) ?_
  obtain ⟨x13, h14, h⟩ := xb h
  refine xr_getr S w 8 xi_X7_replayEntry_X7 rfl 5 (by decide) xl_X7_replayEntry_32 h14 dX7_replayEntry_25 ?_
  obtain ⟨x15, h16, h⟩ := xb h
  refine xr_geti S w 4 xi_X7_replayEntry_X3 rfl 4 (by decide) xl_X7_replayEntry_226 h16 dX7_replayEntry_28 ?_
  refine lv_if_eq (tgt := 78) S.1 S.2.1 dX7_replayEntry_31 (by decide) (fun c31 => ?_) (fun c31 => ?_)
  · rw [if_pos c31] at h
    refine lv_iload S.1 S.2.1 dX7_replayEntry_78 (lv_at hl 2 rfl) ?_
    refine lv_iconst (v := 1) S.1 S.2.1 dX7_replayEntry_80 (by decide) ?_
    refine lv_icmp_ne (tgt := 100) S.1 S.2.1 dX7_replayEntry_81 (by decide) (fun c81 => ?_) (fun c81 => ?_)
    · rw [if_neg c81] at h
      refine lv_iload S.1 S.2.1 dX7_replayEntry_100 (lv_at hl 2 rfl) ?_
      refine lv_iconst (v := 2) S.1 S.2.1 dX7_replayEntry_102 (by decide) ?_
      refine lv_icmp_ne (tgt := 134) S.1 S.2.1 dX7_replayEntry_103 (by decide) (fun c103 => ?_) (fun c103 => ?_)
      · rw [if_neg c103] at h
        refine lv_iconst (v := 0) S.1 S.2.1 dX7_replayEntry_134 (by decide) ?_
        exact ret _ _ _ _ 0 0 _ (by decide) h w dX7_replayEntry_135
      · rw [if_pos c103] at h
        refine lv_aload_n S.1 S.2.1 dX7_replayEntry_106 rfl (lv_at hl 3 rfl) ?_
        refine lv_iload S.1 S.2.1 dX7_replayEntry_107 (lv_at hl 1 rfl) ?_
        obtain ⟨_, h17, h⟩ := xb h
        obtain ⟨x19, h18, h⟩ := xb h
        refine xr_callV_i S w hA hN 8 rfl h17 (c_X7_isNode l D cy L g a0 x7 h18) (cwV 1 S.2.2.2.2 gX7_replayEntry_X7_isNode rfl rfl rfl (by decide +kernel) ⟨Nat.le_of_ble_eq_true rfl, Nat.le_of_ble_eq_true rfl⟩) rfl rfl hl.1 (Nat.le_of_ble_eq_true rfl) dX7_replayEntry_109 ⟨Nat.le_of_ble_eq_true rfl, Nat.le_of_ble_eq_true rfl⟩ (fun H locs w => ?_)
        refine lv_if_eq (tgt := 134) S.1 S.2.1 dX7_replayEntry_112 (by decide) (fun c112 => ?_) (fun c112 => ?_)
        · rw [if_pos c112] at h
          refine lv_iconst (v := 0) S.1 S.2.1 dX7_replayEntry_134 (by decide) ?_
          exact ret _ _ _ _ 0 0 _ (by decide) h w dX7_replayEntry_135
        · rw [if_neg c112] at h
          refine lv_iload S.1 S.2.1 dX7_replayEntry_115 (lv_at hl 1 rfl) ?_
          refine lv_iload_n S.1 S.2.1 dX7_replayEntry_117 rfl (lv_at hl 4 rfl) ?_
          refine lv_icmp_eq (tgt := 134) S.1 S.2.1 dX7_replayEntry_118 (by decide) (fun c118 => ?_) (fun c118 => ?_)
          · rw [if_pos c118] at h
            refine lv_iconst (v := 0) S.1 S.2.1 dX7_replayEntry_134 (by decide) ?_
            exact ret _ _ _ _ 0 0 _ (by decide) h w dX7_replayEntry_135
          · rw [if_neg c118] at h
            refine lv_aload_n S.1 S.2.1 dX7_replayEntry_121 rfl (lv_at hl 3 rfl) ?_
            obtain ⟨x20, h21, h⟩ := xb h
            refine xr_getr S w 8 xi_X7_replayEntry_X7 rfl 5 (by decide) xl_X7_replayEntry_32 h21 dX7_replayEntry_122 ?_
            refine lv_iload S.1 S.2.1 dX7_replayEntry_125 (lv_at hl 0 rfl) ?_
            refine lv_iload S.1 S.2.1 dX7_replayEntry_127 (lv_at hl 1 rfl) ?_
            obtain ⟨_, h22, h⟩ := xb h
            obtain ⟨g24, h23, h⟩ := xb h
            refine xr_callV_v S w hA hN 4 rfl h22 (c_X3_stepReceipt l D cy L g x20 x11 x7 h23) (cwV 2 S.2.2.2.2 gX7_replayEntry_X3_stepReceipt rfl rfl rfl (by decide +kernel) ⟨Nat.le_of_ble_eq_true rfl, Nat.le_of_ble_eq_true rfl⟩) rfl rfl hl.1 (Nat.le_of_ble_eq_true rfl) dX7_replayEntry_129 ⟨Nat.le_of_ble_eq_true rfl, Nat.le_of_ble_eq_true rfl⟩ (fun H locs w => ?_)
            refine lv_iconst (v := 1) S.1 S.2.1 dX7_replayEntry_132 (by decide) ?_
            exact ret _ _ _ _ 1 1 _ (by decide) h w dX7_replayEntry_133
    · rw [if_pos c81] at h
      refine lv_iload S.1 S.2.1 dX7_replayEntry_84 (lv_at hl 1 rfl) ?_
      refine lv_if_ne (tgt := 100) S.1 S.2.1 dX7_replayEntry_86 (by decide) (fun c86 => ?_) (fun c86 => ?_)
      · rw [if_neg c86] at h
        refine lv_iload S.1 S.2.1 dX7_replayEntry_100 (lv_at hl 2 rfl) ?_
        refine lv_iconst (v := 2) S.1 S.2.1 dX7_replayEntry_102 (by decide) ?_
        refine lv_icmp_ne (tgt := 134) S.1 S.2.1 dX7_replayEntry_103 (by decide) (fun c103 => ?_) (fun c103 => ?_)
        · rw [if_neg c103] at h
          refine lv_iconst (v := 0) S.1 S.2.1 dX7_replayEntry_134 (by decide) ?_
          exact ret _ _ _ _ 0 0 _ (by decide) h w dX7_replayEntry_135
        · rw [if_pos c103] at h
          refine lv_aload_n S.1 S.2.1 dX7_replayEntry_106 rfl (lv_at hl 3 rfl) ?_
          refine lv_iload S.1 S.2.1 dX7_replayEntry_107 (lv_at hl 1 rfl) ?_
          obtain ⟨_, h25, h⟩ := xb h
          obtain ⟨x27, h26, h⟩ := xb h
          refine xr_callV_i S w hA hN 8 rfl h25 (c_X7_isNode l D cy L g a0 x7 h26) (cwV 1 S.2.2.2.2 gX7_replayEntry_X7_isNode rfl rfl rfl (by decide +kernel) ⟨Nat.le_of_ble_eq_true rfl, Nat.le_of_ble_eq_true rfl⟩) rfl rfl hl.1 (Nat.le_of_ble_eq_true rfl) dX7_replayEntry_109 ⟨Nat.le_of_ble_eq_true rfl, Nat.le_of_ble_eq_true rfl⟩ (fun H locs w => ?_)
          refine lv_if_eq (tgt := 134) S.1 S.2.1 dX7_replayEntry_112 (by decide) (fun c112 => ?_) (fun c112 => ?_)
          · rw [if_pos c112] at h
            refine lv_iconst (v := 0) S.1 S.2.1 dX7_replayEntry_134 (by decide) ?_
            exact ret _ _ _ _ 0 0 _ (by decide) h w dX7_replayEntry_135
          · rw [if_neg c112] at h
            refine lv_iload S.1 S.2.1 dX7_replayEntry_115 (lv_at hl 1 rfl) ?_
            refine lv_iload_n S.1 S.2.1 dX7_replayEntry_117 rfl (lv_at hl 4 rfl) ?_
            refine lv_icmp_eq (tgt := 134) S.1 S.2.1 dX7_replayEntry_118 (by decide) (fun c118 => ?_) (fun c118 => ?_)
            · rw [if_pos c118] at h
              refine lv_iconst (v := 0) S.1 S.2.1 dX7_replayEntry_134 (by decide) ?_
              exact ret _ _ _ _ 0 0 _ (by decide) h w dX7_replayEntry_135
            · rw [if_neg c118] at h
              refine lv_aload_n S.1 S.2.1 dX7_replayEntry_121 rfl (lv_at hl 3 rfl) ?_
              obtain ⟨x28, h29, h⟩ := xb h
              refine xr_getr S w 8 xi_X7_replayEntry_X7 rfl 5 (by decide) xl_X7_replayEntry_32 h29 dX7_replayEntry_122 ?_
              refine lv_iload S.1 S.2.1 dX7_replayEntry_125 (lv_at hl 0 rfl) ?_
              refine lv_iload S.1 S.2.1 dX7_replayEntry_127 (lv_at hl 1 rfl) ?_
              obtain ⟨_, h30, h⟩ := xb h
              obtain ⟨g32, h31, h⟩ := xb h
              refine xr_callV_v S w hA hN 4 rfl h30 (c_X3_stepReceipt l D cy L g x28 x11 x7 h31) (cwV 2 S.2.2.2.2 gX7_replayEntry_X3_stepReceipt rfl rfl rfl (by decide +kernel) ⟨Nat.le_of_ble_eq_true rfl, Nat.le_of_ble_eq_true rfl⟩) rfl rfl hl.1 (Nat.le_of_ble_eq_true rfl) dX7_replayEntry_129 ⟨Nat.le_of_ble_eq_true rfl, Nat.le_of_ble_eq_true rfl⟩ (fun H locs w => ?_)
              refine lv_iconst (v := 1) S.1 S.2.1 dX7_replayEntry_132 (by decide) ?_
              exact ret _ _ _ _ 1 1 _ (by decide) h w dX7_replayEntry_133
      · rw [if_pos c86] at h
        refine lv_aload_n S.1 S.2.1 dX7_replayEntry_89 rfl (lv_at hl 3 rfl) ?_
        obtain ⟨x33, h34, h⟩ := xb h
        refine xr_getr S w 8 xi_X7_replayEntry_X7 rfl 5 (by decide) xl_X7_replayEntry_32 h34 dX7_replayEntry_90 ?_
        refine lv_iload S.1 S.2.1 dX7_replayEntry_93 (lv_at hl 0 rfl) ?_
        obtain ⟨_, h35, h⟩ := xb h
        obtain ⟨g37, h36, h⟩ := xb h
        refine xr_callV_v S w hA hN 4 rfl h35 (c_X3_stepInput l D cy L g x33 x11 h36) (cwV 1 S.2.2.2.2 gX7_replayEntry_X3_stepInput rfl rfl rfl (by decide +kernel) ⟨Nat.le_of_ble_eq_true rfl, Nat.le_of_ble_eq_true rfl⟩) rfl rfl hl.1 (Nat.le_of_ble_eq_true rfl) dX7_replayEntry_95 ⟨Nat.le_of_ble_eq_true rfl, Nat.le_of_ble_eq_true rfl⟩ (fun H locs w => ?_)
        refine lv_iconst (v := 1) S.1 S.2.1 dX7_replayEntry_98 (by decide) ?_
        exact ret _ _ _ _ 1 1 _ (by decide) h w dX7_replayEntry_99
  · rw [if_neg c31] at h
    refine lv_aload_n S.1 S.2.1 dX7_replayEntry_34 rfl (lv_at hl 3 rfl) ?_
    obtain ⟨x38, h39, h⟩ := xb h
    refine xr_getr S w 8 xi_X7_replayEntry_X7 rfl 5 (by decide) xl_X7_replayEntry_32 h39 dX7_replayEntry_35 ?_
    refine lv_iconst (v := 0) S.1 S.2.1 dX7_replayEntry_38 (by decide) ?_
    obtain ⟨g40, h41, h⟩ := xb h
    refine xr_putz S w 4 xi_X7_replayEntry_X3 rfl tyX3 tyX3_ok nmX3 4 (by decide) xl_X7_replayEntry_226 rfl (tyX3_ok 4 (by decide)) h41 dX7_replayEntry_39 (fun H locs w => ?_)
    refine lv_iload S.1 S.2.1 dX7_replayEntry_42 (lv_at hl 2 rfl) ?_
    refine lv_iconst (v := 3) S.1 S.2.1 dX7_replayEntry_44 (by decide) ?_
    refine lv_icmp_ne (tgt := 76) S.1 S.2.1 dX7_replayEntry_45 (by decide) (fun c45 => ?_) (fun c45 => ?_)
    · rw [if_neg c45] at h
      refine lv_iconst (v := 0) S.1 S.2.1 dX7_replayEntry_76 (by decide) ?_
      exact ret _ _ _ _ 0 0 _ (by decide) h w dX7_replayEntry_77
    · rw [if_pos c45] at h
      refine lv_iload S.1 S.2.1 dX7_replayEntry_48 (lv_at hl 1 rfl) ?_
      refine lv_aload_n S.1 S.2.1 dX7_replayEntry_50 rfl (lv_at hl 3 rfl) ?_
      obtain ⟨x42, h43, h⟩ := xb h
      refine xr_getr S w 8 xi_X7_replayEntry_X7 rfl 5 (by decide) xl_X7_replayEntry_32 h43 dX7_replayEntry_51 ?_
      obtain ⟨x44, h45, h⟩ := xb h
      refine xr_geti S w 4 xi_X7_replayEntry_X3 rfl 5 (by decide) xl_X7_replayEntry_229 h45 dX7_replayEntry_54 ?_
      refine lv_icmp_ne (tgt := 76) S.1 S.2.1 dX7_replayEntry_57 (by decide) (fun c57 => ?_) (fun c57 => ?_)
      · rw [if_neg c57] at h
        refine lv_iconst (v := 0) S.1 S.2.1 dX7_replayEntry_76 (by decide) ?_
        exact ret _ _ _ _ 0 0 _ (by decide) h w dX7_replayEntry_77
      · rw [if_pos c57] at h
        refine lv_iload S.1 S.2.1 dX7_replayEntry_60 (lv_at hl 0 rfl) ?_
        refine lv_aload_n S.1 S.2.1 dX7_replayEntry_62 rfl (lv_at hl 3 rfl) ?_
        obtain ⟨x46, h47, h⟩ := xb h
        refine xr_getr S w 8 xi_X7_replayEntry_X7 rfl 5 (by decide) xl_X7_replayEntry_32 h47 dX7_replayEntry_63 ?_
        obtain ⟨x48, h49, h⟩ := xb h
        refine xr_geti S w 4 xi_X7_replayEntry_X3 rfl 6 (by decide) xl_X7_replayEntry_232 h49 dX7_replayEntry_66 ?_
        refine lv_icmp_ne (tgt := 76) S.1 S.2.1 dX7_replayEntry_69 (by decide) (fun c69 => ?_) (fun c69 => ?_)
        · rw [if_neg c69] at h
          refine lv_iconst (v := 0) S.1 S.2.1 dX7_replayEntry_76 (by decide) ?_
          exact ret _ _ _ _ 0 0 _ (by decide) h w dX7_replayEntry_77
        · rw [if_pos c69] at h
          refine lv_iconst (v := 1) S.1 S.2.1 dX7_replayEntry_72 (by decide) ?_
          refine lv_goto (tgt := 77) S.1 S.2.1 dX7_replayEntry_73 (by decide) ?_
          exact ret _ _ _ _ 1 1 _ (by decide) h w dX7_replayEntry_77
theorem xi_X7_firstWrong_X2 : ∀ w ∈ wsX20, w ∈ wsX7_firstWrong := by decide +kernel
theorem xl_X7_firstWrong_81 : Cond.fieldLink RX7 81 (TX2 0).1 (TX2 0).2.1 (TX2 0).2.2.1 ∈ wsX7_firstWrong := by decide +kernel
theorem xi_X7_firstWrong_X7 : ∀ w ∈ wsX70, w ∈ wsX7_firstWrong := by decide +kernel
theorem xl_X7_firstWrong_32 : Cond.fieldLink RX7 32 (TX7 5).1 (TX7 5).2.1 (TX7 5).2.2.1 ∈ wsX7_firstWrong := by decide +kernel
theorem xi_X7_firstWrong_X3 : ∀ w ∈ wsX30, w ∈ wsX7_firstWrong := by decide +kernel
theorem xl_X7_firstWrong_226 : Cond.fieldLink RX7 226 (TX3 4).1 (TX3 4).2.1 (TX3 4).2.2.1 ∈ wsX7_firstWrong := by decide +kernel
theorem xl_X7_firstWrong_209 : Cond.fieldLink RX7 209 (TX7 0).1 (TX7 0).2.1 (TX7 0).2.2.1 ∈ wsX7_firstWrong := by decide +kernel
def f_X7_firstWrong_14 : Nat → xG → Nat → Int32 → Nat → Int32 → Option (Int32 × xG)
  | 0, _, _, _, _, _ => none
  | n9 + 1, g, v0, v1, v2, v3 =>
  (xg_i g 3 v2 0).bind fun x1 =>
  if x1 < v3 then
    (xg_r g 8 v0 5).bind fun x3 =>
    (xg_i g 4 x3 4).bind fun x5 =>
    if x5 = 0 then
      some ((-1), g)
    else
      (xg_i g 3 v2 0).bind fun x7 =>
      some ((x7 + 1), g)
  else
    (xk g 8 v0).bind fun _ =>
    x2 (f_X7_replayEntry g v0 v1 v2 v3) fun x11 g12 =>
    if x11 = 0 then
      some (v3, g12)
    else
      f_X7_firstWrong_14 n9 g12 v0 v1 v2 (v3 + 1)
def f_X7_firstWrong (g : xG) (a0 : Nat) (a1 : Int32) (a2 : Nat) : Option (Int32 × xG) :=
  (xg_r g 8 a0 5).bind fun x13 =>
  (xg_i g 8 a0 0).bind fun x15 =>
  (xk g 4 x13).bind fun _ =>
  (f_X3_restart g x13 a1 x15).bind fun g19 =>
  f_X7_firstWrong_14 xFU g19 a0 a1 a2 1
set_option maxHeartbeats 4000000 in
set_option maxRecDepth 100000 in
theorem c_X7_firstWrong (l : Launch) (D : va_G) (cy : Nat → ClassId) (L : List Nat) (g : xG) (a0 : Nat) (a1 : Int32) (a2 : Nat) {r1 : Int32} {g1 : xG} (h : f_X7_firstWrong g a0 a1 a2 = some (r1, g1)) : xMi l yX7_firstWrong wsX7_firstWrong ({ frames := 2, cells := 0, slots := 0, locals := 49 }) D cy L g [.ref a0, .int a1, .ref a2] r1 g1 := by
  refine xm_i (cc := cX7_firstWrong) (maxL := 4) RX7 rfl rfl rfl (by decide +kernel) rfl (Nat.le_of_ble_eq_true rfl) ?_
  intro p e s m args below meth c Q A S w hA hN ret ls hl
  have hl : lv_has ls 4 [(0, .ref a0), (1, .int a1), (2, .ref a2)] := hl
  obtain ⟨rr, hrr⟩ : ∃ z, z = (r1, g1) := ⟨_, rfl⟩
  rw [← hrr] at h
  have hb14 : ∀ (n9 : Nat), ∀ (g : xG) (v0 : Nat) (v1 : Int32) (v2 : Nat) (v3 : Int32) , f_X7_firstWrong_14 n9 g v0 v1 v2 v3 = some rr → ∀ (H : Heap) (locs : List Loc) (ls : Array Slot), xOK D cy A s.heap s L g H locs → lv_has ls 4 [(0, .ref v0), (1, .int v1), (2, .ref v2), (3, .int v3)] → W p l e { frames := 2, cells := 0, slots := 0, locals := 49 } s m args below meth c H locs 0 0 Q (F0 m 14 ls []) := by
    intro n9
    induction n9 with
    | zero => intro g v0 v1 v2 v3 h; cases h
    | succ n9 ih =>
      intro g v0 v1 v2 v3 h H locs ls w hl
      rw [f_X7_firstWrong_14] at h
      refine lv_iload_n S.1 S.2.1 dX7_firstWrong_14 rfl (lv_at hl 3 rfl) ?_
      refine lv_aload_n S.1 S.2.1 dX7_firstWrong_15 rfl (lv_at hl 2 rfl) ?_
      obtain ⟨x1, h2, h⟩ := xb h
      refine xr_geti S w 3 xi_X7_firstWrong_X2 rfl 0 (by decide) xl_X7_firstWrong_81 h2 dX7_firstWrong_16 ?_
      refine lv_icmp_gt (tgt := 40) S.1 S.2.1 dX7_firstWrong_19 (by decide) (fun c19 => ?_) (fun c19 => ?_)
      · rw [if_pos c19] at h
        refine lv_aload_n S.1 S.2.1 dX7_firstWrong_40 rfl (lv_at hl 0 rfl) ?_
        obtain ⟨x3, h4, h⟩ := xb h
        refine xr_getr S w 8 xi_X7_firstWrong_X7 rfl 5 (by decide) xl_X7_firstWrong_32 h4 dX7_firstWrong_41 ?_
        obtain ⟨x5, h6, h⟩ := xb h
        refine xr_geti S w 4 xi_X7_firstWrong_X3 rfl 4 (by decide) xl_X7_firstWrong_226 h6 dX7_firstWrong_44 ?_
        refine lv_if_eq (tgt := 59) S.1 S.2.1 dX7_firstWrong_47 (by decide) (fun c47 => ?_) (fun c47 => ?_)
        · rw [if_pos c47] at h
          refine lv_iconst (v := (-1)) S.1 S.2.1 dX7_firstWrong_59 (by decide) ?_
          exact ret _ _ _ _ _ _ (h.trans (congrArg some hrr)) w dX7_firstWrong_60
        · rw [if_neg c47] at h
          refine lv_aload_n S.1 S.2.1 dX7_firstWrong_50 rfl (lv_at hl 2 rfl) ?_
          obtain ⟨x7, h8, h⟩ := xb h
          refine xr_geti S w 3 xi_X7_firstWrong_X2 rfl 0 (by decide) xl_X7_firstWrong_81 h8 dX7_firstWrong_51 ?_
          refine lv_iconst (v := 1) S.1 S.2.1 dX7_firstWrong_54 (by decide) ?_
          refine lv_iadd S.1 S.2.1 dX7_firstWrong_55 ?_
          refine lv_goto (tgt := 60) S.1 S.2.1 dX7_firstWrong_56 (by decide) ?_
          exact ret _ _ _ _ _ _ (h.trans (congrArg some hrr)) w dX7_firstWrong_60
      · rw [if_neg c19] at h
        refine lv_aload_n S.1 S.2.1 dX7_firstWrong_22 rfl (lv_at hl 0 rfl) ?_
        refine lv_iload_n S.1 S.2.1 dX7_firstWrong_23 rfl (lv_at hl 1 rfl) ?_
        refine lv_aload_n S.1 S.2.1 dX7_firstWrong_24 rfl (lv_at hl 2 rfl) ?_
        refine lv_iload_n S.1 S.2.1 dX7_firstWrong_25 rfl (lv_at hl 3 rfl) ?_
        obtain ⟨_, h9, h⟩ := xb h
        obtain ⟨x11, g12, h10, h⟩ := x2b h
        refine xr_callV_i S w hA hN 8 rfl h9 (c_X7_replayEntry l D cy L g v0 v1 v2 v3 h10) (cwV 3 S.2.2.2.2 gX7_firstWrong_X7_replayEntry rfl rfl rfl (by decide +kernel) ⟨Nat.le_of_ble_eq_true rfl, Nat.le_of_ble_eq_true rfl⟩) rfl rfl hl.1 (Nat.le_of_ble_eq_true rfl) dX7_firstWrong_26 ⟨Nat.le_of_ble_eq_true rfl, Nat.le_of_ble_eq_true rfl⟩ (fun H locs w => ?_)
        refine lv_if_ne (tgt := 34) S.1 S.2.1 dX7_firstWrong_29 (by decide) (fun c29 => ?_) (fun c29 => ?_)
        · rw [if_neg c29] at h
          refine lv_iinc (v := (v3 + 1)) (lv' := [(3, .int (v3 + 1)), (0, .ref v0), (1, .int v1), (2, .ref v2)]) S.1 S.2.1 dX7_firstWrong_34 hl (k := 3) rfl rfl (by decide) rfl (fun ls hl => ?_)
          refine lv_goto (tgt := 14) S.1 S.2.1 dX7_firstWrong_37 (by decide) ?_
          exact ih g12 v0 v1 v2 (v3 + 1) h _ _ _ w (lv_sub hl [1, 2, 3, 0] rfl)
        · rw [if_pos c29] at h
          refine lv_iload_n S.1 S.2.1 dX7_firstWrong_32 rfl (lv_at hl 3 rfl) ?_
          exact ret _ _ _ _ _ _ (h.trans (congrArg some hrr)) w dX7_firstWrong_33
  rw [f_X7_firstWrong] at h
  refine lv_aload_n S.1 S.2.1 dX7_firstWrong_0 rfl (lv_at hl 0 rfl) ?_
  obtain ⟨x13, h14, h⟩ := xb h
  refine xr_getr S w 8 xi_X7_firstWrong_X7 rfl 5 (by decide) xl_X7_firstWrong_32 h14 dX7_firstWrong_1 ?_
  refine lv_iload_n S.1 S.2.1 dX7_firstWrong_4 rfl (lv_at hl 1 rfl) ?_
  refine lv_aload_n S.1 S.2.1 dX7_firstWrong_5 rfl (lv_at hl 0 rfl) ?_
  obtain ⟨x15, h16, h⟩ := xb h
  refine xr_geti S w 8 xi_X7_firstWrong_X7 rfl 0 (by decide) xl_X7_firstWrong_209 h16 dX7_firstWrong_6 ?_
  obtain ⟨_, h17, h⟩ := xb h
  obtain ⟨g19, h18, h⟩ := xb h
  refine xr_callV_v S w hA hN 4 rfl h17 (c_X3_restart l D cy L g x13 a1 x15 h18) (cwV 2 S.2.2.2.2 gX7_firstWrong_X3_restart rfl rfl rfl (by decide +kernel) ⟨Nat.le_of_ble_eq_true rfl, Nat.le_of_ble_eq_true rfl⟩) rfl rfl hl.1 (Nat.le_of_ble_eq_true rfl) dX7_firstWrong_9 ⟨Nat.le_of_ble_eq_true rfl, Nat.le_of_ble_eq_true rfl⟩ (fun H locs w => ?_)
  refine lv_iconst (v := 1) S.1 S.2.1 dX7_firstWrong_12 (by decide) ?_
  refine lv_istore_n (lv' := [(3, .int 1), (0, .ref a0), (1, .int a1), (2, .ref a2)]) S.1 S.2.1 dX7_firstWrong_13 rfl hl (by decide) rfl (fun ls hl => ?_)
  exact hb14 xFU g19 a0 a1 a2 1 h _ _ _ w (lv_sub hl [1, 2, 3, 0] rfl)
theorem xi_X7_writeLog_X2 : ∀ w ∈ wsX20, w ∈ wsX7_writeLog := by decide +kernel
theorem xl_X7_writeLog_81 : Cond.fieldLink RX7 81 (TX2 0).1 (TX2 0).2.1 (TX2 0).2.2.1 ∈ wsX7_writeLog := by decide +kernel
theorem xi_X7_writeLog_X4 : ∀ w ∈ wsX40, w ∈ wsX7_writeLog := by decide +kernel
theorem xl_X7_writeLog_242 : Cond.fieldLink RX7 242 (TX4 0).1 (TX4 0).2.1 (TX4 0).2.2.1 ∈ wsX7_writeLog := by decide +kernel
theorem xl_X7_writeLog_192 : Cond.fieldLink RX7 192 (TX2 4).1 (TX2 4).2.1 (TX2 4).2.2.1 ∈ wsX7_writeLog := by decide +kernel
theorem xl_X7_writeLog_183 : Cond.fieldLink RX7 183 (TX2 1).1 (TX2 1).2.1 (TX2 1).2.2.1 ∈ wsX7_writeLog := by decide +kernel
theorem xl_X7_writeLog_186 : Cond.fieldLink RX7 186 (TX2 2).1 (TX2 2).2.1 (TX2 2).2.2.1 ∈ wsX7_writeLog := by decide +kernel
theorem xl_X7_writeLog_133 : Cond.fieldLink RX7 133 (TX2 3).1 (TX2 3).2.1 (TX2 3).2.2.1 ∈ wsX7_writeLog := by decide +kernel
theorem xl_X7_writeLog_57 : Cond.fieldLink RX7 57 (TX4 2).1 (TX4 2).2.1 (TX4 2).2.2.1 ∈ wsX7_writeLog := by decide +kernel
def f_X7_writeLog_35 : Nat → xG → Nat → Nat → Nat → Int32 → Option xG
  | 0, _, _, _, _, _ => none
  | n9 + 1, g, v0, v2, v3, v4 =>
  (xg_i g 3 v3 0).bind fun x1 =>
  if x1 < v4 then
    (xg_i g 5 v2 0).bind fun x3 =>
    (xg_i g 3 v3 0).bind fun x5 =>
    (xg_r g 3 v3 4).bind fun x7 =>
    (xg_i g 3 v3 0).bind fun x9 =>
    (xa_l g x7 x9).bind fun x11 =>
    (f_X7_signatureOf x3 x5 x11).bind fun x14 =>
    (xk g 1 v0).bind fun _ =>
    (f_X0_append g v0 x14 8).bind fun g17 =>
    some g17
  else
    (xg_r g 3 v3 1).bind fun x18 =>
    (xa_i 1 g x18 v4).bind fun x20 =>
    (xk g 1 v0).bind fun _ =>
    (f_X0_append g v0 (Int32.toInt64 x20) 1).bind fun g24 =>
    (xg_r g24 3 v3 2).bind fun x25 =>
    (xa_i 1 g24 x25 v4).bind fun x27 =>
    (xk g24 1 v0).bind fun _ =>
    (f_X0_append g24 v0 (Int32.toInt64 x27) 1).bind fun g31 =>
    (xg_r g31 3 v3 3).bind fun x32 =>
    (xa_i 1 g31 x32 v4).bind fun x34 =>
    (xk g31 1 v0).bind fun _ =>
    (f_X0_append g31 v0 (Int32.toInt64 x34) 4).bind fun g38 =>
    f_X7_writeLog_35 n9 g38 v0 v2 v3 (v4 + 1)
def f_X7_writeLog (g : xG) (a0 : Nat) (a1 : Int32) (a2 : Nat) : Option xG :=
  (xg_r g 5 a2 2).bind fun x39 =>
  (xk g 1 a0).bind fun _ =>
  (f_X0_append g a0 (Int32.toInt64 a1) 1).bind fun g43 =>
  (xg_i g43 5 a2 0).bind fun x44 =>
  (xk g43 1 a0).bind fun _ =>
  (f_X0_append g43 a0 (Int32.toInt64 x44) 1).bind fun g48 =>
  (xg_i g48 3 x39 0).bind fun x49 =>
  (xk g48 1 a0).bind fun _ =>
  (f_X0_append g48 a0 (Int32.toInt64 x49) 2).bind fun g53 =>
  f_X7_writeLog_35 xFU g53 a0 a2 x39 1
set_option maxHeartbeats 4000000 in
set_option maxRecDepth 100000 in
theorem c_X7_writeLog (l : Launch) (D : va_G) (cy : Nat → ClassId) (L : List Nat) (g : xG) (a0 : Nat) (a1 : Int32) (a2 : Nat) {g1 : xG} (h : f_X7_writeLog g a0 a1 a2 = some g1) : xMv l yX7_writeLog wsX7_writeLog ({ frames := 2, cells := 0, slots := 0, locals := 48 }) D cy L g [.ref a0, .int a1, .ref a2] g1 := by
  refine xm_v (cc := cX7_writeLog) (maxL := 5) RX7 rfl rfl rfl (by decide +kernel) rfl (Nat.le_of_ble_eq_true rfl) ?_
  intro p e s m args below meth c Q A S w hA hN ret ls hl
  have hl : lv_has ls 5 [(0, .ref a0), (1, .int a1), (2, .ref a2)] := hl
  obtain ⟨rr, hrr⟩ : ∃ z, z = g1 := ⟨_, rfl⟩
  rw [← hrr] at h
  have hb35 : ∀ (n9 : Nat), ∀ (g : xG) (v0 : Nat) (v2 : Nat) (v3 : Nat) (v4 : Int32) , f_X7_writeLog_35 n9 g v0 v2 v3 v4 = some rr → ∀ (H : Heap) (locs : List Loc) (ls : Array Slot), xOK D cy A s.heap s L g H locs → lv_has ls 5 [(0, .ref v0), (2, .ref v2), (3, .ref v3), (4, .int v4)] → W p l e { frames := 2, cells := 0, slots := 0, locals := 48 } s m args below meth c H locs 0 0 Q (F0 m 35 ls []) := by
    intro n9
    induction n9 with
    | zero => intro g v0 v2 v3 v4 h; cases h
    | succ n9 ih =>
      intro g v0 v2 v3 v4 h H locs ls w hl
      rw [f_X7_writeLog_35] at h
      refine lv_iload S.1 S.2.1 dX7_writeLog_35 (lv_at hl 3 rfl) ?_
      refine lv_aload_n S.1 S.2.1 dX7_writeLog_37 rfl (lv_at hl 2 rfl) ?_
      obtain ⟨x1, h2, h⟩ := xb h
      refine xr_geti S w 3 xi_X7_writeLog_X2 rfl 0 (by decide) xl_X7_writeLog_81 h2 dX7_writeLog_38 ?_
      refine lv_icmp_gt (tgt := 89) S.1 S.2.1 dX7_writeLog_41 (by decide) (fun c41 => ?_) (fun c41 => ?_)
      · rw [if_pos c41] at h
        refine lv_aload_n S.1 S.2.1 dX7_writeLog_89 rfl (lv_at hl 0 rfl) ?_
        refine lv_aload_n S.1 S.2.1 dX7_writeLog_90 rfl (lv_at hl 1 rfl) ?_
        obtain ⟨x3, h4, h⟩ := xb h
        refine xr_geti S w 5 xi_X7_writeLog_X4 rfl 0 (by decide) xl_X7_writeLog_242 h4 dX7_writeLog_91 ?_
        refine lv_aload_n S.1 S.2.1 dX7_writeLog_94 rfl (lv_at hl 2 rfl) ?_
        obtain ⟨x5, h6, h⟩ := xb h
        refine xr_geti S w 3 xi_X7_writeLog_X2 rfl 0 (by decide) xl_X7_writeLog_81 h6 dX7_writeLog_95 ?_
        refine lv_aload_n S.1 S.2.1 dX7_writeLog_98 rfl (lv_at hl 2 rfl) ?_
        obtain ⟨x7, h8, h⟩ := xb h
        refine xr_getr S w 3 xi_X7_writeLog_X2 rfl 4 (by decide) xl_X7_writeLog_192 h8 dX7_writeLog_99 ?_
        refine lv_aload_n S.1 S.2.1 dX7_writeLog_102 rfl (lv_at hl 2 rfl) ?_
        obtain ⟨x9, h10, h⟩ := xb h
        refine xr_geti S w 3 xi_X7_writeLog_X2 rfl 0 (by decide) xl_X7_writeLog_81 h10 dX7_writeLog_103 ?_
        obtain ⟨x11, h12, h⟩ := xb h
        refine xr_lald S w h12 dX7_writeLog_106 ?_
        obtain ⟨x14, h13, h⟩ := xb h
        refine xr_callS_l S w hA hN (c_X7_signatureOf l D cy L g x3 x5 x11 h13) (va_cwS 3 S.2.2.2.2 gX7_writeLog_X7_signatureOf rfl rfl rfl (by decide +kernel) ⟨Nat.le_of_ble_eq_true rfl, Nat.le_of_ble_eq_true rfl⟩) rfl rfl hl.1 (Nat.le_of_ble_eq_true rfl) dX7_writeLog_107 ⟨Nat.le_of_ble_eq_true rfl, Nat.le_of_ble_eq_true rfl⟩ (fun H locs w => ?_)
        refine lv_bipush (v := 8) S.1 S.2.1 dX7_writeLog_110 (by decide) ?_
        obtain ⟨_, h15, h⟩ := xb h
        obtain ⟨g17, h16, h⟩ := xb h
        refine xr_callV_v S w hA hN 1 rfl h15 (c_X0_append l D cy L g v0 x14 8 h16) (cwV 2 S.2.2.2.2 gX7_writeLog_X0_append rfl rfl rfl (by decide +kernel) ⟨Nat.le_of_ble_eq_true rfl, Nat.le_of_ble_eq_true rfl⟩) rfl rfl hl.1 (Nat.le_of_ble_eq_true rfl) dX7_writeLog_112 ⟨Nat.le_of_ble_eq_true rfl, Nat.le_of_ble_eq_true rfl⟩ (fun H locs w => ?_)
        exact ret _ _ _ _ _ (h.trans (congrArg some hrr)) w dX7_writeLog_115
      · rw [if_neg c41] at h
        refine lv_aload_n S.1 S.2.1 dX7_writeLog_44 rfl (lv_at hl 0 rfl) ?_
        refine lv_aload_n S.1 S.2.1 dX7_writeLog_45 rfl (lv_at hl 2 rfl) ?_
        obtain ⟨x18, h19, h⟩ := xb h
        refine xr_getr S w 3 xi_X7_writeLog_X2 rfl 1 (by decide) xl_X7_writeLog_183 h19 dX7_writeLog_46 ?_
        refine lv_iload S.1 S.2.1 dX7_writeLog_49 (lv_at hl 3 rfl) ?_
        obtain ⟨x20, h21, h⟩ := xb h
        refine xr_iald S w h21 dX7_writeLog_51 ?_
        refine lv_i2l (v := (Int32.toInt64 x20)) S.1 S.2.1 dX7_writeLog_52 rfl ?_
        refine lv_iconst (v := 1) S.1 S.2.1 dX7_writeLog_53 (by decide) ?_
        obtain ⟨_, h22, h⟩ := xb h
        obtain ⟨g24, h23, h⟩ := xb h
        refine xr_callV_v S w hA hN 1 rfl h22 (c_X0_append l D cy L g v0 (Int32.toInt64 x20) 1 h23) (cwV 2 S.2.2.2.2 gX7_writeLog_X0_append rfl rfl rfl (by decide +kernel) ⟨Nat.le_of_ble_eq_true rfl, Nat.le_of_ble_eq_true rfl⟩) rfl rfl hl.1 (Nat.le_of_ble_eq_true rfl) dX7_writeLog_54 ⟨Nat.le_of_ble_eq_true rfl, Nat.le_of_ble_eq_true rfl⟩ (fun H locs w => ?_)
        refine lv_aload_n S.1 S.2.1 dX7_writeLog_57 rfl (lv_at hl 0 rfl) ?_
        refine lv_aload_n S.1 S.2.1 dX7_writeLog_58 rfl (lv_at hl 2 rfl) ?_
        obtain ⟨x25, h26, h⟩ := xb h
        refine xr_getr S w 3 xi_X7_writeLog_X2 rfl 2 (by decide) xl_X7_writeLog_186 h26 dX7_writeLog_59 ?_
        refine lv_iload S.1 S.2.1 dX7_writeLog_62 (lv_at hl 3 rfl) ?_
        obtain ⟨x27, h28, h⟩ := xb h
        refine xr_iald S w h28 dX7_writeLog_64 ?_
        refine lv_i2l (v := (Int32.toInt64 x27)) S.1 S.2.1 dX7_writeLog_65 rfl ?_
        refine lv_iconst (v := 1) S.1 S.2.1 dX7_writeLog_66 (by decide) ?_
        obtain ⟨_, h29, h⟩ := xb h
        obtain ⟨g31, h30, h⟩ := xb h
        refine xr_callV_v S w hA hN 1 rfl h29 (c_X0_append l D cy L g24 v0 (Int32.toInt64 x27) 1 h30) (cwV 2 S.2.2.2.2 gX7_writeLog_X0_append rfl rfl rfl (by decide +kernel) ⟨Nat.le_of_ble_eq_true rfl, Nat.le_of_ble_eq_true rfl⟩) rfl rfl hl.1 (Nat.le_of_ble_eq_true rfl) dX7_writeLog_67 ⟨Nat.le_of_ble_eq_true rfl, Nat.le_of_ble_eq_true rfl⟩ (fun H locs w => ?_)
        refine lv_aload_n S.1 S.2.1 dX7_writeLog_70 rfl (lv_at hl 0 rfl) ?_
        refine lv_aload_n S.1 S.2.1 dX7_writeLog_71 rfl (lv_at hl 2 rfl) ?_
        obtain ⟨x32, h33, h⟩ := xb h
        refine xr_getr S w 3 xi_X7_writeLog_X2 rfl 3 (by decide) xl_X7_writeLog_133 h33 dX7_writeLog_72 ?_
        refine lv_iload S.1 S.2.1 dX7_writeLog_75 (lv_at hl 3 rfl) ?_
        obtain ⟨x34, h35, h⟩ := xb h
        refine xr_iald S w h35 dX7_writeLog_77 ?_
        refine lv_i2l (v := (Int32.toInt64 x34)) S.1 S.2.1 dX7_writeLog_78 rfl ?_
        refine lv_iconst (v := 4) S.1 S.2.1 dX7_writeLog_79 (by decide) ?_
        obtain ⟨_, h36, h⟩ := xb h
        obtain ⟨g38, h37, h⟩ := xb h
        refine xr_callV_v S w hA hN 1 rfl h36 (c_X0_append l D cy L g31 v0 (Int32.toInt64 x34) 4 h37) (cwV 2 S.2.2.2.2 gX7_writeLog_X0_append rfl rfl rfl (by decide +kernel) ⟨Nat.le_of_ble_eq_true rfl, Nat.le_of_ble_eq_true rfl⟩) rfl rfl hl.1 (Nat.le_of_ble_eq_true rfl) dX7_writeLog_80 ⟨Nat.le_of_ble_eq_true rfl, Nat.le_of_ble_eq_true rfl⟩ (fun H locs w => ?_)
        refine lv_iinc (v := (v4 + 1)) (lv' := [(4, .int (v4 + 1)), (0, .ref v0), (2, .ref v2), (3, .ref v3)]) S.1 S.2.1 dX7_writeLog_83 hl (k := 3) rfl rfl (by decide) rfl (fun ls hl => ?_)
        refine lv_goto (tgt := 35) S.1 S.2.1 dX7_writeLog_86 (by decide) ?_
        exact ih g38 v0 v2 v3 (v4 + 1) h _ _ _ w (lv_sub hl [1, 2, 3, 0] rfl)
  rw [f_X7_writeLog] at h
  refine lv_aload_n S.1 S.2.1 dX7_writeLog_0 rfl (lv_at hl 2 rfl) ?_
  obtain ⟨x39, h40, h⟩ := xb h
  refine xr_getr S w 5 xi_X7_writeLog_X4 rfl 2 (by decide) xl_X7_writeLog_57 h40 dX7_writeLog_1 ?_
  refine lv_astore_n (lv' := [(3, .ref x39), (0, .ref a0), (1, .int a1), (2, .ref a2)]) S.1 S.2.1 dX7_writeLog_4 rfl hl (by decide) rfl (fun ls hl => ?_)
  refine lv_aload_n S.1 S.2.1 dX7_writeLog_5 rfl (lv_at hl 1 rfl) ?_
  refine lv_iload_n S.1 S.2.1 dX7_writeLog_6 rfl (lv_at hl 2 rfl) ?_
  refine lv_i2l (v := (Int32.toInt64 a1)) S.1 S.2.1 dX7_writeLog_7 rfl ?_
  refine lv_iconst (v := 1) S.1 S.2.1 dX7_writeLog_8 (by decide) ?_
  obtain ⟨_, h41, h⟩ := xb h
  obtain ⟨g43, h42, h⟩ := xb h
  refine xr_callV_v S w hA hN 1 rfl h41 (c_X0_append l D cy L g a0 (Int32.toInt64 a1) 1 h42) (cwV 2 S.2.2.2.2 gX7_writeLog_X0_append rfl rfl rfl (by decide +kernel) ⟨Nat.le_of_ble_eq_true rfl, Nat.le_of_ble_eq_true rfl⟩) rfl rfl hl.1 (Nat.le_of_ble_eq_true rfl) dX7_writeLog_9 ⟨Nat.le_of_ble_eq_true rfl, Nat.le_of_ble_eq_true rfl⟩ (fun H locs w => ?_)
  refine lv_aload_n S.1 S.2.1 dX7_writeLog_12 rfl (lv_at hl 1 rfl) ?_
  refine lv_aload_n S.1 S.2.1 dX7_writeLog_13 rfl (lv_at hl 3 rfl) ?_
  obtain ⟨x44, h45, h⟩ := xb h
  refine xr_geti S w 5 xi_X7_writeLog_X4 rfl 0 (by decide) xl_X7_writeLog_242 h45 dX7_writeLog_14 ?_
  refine lv_i2l (v := (Int32.toInt64 x44)) S.1 S.2.1 dX7_writeLog_17 rfl ?_
  refine lv_iconst (v := 1) S.1 S.2.1 dX7_writeLog_18 (by decide) ?_
  obtain ⟨_, h46, h⟩ := xb h
  obtain ⟨g48, h47, h⟩ := xb h
  refine xr_callV_v S w hA hN 1 rfl h46 (c_X0_append l D cy L g43 a0 (Int32.toInt64 x44) 1 h47) (cwV 2 S.2.2.2.2 gX7_writeLog_X0_append rfl rfl rfl (by decide +kernel) ⟨Nat.le_of_ble_eq_true rfl, Nat.le_of_ble_eq_true rfl⟩) rfl rfl hl.1 (Nat.le_of_ble_eq_true rfl) dX7_writeLog_19 ⟨Nat.le_of_ble_eq_true rfl, Nat.le_of_ble_eq_true rfl⟩ (fun H locs w => ?_)
  refine lv_aload_n S.1 S.2.1 dX7_writeLog_22 rfl (lv_at hl 1 rfl) ?_
  refine lv_aload_n S.1 S.2.1 dX7_writeLog_23 rfl (lv_at hl 0 rfl) ?_
  obtain ⟨x49, h50, h⟩ := xb h
  refine xr_geti S w 3 xi_X7_writeLog_X2 rfl 0 (by decide) xl_X7_writeLog_81 h50 dX7_writeLog_24 ?_
  refine lv_i2l (v := (Int32.toInt64 x49)) S.1 S.2.1 dX7_writeLog_27 rfl ?_
  refine lv_iconst (v := 2) S.1 S.2.1 dX7_writeLog_28 (by decide) ?_
  obtain ⟨_, h51, h⟩ := xb h
  obtain ⟨g53, h52, h⟩ := xb h
  refine xr_callV_v S w hA hN 1 rfl h51 (c_X0_append l D cy L g48 a0 (Int32.toInt64 x49) 2 h52) (cwV 2 S.2.2.2.2 gX7_writeLog_X0_append rfl rfl rfl (by decide +kernel) ⟨Nat.le_of_ble_eq_true rfl, Nat.le_of_ble_eq_true rfl⟩) rfl rfl hl.1 (Nat.le_of_ble_eq_true rfl) dX7_writeLog_29 ⟨Nat.le_of_ble_eq_true rfl, Nat.le_of_ble_eq_true rfl⟩ (fun H locs w => ?_)
  refine lv_iconst (v := 1) S.1 S.2.1 dX7_writeLog_32 (by decide) ?_
  refine lv_istore (lv' := [(4, .int 1), (3, .ref x39), (0, .ref a0), (1, .int a1), (2, .ref a2)]) S.1 S.2.1 dX7_writeLog_33 hl (by decide) rfl (fun ls hl => ?_)
  exact hb35 xFU g53 a0 a2 x39 1 h _ _ _ w (lv_sub hl [2, 4, 1, 0] rfl)
theorem xi_X7_readEntries_X7 : ∀ w ∈ wsX70, w ∈ wsX7_readEntries := by decide +kernel
theorem xl_X7_readEntries_39 : Cond.fieldLink RX7 39 (TX7 6).1 (TX7 6).2.1 (TX7 6).2.2.1 ∈ wsX7_readEntries := by decide +kernel
theorem xi_X7_readEntries_X2 : ∀ w ∈ wsX20, w ∈ wsX7_readEntries := by decide +kernel
theorem xl_X7_readEntries_81 : Cond.fieldLink RX7 81 (TX2 0).1 (TX2 0).2.1 (TX2 0).2.2.1 ∈ wsX7_readEntries := by decide +kernel
def f_X7_readEntries_21 : Nat → xG → Nat → Nat → Int32 → Int32 → Int32 → Option (Int32 × xG)
  | 0, _, _, _, _, _, _ => none
  | n9 + 1, g, v0, v1, v2, v3, v4 =>
  if v2 < v4 then
    some (1, g)
  else
    (xk g 1 v1).bind fun _ =>
    (f_X0_byteAt g v1 v3).bind fun x3 =>
    if x3 < 1 then
      some (0, g)
    else
      if x3 ≤ 3 then
        (xg_r g 8 v0 6).bind fun x4 =>
        (xk g 1 v1).bind fun _ =>
        (f_X0_byteAt g v1 (v3 + 1)).bind fun x8 =>
        (xk g 1 v1).bind fun _ =>
        (f_X0_numberAt g v1 (v3 + 2) 4).bind fun x11 =>
        (xk g 3 x4).bind fun _ =>
        (f_X2_append g x4 x3 x8 (Int64.toInt32 x11)).bind fun g14 =>
        f_X7_readEntries_21 n9 g14 v0 v1 v2 (v3 + 6) (v4 + 1)
      else
        some (0, g)
def f_X7_readEntries (g : xG) (a0 : Nat) (a1 : Nat) : Option (Int32 × xG) :=
  (xk g 1 a1).bind fun _ =>
  (f_X0_numberAt g a1 2 2).bind fun x17 =>
  (xg_r g 8 a0 6).bind fun x18 =>
  (xp_i g 3 x18 0 0).bind fun g20 =>
  f_X7_readEntries_21 xFU g20 a0 a1 (Int64.toInt32 x17) 4 1
set_option maxHeartbeats 4000000 in
set_option maxRecDepth 100000 in
theorem c_X7_readEntries (l : Launch) (D : va_G) (cy : Nat → ClassId) (L : List Nat) (g : xG) (a0 : Nat) (a1 : Nat) {r1 : Int32} {g1 : xG} (h : f_X7_readEntries g a0 a1 = some (r1, g1)) : xMi l yX7_readEntries wsX7_readEntries ({ frames := 3, cells := 0, slots := 0, locals := 72 }) D cy L g [.ref a0, .ref a1] r1 g1 := by
  refine xm_z (cc := cX7_readEntries) (maxL := 6) RX7 rfl rfl rfl (by decide +kernel) rfl (Nat.le_of_ble_eq_true rfl) ?_
  intro p e s m args below meth c Q A S w hA hN ret ls hl
  have hl : lv_has ls 6 [(0, .ref a0), (1, .ref a1)] := hl
  obtain ⟨rr, hrr⟩ : ∃ z, z = (r1, g1) := ⟨_, rfl⟩
  rw [← hrr] at h
  have hb21 : ∀ (n9 : Nat), ∀ (g : xG) (v0 : Nat) (v1 : Nat) (v2 : Int32) (v3 : Int32) (v4 : Int32) , f_X7_readEntries_21 n9 g v0 v1 v2 v3 v4 = some rr → ∀ (H : Heap) (locs : List Loc) (ls : Array Slot), xOK D cy A s.heap s L g H locs → lv_has ls 6 [(0, .ref v0), (1, .ref v1), (2, .int v2), (3, .int v3), (4, .int v4)] → W p l e { frames := 3, cells := 0, slots := 0, locals := 72 } s m args below meth c H locs 0 0 Q (F0 m 21 ls []) := by
    intro n9
    induction n9 with
    | zero => intro g v0 v1 v2 v3 v4 h; cases h
    | succ n9 ih =>
      intro g v0 v1 v2 v3 v4 h H locs ls w hl
      rw [f_X7_readEntries_21] at h
      refine lv_iload S.1 S.2.1 dX7_readEntries_21 (lv_at hl 4 rfl) ?_
      refine lv_iload_n S.1 S.2.1 dX7_readEntries_23 rfl (lv_at hl 2 rfl) ?_
      refine lv_icmp_gt (tgt := 82) S.1 S.2.1 dX7_readEntries_24 (by decide) (fun c24 => ?_) (fun c24 => ?_)
      · rw [if_pos c24] at h
        refine lv_iconst (v := 1) S.1 S.2.1 dX7_readEntries_82 (by decide) ?_
        exact ret _ _ _ _ 1 1 _ (by decide) (h.trans (congrArg some hrr)) w dX7_readEntries_83
      · rw [if_neg c24] at h
        refine lv_aload_n S.1 S.2.1 dX7_readEntries_27 rfl (lv_at hl 1 rfl) ?_
        refine lv_iload_n S.1 S.2.1 dX7_readEntries_28 rfl (lv_at hl 3 rfl) ?_
        obtain ⟨_, h1, h⟩ := xb h
        obtain ⟨x3, h2, h⟩ := xb h
        refine xr_callV_i S w hA hN 1 rfl h1 (c_X0_byteAt l D cy L g v1 v3 h2) (cwV 1 S.2.2.2.2 gX7_readEntries_X0_byteAt rfl rfl rfl (by decide +kernel) ⟨Nat.le_of_ble_eq_true rfl, Nat.le_of_ble_eq_true rfl⟩) rfl rfl hl.1 (Nat.le_of_ble_eq_true rfl) dX7_readEntries_29 ⟨Nat.le_of_ble_eq_true rfl, Nat.le_of_ble_eq_true rfl⟩ (fun H locs w => ?_)
        refine lv_istore (lv' := [(5, .int x3), (0, .ref v0), (1, .ref v1), (2, .int v2), (3, .int v3), (4, .int v4)]) S.1 S.2.1 dX7_readEntries_32 hl (by decide) rfl (fun ls hl => ?_)
        refine lv_iload S.1 S.2.1 dX7_readEntries_34 (lv_at hl 0 rfl) ?_
        refine lv_iconst (v := 1) S.1 S.2.1 dX7_readEntries_36 (by decide) ?_
        refine lv_icmp_lt (tgt := 46) S.1 S.2.1 dX7_readEntries_37 (by decide) (fun c37 => ?_) (fun c37 => ?_)
        · rw [if_pos c37] at h
          refine lv_iconst (v := 0) S.1 S.2.1 dX7_readEntries_46 (by decide) ?_
          exact ret _ _ _ _ 0 0 _ (by decide) (h.trans (congrArg some hrr)) w dX7_readEntries_47
        · rw [if_neg c37] at h
          refine lv_iload S.1 S.2.1 dX7_readEntries_40 (lv_at hl 0 rfl) ?_
          refine lv_iconst (v := 3) S.1 S.2.1 dX7_readEntries_42 (by decide) ?_
          refine lv_icmp_le (tgt := 48) S.1 S.2.1 dX7_readEntries_43 (by decide) (fun c43 => ?_) (fun c43 => ?_)
          · rw [if_pos c43] at h
            refine lv_aload_n S.1 S.2.1 dX7_readEntries_48 rfl (lv_at hl 1 rfl) ?_
            obtain ⟨x4, h5, h⟩ := xb h
            refine xr_getr S w 8 xi_X7_readEntries_X7 rfl 6 (by decide) xl_X7_readEntries_39 h5 dX7_readEntries_49 ?_
            refine lv_iload S.1 S.2.1 dX7_readEntries_52 (lv_at hl 0 rfl) ?_
            refine lv_aload_n S.1 S.2.1 dX7_readEntries_54 rfl (lv_at hl 2 rfl) ?_
            refine lv_iload_n S.1 S.2.1 dX7_readEntries_55 rfl (lv_at hl 4 rfl) ?_
            refine lv_iconst (v := 1) S.1 S.2.1 dX7_readEntries_56 (by decide) ?_
            refine lv_iadd S.1 S.2.1 dX7_readEntries_57 ?_
            obtain ⟨_, h6, h⟩ := xb h
            obtain ⟨x8, h7, h⟩ := xb h
            refine xr_callV_i S w hA hN 1 rfl h6 (c_X0_byteAt l D cy L g v1 (v3 + 1) h7) (cwV 1 S.2.2.2.2 gX7_readEntries_X0_byteAt rfl rfl rfl (by decide +kernel) ⟨Nat.le_of_ble_eq_true rfl, Nat.le_of_ble_eq_true rfl⟩) rfl rfl hl.1 (Nat.le_of_ble_eq_true rfl) dX7_readEntries_58 ⟨Nat.le_of_ble_eq_true rfl, Nat.le_of_ble_eq_true rfl⟩ (fun H locs w => ?_)
            refine lv_aload_n S.1 S.2.1 dX7_readEntries_61 rfl (lv_at hl 2 rfl) ?_
            refine lv_iload_n S.1 S.2.1 dX7_readEntries_62 rfl (lv_at hl 4 rfl) ?_
            refine lv_iconst (v := 2) S.1 S.2.1 dX7_readEntries_63 (by decide) ?_
            refine lv_iadd S.1 S.2.1 dX7_readEntries_64 ?_
            refine lv_iconst (v := 4) S.1 S.2.1 dX7_readEntries_65 (by decide) ?_
            obtain ⟨_, h9, h⟩ := xb h
            obtain ⟨x11, h10, h⟩ := xb h
            refine xr_callV_l S w hA hN 1 rfl h9 (c_X0_numberAt l D cy L g v1 (v3 + 2) 4 h10) (cwV 2 S.2.2.2.2 gX7_readEntries_X0_numberAt rfl rfl rfl (by decide +kernel) ⟨Nat.le_of_ble_eq_true rfl, Nat.le_of_ble_eq_true rfl⟩) rfl rfl hl.1 (Nat.le_of_ble_eq_true rfl) dX7_readEntries_66 ⟨Nat.le_of_ble_eq_true rfl, Nat.le_of_ble_eq_true rfl⟩ (fun H locs w => ?_)
            refine lv_l2i (v := (Int64.toInt32 x11)) S.1 S.2.1 dX7_readEntries_69 rfl ?_
            obtain ⟨_, h12, h⟩ := xb h
            obtain ⟨g14, h13, h⟩ := xb h
            refine xr_callV_v S w hA hN 3 rfl h12 (c_X2_append l D cy L g x4 x3 x8 (Int64.toInt32 x11) h13) (cwV 3 S.2.2.2.2 gX7_readEntries_X2_append rfl rfl rfl (by decide +kernel) ⟨Nat.le_of_ble_eq_true rfl, Nat.le_of_ble_eq_true rfl⟩) rfl rfl hl.1 (Nat.le_of_ble_eq_true rfl) dX7_readEntries_70 ⟨Nat.le_of_ble_eq_true rfl, Nat.le_of_ble_eq_true rfl⟩ (fun H locs w => ?_)
            refine lv_iinc (v := (v3 + 6)) (lv' := [(3, .int (v3 + 6)), (5, .int x3), (0, .ref v0), (1, .ref v1), (2, .int v2), (4, .int v4)]) S.1 S.2.1 dX7_readEntries_73 hl (k := 4) rfl rfl (by decide) rfl (fun ls hl => ?_)
            refine lv_iinc (v := (v4 + 1)) (lv' := [(4, .int (v4 + 1)), (3, .int (v3 + 6)), (5, .int x3), (0, .ref v0), (1, .ref v1), (2, .int v2)]) S.1 S.2.1 dX7_readEntries_76 hl (k := 5) rfl rfl (by decide) rfl (fun ls hl => ?_)
            refine lv_goto (tgt := 21) S.1 S.2.1 dX7_readEntries_79 (by decide) ?_
            exact ih g14 v0 v1 v2 (v3 + 6) (v4 + 1) h _ _ _ w (lv_sub hl [3, 4, 5, 1, 0] rfl)
          · rw [if_neg c43] at h
            refine lv_iconst (v := 0) S.1 S.2.1 dX7_readEntries_46 (by decide) ?_
            exact ret _ _ _ _ 0 0 _ (by decide) (h.trans (congrArg some hrr)) w dX7_readEntries_47
  rw [f_X7_readEntries] at h
  refine lv_aload_n S.1 S.2.1 dX7_readEntries_0 rfl (lv_at hl 1 rfl) ?_
  refine lv_iconst (v := 2) S.1 S.2.1 dX7_readEntries_1 (by decide) ?_
  refine lv_iconst (v := 2) S.1 S.2.1 dX7_readEntries_2 (by decide) ?_
  obtain ⟨_, h15, h⟩ := xb h
  obtain ⟨x17, h16, h⟩ := xb h
  refine xr_callV_l S w hA hN 1 rfl h15 (c_X0_numberAt l D cy L g a1 2 2 h16) (cwV 2 S.2.2.2.2 gX7_readEntries_X0_numberAt rfl rfl rfl (by decide +kernel) ⟨Nat.le_of_ble_eq_true rfl, Nat.le_of_ble_eq_true rfl⟩) rfl rfl hl.1 (Nat.le_of_ble_eq_true rfl) dX7_readEntries_3 ⟨Nat.le_of_ble_eq_true rfl, Nat.le_of_ble_eq_true rfl⟩ (fun H locs w => ?_)
  refine lv_l2i (v := (Int64.toInt32 x17)) S.1 S.2.1 dX7_readEntries_6 rfl ?_
  refine lv_istore_n (lv' := [(2, .int (Int64.toInt32 x17)), (0, .ref a0), (1, .ref a1)]) S.1 S.2.1 dX7_readEntries_7 rfl hl (by decide) rfl (fun ls hl => ?_)
  refine lv_iconst (v := 4) S.1 S.2.1 dX7_readEntries_8 (by decide) ?_
  refine lv_istore_n (lv' := [(3, .int 4), (2, .int (Int64.toInt32 x17)), (0, .ref a0), (1, .ref a1)]) S.1 S.2.1 dX7_readEntries_9 rfl hl (by decide) rfl (fun ls hl => ?_)
  refine lv_aload_n S.1 S.2.1 dX7_readEntries_10 rfl (lv_at hl 2 rfl) ?_
  obtain ⟨x18, h19, h⟩ := xb h
  refine xr_getr S w 8 xi_X7_readEntries_X7 rfl 6 (by decide) xl_X7_readEntries_39 h19 dX7_readEntries_11 ?_
  refine lv_iconst (v := 0) S.1 S.2.1 dX7_readEntries_14 (by decide) ?_
  obtain ⟨g20, h21, h⟩ := xb h
  refine xr_puti S w 3 xi_X7_readEntries_X2 rfl tyX2 tyX2_ok nmX2 0 (by decide) xl_X7_readEntries_81 rfl (tyX2_ok 0 (by decide)) h21 dX7_readEntries_15 (fun H locs w => ?_)
  refine lv_iconst (v := 1) S.1 S.2.1 dX7_readEntries_18 (by decide) ?_
  refine lv_istore (lv' := [(4, .int 1), (3, .int 4), (2, .int (Int64.toInt32 x17)), (0, .ref a0), (1, .ref a1)]) S.1 S.2.1 dX7_readEntries_19 hl (by decide) rfl (fun ls hl => ?_)
  exact hb21 xFU g20 a0 a1 (Int64.toInt32 x17) 4 1 h _ _ _ w (lv_sub hl [3, 4, 2, 1, 0] rfl)
theorem xi_X7_provesFork_X7 : ∀ w ∈ wsX70, w ∈ wsX7_provesFork := by decide +kernel
theorem xl_X7_provesFork_39 : Cond.fieldLink RX7 39 (TX7 6).1 (TX7 6).2.1 (TX7 6).2.2.1 ∈ wsX7_provesFork := by decide +kernel
theorem xi_X7_provesFork_X2 : ∀ w ∈ wsX20, w ∈ wsX7_provesFork := by decide +kernel
theorem xl_X7_provesFork_81 : Cond.fieldLink RX7 81 (TX2 0).1 (TX2 0).2.1 (TX2 0).2.2.1 ∈ wsX7_provesFork := by decide +kernel
theorem xl_X7_provesFork_192 : Cond.fieldLink RX7 192 (TX2 4).1 (TX2 4).2.1 (TX2 4).2.2.1 ∈ wsX7_provesFork := by decide +kernel
def f_X7_provesFork (g : xG) (a0 : Nat) (a1 : Nat) (a2 : Int32) (a3 : Int32) : Option Int32 :=
  (xk g 1 a1).bind fun _ =>
  (f_X0_numberAt g a1 a3 2).bind fun x3 =>
  (xk g 1 a1).bind fun _ =>
  (f_X0_numberAt g a1 (a3 + 2) 8).bind fun x6 =>
  if (Int64.toInt32 x3) < 1 then
    some 0
  else
    (xg_r g 8 a0 6).bind fun x7 =>
    (xg_i g 3 x7 0).bind fun x9 =>
    if x9 < (Int64.toInt32 x3) then
      some 0
    else
      (xk g 1 a1).bind fun _ =>
      (f_X0_numberAt g a1 (a3 + 10) 8).bind fun x13 =>
      (f_X7_signatureOf a2 (Int64.toInt32 x3) x6).bind fun x15 =>
      if x13 = x15 then
        (xg_r g 8 a0 6).bind fun x16 =>
        (xg_r g 3 x16 4).bind fun x18 =>
        (xa_l g x18 (Int64.toInt32 x3)).bind fun x20 =>
        if x6 = x20 then
          some 0
        else
          some 1
      else
        some 0
set_option maxHeartbeats 4000000 in
set_option maxRecDepth 100000 in
theorem c_X7_provesFork (l : Launch) (D : va_G) (cy : Nat → ClassId) (L : List Nat) (g : xG) (a0 : Nat) (a1 : Nat) (a2 : Int32) (a3 : Int32) {r1 : Int32} (h : f_X7_provesFork g a0 a1 a2 a3 = some r1) : xMi l yX7_provesFork wsX7_provesFork ({ frames := 2, cells := 0, slots := 0, locals := 48 }) D cy L g [.ref a0, .ref a1, .int a2, .int a3] r1 g := by
  refine xm_z (cc := cX7_provesFork) (maxL := 7) RX7 rfl rfl rfl (by decide +kernel) rfl (Nat.le_of_ble_eq_true rfl) ?_
  intro p e s m args below meth c Q A S w hA hN ret ls hl
  have hl : lv_has ls 7 [(0, .ref a0), (1, .ref a1), (2, .int a2), (3, .int a3)] := hl
  rw [f_X7_provesFork] at h
  refine lv_aload_n S.1 S.2.1 dX7_provesFork_0 rfl (lv_at hl 1 rfl) ?_
  refine lv_iload_n S.1 S.2.1 dX7_provesFork_1 rfl (lv_at hl 3 rfl) ?_
  refine lv_iconst (v := 2) S.1 S.2.1 dX7_provesFork_2 (by decide) ?_
  obtain ⟨_, h1, h⟩ := xb h
  obtain ⟨x3, h2, h⟩ := xb h
  refine xr_callV_l S w hA hN 1 rfl h1 (c_X0_numberAt l D cy L g a1 a3 2 h2) (cwV 2 S.2.2.2.2 gX7_provesFork_X0_numberAt rfl rfl rfl (by decide +kernel) ⟨Nat.le_of_ble_eq_true rfl, Nat.le_of_ble_eq_true rfl⟩) rfl rfl hl.1 (Nat.le_of_ble_eq_true rfl) dX7_provesFork_3 ⟨Nat.le_of_ble_eq_true rfl, Nat.le_of_ble_eq_true rfl⟩ (fun H locs w => ?_)
  refine lv_l2i (v := (Int64.toInt32 x3)) S.1 S.2.1 dX7_provesFork_6 rfl ?_
  refine lv_istore (lv' := [(4, .int (Int64.toInt32 x3)), (0, .ref a0), (1, .ref a1), (2, .int a2), (3, .int a3)]) S.1 S.2.1 dX7_provesFork_7 hl (by decide) rfl (fun ls hl => ?_)
  refine lv_aload_n S.1 S.2.1 dX7_provesFork_9 rfl (lv_at hl 2 rfl) ?_
  refine lv_iload_n S.1 S.2.1 dX7_provesFork_10 rfl (lv_at hl 4 rfl) ?_
  refine lv_iconst (v := 2) S.1 S.2.1 dX7_provesFork_11 (by decide) ?_
  refine lv_iadd S.1 S.2.1 dX7_provesFork_12 ?_
  refine lv_bipush (v := 8) S.1 S.2.1 dX7_provesFork_13 (by decide) ?_
  obtain ⟨_, h4, h⟩ := xb h
  obtain ⟨x6, h5, h⟩ := xb h
  refine xr_callV_l S w hA hN 1 rfl h4 (c_X0_numberAt l D cy L g a1 (a3 + 2) 8 h5) (cwV 2 S.2.2.2.2 gX7_provesFork_X0_numberAt rfl rfl rfl (by decide +kernel) ⟨Nat.le_of_ble_eq_true rfl, Nat.le_of_ble_eq_true rfl⟩) rfl rfl hl.1 (Nat.le_of_ble_eq_true rfl) dX7_provesFork_15 ⟨Nat.le_of_ble_eq_true rfl, Nat.le_of_ble_eq_true rfl⟩ (fun H locs w => ?_)
  refine lv_lstore (lv' := [(5, .long x6), (4, .int (Int64.toInt32 x3)), (0, .ref a0), (1, .ref a1), (2, .int a2), (3, .int a3)]) S.1 S.2.1 dX7_provesFork_18 hl (by decide) rfl (fun ls hl => ?_)
  refine lv_iload S.1 S.2.1 dX7_provesFork_20 (lv_at hl 1 rfl) ?_
  refine lv_iconst (v := 1) S.1 S.2.1 dX7_provesFork_22 (by decide) ?_
  refine lv_icmp_lt (tgt := 80) S.1 S.2.1 dX7_provesFork_23 (by decide) (fun c23 => ?_) (fun c23 => ?_)
  · rw [if_pos c23] at h
    refine lv_iconst (v := 0) S.1 S.2.1 dX7_provesFork_80 (by decide) ?_
    exact ret _ _ _ _ 0 0 _ (by decide) (congrArg (fun z => some (z, g)) (Option.some.inj h)) w dX7_provesFork_81
  · rw [if_neg c23] at h
    refine lv_iload S.1 S.2.1 dX7_provesFork_26 (lv_at hl 1 rfl) ?_
    refine lv_aload_n S.1 S.2.1 dX7_provesFork_28 rfl (lv_at hl 2 rfl) ?_
    obtain ⟨x7, h8, h⟩ := xb h
    refine xr_getr S w 8 xi_X7_provesFork_X7 rfl 6 (by decide) xl_X7_provesFork_39 h8 dX7_provesFork_29 ?_
    obtain ⟨x9, h10, h⟩ := xb h
    refine xr_geti S w 3 xi_X7_provesFork_X2 rfl 0 (by decide) xl_X7_provesFork_81 h10 dX7_provesFork_32 ?_
    refine lv_icmp_gt (tgt := 80) S.1 S.2.1 dX7_provesFork_35 (by decide) (fun c35 => ?_) (fun c35 => ?_)
    · rw [if_pos c35] at h
      refine lv_iconst (v := 0) S.1 S.2.1 dX7_provesFork_80 (by decide) ?_
      exact ret _ _ _ _ 0 0 _ (by decide) (congrArg (fun z => some (z, g)) (Option.some.inj h)) w dX7_provesFork_81
    · rw [if_neg c35] at h
      refine lv_aload_n S.1 S.2.1 dX7_provesFork_38 rfl (lv_at hl 3 rfl) ?_
      refine lv_iload_n S.1 S.2.1 dX7_provesFork_39 rfl (lv_at hl 5 rfl) ?_
      refine lv_bipush (v := 10) S.1 S.2.1 dX7_provesFork_40 (by decide) ?_
      refine lv_iadd S.1 S.2.1 dX7_provesFork_42 ?_
      refine lv_bipush (v := 8) S.1 S.2.1 dX7_provesFork_43 (by decide) ?_
      obtain ⟨_, h11, h⟩ := xb h
      obtain ⟨x13, h12, h⟩ := xb h
      refine xr_callV_l S w hA hN 1 rfl h11 (c_X0_numberAt l D cy L g a1 (a3 + 10) 8 h12) (cwV 2 S.2.2.2.2 gX7_provesFork_X0_numberAt rfl rfl rfl (by decide +kernel) ⟨Nat.le_of_ble_eq_true rfl, Nat.le_of_ble_eq_true rfl⟩) rfl rfl hl.1 (Nat.le_of_ble_eq_true rfl) dX7_provesFork_45 ⟨Nat.le_of_ble_eq_true rfl, Nat.le_of_ble_eq_true rfl⟩ (fun H locs w => ?_)
      refine lv_iload_n S.1 S.2.1 dX7_provesFork_48 rfl (lv_at hl 4 rfl) ?_
      refine lv_iload S.1 S.2.1 dX7_provesFork_49 (lv_at hl 1 rfl) ?_
      refine lv_lload S.1 S.2.1 dX7_provesFork_51 (lv_at hl 0 rfl) ?_
      obtain ⟨x15, h14, h⟩ := xb h
      refine xr_callS_l S w hA hN (c_X7_signatureOf l D cy L g a2 (Int64.toInt32 x3) x6 h14) (va_cwS 3 S.2.2.2.2 gX7_provesFork_X7_signatureOf rfl rfl rfl (by decide +kernel) ⟨Nat.le_of_ble_eq_true rfl, Nat.le_of_ble_eq_true rfl⟩) rfl rfl hl.1 (Nat.le_of_ble_eq_true rfl) dX7_provesFork_53 ⟨Nat.le_of_ble_eq_true rfl, Nat.le_of_ble_eq_true rfl⟩ (fun H locs w => ?_)
      refine xr_lcne (tgt := 80) S dX7_provesFork_56 dX7_provesFork_57 (by decide) (fun c56 => ?_) (fun c56 => ?_)
      · rw [if_neg c56] at h
        refine lv_iconst (v := 0) S.1 S.2.1 dX7_provesFork_80 (by decide) ?_
        exact ret _ _ _ _ 0 0 _ (by decide) (congrArg (fun z => some (z, g)) (Option.some.inj h)) w dX7_provesFork_81
      · rw [if_pos c56] at h
        refine lv_lload S.1 S.2.1 dX7_provesFork_60 (lv_at hl 0 rfl) ?_
        refine lv_aload_n S.1 S.2.1 dX7_provesFork_62 rfl (lv_at hl 2 rfl) ?_
        obtain ⟨x16, h17, h⟩ := xb h
        refine xr_getr S w 8 xi_X7_provesFork_X7 rfl 6 (by decide) xl_X7_provesFork_39 h17 dX7_provesFork_63 ?_
        obtain ⟨x18, h19, h⟩ := xb h
        refine xr_getr S w 3 xi_X7_provesFork_X2 rfl 4 (by decide) xl_X7_provesFork_192 h19 dX7_provesFork_66 ?_
        refine lv_iload S.1 S.2.1 dX7_provesFork_69 (lv_at hl 1 rfl) ?_
        obtain ⟨x20, h21, h⟩ := xb h
        refine xr_lald S w h21 dX7_provesFork_71 ?_
        refine xr_lceq (tgt := 80) S dX7_provesFork_72 dX7_provesFork_73 (by decide) (fun c72 => ?_) (fun c72 => ?_)
        · rw [if_pos c72] at h
          refine lv_iconst (v := 0) S.1 S.2.1 dX7_provesFork_80 (by decide) ?_
          exact ret _ _ _ _ 0 0 _ (by decide) (congrArg (fun z => some (z, g)) (Option.some.inj h)) w dX7_provesFork_81
        · rw [if_neg c72] at h
          refine lv_iconst (v := 1) S.1 S.2.1 dX7_provesFork_76 (by decide) ?_
          refine lv_goto (tgt := 81) S.1 S.2.1 dX7_provesFork_77 (by decide) ?_
          exact ret _ _ _ _ 1 1 _ (by decide) (congrArg (fun z => some (z, g)) (Option.some.inj h)) w dX7_provesFork_81
theorem xi_X7_provesRun_X7 : ∀ w ∈ wsX70, w ∈ wsX7_provesRun := by decide +kernel
theorem xl_X7_provesRun_39 : Cond.fieldLink RX7 39 (TX7 6).1 (TX7 6).2.1 (TX7 6).2.2.1 ∈ wsX7_provesRun := by decide +kernel
def f_X7_provesRun (g : xG) (a0 : Nat) (a1 : Nat) (a2 : Int32) (a3 : Int32) : Option (Int32 × xG) :=
  (xg_r g 8 a0 6).bind fun x1 =>
  (xk g 8 a0).bind fun _ =>
  x2 (f_X7_firstWrong g a0 a2 x1) fun x5 g6 =>
  if x5 = (-1) then
    some (0, g6)
  else
    (xk g6 1 a1).bind fun _ =>
    (f_X0_numberAt g6 a1 a3 2).bind fun x9 =>
    if (Int32.toInt64 x5) = x9 then
      some (1, g6)
    else
      some (0, g6)
set_option maxHeartbeats 4000000 in
set_option maxRecDepth 100000 in
theorem c_X7_provesRun (l : Launch) (D : va_G) (cy : Nat → ClassId) (L : List Nat) (g : xG) (a0 : Nat) (a1 : Nat) (a2 : Int32) (a3 : Int32) {r1 : Int32} {g1 : xG} (h : f_X7_provesRun g a0 a1 a2 a3 = some (r1, g1)) : xMi l yX7_provesRun wsX7_provesRun ({ frames := 3, cells := 0, slots := 0, locals := 72 }) D cy L g [.ref a0, .ref a1, .int a2, .int a3] r1 g1 := by
  refine xm_z (cc := cX7_provesRun) (maxL := 5) RX7 rfl rfl rfl (by decide +kernel) rfl (Nat.le_of_ble_eq_true rfl) ?_
  intro p e s m args below meth c Q A S w hA hN ret ls hl
  have hl : lv_has ls 5 [(0, .ref a0), (1, .ref a1), (2, .int a2), (3, .int a3)] := hl
  rw [f_X7_provesRun] at h
  refine lv_aload_n S.1 S.2.1 dX7_provesRun_0 rfl (lv_at hl 0 rfl) ?_
  refine lv_iload_n S.1 S.2.1 dX7_provesRun_1 rfl (lv_at hl 2 rfl) ?_
  refine lv_aload_n S.1 S.2.1 dX7_provesRun_2 rfl (lv_at hl 0 rfl) ?_
  obtain ⟨x1, h2, h⟩ := xb h
  refine xr_getr S w 8 xi_X7_provesRun_X7 rfl 6 (by decide) xl_X7_provesRun_39 h2 dX7_provesRun_3 ?_
  obtain ⟨_, h3, h⟩ := xb h
  obtain ⟨x5, g6, h4, h⟩ := x2b h
  refine xr_callV_i S w hA hN 8 rfl h3 (c_X7_firstWrong l D cy L g a0 a2 x1 h4) (cwV 2 S.2.2.2.2 gX7_provesRun_X7_firstWrong rfl rfl rfl (by decide +kernel) ⟨Nat.le_of_ble_eq_true rfl, Nat.le_of_ble_eq_true rfl⟩) rfl rfl hl.1 (Nat.le_of_ble_eq_true rfl) dX7_provesRun_6 ⟨Nat.le_of_ble_eq_true rfl, Nat.le_of_ble_eq_true rfl⟩ (fun H locs w => ?_)
  refine lv_istore (lv' := [(4, .int x5), (0, .ref a0), (1, .ref a1), (2, .int a2), (3, .int a3)]) S.1 S.2.1 dX7_provesRun_9 hl (by decide) rfl (fun ls hl => ?_)
  refine lv_iload S.1 S.2.1 dX7_provesRun_11 (lv_at hl 0 rfl) ?_
  refine lv_iconst (v := (-1)) S.1 S.2.1 dX7_provesRun_13 (by decide) ?_
  refine lv_icmp_eq (tgt := 34) S.1 S.2.1 dX7_provesRun_14 (by decide) (fun c14 => ?_) (fun c14 => ?_)
  · rw [if_pos c14] at h
    refine lv_iconst (v := 0) S.1 S.2.1 dX7_provesRun_34 (by decide) ?_
    exact ret _ _ _ _ 0 0 _ (by decide) h w dX7_provesRun_35
  · rw [if_neg c14] at h
    refine lv_iload S.1 S.2.1 dX7_provesRun_17 (lv_at hl 0 rfl) ?_
    refine lv_i2l (v := (Int32.toInt64 x5)) S.1 S.2.1 dX7_provesRun_19 rfl ?_
    refine lv_aload_n S.1 S.2.1 dX7_provesRun_20 rfl (lv_at hl 2 rfl) ?_
    refine lv_iload_n S.1 S.2.1 dX7_provesRun_21 rfl (lv_at hl 4 rfl) ?_
    refine lv_iconst (v := 2) S.1 S.2.1 dX7_provesRun_22 (by decide) ?_
    obtain ⟨_, h7, h⟩ := xb h
    obtain ⟨x9, h8, h⟩ := xb h
    refine xr_callV_l S w hA hN 1 rfl h7 (c_X0_numberAt l D cy L g6 a1 a3 2 h8) (cwV 2 S.2.2.2.2 gX7_provesRun_X0_numberAt rfl rfl rfl (by decide +kernel) ⟨Nat.le_of_ble_eq_true rfl, Nat.le_of_ble_eq_true rfl⟩) rfl rfl hl.1 (Nat.le_of_ble_eq_true rfl) dX7_provesRun_23 ⟨Nat.le_of_ble_eq_true rfl, Nat.le_of_ble_eq_true rfl⟩ (fun H locs w => ?_)
    refine xr_lcne (tgt := 34) S dX7_provesRun_26 dX7_provesRun_27 (by decide) (fun c26 => ?_) (fun c26 => ?_)
    · rw [if_neg c26] at h
      refine lv_iconst (v := 0) S.1 S.2.1 dX7_provesRun_34 (by decide) ?_
      exact ret _ _ _ _ 0 0 _ (by decide) h w dX7_provesRun_35
    · rw [if_pos c26] at h
      refine lv_iconst (v := 1) S.1 S.2.1 dX7_provesRun_30 (by decide) ?_
      refine lv_goto (tgt := 35) S.1 S.2.1 dX7_provesRun_31 (by decide) ?_
      exact ret _ _ _ _ 1 1 _ (by decide) h w dX7_provesRun_35
theorem xi_X7_proves_X7 : ∀ w ∈ wsX70, w ∈ wsX7_proves := by decide +kernel
theorem xl_X7_proves_39 : Cond.fieldLink RX7 39 (TX7 6).1 (TX7 6).2.1 (TX7 6).2.2.1 ∈ wsX7_proves := by decide +kernel
theorem xi_X7_proves_X2 : ∀ w ∈ wsX20, w ∈ wsX7_proves := by decide +kernel
theorem xl_X7_proves_81 : Cond.fieldLink RX7 81 (TX2 0).1 (TX2 0).2.1 (TX2 0).2.2.1 ∈ wsX7_proves := by decide +kernel
theorem xl_X7_proves_192 : Cond.fieldLink RX7 192 (TX2 4).1 (TX2 4).2.1 (TX2 4).2.2.1 ∈ wsX7_proves := by decide +kernel
def f_X7_proves (g : xG) (a0 : Nat) (a1 : Nat) : Option (Int32 × xG) :=
  (xk g 1 a1).bind fun _ =>
  (f_X0_isWhole g a1).bind fun x3 =>
  if x3 = 0 then
    some (0, g)
  else
    (xk g 1 a1).bind fun _ =>
    (f_X0_byteAt g a1 1).bind fun x6 =>
    (xk g 8 a0).bind fun _ =>
    (f_X7_isNode g a0 x6).bind fun x9 =>
    if x9 = 0 then
      some (0, g)
    else
      (xk g 8 a0).bind fun _ =>
      x2 (f_X7_readEntries g a0 a1) fun x12 g13 =>
      if x12 = 0 then
        some (0, g13)
      else
        (xk g13 1 a1).bind fun _ =>
        (f_X0_byteAt g13 a1 1).bind fun x16 =>
        (xg_r g13 8 a0 6).bind fun x17 =>
        (xg_i g13 3 x17 0).bind fun x19 =>
        (xk g13 1 a1).bind fun _ =>
        (f_X0_numberAt g13 a1 (4 + (x19 * 6)) 8).bind fun x23 =>
        (xg_r g13 8 a0 6).bind fun x24 =>
        (xg_i g13 3 x24 0).bind fun x26 =>
        (xg_r g13 8 a0 6).bind fun x28 =>
        (xg_r g13 3 x28 4).bind fun x30 =>
        (xg_r g13 8 a0 6).bind fun x32 =>
        (xg_i g13 3 x32 0).bind fun x34 =>
        (xa_l g13 x30 x34).bind fun x36 =>
        (f_X7_signatureOf x16 x26 x36).bind fun x39 =>
        if x23 = x39 then
          (xk g13 1 a1).bind fun _ =>
          (f_X0_byteAt g13 a1 0).bind fun x42 =>
          if x42 = 1 then
            (xk g13 8 a0).bind fun _ =>
            (f_X7_provesFork g13 a0 a1 x16 ((4 + (x19 * 6)) + 8)).bind fun x51 =>
            (xz x51).bind fun x53 =>
            some (x53, g13)
          else
            (xk g13 8 a0).bind fun _ =>
            x2 (f_X7_provesRun g13 a0 a1 x16 ((4 + (x19 * 6)) + 8)) fun x45 g46 =>
            (xz x45).bind fun x48 =>
            some (x48, g46)
        else
          some (0, g13)
set_option maxHeartbeats 4000000 in
set_option maxRecDepth 100000 in
theorem c_X7_proves (l : Launch) (D : va_G) (cy : Nat → ClassId) (L : List Nat) (g : xG) (a0 : Nat) (a1 : Nat) {r1 : Int32} {g1 : xG} (h : f_X7_proves g a0 a1 = some (r1, g1)) : xMi l yX7_proves wsX7_proves ({ frames := 4, cells := 0, slots := 0, locals := 97 }) D cy L g [.ref a0, .ref a1] r1 g1 := by
  refine xm_z (cc := cX7_proves) (maxL := 4) RX7 rfl rfl rfl (by decide +kernel) rfl (Nat.le_of_ble_eq_true rfl) ?_
  intro p e s m args below meth c Q A S w hA hN ret ls hl
  have hl : lv_has ls 4 [(0, .ref a0), (1, .ref a1)] := hl
  rw [f_X7_proves] at h
  refine lv_aload_n S.1 S.2.1 dX7_proves_0 rfl (lv_at hl 1 rfl) ?_
  obtain ⟨_, h1, h⟩ := xb h
  obtain ⟨x3, h2, h⟩ := xb h
  refine xr_callV_i S w hA hN 1 rfl h1 (c_X0_isWhole l D cy L g a1 h2) (cwV 0 S.2.2.2.2 gX7_proves_X0_isWhole rfl rfl rfl (by decide +kernel) ⟨Nat.le_of_ble_eq_true rfl, Nat.le_of_ble_eq_true rfl⟩) rfl rfl hl.1 (Nat.le_of_ble_eq_true rfl) dX7_proves_1 ⟨Nat.le_of_ble_eq_true rfl, Nat.le_of_ble_eq_true rfl⟩ (fun H locs w => ?_)
  refine lv_if_eq (tgt := 27) S.1 S.2.1 dX7_proves_4 (by decide) (fun c4 => ?_) (fun c4 => ?_)
  · rw [if_pos c4] at h
    refine lv_iconst (v := 0) S.1 S.2.1 dX7_proves_27 (by decide) ?_
    exact ret _ _ _ _ 0 0 _ (by decide) h w dX7_proves_28
  · rw [if_neg c4] at h
    refine lv_aload_n S.1 S.2.1 dX7_proves_7 rfl (lv_at hl 0 rfl) ?_
    refine lv_aload_n S.1 S.2.1 dX7_proves_8 rfl (lv_at hl 1 rfl) ?_
    refine lv_iconst (v := 1) S.1 S.2.1 dX7_proves_9 (by decide) ?_
    obtain ⟨_, h4, h⟩ := xb h
    obtain ⟨x6, h5, h⟩ := xb h
    refine xr_callV_i S w hA hN 1 rfl h4 (c_X0_byteAt l D cy L g a1 1 h5) (cwV 1 S.2.2.2.2 gX7_proves_X0_byteAt rfl rfl rfl (by decide +kernel) ⟨Nat.le_of_ble_eq_true rfl, Nat.le_of_ble_eq_true rfl⟩) rfl rfl hl.1 (Nat.le_of_ble_eq_true rfl) dX7_proves_10 ⟨Nat.le_of_ble_eq_true rfl, Nat.le_of_ble_eq_true rfl⟩ (fun H locs w => ?_)
    obtain ⟨_, h7, h⟩ := xb h
    obtain ⟨x9, h8, h⟩ := xb h
    refine xr_callV_i S w hA hN 8 rfl h7 (c_X7_isNode l D cy L g a0 x6 h8) (cwV 1 S.2.2.2.2 gX7_proves_X7_isNode rfl rfl rfl (by decide +kernel) ⟨Nat.le_of_ble_eq_true rfl, Nat.le_of_ble_eq_true rfl⟩) rfl rfl hl.1 (Nat.le_of_ble_eq_true rfl) dX7_proves_13 ⟨Nat.le_of_ble_eq_true rfl, Nat.le_of_ble_eq_true rfl⟩ (fun H locs w => ?_)
    refine lv_if_eq (tgt := 27) S.1 S.2.1 dX7_proves_16 (by decide) (fun c16 => ?_) (fun c16 => ?_)
    · rw [if_pos c16] at h
      refine lv_iconst (v := 0) S.1 S.2.1 dX7_proves_27 (by decide) ?_
      exact ret _ _ _ _ 0 0 _ (by decide) h w dX7_proves_28
    · rw [if_neg c16] at h
      refine lv_aload_n S.1 S.2.1 dX7_proves_19 rfl (lv_at hl 0 rfl) ?_
      refine lv_aload_n S.1 S.2.1 dX7_proves_20 rfl (lv_at hl 1 rfl) ?_
      obtain ⟨_, h10, h⟩ := xb h
      obtain ⟨x12, g13, h11, h⟩ := x2b h
      refine xr_callV_i S w hA hN 8 rfl h10 (c_X7_readEntries l D cy L g a0 a1 h11) (cwV 1 S.2.2.2.2 gX7_proves_X7_readEntries rfl rfl rfl (by decide +kernel) ⟨Nat.le_of_ble_eq_true rfl, Nat.le_of_ble_eq_true rfl⟩) rfl rfl hl.1 (Nat.le_of_ble_eq_true rfl) dX7_proves_21 ⟨Nat.le_of_ble_eq_true rfl, Nat.le_of_ble_eq_true rfl⟩ (fun H locs w => ?_)
      refine lv_if_ne (tgt := 29) S.1 S.2.1 dX7_proves_24 (by decide) (fun c24 => ?_) (fun c24 => ?_)
      · rw [if_neg c24] at h
        refine lv_aload_n S.1 S.2.1 dX7_proves_29 rfl (lv_at hl 1 rfl) ?_
        refine lv_iconst (v := 1) S.1 S.2.1 dX7_proves_30 (by decide) ?_
        obtain ⟨_, h14, h⟩ := xb h
        obtain ⟨x16, h15, h⟩ := xb h
        refine xr_callV_i S w hA hN 1 rfl h14 (c_X0_byteAt l D cy L g13 a1 1 h15) (cwV 1 S.2.2.2.2 gX7_proves_X0_byteAt rfl rfl rfl (by decide +kernel) ⟨Nat.le_of_ble_eq_true rfl, Nat.le_of_ble_eq_true rfl⟩) rfl rfl hl.1 (Nat.le_of_ble_eq_true rfl) dX7_proves_31 ⟨Nat.le_of_ble_eq_true rfl, Nat.le_of_ble_eq_true rfl⟩ (fun H locs w => ?_)
        refine lv_istore_n (lv' := [(2, .int x16), (0, .ref a0), (1, .ref a1)]) S.1 S.2.1 dX7_proves_34 rfl hl (by decide) rfl (fun ls hl => ?_)
        refine lv_iconst (v := 4) S.1 S.2.1 dX7_proves_35 (by decide) ?_
        refine lv_aload_n S.1 S.2.1 dX7_proves_36 rfl (lv_at hl 1 rfl) ?_
        obtain ⟨x17, h18, h⟩ := xb h
        refine xr_getr S w 8 xi_X7_proves_X7 rfl 6 (by decide) xl_X7_proves_39 h18 dX7_proves_37 ?_
        obtain ⟨x19, h20, h⟩ := xb h
        refine xr_geti S w 3 xi_X7_proves_X2 rfl 0 (by decide) xl_X7_proves_81 h20 dX7_proves_40 ?_
        refine lv_bipush (v := 6) S.1 S.2.1 dX7_proves_43 (by decide) ?_
        refine lv_imul S.1 S.2.1 dX7_proves_45 ?_
        refine lv_iadd S.1 S.2.1 dX7_proves_46 ?_
        refine lv_istore_n (lv' := [(3, .int (4 + (x19 * 6))), (2, .int x16), (0, .ref a0), (1, .ref a1)]) S.1 S.2.1 dX7_proves_47 rfl hl (by decide) rfl (fun ls hl => ?_)
        refine lv_aload_n S.1 S.2.1 dX7_proves_48 rfl (lv_at hl 3 rfl) ?_
        refine lv_iload_n S.1 S.2.1 dX7_proves_49 rfl (lv_at hl 0 rfl) ?_
        refine lv_bipush (v := 8) S.1 S.2.1 dX7_proves_50 (by decide) ?_
        obtain ⟨_, h21, h⟩ := xb h
        obtain ⟨x23, h22, h⟩ := xb h
        refine xr_callV_l S w hA hN 1 rfl h21 (c_X0_numberAt l D cy L g13 a1 (4 + (x19 * 6)) 8 h22) (cwV 2 S.2.2.2.2 gX7_proves_X0_numberAt rfl rfl rfl (by decide +kernel) ⟨Nat.le_of_ble_eq_true rfl, Nat.le_of_ble_eq_true rfl⟩) rfl rfl hl.1 (Nat.le_of_ble_eq_true rfl) dX7_proves_52 ⟨Nat.le_of_ble_eq_true rfl, Nat.le_of_ble_eq_true rfl⟩ (fun H locs w => ?_)
        refine lv_iload_n S.1 S.2.1 dX7_proves_55 rfl (lv_at hl 1 rfl) ?_
        refine lv_aload_n S.1 S.2.1 dX7_proves_56 rfl (lv_at hl 2 rfl) ?_
        obtain ⟨x24, h25, h⟩ := xb h
        refine xr_getr S w 8 xi_X7_proves_X7 rfl 6 (by decide) xl_X7_proves_39 h25 dX7_proves_57 ?_
        obtain ⟨x26, h27, h⟩ := xb h
        refine xr_geti S w 3 xi_X7_proves_X2 rfl 0 (by decide) xl_X7_proves_81 h27 dX7_proves_60 ?_
        refine lv_aload_n S.1 S.2.1 dX7_proves_63 rfl (lv_at hl 2 rfl) ?_
        obtain ⟨x28, h29, h⟩ := xb h
        refine xr_getr S w 8 xi_X7_proves_X7 rfl 6 (by decide) xl_X7_proves_39 h29 dX7_proves_64 ?_
        obtain ⟨x30, h31, h⟩ := xb h
        refine xr_getr S w 3 xi_X7_proves_X2 rfl 4 (by decide) xl_X7_proves_192 h31 dX7_proves_67 ?_
        refine lv_aload_n S.1 S.2.1 dX7_proves_70 rfl (lv_at hl 2 rfl) ?_
        obtain ⟨x32, h33, h⟩ := xb h
        refine xr_getr S w 8 xi_X7_proves_X7 rfl 6 (by decide) xl_X7_proves_39 h33 dX7_proves_71 ?_
        obtain ⟨x34, h35, h⟩ := xb h
        refine xr_geti S w 3 xi_X7_proves_X2 rfl 0 (by decide) xl_X7_proves_81 h35 dX7_proves_74 ?_
        obtain ⟨x36, h37, h⟩ := xb h
        refine xr_lald S w h37 dX7_proves_77 ?_
        obtain ⟨x39, h38, h⟩ := xb h
        refine xr_callS_l S w hA hN (c_X7_signatureOf l D cy L g13 x16 x26 x36 h38) (va_cwS 3 S.2.2.2.2 gX7_proves_X7_signatureOf rfl rfl rfl (by decide +kernel) ⟨Nat.le_of_ble_eq_true rfl, Nat.le_of_ble_eq_true rfl⟩) rfl rfl hl.1 (Nat.le_of_ble_eq_true rfl) dX7_proves_78 ⟨Nat.le_of_ble_eq_true rfl, Nat.le_of_ble_eq_true rfl⟩ (fun H locs w => ?_)
        refine xr_lceq (tgt := 87) S dX7_proves_81 dX7_proves_82 (by decide) (fun c81 => ?_) (fun c81 => ?_)
        · rw [if_pos c81] at h
          refine lv_iinc (v := ((4 + (x19 * 6)) + 8)) (lv' := [(3, .int ((4 + (x19 * 6)) + 8)), (2, .int x16), (0, .ref a0), (1, .ref a1)]) S.1 S.2.1 dX7_proves_87 hl (k := 0) rfl rfl (by decide) rfl (fun ls hl => ?_)
          refine lv_aload_n S.1 S.2.1 dX7_proves_90 rfl (lv_at hl 3 rfl) ?_
          refine lv_iconst (v := 0) S.1 S.2.1 dX7_proves_91 (by decide) ?_
          obtain ⟨_, h40, h⟩ := xb h
          obtain ⟨x42, h41, h⟩ := xb h
          refine xr_callV_i S w hA hN 1 rfl h40 (c_X0_byteAt l D cy L g13 a1 0 h41) (cwV 1 S.2.2.2.2 gX7_proves_X0_byteAt rfl rfl rfl (by decide +kernel) ⟨Nat.le_of_ble_eq_true rfl, Nat.le_of_ble_eq_true rfl⟩) rfl rfl hl.1 (Nat.le_of_ble_eq_true rfl) dX7_proves_92 ⟨Nat.le_of_ble_eq_true rfl, Nat.le_of_ble_eq_true rfl⟩ (fun H locs w => ?_)
          refine lv_iconst (v := 1) S.1 S.2.1 dX7_proves_95 (by decide) ?_
          refine lv_icmp_ne (tgt := 109) S.1 S.2.1 dX7_proves_96 (by decide) (fun c96 => ?_) (fun c96 => ?_)
          · rw [if_neg c96] at h
            refine lv_aload_n S.1 S.2.1 dX7_proves_109 rfl (lv_at hl 2 rfl) ?_
            refine lv_aload_n S.1 S.2.1 dX7_proves_110 rfl (lv_at hl 3 rfl) ?_
            refine lv_iload_n S.1 S.2.1 dX7_proves_111 rfl (lv_at hl 1 rfl) ?_
            refine lv_iload_n S.1 S.2.1 dX7_proves_112 rfl (lv_at hl 0 rfl) ?_
            obtain ⟨_, h43, h⟩ := xb h
            obtain ⟨x45, g46, h44, h⟩ := x2b h
            refine xr_callV_i S w hA hN 8 rfl h43 (c_X7_provesRun l D cy L g13 a0 a1 x16 ((4 + (x19 * 6)) + 8) h44) (cwV 3 S.2.2.2.2 gX7_proves_X7_provesRun rfl rfl rfl (by decide +kernel) ⟨Nat.le_of_ble_eq_true rfl, Nat.le_of_ble_eq_true rfl⟩) rfl rfl hl.1 (Nat.le_of_ble_eq_true rfl) dX7_proves_113 ⟨Nat.le_of_ble_eq_true rfl, Nat.le_of_ble_eq_true rfl⟩ (fun H locs w => ?_)
            obtain ⟨x48, h47, h⟩ := xb h
            exact ret _ _ _ _ x45 x48 _ h47 h w dX7_proves_116
          · rw [if_pos c96] at h
            refine lv_aload_n S.1 S.2.1 dX7_proves_99 rfl (lv_at hl 2 rfl) ?_
            refine lv_aload_n S.1 S.2.1 dX7_proves_100 rfl (lv_at hl 3 rfl) ?_
            refine lv_iload_n S.1 S.2.1 dX7_proves_101 rfl (lv_at hl 1 rfl) ?_
            refine lv_iload_n S.1 S.2.1 dX7_proves_102 rfl (lv_at hl 0 rfl) ?_
            obtain ⟨_, h49, h⟩ := xb h
            obtain ⟨x51, h50, h⟩ := xb h
            refine xr_callV_i S w hA hN 8 rfl h49 (c_X7_provesFork l D cy L g13 a0 a1 x16 ((4 + (x19 * 6)) + 8) h50) (cwV 3 S.2.2.2.2 gX7_proves_X7_provesFork rfl rfl rfl (by decide +kernel) ⟨Nat.le_of_ble_eq_true rfl, Nat.le_of_ble_eq_true rfl⟩) rfl rfl hl.1 (Nat.le_of_ble_eq_true rfl) dX7_proves_103 ⟨Nat.le_of_ble_eq_true rfl, Nat.le_of_ble_eq_true rfl⟩ (fun H locs w => ?_)
            refine lv_goto (tgt := 116) S.1 S.2.1 dX7_proves_106 (by decide) ?_
            obtain ⟨x53, h52, h⟩ := xb h
            exact ret _ _ _ _ x51 x53 _ h52 h w dX7_proves_116
        · rw [if_neg c81] at h
          refine lv_iconst (v := 0) S.1 S.2.1 dX7_proves_85 (by decide) ?_
          exact ret _ _ _ _ 0 0 _ (by decide) h w dX7_proves_86
      · rw [if_pos c24] at h
        refine lv_iconst (v := 0) S.1 S.2.1 dX7_proves_27 (by decide) ?_
        exact ret _ _ _ _ 0 0 _ (by decide) h w dX7_proves_28
