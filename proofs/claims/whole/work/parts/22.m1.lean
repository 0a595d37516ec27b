theorem xi_X8_thrown_X8 : ∀ w ∈ wsX80, w ∈ wsX8_thrown := by decide +kernel
theorem xl_X8_thrown_102 : Cond.fieldLink RX8 102 (TX8 0).1 (TX8 0).2.1 (TX8 0).2.2.1 ∈ wsX8_thrown := by decide +kernel
def f_X8_thrown (g : xG) (a0 : Nat) : Option Int32 :=
  (xg_i g 9 a0 0).bind fun x1 =>
  some x1
set_option maxHeartbeats 4000000 in
set_option maxRecDepth 100000 in
theorem c_X8_thrown (l : Launch) (D : va_G) (cy : Nat → ClassId) (L : List Nat) (g : xG) (a0 : Nat) {r1 : Int32} (h : f_X8_thrown g a0 = some r1) : xMi l yX8_thrown wsX8_thrown ({ frames := 0, cells := 0, slots := 0, locals := 0 }) D cy L g [.ref a0] r1 g := by
  refine xm_i (cc := cX8_thrown) (maxL := 1) RX8 rfl rfl rfl (by decide +kernel) rfl (Nat.le_of_ble_eq_true rfl) ?_
  intro p e s m args below meth c Q A S w hA hN ret ls hl
  have hl : lv_has ls 1 [(0, .ref a0)] := hl
  rw [f_X8_thrown] at h
  refine lv_aload_n S.1 S.2.1 dX8_thrown_0 rfl (lv_at hl 0 rfl) ?_
  obtain ⟨x1, h2, h⟩ := xb h
  refine xr_geti S w 9 xi_X8_thrown_X8 rfl 0 (by decide) xl_X8_thrown_102 h2 dX8_thrown_1 ?_
  exact ret _ _ _ _ _ _ (congrArg (fun z => some (z, g)) (Option.some.inj h)) w dX8_thrown_4
theorem xi_X8_open_X8 : ∀ w ∈ wsX80, w ∈ wsX8_open := by decide +kernel
theorem xl_X8_open_36 : Cond.fieldLink RX8 36 (TX8 9).1 (TX8 9).2.1 (TX8 9).2.2.1 ∈ wsX8_open := by decide +kernel
theorem xl_X8_open_13 : Cond.fieldLink RX8 13 (TX8 2).1 (TX8 2).2.1 (TX8 2).2.2.1 ∈ wsX8_open := by decide +kernel
theorem xl_X8_open_17 : Cond.fieldLink RX8 17 (TX8 3).1 (TX8 3).2.1 (TX8 3).2.2.1 ∈ wsX8_open := by decide +kernel
theorem xl_X8_open_20 : Cond.fieldLink RX8 20 (TX8 4).1 (TX8 4).2.1 (TX8 4).2.2.1 ∈ wsX8_open := by decide +kernel
theorem xl_X8_open_32 : Cond.fieldLink RX8 32 (TX8 8).1 (TX8 8).2.1 (TX8 8).2.2.1 ∈ wsX8_open := by decide +kernel
theorem xl_X8_open_70 : Cond.fieldLink RX8 70 (TX8 23).1 (TX8 23).2.1 (TX8 23).2.2.1 ∈ wsX8_open := by decide +kernel
theorem xl_X8_open_102 : Cond.fieldLink RX8 102 (TX8 0).1 (TX8 0).2.1 (TX8 0).2.2.1 ∈ wsX8_open := by decide +kernel
theorem xl_X8_open_7 : Cond.fieldLink RX8 7 (TX8 1).1 (TX8 1).2.1 (TX8 1).2.2.1 ∈ wsX8_open := by decide +kernel
theorem xl_X8_open_105 : Cond.fieldLink RX8 105 (TX8 10).1 (TX8 10).2.1 (TX8 10).2.2.1 ∈ wsX8_open := by decide +kernel
theorem xl_X8_open_108 : Cond.fieldLink RX8 108 (TX8 11).1 (TX8 11).2.1 (TX8 11).2.2.1 ∈ wsX8_open := by decide +kernel
theorem xl_X8_open_111 : Cond.fieldLink RX8 111 (TX8 19).1 (TX8 19).2.1 (TX8 19).2.2.1 ∈ wsX8_open := by decide +kernel
theorem xl_X8_open_114 : Cond.fieldLink RX8 114 (TX8 28).1 (TX8 28).2.1 (TX8 28).2.2.1 ∈ wsX8_open := by decide +kernel
def f_X8_open_104 : Nat → xG → Nat → Int32 → Option xG
  | 0, _, _, _ => none
  | n9 + 1, g, v0, v2 =>
  if 36 ≤ v2 then
    some g
  else
    (xg_r g 9 v0 9).bind fun x1 =>
    (xs_i 1 g x1 v2 0).bind fun g3 =>
    f_X8_open_104 n9 g3 v0 (v2 + 1)
def f_X8_open_55 : Nat → xG → Nat → Int32 → Option xG
  | 0, _, _, _ => none
  | n9 + 1, g, v0, v2 =>
  if 6 ≤ v2 then
    f_X8_open_104 xFU g v0 0
  else
    (xg_r g 9 v0 2).bind fun x5 =>
    (xs_i 1 g x5 v2 0).bind fun g7 =>
    (xg_r g7 9 v0 3).bind fun x9 =>
    (xs_i 1 g7 x9 v2 0).bind fun g11 =>
    (xg_r g11 9 v0 4).bind fun x13 =>
    (xs_i 1 g11 x13 v2 0).bind fun g15 =>
    (xg_r g15 9 v0 8).bind fun x17 =>
    (xs_i 3 g15 x17 v2 0).bind fun g19 =>
    (xg_r g19 9 v0 23).bind fun x21 =>
    (xs_i 1 g19 x21 v2 0).bind fun g23 =>
    f_X8_open_55 n9 g23 v0 (v2 + 1)
def f_X8_open_17 (g : xG) (v0 : Nat) (v1 : Int32) (s0 : Nat) (s1 : Int32) : Option xG :=
  (xp_i g 9 s0 0 s1).bind fun g25 =>
  (xg_i g25 9 v0 0).bind fun x27 =>
  if x27 ≤ 0 then
    (xp_i g25 9 v0 1 v1).bind fun g29 =>
    (xp_i g29 9 v0 10 0).bind fun g31 =>
    (xp_i g31 9 v0 11 0).bind fun g33 =>
    (xp_i g33 9 v0 19 0).bind fun g35 =>
    (xp_i g35 9 v0 28 0).bind fun g37 =>
    f_X8_open_55 xFU g37 v0 0
  else
    some g25
def f_X8_open_12 (g : xG) (v0 : Nat) (v1 : Int32) (s0 : Nat) : Option xG :=
  f_X8_open_17 g v0 v1 s0 1
def f_X8_open (g : xG) (a0 : Nat) (a1 : Int32) : Option xG :=
  if a1 < 3 then
    f_X8_open_12 g a0 a1 a0
  else
    if a1 ≤ 6 then
      f_X8_open_17 g a0 a1 a0 0
    else
      f_X8_open_12 g a0 a1 a0
set_option maxHeartbeats 4000000 in
set_option maxRecDepth 100000 in
theorem c_X8_open (l : Launch) (D : va_G) (cy : Nat → ClassId) (L : List Nat) (g : xG) (a0 : Nat) (a1 : Int32) {g1 : xG} (h : f_X8_open g a0 a1 = some g1) : xMv l yX8_open wsX8_open ({ frames := 0, cells := 0, slots := 0, locals := 0 }) D cy L g [.ref a0, .int a1] g1 := by
  refine xm_v (cc := cX8_open) (maxL := 3) RX8 rfl rfl rfl (by decide +kernel) rfl (Nat.le_of_ble_eq_true rfl) ?_
  intro p e s m args below meth c Q A S w hA hN ret ls hl
  have hl : lv_has ls 3 [(0, .ref a0), (1, .int a1)] := hl
  obtain ⟨rr, hrr⟩ : ∃ z, z = g1 := ⟨_, rfl⟩
  rw [← hrr] at h
  have hb104 : ∀ (n9 : Nat), ∀ (g : xG) (v0 : Nat) (v2 : Int32) , f_X8_open_104 n9 g v0 v2 = some rr → ∀ (H : Heap) (locs : List Loc) (ls : Array Slot), xOK D cy A s.heap s L g H locs → lv_has ls 3 [(0, .ref v0), (2, .int v2)] → W p l e { frames := 0, cells := 0, slots := 0, locals := 0 } s m args below meth c H locs 0 0 Q (F0 m 104 ls []) := by
    intro n9
    induction n9 with
    | zero => intro g v0 v2 h; cases h
    | succ n9 ih =>
      intro g v0 v2 h H locs ls w hl
      rw [f_X8_open_104] at h
      refine lv_iload_n S.1 S.2.1 dX8_open_104 rfl (lv_at hl 1 rfl) ?_
      refine lv_bipush (v := 36) S.1 S.2.1 dX8_open_105 (by decide) ?_
      refine lv_icmp_ge (tgt := 123) S.1 S.2.1 dX8_open_107 (by decide) (fun c107 => ?_) (fun c107 => ?_)
      · rw [if_pos c107] at h
        exact ret _ _ _ _ _ (h.trans (congrArg some hrr)) w dX8_open_123
      · rw [if_neg c107] at h
        refine lv_aload_n S.1 S.2.1 dX8_open_110 rfl (lv_at hl 0 rfl) ?_
        obtain ⟨x1, h2, h⟩ := xb h
        refine xr_getr S w 9 xi_X8_open_X8 rfl 9 (by decide) xl_X8_open_36 h2 dX8_open_111 ?_
        refine lv_iload_n S.1 S.2.1 dX8_open_114 rfl (lv_at hl 1 rfl) ?_
        refine lv_iconst (v := 0) S.1 S.2.1 dX8_open_115 (by decide) ?_
        obtain ⟨g3, h4, h⟩ := xb h
        refine xr_iast S w h4 dX8_open_116 (fun H locs w => ?_)
        refine lv_iinc (v := (v2 + 1)) (lv' := [(2, .int (v2 + 1)), (0, .ref v0)]) S.1 S.2.1 dX8_open_117 hl (k := 1) rfl rfl (by decide) rfl (fun ls hl => ?_)
        refine lv_goto (tgt := 104) S.1 S.2.1 dX8_open_120 (by decide) ?_
        exact ih g3 v0 (v2 + 1) h _ _ _ w (lv_sub hl [1, 0] rfl)
  have hb55 : ∀ (n9 : Nat), ∀ (g : xG) (v0 : Nat) (v2 : Int32) , f_X8_open_55 n9 g v0 v2 = some rr → ∀ (H : Heap) (locs : List Loc) (ls : Array Slot), xOK D cy A s.heap s L g H locs → lv_has ls 3 [(0, .ref v0), (2, .int v2)] → W p l e { frames := 0, cells := 0, slots := 0, locals := 0 } s m args below meth c H locs 0 0 Q (F0 m 55 ls []) := by
    intro n9
    induction n9 with
    | zero => intro g v0 v2 h; cases h
    | succ n9 ih =>
      intro g v0 v2 h H locs ls w hl
      rw [f_X8_open_55] at h
      refine lv_iload_n S.1 S.2.1 dX8_open_55 rfl (lv_at hl 1 rfl) ?_
      refine lv_bipush (v := 6) S.1 S.2.1 dX8_open_56 (by decide) ?_
      refine lv_icmp_ge (tgt := 102) S.1 S.2.1 dX8_open_58 (by decide) (fun c58 => ?_) (fun c58 => ?_)
      · rw [if_pos c58] at h
        refine lv_iconst (v := 0) S.1 S.2.1 dX8_open_102 (by decide) ?_
        refine lv_istore_n (lv' := [(2, .int 0), (0, .ref v0)]) S.1 S.2.1 dX8_open_103 rfl hl (by decide) rfl (fun ls hl => ?_)
        exact hb104 xFU g v0 0 h _ _ _ w (lv_sub hl [1, 0] rfl)
      · rw [if_neg c58] at h
        refine lv_aload_n S.1 S.2.1 dX8_open_61 rfl (lv_at hl 0 rfl) ?_
        obtain ⟨x5, h6, h⟩ := xb h
        refine xr_getr S w 9 xi_X8_open_X8 rfl 2 (by decide) xl_X8_open_13 h6 dX8_open_62 ?_
        refine lv_iload_n S.1 S.2.1 dX8_open_65 rfl (lv_at hl 1 rfl) ?_
        refine lv_iconst (v := 0) S.1 S.2.1 dX8_open_66 (by decide) ?_
        obtain ⟨g7, h8, h⟩ := xb h
        refine xr_iast S w h8 dX8_open_67 (fun H locs w => ?_)
        refine lv_aload_n S.1 S.2.1 dX8_open_68 rfl (lv_at hl 0 rfl) ?_
        obtain ⟨x9, h10, h⟩ := xb h
        refine xr_getr S w 9 xi_X8_open_X8 rfl 3 (by decide) xl_X8_open_17 h10 dX8_open_69 ?_
        refine lv_iload_n S.1 S.2.1 dX8_open_72 rfl (lv_at hl 1 rfl) ?_
        refine lv_iconst (v := 0) S.1 S.2.1 dX8_open_73 (by decide) ?_
        obtain ⟨g11, h12, h⟩ := xb h
        refine xr_iast S w h12 dX8_open_74 (fun H locs w => ?_)
        refine lv_aload_n S.1 S.2.1 dX8_open_75 rfl (lv_at hl 0 rfl) ?_
        obtain ⟨x13, h14, h⟩ := xb h
        refine xr_getr S w 9 xi_X8_open_X8 rfl 4 (by decide) xl_X8_open_20 h14 dX8_open_76 ?_
        refine lv_iload_n S.1 S.2.1 dX8_open_79 rfl (lv_at hl 1 rfl) ?_
        refine lv_iconst (v := 0) S.1 S.2.1 dX8_open_80 (by decide) ?_
        obtain ⟨g15, h16, h⟩ := xb h
        refine xr_iast S w h16 dX8_open_81 (fun H locs w => ?_)
        refine lv_aload_n S.1 S.2.1 dX8_open_82 rfl (lv_at hl 0 rfl) ?_
        obtain ⟨x17, h18, h⟩ := xb h
        refine xr_getr S w 9 xi_X8_open_X8 rfl 8 (by decide) xl_X8_open_32 h18 dX8_open_83 ?_
        refine lv_iload_n S.1 S.2.1 dX8_open_86 rfl (lv_at hl 1 rfl) ?_
        refine lv_iconst (v := 0) S.1 S.2.1 dX8_open_87 (by decide) ?_
        obtain ⟨g19, h20, h⟩ := xb h
        refine xr_zast S w h20 dX8_open_88 (fun H locs w => ?_)
        refine lv_aload_n S.1 S.2.1 dX8_open_89 rfl (lv_at hl 0 rfl) ?_
        obtain ⟨x21, h22, h⟩ := xb h
        refine xr_getr S w 9 xi_X8_open_X8 rfl 23 (by decide) xl_X8_open_70 h22 dX8_open_90 ?_
        refine lv_iload_n S.1 S.2.1 dX8_open_93 rfl (lv_at hl 1 rfl) ?_
        refine lv_iconst (v := 0) S.1 S.2.1 dX8_open_94 (by decide) ?_
        obtain ⟨g23, h24, h⟩ := xb h
        refine xr_iast S w h24 dX8_open_95 (fun H locs w => ?_)
        refine lv_iinc (v := (v2 + 1)) (lv' := [(2, .int (v2 + 1)), (0, .ref v0)]) S.1 S.2.1 dX8_open_96 hl (k := 1) rfl rfl (by decide) rfl (fun ls hl => ?_)
        refine lv_goto (tgt := 55) S.1 S.2.1 dX8_open_99 (by decide) ?_
        exact ih g23 v0 (v2 + 1) h _ _ _ w (lv_sub hl [1, 0] rfl)
  have hb17 : ∀ (g : xG) (v0 : Nat) (v1 : Int32) (s0 : Nat) (s1 : Int32) , f_X8_open_17 g v0 v1 s0 s1 = some rr → ∀ (H : Heap) (locs : List Loc) (ls : Array Slot), xOK D cy A s.heap s L g H locs → lv_has ls 3 [(0, .ref v0), (1, .int v1)] → W p l e { frames := 0, cells := 0, slots := 0, locals := 0 } s m args below meth c H locs 0 0 Q (F0 m 17 ls [.int s1, .ref s0]) := by
    intro g v0 v1 s0 s1 h H locs ls w hl
    rw [f_X8_open_17] at h
    obtain ⟨g25, h26, h⟩ := xb h
    refine xr_puti S w 9 xi_X8_open_X8 rfl tyX8 tyX8_ok nmX8 0 (by decide) xl_X8_open_102 rfl (tyX8_ok 0 (by decide)) h26 dX8_open_17 (fun H locs w => ?_)
    refine lv_aload_n S.1 S.2.1 dX8_open_20 rfl (lv_at hl 0 rfl) ?_
    obtain ⟨x27, h28, h⟩ := xb h
    refine xr_geti S w 9 xi_X8_open_X8 rfl 0 (by decide) xl_X8_open_102 h28 dX8_open_21 ?_
    refine lv_if_le (tgt := 28) S.1 S.2.1 dX8_open_24 (by decide) (fun c24 => ?_) (fun c24 => ?_)
    · rw [if_pos c24] at h
      refine lv_aload_n S.1 S.2.1 dX8_open_28 rfl (lv_at hl 0 rfl) ?_
      refine lv_iload_n S.1 S.2.1 dX8_open_29 rfl (lv_at hl 1 rfl) ?_
      obtain ⟨g29, h30, h⟩ := xb h
      refine xr_puti S w 9 xi_X8_open_X8 rfl tyX8 tyX8_ok nmX8 1 (by decide) xl_X8_open_7 rfl (tyX8_ok 1 (by decide)) h30 dX8_open_30 (fun H locs w => ?_)
      refine lv_aload_n S.1 S.2.1 dX8_open_33 rfl (lv_at hl 0 rfl) ?_
      refine lv_iconst (v := 0) S.1 S.2.1 dX8_open_34 (by decide) ?_
      obtain ⟨g31, h32, h⟩ := xb h
      refine xr_puti S w 9 xi_X8_open_X8 rfl tyX8 tyX8_ok nmX8 10 (by decide) xl_X8_open_105 rfl (tyX8_ok 10 (by decide)) h32 dX8_open_35 (fun H locs w => ?_)
      refine lv_aload_n S.1 S.2.1 dX8_open_38 rfl (lv_at hl 0 rfl) ?_
      refine lv_iconst (v := 0) S.1 S.2.1 dX8_open_39 (by decide) ?_
      obtain ⟨g33, h34, h⟩ := xb h
      refine xr_puti S w 9 xi_X8_open_X8 rfl tyX8 tyX8_ok nmX8 11 (by decide) xl_X8_open_108 rfl (tyX8_ok 11 (by decide)) h34 dX8_open_40 (fun H locs w => ?_)
      refine lv_aload_n S.1 S.2.1 dX8_open_43 rfl (lv_at hl 0 rfl) ?_
      refine lv_iconst (v := 0) S.1 S.2.1 dX8_open_44 (by decide) ?_
      obtain ⟨g35, h36, h⟩ := xb h
      refine xr_puti S w 9 xi_X8_open_X8 rfl tyX8 tyX8_ok nmX8 19 (by decide) xl_X8_open_111 rfl (tyX8_ok 19 (by decide)) h36 dX8_open_45 (fun H locs w => ?_)
      refine lv_aload_n S.1 S.2.1 dX8_open_48 rfl (lv_at hl 0 rfl) ?_
      refine lv_iconst (v := 0) S.1 S.2.1 dX8_open_49 (by decide) ?_
      obtain ⟨g37, h38, h⟩ := xb h
      refine xr_puti S w 9 xi_X8_open_X8 rfl tyX8 tyX8_ok nmX8 28 (by decide) xl_X8_open_114 rfl (tyX8_ok 28 (by decide)) h38 dX8_open_50 (fun H locs w => ?_)
      refine lv_iconst (v := 0) S.1 S.2.1 dX8_open_53 (by decide) ?_
      refine lv_istore_n (lv' := [(2, .int 0), (0, .ref v0), (1, .int v1)]) S.1 S.2.1 dX8_open_54 rfl hl (by decide) rfl (fun ls hl => ?_)
      exact hb55 xFU g37 v0 0 h _ _ _ w (lv_sub hl [1, 0] rfl)
    · rw [if_neg c24] at h
      exact ret _ _ _ _ _ (h.trans (congrArg some hrr)) w dX8_open_27
  have hb12 : ∀ (g : xG) (v0 : Nat) (v1 : Int32) (s0 : Nat) , f_X8_open_12 g v0 v1 s0 = some rr → ∀ (H : Heap) (locs : List Loc) (ls : Array Slot), xOK D cy A s.heap s L g H locs → lv_has ls 3 [(0, .ref v0), (1, .int v1)] → W p l e { frames := 0, cells := 0, slots := 0, locals := 0 } s m args below meth c H locs 0 0 Q (F0 m 12 ls [.ref s0]) := by
    intro g v0 v1 s0 h H locs ls w hl
    rw [f_X8_open_12] at h
    refine lv_iconst (v := 1) S.1 S.2.1 dX8_open_12 (by decide) ?_
    refine lv_goto (tgt := 17) S.1 S.2.1 dX8_open_13 (by decide) ?_
    exact hb17 g v0 v1 s0 1 h _ _ _ w hl
  rw [f_X8_open] at h
  refine lv_aload_n S.1 S.2.1 dX8_open_0 rfl (lv_at hl 0 rfl) ?_
  refine lv_iload_n S.1 S.2.1 dX8_open_1 rfl (lv_at hl 1 rfl) ?_
  refine lv_iconst (v := 3) S.1 S.2.1 dX8_open_2 (by decide) ?_
  refine lv_icmp_lt (tgt := 12) S.1 S.2.1 dX8_open_3 (by decide) (fun c3 => ?_) (fun c3 => ?_)
  · rw [if_pos c3] at h
    exact hb12 g a0 a1 a0 h _ _ _ w hl
  · rw [if_neg c3] at h
    refine lv_iload_n S.1 S.2.1 dX8_open_6 rfl (lv_at hl 1 rfl) ?_
    refine lv_bipush (v := 6) S.1 S.2.1 dX8_open_7 (by decide) ?_
    refine lv_icmp_le (tgt := 16) S.1 S.2.1 dX8_open_9 (by decide) (fun c9 => ?_) (fun c9 => ?_)
    · rw [if_pos c9] at h
      refine lv_iconst (v := 0) S.1 S.2.1 dX8_open_16 (by decide) ?_
      exact hb17 g a0 a1 a0 0 h _ _ _ w hl
    · rw [if_neg c9] at h
      exact hb12 g a0 a1 a0 h _ _ _ w hl
theorem xc_X8_mix_117 : Cond.constantLong RX8 117 (-7046029254386353131) ∈ wsX8_mix := by decide +kernel
def f_X8_mix (a0 : Int64) (a1 : Int64) : Option Int64 :=
  some (((a0 ^^^ a1) * (-7046029254386353131)) ^^^ (xlushr ((a0 ^^^ a1) * (-7046029254386353131)) 29))
set_option maxHeartbeats 4000000 in
set_option maxRecDepth 100000 in
theorem c_X8_mix (l : Launch) (D : va_G) (cy : Nat → ClassId) (L : List Nat) (g : xG) (a0 : Int64) (a1 : Int64) {r1 : Int64} (h : f_X8_mix a0 a1 = some r1) : xMl l yX8_mix wsX8_mix ({ frames := 0, cells := 0, slots := 0, locals := 0 }) D cy L g [.long a0, .long a1] r1 g := by
  refine xm_l (cc := cX8_mix) (maxL := 6) RX8 rfl rfl rfl (by decide +kernel) rfl (Nat.le_of_ble_eq_true rfl) ?_
  intro p e s m args below meth c Q A S w hA hN ret ls hl
  have hl : lv_has ls 6 [(0, .long a0), (2, .long a1)] := hl
  rw [f_X8_mix] at h
  refine lv_lload_n S.1 S.2.1 dX8_mix_0 rfl (lv_at hl 0 rfl) ?_
  refine lv_lload_n S.1 S.2.1 dX8_mix_1 rfl (lv_at hl 1 rfl) ?_
  refine lv_lxor S.1 S.2.1 dX8_mix_2 ?_
  refine xr_ldc2 S xc_X8_mix_117 dX8_mix_3 ?_
  refine lv_lmul S.1 S.2.1 dX8_mix_6 ?_
  refine lv_lstore (lv' := [(4, .long ((a0 ^^^ a1) * (-7046029254386353131))), (0, .long a0), (2, .long a1)]) S.1 S.2.1 dX8_mix_7 hl (by decide) rfl (fun ls hl => ?_)
  refine lv_lload S.1 S.2.1 dX8_mix_9 (lv_at hl 0 rfl) ?_
  refine lv_lload S.1 S.2.1 dX8_mix_11 (lv_at hl 0 rfl) ?_
  refine lv_bipush (v := 29) S.1 S.2.1 dX8_mix_13 (by decide) ?_
  refine lv_lushr (v := (xlushr ((a0 ^^^ a1) * (-7046029254386353131)) 29)) S.1 S.2.1 dX8_mix_15 rfl ?_
  refine lv_lxor S.1 S.2.1 dX8_mix_16 ?_
  exact ret _ _ _ _ _ _ (congrArg (fun z => some (z, g)) (Option.some.inj h)) w dX8_mix_17
theorem xc_X8_headBehind_119 : Cond.constantLong RX8 119 (7) ∈ wsX8_headBehind := by decide +kernel
def f_X8_headBehind (a0 : Int64) (a1 : Int32) (a2 : Int32) (a3 : Int32) : Option Int64 :=
  (f_X8_mix 7 a0).bind fun x2 =>
  (f_X8_mix x2 (Int32.toInt64 a1)).bind fun x4 =>
  (f_X8_mix x4 (Int32.toInt64 a2)).bind fun x6 =>
  (f_X8_mix x6 (Int32.toInt64 a3)).bind fun x8 =>
  some x8
set_option maxHeartbeats 4000000 in
set_option maxRecDepth 100000 in
theorem c_X8_headBehind (l : Launch) (D : va_G) (cy : Nat → ClassId) (L : List Nat) (g : xG) (a0 : Int64) (a1 : Int32) (a2 : Int32) (a3 : Int32) {r1 : Int64} (h : f_X8_headBehind a0 a1 a2 a3 = some r1) : xMl l yX8_headBehind wsX8_headBehind ({ frames := 1, cells := 0, slots := 0, locals := 25 }) D cy L g [.long a0, .int a1, .int a2, .int a3] r1 g := by
  refine xm_l (cc := cX8_headBehind) (maxL := 5) RX8 rfl rfl rfl (by decide +kernel) rfl (Nat.le_of_ble_eq_true rfl) ?_
  intro p e s m args below meth c Q A S w hA hN ret ls hl
  have hl : lv_has ls 5 [(0, .long a0), (2, .int a1), (3, .int a2), (4, .int a3)] := hl
  rw [f_X8_headBehind] at h
  refine xr_ldc2 S xc_X8_headBehind_119 dX8_headBehind_0 ?_
  refine lv_lload_n S.1 S.2.1 dX8_headBehind_3 rfl (lv_at hl 0 rfl) ?_
  obtain ⟨x2, h1, h⟩ := xb h
  refine xr_callS_l S w hA hN (c_X8_mix l D cy L g 7 a0 h1) (va_cwS 2 S.2.2.2.2 gX8_headBehind_X8_mix rfl rfl rfl (by decide +kernel) ⟨Nat.le_of_ble_eq_true rfl, Nat.le_of_ble_eq_true rfl⟩) rfl rfl hl.1 (Nat.le_of_ble_eq_true rfl) dX8_headBehind_4 ⟨Nat.le_of_ble_eq_true rfl, Nat.le_of_ble_eq_true rfl⟩ (fun H locs w => ?_)
  refine lv_iload_n S.1 S.2.1 dX8_headBehind_7 rfl (lv_at hl 1 rfl) ?_
  refine lv_i2l (v := (Int32.toInt64 a1)) S.1 S.2.1 dX8_headBehind_8 rfl ?_
  obtain ⟨x4, h3, h⟩ := xb h
  refine xr_callS_l S w hA hN (c_X8_mix l D cy L g x2 (Int32.toInt64 a1) h3) (va_cwS 2 S.2.2.2.2 gX8_headBehind_X8_mix rfl rfl rfl (by decide +kernel) ⟨Nat.le_of_ble_eq_true rfl, Nat.le_of_ble_eq_true rfl⟩) rfl rfl hl.1 (Nat.le_of_ble_eq_true rfl) dX8_headBehind_9 ⟨Nat.le_of_ble_eq_true rfl, Nat.le_of_ble_eq_true rfl⟩ (fun H locs w => ?_)
  refine lv_iload_n S.1 S.2.1 dX8_headBehind_12 rfl (lv_at hl 2 rfl) ?_
  refine lv_i2l (v := (Int32.toInt64 a2)) S.1 S.2.1 dX8_headBehind_13 rfl ?_
  obtain ⟨x6, h5, h⟩ := xb h
  refine xr_callS_l S w hA hN (c_X8_mix l D cy L g x4 (Int32.toInt64 a2) h5) (va_cwS 2 S.2.2.2.2 gX8_headBehind_X8_mix rfl rfl rfl (by decide +kernel) ⟨Nat.le_of_ble_eq_true rfl, Nat.le_of_ble_eq_true rfl⟩) rfl rfl hl.1 (Nat.le_of_ble_eq_true rfl) dX8_headBehind_14 ⟨Nat.le_of_ble_eq_true rfl, Nat.le_of_ble_eq_true rfl⟩ (fun H locs w => ?_)
  refine lv_iload S.1 S.2.1 dX8_headBehind_17 (lv_at hl 3 rfl) ?_
  refine lv_i2l (v := (Int32.toInt64 a3)) S.1 S.2.1 dX8_headBehind_19 rfl ?_
  obtain ⟨x8, h7, h⟩ := xb h
  refine xr_callS_l S w hA hN (c_X8_mix l D cy L g x6 (Int32.toInt64 a3) h7) (va_cwS 2 S.2.2.2.2 gX8_headBehind_X8_mix rfl rfl rfl (by decide +kernel) ⟨Nat.le_of_ble_eq_true rfl, Nat.le_of_ble_eq_true rfl⟩) rfl rfl hl.1 (Nat.le_of_ble_eq_true rfl) dX8_headBehind_20 ⟨Nat.le_of_ble_eq_true rfl, Nat.le_of_ble_eq_true rfl⟩ (fun H locs w => ?_)
  exact ret _ _ _ _ _ _ (congrArg (fun z => some (z, g)) (Option.some.inj h)) w dX8_headBehind_23
theorem xc_X8_signature_119 : Cond.constantLong RX8 119 (7) ∈ wsX8_signature := by decide +kernel
def f_X8_signature (a0 : Int32) (a1 : Int32) (a2 : Int64) : Option Int64 :=
  (f_X8_mix 7 (Int32.toInt64 ((-1) - a0))).bind fun x2 =>
  (f_X8_mix x2 (Int32.toInt64 a1)).bind fun x4 =>
  (f_X8_mix x4 a2).bind fun x6 =>
  some x6
set_option maxHeartbeats 4000000 in
set_option maxRecDepth 100000 in
theorem c_X8_signature (l : Launch) (D : va_G) (cy : Nat → ClassId) (L : List Nat) (g : xG) (a0 : Int32) (a1 : Int32) (a2 : Int64) {r1 : Int64} (h : f_X8_signature a0 a1 a2 = some r1) : xMl l yX8_signature wsX8_signature ({ frames := 1, cells := 0, slots := 0, locals := 25 }) D cy L g [.int a0, .int a1, .long a2] r1 g := by
  refine xm_l (cc := cX8_signature) (maxL := 4) RX8 rfl rfl rfl (by decide +kernel) rfl (Nat.le_of_ble_eq_true rfl) ?_
  intro p e s m args below meth c Q A S w hA hN ret ls hl
  have hl : lv_has ls 4 [(0, .int a0), (1, .int a1), (2, .long a2)] := hl
  rw [f_X8_signature] at h
  refine xr_ldc2 S xc_X8_signature_119 dX8_signature_0 ?_
  refine lv_iconst (v := (-1)) S.1 S.2.1 dX8_signature_3 (by decide) ?_
  refine lv_iload_n S.1 S.2.1 dX8_signature_4 rfl (lv_at hl 0 rfl) ?_
  refine lv_isub S.1 S.2.1 dX8_signature_5 ?_
  refine lv_i2l (v := (Int32.toInt64 ((-1) - a0))) S.1 S.2.1 dX8_signature_6 rfl ?_
  obtain ⟨x2, h1, h⟩ := xb h
  refine xr_callS_l S w hA hN (c_X8_mix l D cy L g 7 (Int32.toInt64 ((-1) - a0)) h1) (va_cwS 2 S.2.2.2.2 gX8_signature_X8_mix rfl rfl rfl (by decide +kernel) ⟨Nat.le_of_ble_eq_true rfl, Nat.le_of_ble_eq_true rfl⟩) rfl rfl hl.1 (Nat.le_of_ble_eq_true rfl) dX8_signature_7 ⟨Nat.le_of_ble_eq_true rfl, Nat.le_of_ble_eq_true rfl⟩ (fun H locs w => ?_)
  refine lv_iload_n S.1 S.2.1 dX8_signature_10 rfl (lv_at hl 1 rfl) ?_
  refine lv_i2l (v := (Int32.toInt64 a1)) S.1 S.2.1 dX8_signature_11 rfl ?_
  obtain ⟨x4, h3, h⟩ := xb h
  refine xr_callS_l S w hA hN (c_X8_mix l D cy L g x2 (Int32.toInt64 a1) h3) (va_cwS 2 S.2.2.2.2 gX8_signature_X8_mix rfl rfl rfl (by decide +kernel) ⟨Nat.le_of_ble_eq_true rfl, Nat.le_of_ble_eq_true rfl⟩) rfl rfl hl.1 (Nat.le_of_ble_eq_true rfl) dX8_signature_12 ⟨Nat.le_of_ble_eq_true rfl, Nat.le_of_ble_eq_true rfl⟩ (fun H locs w => ?_)
  refine lv_lload_n S.1 S.2.1 dX8_signature_15 rfl (lv_at hl 2 rfl) ?_
  obtain ⟨x6, h5, h⟩ := xb h
  refine xr_callS_l S w hA hN (c_X8_mix l D cy L g x4 a2 h5) (va_cwS 2 S.2.2.2.2 gX8_signature_X8_mix rfl rfl rfl (by decide +kernel) ⟨Nat.le_of_ble_eq_true rfl, Nat.le_of_ble_eq_true rfl⟩) rfl rfl hl.1 (Nat.le_of_ble_eq_true rfl) dX8_signature_16 ⟨Nat.le_of_ble_eq_true rfl, Nat.le_of_ble_eq_true rfl⟩ (fun H locs w => ?_)
  exact ret _ _ _ _ _ _ (congrArg (fun z => some (z, g)) (Option.some.inj h)) w dX8_signature_19
theorem xi_X8_headOf_X8 : ∀ w ∈ wsX80, w ∈ wsX8_headOf := by decide +kernel
theorem xl_X8_headOf_23 : Cond.fieldLink RX8 23 (TX8 5).1 (TX8 5).2.1 (TX8 5).2.2.1 ∈ wsX8_headOf := by decide +kernel
theorem xl_X8_headOf_26 : Cond.fieldLink RX8 26 (TX8 6).1 (TX8 6).2.1 (TX8 6).2.2.1 ∈ wsX8_headOf := by decide +kernel
theorem xl_X8_headOf_29 : Cond.fieldLink RX8 29 (TX8 7).1 (TX8 7).2.1 (TX8 7).2.2.1 ∈ wsX8_headOf := by decide +kernel
def f_X8_headOf_5 : Nat → xG → Nat → Int32 → Int32 → Int64 → Int32 → Option Int64
  | 0, _, _, _, _, _, _ => none
  | n9 + 1, g, v0, v1, v2, v3, v5 =>
  if v2 ≤ v5 then
    some v3
  else
    (xg_r g 9 v0 5).bind fun x1 =>
    (xa_i 1 g x1 ((151 * v1) + v5)).bind fun x3 =>
    (xg_r g 9 v0 6).bind fun x5 =>
    (xa_i 1 g x5 ((151 * v1) + v5)).bind fun x7 =>
    (xg_r g 9 v0 7).bind fun x9 =>
    (xa_i 1 g x9 ((151 * v1) + v5)).bind fun x11 =>
    (f_X8_headBehind v3 x3 x7 x11).bind fun x14 =>
    f_X8_headOf_5 n9 g v0 v1 v2 x14 (v5 + 1)
def f_X8_headOf (g : xG) (a0 : Nat) (a1 : Int32) (a2 : Int32) : Option Int64 :=
  f_X8_headOf_5 xFU g a0 a1 a2 0 0
set_option maxHeartbeats 4000000 in
set_option maxRecDepth 100000 in
theorem c_X8_headOf (l : Launch) (D : va_G) (cy : Nat → ClassId) (L : List Nat) (g : xG) (a0 : Nat) (a1 : Int32) (a2 : Int32) {r1 : Int64} (h : f_X8_headOf g a0 a1 a2 = some r1) : xMl l yX8_headOf wsX8_headOf ({ frames := 2, cells := 0, slots := 0, locals := 49 }) D cy L g [.ref a0, .int a1, .int a2] r1 g := by
  refine xm_l (cc := cX8_headOf) (maxL := 6) RX8 rfl rfl rfl (by decide +kernel) rfl (Nat.le_of_ble_eq_true rfl) ?_
  intro p e s m args below meth c Q A S w hA hN ret ls hl
  have hl : lv_has ls 6 [(0, .ref a0), (1, .int a1), (2, .int a2)] := hl
  obtain ⟨rr, hrr⟩ : ∃ z, z = r1 := ⟨_, rfl⟩
  rw [← hrr] at h
  have hb5 : ∀ (n9 : Nat), ∀ (v0 : Nat) (v1 : Int32) (v2 : Int32) (v3 : Int64) (v5 : Int32) , f_X8_headOf_5 n9 g v0 v1 v2 v3 v5 = some rr → ∀ (H : Heap) (locs : List Loc) (ls : Array Slot), xOK D cy A s.heap s L g H locs → lv_has ls 6 [(0, .ref v0), (1, .int v1), (2, .int v2), (3, .long v3), (5, .int v5)] → W p l e { frames := 2, cells := 0, slots := 0, locals := 49 } s m args below meth c H locs 0 0 Q (F0 m 5 ls []) := by
    intro n9
    induction n9 with
    | zero => intro v0 v1 v2 v3 v5 h; cases h
    | succ n9 ih =>
      intro v0 v1 v2 v3 v5 h H locs ls w hl
      rw [f_X8_headOf_5] at h
      refine lv_iload S.1 S.2.1 dX8_headOf_5 (lv_at hl 4 rfl) ?_
      refine lv_iload_n S.1 S.2.1 dX8_headOf_7 rfl (lv_at hl 2 rfl) ?_
      refine lv_icmp_ge (tgt := 61) S.1 S.2.1 dX8_headOf_8 (by decide) (fun c8 => ?_) (fun c8 => ?_)
      · rw [if_pos c8] at h
        refine lv_lload_n S.1 S.2.1 dX8_headOf_61 rfl (lv_at hl 3 rfl) ?_
        exact ret _ _ _ _ _ _ (congrArg (fun z => some (z, g)) ((Option.some.inj h).trans hrr)) w dX8_headOf_62
      · rw [if_neg c8] at h
        refine lv_lload_n S.1 S.2.1 dX8_headOf_11 rfl (lv_at hl 3 rfl) ?_
        refine lv_aload_n S.1 S.2.1 dX8_headOf_12 rfl (lv_at hl 0 rfl) ?_
        obtain ⟨x1, h2, h⟩ := xb h
        refine xr_getr S w 9 xi_X8_headOf_X8 rfl 5 (by decide) xl_X8_headOf_23 h2 dX8_headOf_13 ?_
        refine lv_sipush (v := 151) S.1 S.2.1 dX8_headOf_16 (by decide) ?_
        refine lv_iload_n S.1 S.2.1 dX8_headOf_19 rfl (lv_at hl 1 rfl) ?_
        refine lv_imul S.1 S.2.1 dX8_headOf_20 ?_
        refine lv_iload S.1 S.2.1 dX8_headOf_21 (lv_at hl 4 rfl) ?_
        refine lv_iadd S.1 S.2.1 dX8_headOf_23 ?_
        obtain ⟨x3, h4, h⟩ := xb h
        refine xr_iald S w h4 dX8_headOf_24 ?_
        refine lv_aload_n S.1 S.2.1 dX8_headOf_25 rfl (lv_at hl 0 rfl) ?_
        obtain ⟨x5, h6, h⟩ := xb h
        refine xr_getr S w 9 xi_X8_headOf_X8 rfl 6 (by decide) xl_X8_headOf_26 h6 dX8_headOf_26 ?_
        refine lv_sipush (v := 151) S.1 S.2.1 dX8_headOf_29 (by decide) ?_
        refine lv_iload_n S.1 S.2.1 dX8_headOf_32 rfl (lv_at hl 1 rfl) ?_
        refine lv_imul S.1 S.2.1 dX8_headOf_33 ?_
        refine lv_iload S.1 S.2.1 dX8_headOf_34 (lv_at hl 4 rfl) ?_
        refine lv_iadd S.1 S.2.1 dX8_headOf_36 ?_
        obtain ⟨x7, h8, h⟩ := xb h
        refine xr_iald S w h8 dX8_headOf_37 ?_
        refine lv_aload_n S.1 S.2.1 dX8_headOf_38 rfl (lv_at hl 0 rfl) ?_
        obtain ⟨x9, h10, h⟩ := xb h
        refine xr_getr S w 9 xi_X8_headOf_X8 rfl 7 (by decide) xl_X8_headOf_29 h10 dX8_headOf_39 ?_
        refine lv_sipush (v := 151) S.1 S.2.1 dX8_headOf_42 (by decide) ?_
        refine lv_iload_n S.1 S.2.1 dX8_headOf_45 rfl (lv_at hl 1 rfl) ?_
        refine lv_imul S.1 S.2.1 dX8_headOf_46 ?_
        refine lv_iload S.1 S.2.1 dX8_headOf_47 (lv_at hl 4 rfl) ?_
        refine lv_iadd S.1 S.2.1 dX8_headOf_49 ?_
        obtain ⟨x11, h12, h⟩ := xb h
        refine xr_iald S w h12 dX8_headOf_50 ?_
        obtain ⟨x14, h13, h⟩ := xb h
        refine xr_callS_l S w hA hN (c_X8_headBehind l D cy L g v3 x3 x7 x11 h13) (va_cwS 4 S.2.2.2.2 gX8_headOf_X8_headBehind rfl rfl rfl (by decide +kernel) ⟨Nat.le_of_ble_eq_true rfl, Nat.le_of_ble_eq_true rfl⟩) rfl rfl hl.1 (Nat.le_of_ble_eq_true rfl) dX8_headOf_51 ⟨Nat.le_of_ble_eq_true rfl, Nat.le_of_ble_eq_true rfl⟩ (fun H locs w => ?_)
        refine lv_lstore_n (lv' := [(3, .long x14), (0, .ref v0), (1, .int v1), (2, .int v2), (5, .int v5)]) S.1 S.2.1 dX8_headOf_54 rfl hl (by decide) rfl (fun ls hl => ?_)
        refine lv_iinc (v := (v5 + 1)) (lv' := [(5, .int (v5 + 1)), (3, .long x14), (0, .ref v0), (1, .int v1), (2, .int v2)]) S.1 S.2.1 dX8_headOf_55 hl (k := 4) rfl rfl (by decide) rfl (fun ls hl => ?_)
        refine lv_goto (tgt := 5) S.1 S.2.1 dX8_headOf_58 (by decide) ?_
        exact ih v0 v1 v2 x14 (v5 + 1) h _ _ _ w (lv_sub hl [2, 3, 4, 1, 0] rfl)
  rw [f_X8_headOf] at h
  refine lv_lconst (v := 0) S.1 S.2.1 dX8_headOf_0 (by decide) ?_
  refine lv_lstore_n (lv' := [(3, .long 0), (0, .ref a0), (1, .int a1), (2, .int a2)]) S.1 S.2.1 dX8_headOf_1 rfl hl (by decide) rfl (fun ls hl => ?_)
  refine lv_iconst (v := 0) S.1 S.2.1 dX8_headOf_2 (by decide) ?_
  refine lv_istore (lv' := [(5, .int 0), (3, .long 0), (0, .ref a0), (1, .int a1), (2, .int a2)]) S.1 S.2.1 dX8_headOf_3 hl (by decide) rfl (fun ls hl => ?_)
  exact hb5 xFU a0 a1 a2 0 0 h _ _ _ w (lv_sub hl [2, 3, 4, 1, 0] rfl)
theorem xi_X8_no_X8 : ∀ w ∈ wsX80, w ∈ wsX8_no := by decide +kernel
theorem xl_X8_no_7 : Cond.fieldLink RX8 7 (TX8 1).1 (TX8 1).2.1 (TX8 1).2.2.1 ∈ wsX8_no := by decide +kernel
def f_X8_no (g : xG) (a0 : Nat) (a1 : Int32) : Option Int32 :=
  if a1 < 0 then
    some 1
  else
    (xg_i g 9 a0 1).bind fun x1 =>
    if a1 < x1 then
      some 0
    else
      some 1
set_option maxHeartbeats 4000000 in
set_option maxRecDepth 100000 in
theorem c_X8_no (l : Launch) (D : va_G) (cy : Nat → ClassId) (L : List Nat) (g : xG) (a0 : Nat) (a1 : Int32) {r1 : Int32} (h : f_X8_no g a0 a1 = some r1) : xMi l yX8_no wsX8_no ({ frames := 0, cells := 0, slots := 0, locals := 0 }) D cy L g [.ref a0, .int a1] r1 g := by
  refine xm_z (cc := cX8_no) (maxL := 2) RX8 rfl rfl rfl (by decide +kernel) rfl (Nat.le_of_ble_eq_true rfl) ?_
  intro p e s m args below meth c Q A S w hA hN ret ls hl
  have hl : lv_has ls 2 [(0, .ref a0), (1, .int a1)] := hl
  rw [f_X8_no] at h
  refine lv_iload_n S.1 S.2.1 dX8_no_0 rfl (lv_at hl 1 rfl) ?_
  refine lv_if_lt (tgt := 12) S.1 S.2.1 dX8_no_1 (by decide) (fun c1 => ?_) (fun c1 => ?_)
  · rw [if_pos c1] at h
    refine lv_iconst (v := 1) S.1 S.2.1 dX8_no_12 (by decide) ?_
    refine lv_goto (tgt := 17) S.1 S.2.1 dX8_no_13 (by decide) ?_
    exact ret _ _ _ _ 1 1 _ (by decide) (congrArg (fun z => some (z, g)) (Option.some.inj h)) w dX8_no_17
  · rw [if_neg c1] at h
    refine lv_iload_n S.1 S.2.1 dX8_no_4 rfl (lv_at hl 1 rfl) ?_
    refine lv_aload_n S.1 S.2.1 dX8_no_5 rfl (lv_at hl 0 rfl) ?_
    obtain ⟨x1, h2, h⟩ := xb h
    refine xr_geti S w 9 xi_X8_no_X8 rfl 1 (by decide) xl_X8_no_7 h2 dX8_no_6 ?_
    refine lv_icmp_lt (tgt := 16) S.1 S.2.1 dX8_no_9 (by decide) (fun c9 => ?_) (fun c9 => ?_)
    · rw [if_pos c9] at h
      refine lv_iconst (v := 0) S.1 S.2.1 dX8_no_16 (by decide) ?_
      exact ret _ _ _ _ 0 0 _ (by decide) (congrArg (fun z => some (z, g)) (Option.some.inj h)) w dX8_no_17
    · rw [if_neg c9] at h
      refine lv_iconst (v := 1) S.1 S.2.1 dX8_no_12 (by decide) ?_
      refine lv_goto (tgt := 17) S.1 S.2.1 dX8_no_13 (by decide) ?_
      exact ret _ _ _ _ 1 1 _ (by decide) (congrArg (fun z => some (z, g)) (Option.some.inj h)) w dX8_no_17
theorem xi_X8_enter_X8 : ∀ w ∈ wsX80, w ∈ wsX8_enter := by decide +kernel
theorem xl_X8_enter_20 : Cond.fieldLink RX8 20 (TX8 4).1 (TX8 4).2.1 (TX8 4).2.2.1 ∈ wsX8_enter := by decide +kernel
theorem xl_X8_enter_23 : Cond.fieldLink RX8 23 (TX8 5).1 (TX8 5).2.1 (TX8 5).2.2.1 ∈ wsX8_enter := by decide +kernel
theorem xl_X8_enter_26 : Cond.fieldLink RX8 26 (TX8 6).1 (TX8 6).2.1 (TX8 6).2.2.1 ∈ wsX8_enter := by decide +kernel
theorem xl_X8_enter_29 : Cond.fieldLink RX8 29 (TX8 7).1 (TX8 7).2.1 (TX8 7).2.2.1 ∈ wsX8_enter := by decide +kernel
def f_X8_enter (g : xG) (a0 : Nat) (a1 : Int32) (a2 : Int32) (a3 : Int32) (a4 : Int32) : Option xG :=
  (xg_r g 9 a0 4).bind fun x1 =>
  (xa_i 1 g x1 a1).bind fun x3 =>
  (xg_r g 9 a0 5).bind fun x5 =>
  (xs_i 1 g x5 ((151 * a1) + x3) a2).bind fun g7 =>
  (xg_r g7 9 a0 6).bind fun x9 =>
  (xs_i 1 g7 x9 ((151 * a1) + x3) a3).bind fun g11 =>
  (xg_r g11 9 a0 7).bind fun x13 =>
  (xs_i 1 g11 x13 ((151 * a1) + x3) a4).bind fun g15 =>
  (xg_r g15 9 a0 4).bind fun x17 =>
  (xa_i 1 g15 x17 a1).bind fun x19 =>
  (xs_i 1 g15 x17 a1 (x19 + 1)).bind fun g21 =>
  some g21
set_option maxHeartbeats 4000000 in
set_option maxRecDepth 100000 in
theorem c_X8_enter (l : Launch) (D : va_G) (cy : Nat → ClassId) (L : List Nat) (g : xG) (a0 : Nat) (a1 : Int32) (a2 : Int32) (a3 : Int32) (a4 : Int32) {g1 : xG} (h : f_X8_enter g a0 a1 a2 a3 a4 = some g1) : xMv l yX8_enter wsX8_enter ({ frames := 0, cells := 0, slots := 0, locals := 0 }) D cy L g [.ref a0, .int a1, .int a2, .int a3, .int a4] g1 := by
  refine xm_v (cc := cX8_enter) (maxL := 6) RX8 rfl rfl rfl (by decide +kernel) rfl (Nat.le_of_ble_eq_true rfl) ?_
  intro p e s m args below meth c Q A S w hA hN ret ls hl
  have hl : lv_has ls 6 [(0, .ref a0), (1, .int a1), (2, .int a2), (3, .int a3), (4, .int a4)] := hl
  rw [f_X8_enter] at h
  refine lv_sipush (v := 151) S.1 S.2.1 dX8_enter_0 (by decide) ?_
  refine lv_iload_n S.1 S.2.1 dX8_enter_3 rfl (lv_at hl 1 rfl) ?_
  refine lv_imul S.1 S.2.1 dX8_enter_4 ?_
  refine lv_aload_n S.1 S.2.1 dX8_enter_5 rfl (lv_at hl 0 rfl) ?_
  obtain ⟨x1, h2, h⟩ := xb h
  refine xr_getr S w 9 xi_X8_enter_X8 rfl 4 (by decide) xl_X8_enter_20 h2 dX8_enter_6 ?_
  refine lv_iload_n S.1 S.2.1 dX8_enter_9 rfl (lv_at hl 1 rfl) ?_
  obtain ⟨x3, h4, h⟩ := xb h
  refine xr_iald S w h4 dX8_enter_10 ?_
  refine lv_iadd S.1 S.2.1 dX8_enter_11 ?_
  refine lv_istore (lv' := [(5, .int ((151 * a1) + x3)), (0, .ref a0), (1, .int a1), (2, .int a2), (3, .int a3), (4, .int a4)]) S.1 S.2.1 dX8_enter_12 hl (by decide) rfl (fun ls hl => ?_)
  refine lv_aload_n S.1 S.2.1 dX8_enter_14 rfl (lv_at hl 1 rfl) ?_
  obtain ⟨x5, h6, h⟩ := xb h
  refine xr_getr S w 9 xi_X8_enter_X8 rfl 5 (by decide) xl_X8_enter_23 h6 dX8_enter_15 ?_
  refine lv_iload S.1 S.2.1 dX8_enter_18 (lv_at hl 0 rfl) ?_
  refine lv_iload_n S.1 S.2.1 dX8_enter_20 rfl (lv_at hl 3 rfl) ?_
  obtain ⟨g7, h8, h⟩ := xb h
  refine xr_iast S w h8 dX8_enter_21 (fun H locs w => ?_)
  refine lv_aload_n S.1 S.2.1 dX8_enter_22 rfl (lv_at hl 1 rfl) ?_
  obtain ⟨x9, h10, h⟩ := xb h
  refine xr_getr S w 9 xi_X8_enter_X8 rfl 6 (by decide) xl_X8_enter_26 h10 dX8_enter_23 ?_
  refine lv_iload S.1 S.2.1 dX8_enter_26 (lv_at hl 0 rfl) ?_
  refine lv_iload_n S.1 S.2.1 dX8_enter_28 rfl (lv_at hl 4 rfl) ?_
  obtain ⟨g11, h12, h⟩ := xb h
  refine xr_iast S w h12 dX8_enter_29 (fun H locs w => ?_)
  refine lv_aload_n S.1 S.2.1 dX8_enter_30 rfl (lv_at hl 1 rfl) ?_
  obtain ⟨x13, h14, h⟩ := xb h
  refine xr_getr S w 9 xi_X8_enter_X8 rfl 7 (by decide) xl_X8_enter_29 h14 dX8_enter_31 ?_
  refine lv_iload S.1 S.2.1 dX8_enter_34 (lv_at hl 0 rfl) ?_
  refine lv_iload S.1 S.2.1 dX8_enter_36 (lv_at hl 5 rfl) ?_
  obtain ⟨g15, h16, h⟩ := xb h
  refine xr_iast S w h16 dX8_enter_38 (fun H locs w => ?_)
  refine lv_aload_n S.1 S.2.1 dX8_enter_39 rfl (lv_at hl 1 rfl) ?_
  obtain ⟨x17, h18, h⟩ := xb h
  refine xr_getr S w 9 xi_X8_enter_X8 rfl 4 (by decide) xl_X8_enter_20 h18 dX8_enter_40 ?_
  refine lv_iload_n S.1 S.2.1 dX8_enter_43 rfl (lv_at hl 2 rfl) ?_
  refine lv_dup2_11 S.1 S.2.1 dX8_enter_44 rfl rfl ?_
  obtain ⟨x19, h20, h⟩ := xb h
  refine xr_iald S w h20 dX8_enter_45 ?_
  refine lv_iconst (v := 1) S.1 S.2.1 dX8_enter_46 (by decide) ?_
  refine lv_iadd S.1 S.2.1 dX8_enter_47 ?_
  obtain ⟨g21, h22, h⟩ := xb h
  refine xr_iast S w h22 dX8_enter_48 (fun H locs w => ?_)
  exact ret _ _ _ _ _ h w dX8_enter_49
theorem xi_X8_letter_X8 : ∀ w ∈ wsX80, w ∈ wsX8_letter := by decide +kernel
theorem xl_X8_letter_108 : Cond.fieldLink RX8 108 (TX8 11).1 (TX8 11).2.1 (TX8 11).2.2.1 ∈ wsX8_letter := by decide +kernel
theorem xl_X8_letter_105 : Cond.fieldLink RX8 105 (TX8 10).1 (TX8 10).2.1 (TX8 10).2.2.1 ∈ wsX8_letter := by decide +kernel
theorem xl_X8_letter_39 : Cond.fieldLink RX8 39 (TX8 12).1 (TX8 12).2.1 (TX8 12).2.2.1 ∈ wsX8_letter := by decide +kernel
theorem xl_X8_letter_42 : Cond.fieldLink RX8 42 (TX8 13).1 (TX8 13).2.1 (TX8 13).2.2.1 ∈ wsX8_letter := by decide +kernel
theorem xl_X8_letter_45 : Cond.fieldLink RX8 45 (TX8 14).1 (TX8 14).2.1 (TX8 14).2.2.1 ∈ wsX8_letter := by decide +kernel
theorem xl_X8_letter_48 : Cond.fieldLink RX8 48 (TX8 15).1 (TX8 15).2.1 (TX8 15).2.2.1 ∈ wsX8_letter := by decide +kernel
theorem xl_X8_letter_51 : Cond.fieldLink RX8 51 (TX8 16).1 (TX8 16).2.1 (TX8 16).2.2.1 ∈ wsX8_letter := by decide +kernel
theorem xl_X8_letter_54 : Cond.fieldLink RX8 54 (TX8 17).1 (TX8 17).2.1 (TX8 17).2.2.1 ∈ wsX8_letter := by decide +kernel
theorem xl_X8_letter_58 : Cond.fieldLink RX8 58 (TX8 18).1 (TX8 18).2.1 (TX8 18).2.2.1 ∈ wsX8_letter := by decide +kernel
def f_X8_letter (g : xG) (a0 : Nat) (a1 : Int32) (a2 : Int32) (a3 : Int32) (a4 : Int32) (a5 : Int32) (a6 : Int64) (a7 : Int64) : Option xG :=
  (xg_i g 9 a0 11).bind fun x1 =>
  (xp_i g 9 a0 11 (x1 + 1)).bind fun g3 =>
  (xg_i g3 9 a0 10).bind fun x5 =>
  if x5 = 200 then
    some g3
  else
    (xg_r g3 9 a0 12).bind fun x7 =>
    (xg_i g3 9 a0 10).bind fun x9 =>
    (xs_i 1 g3 x7 x9 a1).bind fun g11 =>
    (xg_r g11 9 a0 13).bind fun x13 =>
    (xg_i g11 9 a0 10).bind fun x15 =>
    (xs_i 1 g11 x13 x15 a2).bind fun g17 =>
    (xg_r g17 9 a0 14).bind fun x19 =>
    (xg_i g17 9 a0 10).bind fun x21 =>
    (xs_i 1 g17 x19 x21 a3).bind fun g23 =>
    (xg_r g23 9 a0 15).bind fun x25 =>
    (xg_i g23 9 a0 10).bind fun x27 =>
    (xs_i 1 g23 x25 x27 a4).bind fun g29 =>
    (xg_r g29 9 a0 16).bind fun x31 =>
    (xg_i g29 9 a0 10).bind fun x33 =>
    (xs_i 1 g29 x31 x33 a5).bind fun g35 =>
    (xg_r g35 9 a0 17).bind fun x37 =>
    (xg_i g35 9 a0 10).bind fun x39 =>
    (xs_l g35 x37 x39 a6).bind fun g41 =>
    (xg_r g41 9 a0 18).bind fun x43 =>
    (xg_i g41 9 a0 10).bind fun x45 =>
    (xs_l g41 x43 x45 a7).bind fun g47 =>
    (xg_i g47 9 a0 10).bind fun x49 =>
    (xp_i g47 9 a0 10 (x49 + 1)).bind fun g51 =>
    some g51
set_option maxHeartbeats 4000000 in
set_option maxRecDepth 100000 in
theorem c_X8_letter (l : Launch) (D : va_G) (cy : Nat → ClassId) (L : List Nat) (g : xG) (a0 : Nat) (a1 : Int32) (a2 : Int32) (a3 : Int32) (a4 : Int32) (a5 : Int32) (a6 : Int64) (a7 : Int64) {g1 : xG} (h : f_X8_letter g a0 a1 a2 a3 a4 a5 a6 a7 = some g1) : xMv l yX8_letter wsX8_letter ({ frames := 0, cells := 0, slots := 0, locals := 0 }) D cy L g [.ref a0, .int a1, .int a2, .int a3, .int a4, .int a5, .long a6, .long a7] g1 := by
  refine xm_v (cc := cX8_letter) (maxL := 10) RX8 rfl rfl rfl (by decide +kernel) rfl (Nat.le_of_ble_eq_true rfl) ?_
  intro p e s m args below meth c Q A S w hA hN ret ls hl
  have hl : lv_has ls 10 [(0, .ref a0), (1, .int a1), (2, .int a2), (3, .int a3), (4, .int a4), (5, .int a5), (6, .long a6), (8, .long a7)] := hl
  rw [f_X8_letter] at h
  refine lv_aload_n S.1 S.2.1 dX8_letter_0 rfl (lv_at hl 0 rfl) ?_
  refine lv_dup S.1 S.2.1 dX8_letter_1 rfl ?_
  obtain ⟨x1, h2, h⟩ := xb h
  refine xr_geti S w 9 xi_X8_letter_X8 rfl 11 (by decide) xl_X8_letter_108 h2 dX8_letter_2 ?_
  refine lv_iconst (v := 1) S.1 S.2.1 dX8_letter_5 (by decide) ?_
  refine lv_iadd S.1 S.2.1 dX8_letter_6 ?_
  obtain ⟨g3, h4, h⟩ := xb h
  refine xr_puti S w 9 xi_X8_letter_X8 rfl tyX8 tyX8_ok nmX8 11 (by decide) xl_X8_letter_108 rfl (tyX8_ok 11 (by decide)) h4 dX8_letter_7 (fun H locs w => ?_)
  refine lv_aload_n S.1 S.2.1 dX8_letter_10 rfl (lv_at hl 0 rfl) ?_
  obtain ⟨x5, h6, h⟩ := xb h
  refine xr_geti S w 9 xi_X8_letter_X8 rfl 10 (by decide) xl_X8_letter_105 h6 dX8_letter_11 ?_
  refine lv_sipush (v := 200) S.1 S.2.1 dX8_letter_14 (by decide) ?_
  refine lv_icmp_ne (tgt := 21) S.1 S.2.1 dX8_letter_17 (by decide) (fun c17 => ?_) (fun c17 => ?_)
  · rw [if_neg c17] at h
    refine lv_aload_n S.1 S.2.1 dX8_letter_21 rfl (lv_at hl 0 rfl) ?_
    obtain ⟨x7, h8, h⟩ := xb h
    refine xr_getr S w 9 xi_X8_letter_X8 rfl 12 (by decide) xl_X8_letter_39 h8 dX8_letter_22 ?_
    refine lv_aload_n S.1 S.2.1 dX8_letter_25 rfl (lv_at hl 0 rfl) ?_
    obtain ⟨x9, h10, h⟩ := xb h
    refine xr_geti S w 9 xi_X8_letter_X8 rfl 10 (by decide) xl_X8_letter_105 h10 dX8_letter_26 ?_
    refine lv_iload_n S.1 S.2.1 dX8_letter_29 rfl (lv_at hl 1 rfl) ?_
    obtain ⟨g11, h12, h⟩ := xb h
    refine xr_iast S w h12 dX8_letter_30 (fun H locs w => ?_)
    refine lv_aload_n S.1 S.2.1 dX8_letter_31 rfl (lv_at hl 0 rfl) ?_
    obtain ⟨x13, h14, h⟩ := xb h
    refine xr_getr S w 9 xi_X8_letter_X8 rfl 13 (by decide) xl_X8_letter_42 h14 dX8_letter_32 ?_
    refine lv_aload_n S.1 S.2.1 dX8_letter_35 rfl (lv_at hl 0 rfl) ?_
    obtain ⟨x15, h16, h⟩ := xb h
    refine xr_geti S w 9 xi_X8_letter_X8 rfl 10 (by decide) xl_X8_letter_105 h16 dX8_letter_36 ?_
    refine lv_iload_n S.1 S.2.1 dX8_letter_39 rfl (lv_at hl 2 rfl) ?_
    obtain ⟨g17, h18, h⟩ := xb h
    refine xr_iast S w h18 dX8_letter_40 (fun H locs w => ?_)
    refine lv_aload_n S.1 S.2.1 dX8_letter_41 rfl (lv_at hl 0 rfl) ?_
    obtain ⟨x19, h20, h⟩ := xb h
    refine xr_getr S w 9 xi_X8_letter_X8 rfl 14 (by decide) xl_X8_letter_45 h20 dX8_letter_42 ?_
    refine lv_aload_n S.1 S.2.1 dX8_letter_45 rfl (lv_at hl 0 rfl) ?_
    obtain ⟨x21, h22, h⟩ := xb h
    refine xr_geti S w 9 xi_X8_letter_X8 rfl 10 (by decide) xl_X8_letter_105 h22 dX8_letter_46 ?_
    refine lv_iload_n S.1 S.2.1 dX8_letter_49 rfl (lv_at hl 3 rfl) ?_
    obtain ⟨g23, h24, h⟩ := xb h
    refine xr_iast S w h24 dX8_letter_50 (fun H locs w => ?_)
    refine lv_aload_n S.1 S.2.1 dX8_letter_51 rfl (lv_at hl 0 rfl) ?_
    obtain ⟨x25, h26, h⟩ := xb h
    refine xr_getr S w 9 xi_X8_letter_X8 rfl 15 (by decide) xl_X8_letter_48 h26 dX8_letter_52 ?_
    refine lv_aload_n S.1 S.2.1 dX8_letter_55 rfl (lv_at hl 0 rfl) ?_
    obtain ⟨x27, h28, h⟩ := xb h
    refine xr_geti S w 9 xi_X8_letter_X8 rfl 10 (by decide) xl_X8_letter_105 h28 dX8_letter_56 ?_
    refine lv_iload S.1 S.2.1 dX8_letter_59 (lv_at hl 4 rfl) ?_
    obtain ⟨g29, h30, h⟩ := xb h
    refine xr_iast S w h30 dX8_letter_61 (fun H locs w => ?_)
    refine lv_aload_n S.1 S.2.1 dX8_letter_62 rfl (lv_at hl 0 rfl) ?_
    obtain ⟨x31, h32, h⟩ := xb h
    refine xr_getr S w 9 xi_X8_letter_X8 rfl 16 (by decide) xl_X8_letter_51 h32 dX8_letter_63 ?_
    refine lv_aload_n S.1 S.2.1 dX8_letter_66 rfl (lv_at hl 0 rfl) ?_
    obtain ⟨x33, h34, h⟩ := xb h
    refine xr_geti S w 9 xi_X8_letter_X8 rfl 10 (by decide) xl_X8_letter_105 h34 dX8_letter_67 ?_
    refine lv_iload S.1 S.2.1 dX8_letter_70 (lv_at hl 5 rfl) ?_
    obtain ⟨g35, h36, h⟩ := xb h
    refine xr_iast S w h36 dX8_letter_72 (fun H locs w => ?_)
    refine lv_aload_n S.1 S.2.1 dX8_letter_73 rfl (lv_at hl 0 rfl) ?_
    obtain ⟨x37, h38, h⟩ := xb h
    refine xr_getr S w 9 xi_X8_letter_X8 rfl 17 (by decide) xl_X8_letter_54 h38 dX8_letter_74 ?_
    refine lv_aload_n S.1 S.2.1 dX8_letter_77 rfl (lv_at hl 0 rfl) ?_
    obtain ⟨x39, h40, h⟩ := xb h
    refine xr_geti S w 9 xi_X8_letter_X8 rfl 10 (by decide) xl_X8_letter_105 h40 dX8_letter_78 ?_
    refine lv_lload S.1 S.2.1 dX8_letter_81 (lv_at hl 6 rfl) ?_
    obtain ⟨g41, h42, h⟩ := xb h
    refine xr_last S w h42 dX8_letter_83 (fun H locs w => ?_)
    refine lv_aload_n S.1 S.2.1 dX8_letter_84 rfl (lv_at hl 0 rfl) ?_
    obtain ⟨x43, h44, h⟩ := xb h
    refine xr_getr S w 9 xi_X8_letter_X8 rfl 18 (by decide) xl_X8_letter_58 h44 dX8_letter_85 ?_
    refine lv_aload_n S.1 S.2.1 dX8_letter_88 rfl (lv_at hl 0 rfl) ?_
    obtain ⟨x45, h46, h⟩ := xb h
    refine xr_geti S w 9 xi_X8_letter_X8 rfl 10 (by decide) xl_X8_letter_105 h46 dX8_letter_89 ?_
    refine lv_lload S.1 S.2.1 dX8_letter_92 (lv_at hl 7 rfl) ?_
    obtain ⟨g47, h48, h⟩ := xb h
    refine xr_last S w h48 dX8_letter_94 (fun H locs w => ?_)
    refine lv_aload_n S.1 S.2.1 dX8_letter_95 rfl (lv_at hl 0 rfl) ?_
    refine lv_dup S.1 S.2.1 dX8_letter_96 rfl ?_
    obtain ⟨x49, h50, h⟩ := xb h
    refine xr_geti S w 9 xi_X8_letter_X8 rfl 10 (by decide) xl_X8_letter_105 h50 dX8_letter_97 ?_
    refine lv_iconst (v := 1) S.1 S.2.1 dX8_letter_100 (by decide) ?_
    refine lv_iadd S.1 S.2.1 dX8_letter_101 ?_
    obtain ⟨g51, h52, h⟩ := xb h
    refine xr_puti S w 9 xi_X8_letter_X8 rfl tyX8 tyX8_ok nmX8 10 (by decide) xl_X8_letter_105 rfl (tyX8_ok 10 (by decide)) h52 dX8_letter_102 (fun H locs w => ?_)
    exact ret _ _ _ _ _ h w dX8_letter_105
  · rw [if_pos c17] at h
    exact ret _ _ _ _ _ h w dX8_letter_20
theorem xi_X8_send_X8 : ∀ w ∈ wsX80, w ∈ wsX8_send := by decide +kernel
theorem xl_X8_send_20 : Cond.fieldLink RX8 20 (TX8 4).1 (TX8 4).2.1 (TX8 4).2.2.1 ∈ wsX8_send := by decide +kernel
def f_X8_send (g : xG) (a0 : Nat) (a1 : Int32) (a2 : Int32) (a3 : Int32) : Option xG :=
  (xg_r g 9 a0 4).bind fun x1 =>
  (xa_i 1 g x1 a1).bind fun x3 =>
  (xk g 9 a0).bind fun _ =>
  (f_X8_headOf g a0 a1 x3).bind fun x7 =>
  (xk g 9 a0).bind fun _ =>
  (f_X8_enter g a0 a1 3 a2 a3).bind fun g10 =>
  (xg_r g10 9 a0 4).bind fun x11 =>
  (xa_i 1 g10 x11 a1).bind fun x13 =>
  (xg_r g10 9 a0 4).bind fun x15 =>
  (xa_i 1 g10 x15 a1).bind fun x17 =>
  (xg_r g10 9 a0 4).bind fun x19 =>
  (xa_i 1 g10 x19 a1).bind fun x21 =>
  (xk g10 9 a0).bind fun _ =>
  (f_X8_headOf g10 a0 a1 x21).bind fun x25 =>
  (f_X8_signature a1 x17 x25).bind fun x27 =>
  (xk g10 9 a0).bind fun _ =>
  (f_X8_letter g10 a0 1 a2 a1 a3 x13 x7 x27).bind fun g30 =>
  some g30
set_option maxHeartbeats 4000000 in
set_option maxRecDepth 100000 in
theorem c_X8_send (l : Launch) (D : va_G) (cy : Nat → ClassId) (L : List Nat) (g : xG) (a0 : Nat) (a1 : Int32) (a2 : Int32) (a3 : Int32) {g1 : xG} (h : f_X8_send g a0 a1 a2 a3 = some g1) : xMv l yX8_send wsX8_send ({ frames := 3, cells := 0, slots := 0, locals := 82 }) D cy L g [.ref a0, .int a1, .int a2, .int a3] g1 := by
  refine xm_v (cc := cX8_send) (maxL := 6) RX8 rfl rfl rfl (by decide +kernel) rfl (Nat.le_of_ble_eq_true rfl) ?_
  intro p e s m args below meth c Q A S w hA hN ret ls hl
  have hl : lv_has ls 6 [(0, .ref a0), (1, .int a1), (2, .int a2), (3, .int a3)] := hl
  rw [f_X8_send] at h
  refine lv_aload_n S.1 S.2.1 dX8_send_0 rfl (lv_at hl 0 rfl) ?_
  refine lv_iload_n S.1 S.2.1 dX8_send_1 rfl (lv_at hl 1 rfl) ?_
  refine lv_aload_n S.1 S.2.1 dX8_send_2 rfl (lv_at hl 0 rfl) ?_
  obtain ⟨x1, h2, h⟩ := xb h
  refine xr_getr S w 9 xi_X8_send_X8 rfl 4 (by decide) xl_X8_send_20 h2 dX8_send_3 ?_
  refine lv_iload_n S.1 S.2.1 dX8_send_6 rfl (lv_at hl 1 rfl) ?_
  obtain ⟨x3, h4, h⟩ := xb h
  refine xr_iald S w h4 dX8_send_7 ?_
  obtain ⟨_, h5, h⟩ := xb h
  obtain ⟨x7, h6, h⟩ := xb h
  refine xr_callV_l S w hA hN 9 rfl h5 (c_X8_headOf l D cy L g a0 a1 x3 h6) (cwV 2 S.2.2.2.2 gX8_send_X8_headOf rfl rfl rfl (by decide +kernel) ⟨Nat.le_of_ble_eq_true rfl, Nat.le_of_ble_eq_true rfl⟩) rfl rfl hl.1 (Nat.le_of_ble_eq_true rfl) dX8_send_8 ⟨Nat.le_of_ble_eq_true rfl, Nat.le_of_ble_eq_true rfl⟩ (fun H locs w => ?_)
  refine lv_lstore (lv' := [(4, .long x7), (0, .ref a0), (1, .int a1), (2, .int a2), (3, .int a3)]) S.1 S.2.1 dX8_send_11 hl (by decide) rfl (fun ls hl => ?_)
  refine lv_aload_n S.1 S.2.1 dX8_send_13 rfl (lv_at hl 1 rfl) ?_
  refine lv_iload_n S.1 S.2.1 dX8_send_14 rfl (lv_at hl 2 rfl) ?_
  refine lv_iconst (v := 3) S.1 S.2.1 dX8_send_15 (by decide) ?_
  refine lv_iload_n S.1 S.2.1 dX8_send_16 rfl (lv_at hl 3 rfl) ?_
  refine lv_iload_n S.1 S.2.1 dX8_send_17 rfl (lv_at hl 4 rfl) ?_
  obtain ⟨_, h8, h⟩ := xb h
  obtain ⟨g10, h9, h⟩ := xb h
  refine xr_callV_v S w hA hN 9 rfl h8 (c_X8_enter l D cy L g a0 a1 3 a2 a3 h9) (cwV 4 S.2.2.2.2 gX8_send_X8_enter rfl rfl rfl (by decide +kernel) ⟨Nat.le_of_ble_eq_true rfl, Nat.le_of_ble_eq_true rfl⟩) rfl rfl hl.1 (Nat.le_of_ble_eq_true rfl) dX8_send_18 ⟨Nat.le_of_ble_eq_true rfl, Nat.le_of_ble_eq_true rfl⟩ (fun H locs w => ?_)
  refine lv_aload_n S.1 S.2.1 dX8_send_21 rfl (lv_at hl 1 rfl) ?_
  refine lv_iconst (v := 1) S.1 S.2.1 dX8_send_22 (by decide) ?_
  refine lv_iload_n S.1 S.2.1 dX8_send_23 rfl (lv_at hl 3 rfl) ?_
  refine lv_iload_n S.1 S.2.1 dX8_send_24 rfl (lv_at hl 2 rfl) ?_
  refine lv_iload_n S.1 S.2.1 dX8_send_25 rfl (lv_at hl 4 rfl) ?_
  refine lv_aload_n S.1 S.2.1 dX8_send_26 rfl (lv_at hl 1 rfl) ?_
  obtain ⟨x11, h12, h⟩ := xb h
  refine xr_getr S w 9 xi_X8_send_X8 rfl 4 (by decide) xl_X8_send_20 h12 dX8_send_27 ?_
  refine lv_iload_n S.1 S.2.1 dX8_send_30 rfl (lv_at hl 2 rfl) ?_
  obtain ⟨x13, h14, h⟩ := xb h
  refine xr_iald S w h14 dX8_send_31 ?_
  refine lv_lload S.1 S.2.1 dX8_send_32 (lv_at hl 0 rfl) ?_
  refine lv_iload_n S.1 S.2.1 dX8_send_34 rfl (lv_at hl 2 rfl) ?_
  refine lv_aload_n S.1 S.2.1 dX8_send_35 rfl (lv_at hl 1 rfl) ?_
  obtain ⟨x15, h16, h⟩ := xb h
  refine xr_getr S w 9 xi_X8_send_X8 rfl 4 (by decide) xl_X8_send_20 h16 dX8_send_36 ?_
  refine lv_iload_n S.1 S.2.1 dX8_send_39 rfl (lv_at hl 2 rfl) ?_
  obtain ⟨x17, h18, h⟩ := xb h
  refine xr_iald S w h18 dX8_send_40 ?_
  refine lv_aload_n S.1 S.2.1 dX8_send_41 rfl (lv_at hl 1 rfl) ?_
  refine lv_iload_n S.1 S.2.1 dX8_send_42 rfl (lv_at hl 2 rfl) ?_
  refine lv_aload_n S.1 S.2.1 dX8_send_43 rfl (lv_at hl 1 rfl) ?_
  obtain ⟨x19, h20, h⟩ := xb h
  refine xr_getr S w 9 xi_X8_send_X8 rfl 4 (by decide) xl_X8_send_20 h20 dX8_send_44 ?_
  refine lv_iload_n S.1 S.2.1 dX8_send_47 rfl (lv_at hl 2 rfl) ?_
  obtain ⟨x21, h22, h⟩ := xb h
  refine xr_iald S w h22 dX8_send_48 ?_
  obtain ⟨_, h23, h⟩ := xb h
  obtain ⟨x25, h24, h⟩ := xb h
  refine xr_callVW_l S w hA hN 9 rfl h23 (c_X8_headOf l D cy L g10 a0 a1 x21 h24) (cwV 2 S.2.2.2.2 gX8_send_X8_headOf rfl rfl rfl (by decide +kernel) ⟨Nat.le_of_ble_eq_true rfl, Nat.le_of_ble_eq_true rfl⟩) (Nat.le_of_ble_eq_true rfl) rfl rfl hl.1 (Nat.le_of_ble_eq_true rfl) dX8_send_49 ⟨Nat.le_of_ble_eq_true rfl, Nat.le_of_ble_eq_true rfl⟩ (fun H locs w => ?_)
  obtain ⟨x27, h26, h⟩ := xb h
  refine xr_callS_l S w hA hN (c_X8_signature l D cy L g10 a1 x17 x25 h26) (va_cwS 3 S.2.2.2.2 gX8_send_X8_signature rfl rfl rfl (by decide +kernel) ⟨Nat.le_of_ble_eq_true rfl, Nat.le_of_ble_eq_true rfl⟩) rfl rfl hl.1 (Nat.le_of_ble_eq_true rfl) dX8_send_52 ⟨Nat.le_of_ble_eq_true rfl, Nat.le_of_ble_eq_true rfl⟩ (fun H locs w => ?_)
  obtain ⟨_, h28, h⟩ := xb h
  obtain ⟨g30, h29, h⟩ := xb h
  refine xr_callV_v S w hA hN 9 rfl h28 (c_X8_letter l D cy L g10 a0 1 a2 a1 a3 x13 x7 x27 h29) (cwV 7 S.2.2.2.2 gX8_send_X8_letter rfl rfl rfl (by decide +kernel) ⟨Nat.le_of_ble_eq_true rfl, Nat.le_of_ble_eq_true rfl⟩) rfl rfl hl.1 (Nat.le_of_ble_eq_true rfl) dX8_send_55 ⟨Nat.le_of_ble_eq_true rfl, Nat.le_of_ble_eq_true rfl⟩ (fun H locs w => ?_)
  exact ret _ _ _ _ _ h w dX8_send_58
def f_X8_sendsByInput (a0 : Int32) : Option Int32 :=
  if (a0 - a0 / 2 * 2) = 0 then
    some 1
  else
    some 0
set_option maxHeartbeats 4000000 in
set_option maxRecDepth 100000 in
theorem c_X8_sendsByInput (l : Launch) (D : va_G) (cy : Nat → ClassId) (L : List Nat) (g : xG) (a0 : Int32) {r1 : Int32} (h : f_X8_sendsByInput a0 = some r1) : xMi l yX8_sendsByInput wsX8_sendsByInput ({ frames := 0, cells := 0, slots := 0, locals := 0 }) D cy L g [.int a0] r1 g := by
  refine xm_z (cc := cX8_sendsByInput) (maxL := 1) RX8 rfl rfl rfl (by decide +kernel) rfl (Nat.le_of_ble_eq_true rfl) ?_
  intro p e s m args below meth c Q A S w hA hN ret ls hl
  have hl : lv_has ls 1 [(0, .int a0)] := hl
  rw [f_X8_sendsByInput] at h
  refine lv_iload_n S.1 S.2.1 dX8_sendsByInput_0 rfl (lv_at hl 0 rfl) ?_
  refine lv_iconst (v := 2) S.1 S.2.1 dX8_sendsByInput_1 (by decide) ?_
  refine lv_irem S.1 S.2.1 dX8_sendsByInput_2 (by decide) ?_
  refine lv_if_ne (tgt := 10) S.1 S.2.1 dX8_sendsByInput_3 (by decide) (fun c3 => ?_) (fun c3 => ?_)
  · rw [if_neg c3] at h
    refine lv_iconst (v := 0) S.1 S.2.1 dX8_sendsByInput_10 (by decide) ?_
    exact ret _ _ _ _ 0 0 _ (by decide) (congrArg (fun z => some (z, g)) (Option.some.inj h)) w dX8_sendsByInput_11
  · rw [if_pos c3] at h
    refine lv_iconst (v := 1) S.1 S.2.1 dX8_sendsByInput_6 (by decide) ?_
    refine lv_goto (tgt := 11) S.1 S.2.1 dX8_sendsByInput_7 (by decide) ?_
    exact ret _ _ _ _ 1 1 _ (by decide) (congrArg (fun z => some (z, g)) (Option.some.inj h)) w dX8_sendsByInput_11
theorem xi_X8_target_X8 : ∀ w ∈ wsX80, w ∈ wsX8_target := by decide +kernel
theorem xl_X8_target_7 : Cond.fieldLink RX8 7 (TX8 1).1 (TX8 1).2.1 (TX8 1).2.2.1 ∈ wsX8_target := by decide +kernel
def f_X8_target (g : xG) (a0 : Nat) (a1 : Int32) (a2 : Int32) : Option Int32 :=
  (xg_i g 9 a0 1).bind fun x1 =>
  (xnz (x1 - 1)).bind fun _ =>
  (xg_i g 9 a0 1).bind fun x4 =>
  (xnz x4).bind fun _ =>
  some (((a1 + 1) + (((xiushr a2 8) &&& 127) - ((xiushr a2 8) &&& 127) / (x1 - 1) * (x1 - 1))) - ((a1 + 1) + (((xiushr a2 8) &&& 127) - ((xiushr a2 8) &&& 127) / (x1 - 1) * (x1 - 1))) / x4 * x4)
set_option maxHeartbeats 4000000 in
set_option maxRecDepth 100000 in
theorem c_X8_target (l : Launch) (D : va_G) (cy : Nat → ClassId) (L : List Nat) (g : xG) (a0 : Nat) (a1 : Int32) (a2 : Int32) {r1 : Int32} (h : f_X8_target g a0 a1 a2 = some r1) : xMi l yX8_target wsX8_target ({ frames := 0, cells := 0, slots := 0, locals := 0 }) D cy L g [.ref a0, .int a1, .int a2] r1 g := by
  refine xm_i (cc := cX8_target) (maxL := 3) RX8 rfl rfl rfl (by decide +kernel) rfl (Nat.le_of_ble_eq_true rfl) ?_
  intro p e s m args below meth c Q A S w hA hN ret ls hl
  have hl : lv_has ls 3 [(0, .ref a0), (1, .int a1), (2, .int a2)] := hl
  rw [f_X8_target] at h
  refine lv_iload_n S.1 S.2.1 dX8_target_0 rfl (lv_at hl 1 rfl) ?_
  refine lv_iconst (v := 1) S.1 S.2.1 dX8_target_1 (by decide) ?_
  refine lv_iadd S.1 S.2.1 dX8_target_2 ?_
  refine lv_iload_n S.1 S.2.1 dX8_target_3 rfl (lv_at hl 2 rfl) ?_
  refine lv_bipush (v := 8) S.1 S.2.1 dX8_target_4 (by decide) ?_
  refine lv_iushr (v := (xiushr a2 8)) S.1 S.2.1 dX8_target_6 rfl ?_
  refine lv_bipush (v := 127) S.1 S.2.1 dX8_target_7 (by decide) ?_
  refine lv_iand S.1 S.2.1 dX8_target_9 ?_
  refine lv_aload_n S.1 S.2.1 dX8_target_10 rfl (lv_at hl 0 rfl) ?_
  obtain ⟨x1, h2, h⟩ := xb h
  refine xr_geti S w 9 xi_X8_target_X8 rfl 1 (by decide) xl_X8_target_7 h2 dX8_target_11 ?_
  refine lv_iconst (v := 1) S.1 S.2.1 dX8_target_14 (by decide) ?_
  refine lv_isub S.1 S.2.1 dX8_target_15 ?_
  obtain ⟨_, h3, h⟩ := xb h
  refine lv_irem S.1 S.2.1 dX8_target_16 (xnz_ok h3) ?_
  refine lv_iadd S.1 S.2.1 dX8_target_17 ?_
  refine lv_aload_n S.1 S.2.1 dX8_target_18 rfl (lv_at hl 0 rfl) ?_
  obtain ⟨x4, h5, h⟩ := xb h
  refine xr_geti S w 9 xi_X8_target_X8 rfl 1 (by decide) xl_X8_target_7 h5 dX8_target_19 ?_
  obtain ⟨_, h6, h⟩ := xb h
  refine lv_irem S.1 S.2.1 dX8_target_22 (xnz_ok h6) ?_
  exact ret _ _ _ _ _ _ (congrArg (fun z => some (z, g)) (Option.some.inj h)) w dX8_target_23
def f_X8_turned (a0 : Int32) : Option Int32 :=
  some ((a0 <<< (5 &&& 31)) ||| (xiushr a0 27))
set_option maxHeartbeats 4000000 in
set_option maxRecDepth 100000 in
theorem c_X8_turned (l : Launch) (D : va_G) (cy : Nat → ClassId) (L : List Nat) (g : xG) (a0 : Int32) {r1 : Int32} (h : f_X8_turned a0 = some r1) : xMi l yX8_turned wsX8_turned ({ frames := 0, cells := 0, slots := 0, locals := 0 }) D cy L g [.int a0] r1 g := by
  refine xm_i (cc := cX8_turned) (maxL := 1) RX8 rfl rfl rfl (by decide +kernel) rfl (Nat.le_of_ble_eq_true rfl) ?_
  intro p e s m args below meth c Q A S w hA hN ret ls hl
  have hl : lv_has ls 1 [(0, .int a0)] := hl
  rw [f_X8_turned] at h
  refine lv_iload_n S.1 S.2.1 dX8_turned_0 rfl (lv_at hl 0 rfl) ?_
  refine lv_iconst (v := 5) S.1 S.2.1 dX8_turned_1 (by decide) ?_
  refine lv_ishl S.1 S.2.1 dX8_turned_2 ?_
  refine lv_iload_n S.1 S.2.1 dX8_turned_3 rfl (lv_at hl 0 rfl) ?_
  refine lv_bipush (v := 27) S.1 S.2.1 dX8_turned_4 (by decide) ?_
  refine lv_iushr (v := (xiushr a0 27)) S.1 S.2.1 dX8_turned_6 rfl ?_
  refine lv_ior S.1 S.2.1 dX8_turned_7 ?_
  exact ret _ _ _ _ _ _ (congrArg (fun z => some (z, g)) (Option.some.inj h)) w dX8_turned_8
theorem xi_X8_input_X8 : ∀ w ∈ wsX80, w ∈ wsX8_input := by decide +kernel
theorem xl_X8_input_102 : Cond.fieldLink RX8 102 (TX8 0).1 (TX8 0).2.1 (TX8 0).2.2.1 ∈ wsX8_input := by decide +kernel
theorem xl_X8_input_13 : Cond.fieldLink RX8 13 (TX8 2).1 (TX8 2).2.1 (TX8 2).2.2.1 ∈ wsX8_input := by decide +kernel
theorem xl_X8_input_20 : Cond.fieldLink RX8 20 (TX8 4).1 (TX8 4).2.1 (TX8 4).2.2.1 ∈ wsX8_input := by decide +kernel
theorem xl_X8_input_17 : Cond.fieldLink RX8 17 (TX8 3).1 (TX8 3).2.1 (TX8 3).2.2.1 ∈ wsX8_input := by decide +kernel
def f_X8_input_30 (g : xG) (v0 : Nat) (v1 : Int32) (v2 : Int32) (s0 : Nat) (s1 : Int32) : Option (Int32 × xG) :=
  (xp_i g 9 s0 0 s1).bind fun g1 =>
  (xg_i g1 9 v0 0).bind fun x3 =>
  if x3 ≤ 0 then
    (xk g1 9 v0).bind fun _ =>
    (f_X8_enter g1 v0 v1 1 0 v2).bind fun g7 =>
    (xg_r g7 9 v0 2).bind fun x8 =>
    (xg_r g7 9 v0 2).bind fun x10 =>
    (xa_i 1 g7 x10 v1).bind fun x12 =>
    (xs_i 1 g7 x8 v1 ((31 * x12) + v2)).bind fun g14 =>
    (xg_r g14 9 v0 2).bind fun x16 =>
    (xa_i 1 g14 x16 v1).bind fun x18 =>
    (f_X8_sendsByInput x18).bind fun x21 =>
    if x21 = 0 then
      (xg_r g14 9 v0 4).bind fun x22 =>
      (xa_i 1 g14 x22 v1).bind fun x24 =>
      some (x24, g14)
    else
      (xg_r g14 9 v0 2).bind fun x26 =>
      (xa_i 1 g14 x26 v1).bind fun x28 =>
      (xk g14 9 v0).bind fun _ =>
      (f_X8_target g14 v0 v1 x28).bind fun x32 =>
      (xg_r g14 9 v0 2).bind fun x33 =>
      (xa_i 1 g14 x33 v1).bind fun x35 =>
      (xg_r g14 9 v0 3).bind fun x37 =>
      (xa_i 1 g14 x37 v1).bind fun x39 =>
      (xk g14 9 v0).bind fun _ =>
      (f_X8_send g14 v0 v1 x32 ((xiushr x35 1) ^^^ x39)).bind fun g43 =>
      (xg_r g43 9 v0 4).bind fun x44 =>
      (xa_i 1 g43 x44 v1).bind fun x46 =>
      some (x46, g43)
  else
    some (0, g1)
def f_X8_input (g : xG) (a0 : Nat) (a1 : Int32) (a2 : Int32) : Option (Int32 × xG) :=
  (xk g 9 a0).bind fun _ =>
  (f_X8_no g a0 a1).bind fun x50 =>
  if x50 = 0 then
    (xg_r g 9 a0 4).bind fun x51 =>
    (xa_i 1 g x51 a1).bind fun x53 =>
    if x53 ≤ 148 then
      f_X8_input_30 g a0 a1 a2 a0 0
    else
      f_X8_input_30 g a0 a1 a2 a0 2
  else
    f_X8_input_30 g a0 a1 a2 a0 1
set_option maxHeartbeats 4000000 in
set_option maxRecDepth 100000 in
theorem c_X8_input (l : Launch) (D : va_G) (cy : Nat → ClassId) (L : List Nat) (g : xG) (a0 : Nat) (a1 : Int32) (a2 : Int32) {r1 : Int32} {g1 : xG} (h : f_X8_input g a0 a1 a2 = some (r1, g1)) : xMi l yX8_input wsX8_input ({ frames := 4, cells := 0, slots := 0, locals := 107 }) D cy L g [.ref a0, .int a1, .int a2] r1 g1 := by
  refine xm_i (cc := cX8_input) (maxL := 3) RX8 rfl rfl rfl (by decide +kernel) rfl (Nat.le_of_ble_eq_true rfl) ?_
  intro p e s m args below meth c Q A S w hA hN ret ls hl
  have hl : lv_has ls 3 [(0, .ref a0), (1, .int a1), (2, .int a2)] := hl
  obtain ⟨rr, hrr⟩ : ∃ z, z = (r1, g1) := ⟨_, rfl⟩
  rw [← hrr] at h
  have hb30 : ∀ (g : xG) (v0 : Nat) (v1 : Int32) (v2 : Int32) (s0 : Nat) (s1 : Int32) , f_X8_input_30 g v0 v1 v2 s0 s1 = some rr → ∀ (H : Heap) (locs : List Loc) (ls : Array Slot), xOK D cy A s.heap s L g H locs → lv_has ls 3 [(0, .ref v0), (1, .int v1), (2, .int v2)] → W p l e { frames := 4, cells := 0, slots := 0, locals := 107 } s m args below meth c H locs 0 0 Q (F0 m 30 ls [.int s1, .ref s0]) := by
    intro g v0 v1 v2 s0 s1 h H locs ls w hl
    rw [f_X8_input_30] at h
    obtain ⟨g1, h2, h⟩ := xb h
    refine xr_puti S w 9 xi_X8_input_X8 rfl tyX8 tyX8_ok nmX8 0 (by decide) xl_X8_input_102 rfl (tyX8_ok 0 (by decide)) h2 dX8_input_30 (fun H locs w => ?_)
    refine lv_aload_n S.1 S.2.1 dX8_input_33 rfl (lv_at hl 0 rfl) ?_
    obtain ⟨x3, h4, h⟩ := xb h
    refine xr_geti S w 9 xi_X8_input_X8 rfl 0 (by decide) xl_X8_input_102 h4 dX8_input_34 ?_
    refine lv_if_le (tgt := 42) S.1 S.2.1 dX8_input_37 (by decide) (fun c37 => ?_) (fun c37 => ?_)
    · rw [if_pos c37] at h
      refine lv_aload_n S.1 S.2.1 dX8_input_42 rfl (lv_at hl 0 rfl) ?_
      refine lv_iload_n S.1 S.2.1 dX8_input_43 rfl (lv_at hl 1 rfl) ?_
      refine lv_iconst (v := 1) S.1 S.2.1 dX8_input_44 (by decide) ?_
      refine lv_iconst (v := 0) S.1 S.2.1 dX8_input_45 (by decide) ?_
      refine lv_iload_n S.1 S.2.1 dX8_input_46 rfl (lv_at hl 2 rfl) ?_
      obtain ⟨_, h5, h⟩ := xb h
      obtain ⟨g7, h6, h⟩ := xb h
      refine xr_callV_v S w hA hN 9 rfl h5 (c_X8_enter l D cy L g1 v0 v1 1 0 v2 h6) (cwV 4 S.2.2.2.2 gX8_input_X8_enter rfl rfl rfl (by decide +kernel) ⟨Nat.le_of_ble_eq_true rfl, Nat.le_of_ble_eq_true rfl⟩) rfl rfl hl.1 (Nat.le_of_ble_eq_true rfl) dX8_input_47 ⟨Nat.le_of_ble_eq_true rfl, Nat.le_of_ble_eq_true rfl⟩ (fun H locs w => ?_)
      refine lv_aload_n S.1 S.2.1 dX8_input_50 rfl (lv_at hl 0 rfl) ?_
      obtain ⟨x8, h9, h⟩ := xb h
      refine xr_getr S w 9 xi_X8_input_X8 rfl 2 (by decide) xl_X8_input_13 h9 dX8_input_51 ?_
      refine lv_iload_n S.1 S.2.1 dX8_input_54 rfl (lv_at hl 1 rfl) ?_
      refine lv_bipush (v := 31) S.1 S.2.1 dX8_input_55 (by decide) ?_
      refine lv_aload_n S.1 S.2.1 dX8_input_57 rfl (lv_at hl 0 rfl) ?_
      obtain ⟨x10, h11, h⟩ := xb h
      refine xr_getr S w 9 xi_X8_input_X8 rfl 2 (by decide) xl_X8_input_13 h11 dX8_input_58 ?_
      refine lv_iload_n S.1 S.2.1 dX8_input_61 rfl (lv_at hl 1 rfl) ?_
      obtain ⟨x12, h13, h⟩ := xb h
      refine xr_iald S w h13 dX8_input_62 ?_
      refine lv_imul S.1 S.2.1 dX8_input_63 ?_
      refine lv_iload_n S.1 S.2.1 dX8_input_64 rfl (lv_at hl 2 rfl) ?_
      refine lv_iadd S.1 S.2.1 dX8_input_65 ?_
      obtain ⟨g14, h15, h⟩ := xb h
      refine xr_iast S w h15 dX8_input_66 (fun H locs w => ?_)
      refine lv_aload_n S.1 S.2.1 dX8_input_67 rfl (lv_at hl 0 rfl) ?_
      obtain ⟨x16, h17, h⟩ := xb h
      refine xr_getr S w 9 xi_X8_input_X8 rfl 2 (by decide) xl_X8_input_13 h17 dX8_input_68 ?_
      refine lv_iload_n S.1 S.2.1 dX8_input_71 rfl (lv_at hl 1 rfl) ?_
      obtain ⟨x18, h19, h⟩ := xb h
      refine xr_iald S w h19 dX8_input_72 ?_
      obtain ⟨x21, h20, h⟩ := xb h
      refine xr_callS_i S w hA hN (c_X8_sendsByInput l D cy L g14 x18 h20) (va_cwS 1 S.2.2.2.2 gX8_input_X8_sendsByInput rfl rfl rfl (by decide +kernel) ⟨Nat.le_of_ble_eq_true rfl, Nat.le_of_ble_eq_true rfl⟩) rfl rfl hl.1 (Nat.le_of_ble_eq_true rfl) dX8_input_73 ⟨Nat.le_of_ble_eq_true rfl, Nat.le_of_ble_eq_true rfl⟩ (fun H locs w => ?_)
      refine lv_if_eq (tgt := 110) S.1 S.2.1 dX8_input_76 (by decide) (fun c76 => ?_) (fun c76 => ?_)
      · rw [if_pos c76] at h
        refine lv_aload_n S.1 S.2.1 dX8_input_110 rfl (lv_at hl 0 rfl) ?_
        obtain ⟨x22, h23, h⟩ := xb h
        refine xr_getr S w 9 xi_X8_input_X8 rfl 4 (by decide) xl_X8_input_20 h23 dX8_input_111 ?_
        refine lv_iload_n S.1 S.2.1 dX8_input_114 rfl (lv_at hl 1 rfl) ?_
        obtain ⟨x24, h25, h⟩ := xb h
        refine xr_iald S w h25 dX8_input_115 ?_
        exact ret _ _ _ _ _ _ (h.trans (congrArg some hrr)) w dX8_input_116
      · rw [if_neg c76] at h
        refine lv_aload_n S.1 S.2.1 dX8_input_79 rfl (lv_at hl 0 rfl) ?_
        refine lv_iload_n S.1 S.2.1 dX8_input_80 rfl (lv_at hl 1 rfl) ?_
        refine lv_aload_n S.1 S.2.1 dX8_input_81 rfl (lv_at hl 0 rfl) ?_
        refine lv_iload_n S.1 S.2.1 dX8_input_82 rfl (lv_at hl 1 rfl) ?_
        refine lv_aload_n S.1 S.2.1 dX8_input_83 rfl (lv_at hl 0 rfl) ?_
        obtain ⟨x26, h27, h⟩ := xb h
        refine xr_getr S w 9 xi_X8_input_X8 rfl 2 (by decide) xl_X8_input_13 h27 dX8_input_84 ?_
        refine lv_iload_n S.1 S.2.1 dX8_input_87 rfl (lv_at hl 1 rfl) ?_
        obtain ⟨x28, h29, h⟩ := xb h
        refine xr_iald S w h29 dX8_input_88 ?_
        obtain ⟨_, h30, h⟩ := xb h
        obtain ⟨x32, h31, h⟩ := xb h
        refine xr_callV_i S w hA hN 9 rfl h30 (c_X8_target l D cy L g14 v0 v1 x28 h31) (cwV 2 S.2.2.2.2 gX8_input_X8_target rfl rfl rfl (by decide +kernel) ⟨Nat.le_of_ble_eq_true rfl, Nat.le_of_ble_eq_true rfl⟩) rfl rfl hl.1 (Nat.le_of_ble_eq_true rfl) dX8_input_89 ⟨Nat.le_of_ble_eq_true rfl, Nat.le_of_ble_eq_true rfl⟩ (fun H locs w => ?_)
        refine lv_aload_n S.1 S.2.1 dX8_input_92 rfl (lv_at hl 0 rfl) ?_
        obtain ⟨x33, h34, h⟩ := xb h
        refine xr_getr S w 9 xi_X8_input_X8 rfl 2 (by decide) xl_X8_input_13 h34 dX8_input_93 ?_
        refine lv_iload_n S.1 S.2.1 dX8_input_96 rfl (lv_at hl 1 rfl) ?_
        obtain ⟨x35, h36, h⟩ := xb h
        refine xr_iald S w h36 dX8_input_97 ?_
        refine lv_iconst (v := 1) S.1 S.2.1 dX8_input_98 (by decide) ?_
        refine lv_iushr (v := (xiushr x35 1)) S.1 S.2.1 dX8_input_99 rfl ?_
        refine lv_aload_n S.1 S.2.1 dX8_input_100 rfl (lv_at hl 0 rfl) ?_
        obtain ⟨x37, h38, h⟩ := xb h
        refine xr_getr S w 9 xi_X8_input_X8 rfl 3 (by decide) xl_X8_input_17 h38 dX8_input_101 ?_
        refine lv_iload_n S.1 S.2.1 dX8_input_104 rfl (lv_at hl 1 rfl) ?_
        obtain ⟨x39, h40, h⟩ := xb h
        refine xr_iald S w h40 dX8_input_105 ?_
        refine lv_ixor S.1 S.2.1 dX8_input_106 ?_
        obtain ⟨_, h41, h⟩ := xb h
        obtain ⟨g43, h42, h⟩ := xb h
        refine xr_callV_v S w hA hN 9 rfl h41 (c_X8_send l D cy L g14 v0 v1 x32 ((xiushr x35 1) ^^^ x39) h42) (cwV 3 S.2.2.2.2 gX8_input_X8_send rfl rfl rfl (by decide +kernel) ⟨Nat.le_of_ble_eq_true rfl, Nat.le_of_ble_eq_true rfl⟩) rfl rfl hl.1 (Nat.le_of_ble_eq_true rfl) dX8_input_107 ⟨Nat.le_of_ble_eq_true rfl, Nat.le_of_ble_eq_true rfl⟩ (fun H locs w => ?_)
        refine lv_aload_n S.1 S.2.1 dX8_input_110 rfl (lv_at hl 0 rfl) ?_
        obtain ⟨x44, h45, h⟩ := xb h
        refine xr_getr S w 9 xi_X8_input_X8 rfl 4 (by decide) xl_X8_input_20 h45 dX8_input_111 ?_
        refine lv_iload_n S.1 S.2.1 dX8_input_114 rfl (lv_at hl 1 rfl) ?_
        obtain ⟨x46, h47, h⟩ := xb h
        refine xr_iald S w h47 dX8_input_115 ?_
        exact ret _ _ _ _ _ _ (h.trans (congrArg some hrr)) w dX8_input_116
    · rw [if_neg c37] at h
      refine lv_iconst (v := 0) S.1 S.2.1 dX8_input_40 (by decide) ?_
      exact ret _ _ _ _ _ _ (h.trans (congrArg some hrr)) w dX8_input_41
  rw [f_X8_input] at h
  refine lv_aload_n S.1 S.2.1 dX8_input_0 rfl (lv_at hl 0 rfl) ?_
  refine lv_aload_n S.1 S.2.1 dX8_input_1 rfl (lv_at hl 0 rfl) ?_
  refine lv_iload_n S.1 S.2.1 dX8_input_2 rfl (lv_at hl 1 rfl) ?_
  obtain ⟨_, h48, h⟩ := xb h
  obtain ⟨x50, h49, h⟩ := xb h
  refine xr_callV_i S w hA hN 9 rfl h48 (c_X8_no l D cy L g a0 a1 h49) (cwV 1 S.2.2.2.2 gX8_input_X8_no rfl rfl rfl (by decide +kernel) ⟨Nat.le_of_ble_eq_true rfl, Nat.le_of_ble_eq_true rfl⟩) rfl rfl hl.1 (Nat.le_of_ble_eq_true rfl) dX8_input_3 ⟨Nat.le_of_ble_eq_true rfl, Nat.le_of_ble_eq_true rfl⟩ (fun H locs w => ?_)
  refine lv_if_eq (tgt := 13) S.1 S.2.1 dX8_input_6 (by decide) (fun c6 => ?_) (fun c6 => ?_)
  · rw [if_pos c6] at h
    refine lv_aload_n S.1 S.2.1 dX8_input_13 rfl (lv_at hl 0 rfl) ?_
    obtain ⟨x51, h52, h⟩ := xb h
    refine xr_getr S w 9 xi_X8_input_X8 rfl 4 (by decide) xl_X8_input_20 h52 dX8_input_14 ?_
    refine lv_iload_n S.1 S.2.1 dX8_input_17 rfl (lv_at hl 1 rfl) ?_
    obtain ⟨x53, h54, h⟩ := xb h
    refine xr_iald S w h54 dX8_input_18 ?_
    refine lv_sipush (v := 148) S.1 S.2.1 dX8_input_19 (by decide) ?_
    refine lv_icmp_le (tgt := 29) S.1 S.2.1 dX8_input_22 (by decide) (fun c22 => ?_) (fun c22 => ?_)
    · rw [if_pos c22] at h
      refine lv_iconst (v := 0) S.1 S.2.1 dX8_input_29 (by decide) ?_
      exact hb30 g a0 a1 a2 a0 0 h _ _ _ w hl
    · rw [if_neg c22] at h
      refine lv_iconst (v := 2) S.1 S.2.1 dX8_input_25 (by decide) ?_
      refine lv_goto (tgt := 30) S.1 S.2.1 dX8_input_26 (by decide) ?_
      exact hb30 g a0 a1 a2 a0 2 h _ _ _ w hl
  · rw [if_neg c6] at h
    refine lv_iconst (v := 1) S.1 S.2.1 dX8_input_9 (by decide) ?_
    refine lv_goto (tgt := 30) S.1 S.2.1 dX8_input_10 (by decide) ?_
    exact hb30 g a0 a1 a2 a0 1 h _ _ _ w hl
theorem xi_X8_lie_X8 : ∀ w ∈ wsX80, w ∈ wsX8_lie := by decide +kernel
theorem xl_X8_lie_102 : Cond.fieldLink RX8 102 (TX8 0).1 (TX8 0).2.1 (TX8 0).2.2.1 ∈ wsX8_lie := by decide +kernel
theorem xl_X8_lie_20 : Cond.fieldLink RX8 20 (TX8 4).1 (TX8 4).2.1 (TX8 4).2.2.1 ∈ wsX8_lie := by decide +kernel
def f_X8_lie (g : xG) (a0 : Nat) (a1 : Int32) (a2 : Int32) (a3 : Int32) : Option (Int32 × xG) :=
  (xk g 9 a0).bind fun _ =>
  (f_X8_no g a0 a1).bind fun x3 =>
  if x3 = 0 then
    (xk g 9 a0).bind fun _ =>
    (f_X8_no g a0 a2).bind fun x17 =>
    if x17 = 0 then
      if a1 = a2 then
        (xp_i g 9 a0 0 1).bind fun g55 =>
        (xg_i g55 9 a0 0).bind fun x57 =>
        if x57 ≤ 0 then
          (xk g55 9 a0).bind fun _ =>
          (f_X8_send g55 a0 a1 a2 a3).bind fun g61 =>
          (xg_r g61 9 a0 4).bind fun x62 =>
          (xa_i 1 g61 x62 a1).bind fun x64 =>
          some (x64, g61)
        else
          some (0, g55)
      else
        (xg_r g 9 a0 4).bind fun x29 =>
        (xa_i 1 g x29 a1).bind fun x31 =>
        if x31 ≤ 148 then
          (xp_i g 9 a0 0 0).bind fun g33 =>
          (xg_i g33 9 a0 0).bind fun x35 =>
          if x35 ≤ 0 then
            (xk g33 9 a0).bind fun _ =>
            (f_X8_send g33 a0 a1 a2 a3).bind fun g39 =>
            (xg_r g39 9 a0 4).bind fun x40 =>
            (xa_i 1 g39 x40 a1).bind fun x42 =>
            some (x42, g39)
          else
            some (0, g33)
        else
          (xp_i g 9 a0 0 2).bind fun g44 =>
          (xg_i g44 9 a0 0).bind fun x46 =>
          if x46 ≤ 0 then
            (xk g44 9 a0).bind fun _ =>
            (f_X8_send g44 a0 a1 a2 a3).bind fun g50 =>
            (xg_r g50 9 a0 4).bind fun x51 =>
            (xa_i 1 g50 x51 a1).bind fun x53 =>
            some (x53, g50)
          else
            some (0, g44)
    else
      (xp_i g 9 a0 0 1).bind fun g18 =>
      (xg_i g18 9 a0 0).bind fun x20 =>
      if x20 ≤ 0 then
        (xk g18 9 a0).bind fun _ =>
        (f_X8_send g18 a0 a1 a2 a3).bind fun g24 =>
        (xg_r g24 9 a0 4).bind fun x25 =>
        (xa_i 1 g24 x25 a1).bind fun x27 =>
        some (x27, g24)
      else
        some (0, g18)
  else
    (xp_i g 9 a0 0 1).bind fun g4 =>
    (xg_i g4 9 a0 0).bind fun x6 =>
    if x6 ≤ 0 then
      (xk g4 9 a0).bind fun _ =>
      (f_X8_send g4 a0 a1 a2 a3).bind fun g10 =>
      (xg_r g10 9 a0 4).bind fun x11 =>
      (xa_i 1 g10 x11 a1).bind fun x13 =>
      some (x13, g10)
    else
      some (0, g4)
set_option maxHeartbeats 4000000 in
set_option maxRecDepth 100000 in
theorem c_X8_lie (l : Launch) (D : va_G) (cy : Nat → ClassId) (L : List Nat) (g : xG) (a0 : Nat) (a1 : Int32) (a2 : Int32) (a3 : Int32) {r1 : Int32} {g1 : xG} (h : f_X8_lie g a0 a1 a2 a3 = some (r1, g1)) : xMi l yX8_lie wsX8_lie ({ frames := 4, cells := 0, slots := 0, locals := 107 }) D cy L g [.ref a0, .int a1, .int a2, .int a3] r1 g1 := by
  refine xm_i (cc := cX8_lie) (maxL := 4) RX8 rfl rfl rfl (by decide +kernel) rfl (Nat.le_of_ble_eq_true rfl) ?_
  intro p e s m args below meth c Q A S w hA hN ret ls hl
  have hl : lv_has ls 4 [(0, .ref a0), (1, .int a1), (2, .int a2), (3, .int a3)] := hl
  rw [f_X8_lie] at h
  refine lv_aload_n S.1 S.2.1 dX8_lie_0 rfl (lv_at hl 0 rfl) ?_
  refine lv_aload_n S.1 S.2.1 dX8_lie_1 rfl (lv_at hl 0 rfl) ?_
  refine lv_iload_n S.1 S.2.1 dX8_lie_2 rfl (lv_at hl 1 rfl) ?_
  obtain ⟨_, h1, h⟩ := xb h
  obtain ⟨x3, h2, h⟩ := xb h
  refine xr_callV_i S w hA hN 9 rfl h1 (c_X8_no l D cy L g a0 a1 h2) (cwV 1 S.2.2.2.2 gX8_lie_X8_no rfl rfl rfl (by decide +kernel) ⟨Nat.le_of_ble_eq_true rfl, Nat.le_of_ble_eq_true rfl⟩) rfl rfl hl.1 (Nat.le_of_ble_eq_true rfl) dX8_lie_3 ⟨Nat.le_of_ble_eq_true rfl, Nat.le_of_ble_eq_true rfl⟩ (fun H locs w => ?_)
  refine lv_if_ne (tgt := 22) S.1 S.2.1 dX8_lie_6 (by decide) (fun c6 => ?_) (fun c6 => ?_)
  · rw [if_neg c6] at h
    refine lv_iconst (v := 1) S.1 S.2.1 dX8_lie_22 (by decide) ?_
    refine lv_goto (tgt := 43) S.1 S.2.1 dX8_lie_23 (by decide) ?_
    obtain ⟨g4, h5, h⟩ := xb h
    refine xr_puti S w 9 xi_X8_lie_X8 rfl tyX8 tyX8_ok nmX8 0 (by decide) xl_X8_lie_102 rfl (tyX8_ok 0 (by decide)) h5 dX8_lie_43 (fun H locs w => ?_)
    refine lv_aload_n S.1 S.2.1 dX8_lie_46 rfl (lv_at hl 0 rfl) ?_
    obtain ⟨x6, h7, h⟩ := xb h
    refine xr_geti S w 9 xi_X8_lie_X8 rfl 0 (by decide) xl_X8_lie_102 h7 dX8_lie_47 ?_
    refine lv_if_le (tgt := 55) S.1 S.2.1 dX8_lie_50 (by decide) (fun c50 => ?_) (fun c50 => ?_)
    · rw [if_pos c50] at h
      refine lv_aload_n S.1 S.2.1 dX8_lie_55 rfl (lv_at hl 0 rfl) ?_
      refine lv_iload_n S.1 S.2.1 dX8_lie_56 rfl (lv_at hl 1 rfl) ?_
      refine lv_iload_n S.1 S.2.1 dX8_lie_57 rfl (lv_at hl 2 rfl) ?_
      refine lv_iload_n S.1 S.2.1 dX8_lie_58 rfl (lv_at hl 3 rfl) ?_
      obtain ⟨_, h8, h⟩ := xb h
      obtain ⟨g10, h9, h⟩ := xb h
      refine xr_callV_v S w hA hN 9 rfl h8 (c_X8_send l D cy L g4 a0 a1 a2 a3 h9) (cwV 3 S.2.2.2.2 gX8_lie_X8_send rfl rfl rfl (by decide +kernel) ⟨Nat.le_of_ble_eq_true rfl, Nat.le_of_ble_eq_true rfl⟩) rfl rfl hl.1 (Nat.le_of_ble_eq_true rfl) dX8_lie_59 ⟨Nat.le_of_ble_eq_true rfl, Nat.le_of_ble_eq_true rfl⟩ (fun H locs w => ?_)
      refine lv_aload_n S.1 S.2.1 dX8_lie_62 rfl (lv_at hl 0 rfl) ?_
      obtain ⟨x11, h12, h⟩ := xb h
      refine xr_getr S w 9 xi_X8_lie_X8 rfl 4 (by decide) xl_X8_lie_20 h12 dX8_lie_63 ?_
      refine lv_iload_n S.1 S.2.1 dX8_lie_66 rfl (lv_at hl 1 rfl) ?_
      obtain ⟨x13, h14, h⟩ := xb h
      refine xr_iald S w h14 dX8_lie_67 ?_
      exact ret _ _ _ _ _ _ h w dX8_lie_68
    · rw [if_neg c50] at h
      refine lv_iconst (v := 0) S.1 S.2.1 dX8_lie_53 (by decide) ?_
      exact ret _ _ _ _ _ _ h w dX8_lie_54
  · rw [if_pos c6] at h
    refine lv_aload_n S.1 S.2.1 dX8_lie_9 rfl (lv_at hl 0 rfl) ?_
    refine lv_iload_n S.1 S.2.1 dX8_lie_10 rfl (lv_at hl 2 rfl) ?_
    obtain ⟨_, h15, h⟩ := xb h
    obtain ⟨x17, h16, h⟩ := xb h
    refine xr_callV_i S w hA hN 9 rfl h15 (c_X8_no l D cy L g a0 a2 h16) (cwV 1 S.2.2.2.2 gX8_lie_X8_no rfl rfl rfl (by decide +kernel) ⟨Nat.le_of_ble_eq_true rfl, Nat.le_of_ble_eq_true rfl⟩) rfl rfl hl.1 (Nat.le_of_ble_eq_true rfl) dX8_lie_11 ⟨Nat.le_of_ble_eq_true rfl, Nat.le_of_ble_eq_true rfl⟩ (fun H locs w => ?_)
    refine lv_if_ne (tgt := 22) S.1 S.2.1 dX8_lie_14 (by decide) (fun c14 => ?_) (fun c14 => ?_)
    · rw [if_neg c14] at h
      refine lv_iconst (v := 1) S.1 S.2.1 dX8_lie_22 (by decide) ?_
      refine lv_goto (tgt := 43) S.1 S.2.1 dX8_lie_23 (by decide) ?_
      obtain ⟨g18, h19, h⟩ := xb h
      refine xr_puti S w 9 xi_X8_lie_X8 rfl tyX8 tyX8_ok nmX8 0 (by decide) xl_X8_lie_102 rfl (tyX8_ok 0 (by decide)) h19 dX8_lie_43 (fun H locs w => ?_)
      refine lv_aload_n S.1 S.2.1 dX8_lie_46 rfl (lv_at hl 0 rfl) ?_
      obtain ⟨x20, h21, h⟩ := xb h
      refine xr_geti S w 9 xi_X8_lie_X8 rfl 0 (by decide) xl_X8_lie_102 h21 dX8_lie_47 ?_
      refine lv_if_le (tgt := 55) S.1 S.2.1 dX8_lie_50 (by decide) (fun c50 => ?_) (fun c50 => ?_)
      · rw [if_pos c50] at h
        refine lv_aload_n S.1 S.2.1 dX8_lie_55 rfl (lv_at hl 0 rfl) ?_
        refine lv_iload_n S.1 S.2.1 dX8_lie_56 rfl (lv_at hl 1 rfl) ?_
        refine lv_iload_n S.1 S.2.1 dX8_lie_57 rfl (lv_at hl 2 rfl) ?_
        refine lv_iload_n S.1 S.2.1 dX8_lie_58 rfl (lv_at hl 3 rfl) ?_
        obtain ⟨_, h22, h⟩ := xb h
        obtain ⟨g24, h23, h⟩ := xb h
        refine xr_callV_v S w hA hN 9 rfl h22 (c_X8_send l D cy L g18 a0 a1 a2 a3 h23) (cwV 3 S.2.2.2.2 gX8_lie_X8_send rfl rfl rfl (by decide +kernel) ⟨Nat.le_of_ble_eq_true rfl, Nat.le_of_ble_eq_true rfl⟩) rfl rfl hl.1 (Nat.le_of_ble_eq_true rfl) dX8_lie_59 ⟨Nat.le_of_ble_eq_true rfl, Nat.le_of_ble_eq_true rfl⟩ (fun H locs w => ?_)
        refine lv_aload_n S.1 S.2.1 dX8_lie_62 rfl (lv_at hl 0 rfl) ?_
        obtain ⟨x25, h26, h⟩ := xb h
        refine xr_getr S w 9 xi_X8_lie_X8 rfl 4 (by decide) xl_X8_lie_20 h26 dX8_lie_63 ?_
        refine lv_iload_n S.1 S.2.1 dX8_lie_66 rfl (lv_at hl 1 rfl) ?_
        obtain ⟨x27, h28, h⟩ := xb h
        refine xr_iald S w h28 dX8_lie_67 ?_
        exact ret _ _ _ _ _ _ h w dX8_lie_68
      · rw [if_neg c50] at h
        refine lv_iconst (v := 0) S.1 S.2.1 dX8_lie_53 (by decide) ?_
        exact ret _ _ _ _ _ _ h w dX8_lie_54
    · rw [if_pos c14] at h
      refine lv_iload_n S.1 S.2.1 dX8_lie_17 rfl (lv_at hl 1 rfl) ?_
      refine lv_iload_n S.1 S.2.1 dX8_lie_18 rfl (lv_at hl 2 rfl) ?_
      refine lv_icmp_ne (tgt := 26) S.1 S.2.1 dX8_lie_19 (by decide) (fun c19 => ?_) (fun c19 => ?_)
      · rw [if_neg c19] at h
        refine lv_aload_n S.1 S.2.1 dX8_lie_26 rfl (lv_at hl 0 rfl) ?_
        obtain ⟨x29, h30, h⟩ := xb h
        refine xr_getr S w 9 xi_X8_lie_X8 rfl 4 (by decide) xl_X8_lie_20 h30 dX8_lie_27 ?_
        refine lv_iload_n S.1 S.2.1 dX8_lie_30 rfl (lv_at hl 1 rfl) ?_
        obtain ⟨x31, h32, h⟩ := xb h
        refine xr_iald S w h32 dX8_lie_31 ?_
        refine lv_sipush (v := 148) S.1 S.2.1 dX8_lie_32 (by decide) ?_
        refine lv_icmp_le (tgt := 42) S.1 S.2.1 dX8_lie_35 (by decide) (fun c35 => ?_) (fun c35 => ?_)
        · rw [if_pos c35] at h
          refine lv_iconst (v := 0) S.1 S.2.1 dX8_lie_42 (by decide) ?_
          obtain ⟨g33, h34, h⟩ := xb h
          refine xr_puti S w 9 xi_X8_lie_X8 rfl tyX8 tyX8_ok nmX8 0 (by decide) xl_X8_lie_102 rfl (tyX8_ok 0 (by decide)) h34 dX8_lie_43 (fun H locs w => ?_)
          refine lv_aload_n S.1 S.2.1 dX8_lie_46 rfl (lv_at hl 0 rfl) ?_
          obtain ⟨x35, h36, h⟩ := xb h
          refine xr_geti S w 9 xi_X8_lie_X8 rfl 0 (by decide) xl_X8_lie_102 h36 dX8_lie_47 ?_
          refine lv_if_le (tgt := 55) S.1 S.2.1 dX8_lie_50 (by decide) (fun c50 => ?_) (fun c50 => ?_)
          · rw [if_pos c50] at h
            refine lv_aload_n S.1 S.2.1 dX8_lie_55 rfl (lv_at hl 0 rfl) ?_
            refine lv_iload_n S.1 S.2.1 dX8_lie_56 rfl (lv_at hl 1 rfl) ?_
            refine lv_iload_n S.1 S.2.1 dX8_lie_57 rfl (lv_at hl 2 rfl) ?_
            refine lv_iload_n S.1 S.2.1 dX8_lie_58 rfl (lv_at hl 3 rfl) ?_
            obtain ⟨_, h37, h⟩ := xb h
            obtain ⟨g39, h38, h⟩ := xb h
            refine xr_callV_v S w hA hN 9 rfl h37 (c_X8_send l D cy L g33 a0 a1 a2 a3 h38) (cwV 3 S.2.2.2.2 gX8_lie_X8_send rfl rfl rfl (by decide +kernel) ⟨Nat.le_of_ble_eq_true rfl, Nat.le_of_ble_eq_true rfl⟩) rfl rfl hl.1 (Nat.le_of_ble_eq_true rfl) dX8_lie_59 ⟨Nat.le_of_ble_eq_true rfl, Nat.le_of_ble_eq_true rfl⟩ (fun H locs w => ?_)
            refine lv_aload_n S.1 S.2.1 dX8_lie_62 rfl (lv_at hl 0 rfl) ?_
            obtain ⟨x40, h41, h⟩ := xb h
            refine xr_getr S w 9 xi_X8_lie_X8 rfl 4 (by decide) xl_X8_lie_20 h41 dX8_lie_63 ?_
            refine lv_iload_n S.1 S.2.1 dX8_lie_66 rfl (lv_at hl 1 rfl) ?_
            obtain ⟨x42, h43, h⟩ := xb h
            refine xr_iald S w h43 dX8_lie_67 ?_
            exact ret _ _ _ _ _ _ h w dX8_lie_68
          · rw [if_neg c50] at h
            refine lv_iconst (v := 0) S.1 S.2.1 dX8_lie_53 (by decide) ?_
            exact ret _ _ _ _ _ _ h w dX8_lie_54
        · rw [if_neg c35] at h
          refine lv_iconst (v := 2) S.1 S.2.1 dX8_lie_38 (by decide) ?_
          refine lv_goto (tgt := 43) S.1 S.2.1 dX8_lie_39 (by decide) ?_
          obtain ⟨g44, h45, h⟩ := xb h
          refine xr_puti S w 9 xi_X8_lie_X8 rfl tyX8 tyX8_ok nmX8 0 (by decide) xl_X8_lie_102 rfl (tyX8_ok 0 (by decide)) h45 dX8_lie_43 (fun H locs w => ?_)
          refine lv_aload_n S.1 S.2.1 dX8_lie_46 rfl (lv_at hl 0 rfl) ?_
          obtain ⟨x46, h47, h⟩ := xb h
          refine xr_geti S w 9 xi_X8_lie_X8 rfl 0 (by decide) xl_X8_lie_102 h47 dX8_lie_47 ?_
          refine lv_if_le (tgt := 55) S.1 S.2.1 dX8_lie_50 (by decide) (fun c50 => ?_) (fun c50 => ?_)
          · rw [if_pos c50] at h
            refine lv_aload_n S.1 S.2.1 dX8_lie_55 rfl (lv_at hl 0 rfl) ?_
            refine lv_iload_n S.1 S.2.1 dX8_lie_56 rfl (lv_at hl 1 rfl) ?_
            refine lv_iload_n S.1 S.2.1 dX8_lie_57 rfl (lv_at hl 2 rfl) ?_
            refine lv_iload_n S.1 S.2.1 dX8_lie_58 rfl (lv_at hl 3 rfl) ?_
            obtain ⟨_, h48, h⟩ := xb h
            obtain ⟨g50, h49, h⟩ := xb h
            refine xr_callV_v S w hA hN 9 rfl h48 (c_X8_send l D cy L g44 a0 a1 a2 a3 h49) (cwV 3 S.2.2.2.2 gX8_lie_X8_send rfl rfl rfl (by decide +kernel) ⟨Nat.le_of_ble_eq_true rfl, Nat.le_of_ble_eq_true rfl⟩) rfl rfl hl.1 (Nat.le_of_ble_eq_true rfl) dX8_lie_59 ⟨Nat.le_of_ble_eq_true rfl, Nat.le_of_ble_eq_true rfl⟩ (fun H locs w => ?_)
            refine lv_aload_n S.1 S.2.1 dX8_lie_62 rfl (lv_at hl 0 rfl) ?_
            obtain ⟨x51, h52, h⟩ := xb h
            refine xr_getr S w 9 xi_X8_lie_X8 rfl 4 (by decide) xl_X8_lie_20 h52 dX8_lie_63 ?_
            refine lv_iload_n S.1 S.2.1 dX8_lie_66 rfl (lv_at hl 1 rfl) ?_
            obtain ⟨x53, h54, h⟩ := xb h
            refine xr_iald S w h54 dX8_lie_67 ?_
            exact ret _ _ _ _ _ _ h w dX8_lie_68
          · rw [if_neg c50] at h
            refine lv_iconst (v := 0) S.1 S.2.1 dX8_lie_53 (by decide) ?_
            exact ret _ _ _ _ _ _ h w dX8_lie_54
      · rw [if_pos c19] at h
        refine lv_iconst (v := 1) S.1 S.2.1 dX8_lie_22 (by decide) ?_
        refine lv_goto (tgt := 43) S.1 S.2.1 dX8_lie_23 (by decide) ?_
        obtain ⟨g55, h56, h⟩ := xb h
        refine xr_puti S w 9 xi_X8_lie_X8 rfl tyX8 tyX8_ok nmX8 0 (by decide) xl_X8_lie_102 rfl (tyX8_ok 0 (by decide)) h56 dX8_lie_43 (fun H locs w => ?_)
        refine lv_aload_n S.1 S.2.1 dX8_lie_46 rfl (lv_at hl 0 rfl) ?_
        obtain ⟨x57, h58, h⟩ := xb h
        refine xr_geti S w 9 xi_X8_lie_X8 rfl 0 (by decide) xl_X8_lie_102 h58 dX8_lie_47 ?_
        refine lv_if_le (tgt := 55) S.1 S.2.1 dX8_lie_50 (by decide) (fun c50 => ?_) (fun c50 => ?_)
        · rw [if_pos c50] at h
          refine lv_aload_n S.1 S.2.1 dX8_lie_55 rfl (lv_at hl 0 rfl) ?_
          refine lv_iload_n S.1 S.2.1 dX8_lie_56 rfl (lv_at hl 1 rfl) ?_
          refine lv_iload_n S.1 S.2.1 dX8_lie_57 rfl (lv_at hl 2 rfl) ?_
          refine lv_iload_n S.1 S.2.1 dX8_lie_58 rfl (lv_at hl 3 rfl) ?_
          obtain ⟨_, h59, h⟩ := xb h
          obtain ⟨g61, h60, h⟩ := xb h
          refine xr_callV_v S w hA hN 9 rfl h59 (c_X8_send l D cy L g55 a0 a1 a2 a3 h60) (cwV 3 S.2.2.2.2 gX8_lie_X8_send rfl rfl rfl (by decide +kernel) ⟨Nat.le_of_ble_eq_true rfl, Nat.le_of_ble_eq_true rfl⟩) rfl rfl hl.1 (Nat.le_of_ble_eq_true rfl) dX8_lie_59 ⟨Nat.le_of_ble_eq_true rfl, Nat.le_of_ble_eq_true rfl⟩ (fun H locs w => ?_)
          refine lv_aload_n S.1 S.2.1 dX8_lie_62 rfl (lv_at hl 0 rfl) ?_
          obtain ⟨x62, h63, h⟩ := xb h
          refine xr_getr S w 9 xi_X8_lie_X8 rfl 4 (by decide) xl_X8_lie_20 h63 dX8_lie_63 ?_
          refine lv_iload_n S.1 S.2.1 dX8_lie_66 rfl (lv_at hl 1 rfl) ?_
          obtain ⟨x64, h65, h⟩ := xb h
          refine xr_iald S w h65 dX8_lie_67 ?_
          exact ret _ _ _ _ _ _ h w dX8_lie_68
        · rw [if_neg c50] at h
          refine lv_iconst (v := 0) S.1 S.2.1 dX8_lie_53 (by decide) ?_
          exact ret _ _ _ _ _ _ h w dX8_lie_54
theorem xi_X8_take_X8 : ∀ w ∈ wsX80, w ∈ wsX8_take := by decide +kernel
theorem xl_X8_take_105 : Cond.fieldLink RX8 105 (TX8 10).1 (TX8 10).2.1 (TX8 10).2.2.1 ∈ wsX8_take := by decide +kernel
theorem xl_X8_take_39 : Cond.fieldLink RX8 39 (TX8 12).1 (TX8 12).2.1 (TX8 12).2.2.1 ∈ wsX8_take := by decide +kernel
theorem xl_X8_take_42 : Cond.fieldLink RX8 42 (TX8 13).1 (TX8 13).2.1 (TX8 13).2.2.1 ∈ wsX8_take := by decide +kernel
theorem xl_X8_take_45 : Cond.fieldLink RX8 45 (TX8 14).1 (TX8 14).2.1 (TX8 14).2.2.1 ∈ wsX8_take := by decide +kernel
theorem xl_X8_take_48 : Cond.fieldLink RX8 48 (TX8 15).1 (TX8 15).2.1 (TX8 15).2.2.1 ∈ wsX8_take := by decide +kernel
theorem xl_X8_take_51 : Cond.fieldLink RX8 51 (TX8 16).1 (TX8 16).2.1 (TX8 16).2.2.1 ∈ wsX8_take := by decide +kernel
theorem xl_X8_take_54 : Cond.fieldLink RX8 54 (TX8 17).1 (TX8 17).2.1 (TX8 17).2.2.1 ∈ wsX8_take := by decide +kernel
theorem xl_X8_take_58 : Cond.fieldLink RX8 58 (TX8 18).1 (TX8 18).2.1 (TX8 18).2.2.1 ∈ wsX8_take := by decide +kernel
def f_X8_take_2 : Nat → xG → Nat → Int32 → Option xG
  | 0, _, _, _ => none
  | n9 + 1, g, v0, v2 =>
  (xg_i g 9 v0 10).bind fun x1 =>
  if x1 ≤ (v2 + 1) then
    (xg_i g 9 v0 10).bind fun x3 =>
    (xp_i g 9 v0 10 (x3 - 1)).bind fun g5 =>
    some g5
  else
    (xg_r g 9 v0 12).bind fun x7 =>
    (xg_r g 9 v0 12).bind fun x9 =>
    (xa_i 1 g x9 (v2 + 1)).bind fun x11 =>
    (xs_i 1 g x7 v2 x11).bind fun g13 =>
    (xg_r g13 9 v0 13).bind fun x15 =>
    (xg_r g13 9 v0 13).bind fun x17 =>
    (xa_i 1 g13 x17 (v2 + 1)).bind fun x19 =>
    (xs_i 1 g13 x15 v2 x19).bind fun g21 =>
    (xg_r g21 9 v0 14).bind fun x23 =>
    (xg_r g21 9 v0 14).bind fun x25 =>
    (xa_i 1 g21 x25 (v2 + 1)).bind fun x27 =>
    (xs_i 1 g21 x23 v2 x27).bind fun g29 =>
    (xg_r g29 9 v0 15).bind fun x31 =>
    (xg_r g29 9 v0 15).bind fun x33 =>
    (xa_i 1 g29 x33 (v2 + 1)).bind fun x35 =>
    (xs_i 1 g29 x31 v2 x35).bind fun g37 =>
    (xg_r g37 9 v0 16).bind fun x39 =>
    (xg_r g37 9 v0 16).bind fun x41 =>
    (xa_i 1 g37 x41 (v2 + 1)).bind fun x43 =>
    (xs_i 1 g37 x39 v2 x43).bind fun g45 =>
    (xg_r g45 9 v0 17).bind fun x47 =>
    (xg_r g45 9 v0 17).bind fun x49 =>
    (xa_l g45 x49 (v2 + 1)).bind fun x51 =>
    (xs_l g45 x47 v2 x51).bind fun g53 =>
    (xg_r g53 9 v0 18).bind fun x55 =>
    (xg_r g53 9 v0 18).bind fun x57 =>
    (xa_l g53 x57 (v2 + 1)).bind fun x59 =>
    (xs_l g53 x55 v2 x59).bind fun g61 =>
    f_X8_take_2 n9 g61 v0 (v2 + 1)
def f_X8_take (g : xG) (a0 : Nat) (a1 : Int32) : Option xG :=
  f_X8_take_2 xFU g a0 a1
set_option maxHeartbeats 4000000 in
set_option maxRecDepth 100000 in
theorem c_X8_take (l : Launch) (D : va_G) (cy : Nat → ClassId) (L : List Nat) (g : xG) (a0 : Nat) (a1 : Int32) {g1 : xG} (h : f_X8_take g a0 a1 = some g1) : xMv l yX8_take wsX8_take ({ frames := 0, cells := 0, slots := 0, locals := 0 }) D cy L g [.ref a0, .int a1] g1 := by
  refine xm_v (cc := cX8_take) (maxL := 3) RX8 rfl rfl rfl (by decide +kernel) rfl (Nat.le_of_ble_eq_true rfl) ?_
  intro p e s m args below meth c Q A S w hA hN ret ls hl
  have hl : lv_has ls 3 [(0, .ref a0), (1, .int a1)] := hl
  obtain ⟨rr, hrr⟩ : ∃ z, z = g1 := ⟨_, rfl⟩
  rw [← hrr] at h
  have hb2 : ∀ (n9 : Nat), ∀ (g : xG) (v0 : Nat) (v2 : Int32) , f_X8_take_2 n9 g v0 v2 = some rr → ∀ (H : Heap) (locs : List Loc) (ls : Array Slot), xOK D cy A s.heap s L g H locs → lv_has ls 3 [(0, .ref v0), (2, .int v2)] → W p l e { frames := 0, cells := 0, slots := 0, locals := 0 } s m args below meth c H locs 0 0 Q (F0 m 2 ls []) := by
    intro n9
    induction n9 with
    | zero => intro g v0 v2 h; cases h
    | succ n9 ih =>
      intro g v0 v2 h H locs ls w hl
      rw [f_X8_take_2] at h
      refine lv_iload_n S.1 S.2.1 dX8_take_2 rfl (lv_at hl 1 rfl) ?_
      refine lv_iconst (v := 1) S.1 S.2.1 dX8_take_3 (by decide) ?_
      refine lv_iadd S.1 S.2.1 dX8_take_4 ?_
      refine lv_aload_n S.1 S.2.1 dX8_take_5 rfl (lv_at hl 0 rfl) ?_
      obtain ⟨x1, h2, h⟩ := xb h
      refine xr_geti S w 9 xi_X8_take_X8 rfl 10 (by decide) xl_X8_take_105 h2 dX8_take_6 ?_
      refine lv_icmp_ge (tgt := 116) S.1 S.2.1 dX8_take_9 (by decide) (fun c9 => ?_) (fun c9 => ?_)
      · rw [if_pos c9] at h
        refine lv_aload_n S.1 S.2.1 dX8_take_116 rfl (lv_at hl 0 rfl) ?_
        refine lv_dup S.1 S.2.1 dX8_take_117 rfl ?_
        obtain ⟨x3, h4, h⟩ := xb h
        refine xr_geti S w 9 xi_X8_take_X8 rfl 10 (by decide) xl_X8_take_105 h4 dX8_take_118 ?_
        refine lv_iconst (v := 1) S.1 S.2.1 dX8_take_121 (by decide) ?_
        refine lv_isub S.1 S.2.1 dX8_take_122 ?_
        obtain ⟨g5, h6, h⟩ := xb h
        refine xr_puti S w 9 xi_X8_take_X8 rfl tyX8 tyX8_ok nmX8 10 (by decide) xl_X8_take_105 rfl (tyX8_ok 10 (by decide)) h6 dX8_take_123 (fun H locs w => ?_)
        exact ret _ _ _ _ _ (h.trans (congrArg some hrr)) w dX8_take_126
      · rw [if_neg c9] at h
        refine lv_aload_n S.1 S.2.1 dX8_take_12 rfl (lv_at hl 0 rfl) ?_
        obtain ⟨x7, h8, h⟩ := xb h
        refine xr_getr S w 9 xi_X8_take_X8 rfl 12 (by decide) xl_X8_take_39 h8 dX8_take_13 ?_
        refine lv_iload_n S.1 S.2.1 dX8_take_16 rfl (lv_at hl 1 rfl) ?_
        refine lv_aload_n S.1 S.2.1 dX8_take_17 rfl (lv_at hl 0 rfl) ?_
        obtain ⟨x9, h10, h⟩ := xb h
        refine xr_getr S w 9 xi_X8_take_X8 rfl 12 (by decide) xl_X8_take_39 h10 dX8_take_18 ?_
        refine lv_iload_n S.1 S.2.1 dX8_take_21 rfl (lv_at hl 1 rfl) ?_
        refine lv_iconst (v := 1) S.1 S.2.1 dX8_take_22 (by decide) ?_
        refine lv_iadd S.1 S.2.1 dX8_take_23 ?_
        obtain ⟨x11, h12, h⟩ := xb h
        refine xr_iald S w h12 dX8_take_24 ?_
        obtain ⟨g13, h14, h⟩ := xb h
        refine xr_iast S w h14 dX8_take_25 (fun H locs w => ?_)
        refine lv_aload_n S.1 S.2.1 dX8_take_26 rfl (lv_at hl 0 rfl) ?_
        obtain ⟨x15, h16, h⟩ := xb h
        refine xr_getr S w 9 xi_X8_take_X8 rfl 13 (by decide) xl_X8_take_42 h16 dX8_take_27 ?_
        refine lv_iload_n S.1 S.2.1 dX8_take_30 rfl (lv_at hl 1 rfl) ?_
        refine lv_aload_n S.1 S.2.1 dX8_take_31 rfl (lv_at hl 0 rfl) ?_
        obtain ⟨x17, h18, h⟩ := xb h
        refine xr_getr S w 9 xi_X8_take_X8 rfl 13 (by decide) xl_X8_take_42 h18 dX8_take_32 ?_
        refine lv_iload_n S.1 S.2.1 dX8_take_35 rfl (lv_at hl 1 rfl) ?_
        refine lv_iconst (v := 1) S.1 S.2.1 dX8_take_36 (by decide) ?_
        refine lv_iadd S.1 S.2.1 dX8_take_37 ?_
        obtain ⟨x19, h20, h⟩ := xb h
        refine xr_iald S w h20 dX8_take_38 ?_
        obtain ⟨g21, h22, h⟩ := xb h
        refine xr_iast S w h22 dX8_take_39 (fun H locs w => ?_)
        refine lv_aload_n S.1 S.2.1 dX8_take_40 rfl (lv_at hl 0 rfl) ?_
        obtain ⟨x23, h24, h⟩ := xb h
        refine xr_getr S w 9 xi_X8_take_X8 rfl 14 (by decide) xl_X8_take_45 h24 dX8_take_41 ?_
        refine lv_iload_n S.1 S.2.1 dX8_take_44 rfl (lv_at hl 1 rfl) ?_
        refine lv_aload_n S.1 S.2.1 dX8_take_45 rfl (lv_at hl 0 rfl) ?_
        obtain ⟨x25, h26, h⟩ := xb h
        refine xr_getr S w 9 xi_X8_take_X8 rfl 14 (by decide) xl_X8_take_45 h26 dX8_take_46 ?_
        refine lv_iload_n S.1 S.2.1 dX8_take_49 rfl (lv_at hl 1 rfl) ?_
        refine lv_iconst (v := 1) S.1 S.2.1 dX8_take_50 (by decide) ?_
        refine lv_iadd S.1 S.2.1 dX8_take_51 ?_
        obtain ⟨x27, h28, h⟩ := xb h
        refine xr_iald S w h28 dX8_take_52 ?_
        obtain ⟨g29, h30, h⟩ := xb h
        refine xr_iast S w h30 dX8_take_53 (fun H locs w => ?_)
        refine lv_aload_n S.1 S.2.1 dX8_take_54 rfl (lv_at hl 0 rfl) ?_
        obtain ⟨x31, h32, h⟩ := xb h
        refine xr_getr S w 9 xi_X8_take_X8 rfl 15 (by decide) xl_X8_take_48 h32 dX8_take_55 ?_
        refine lv_iload_n S.1 S.2.1 dX8_take_58 rfl (lv_at hl 1 rfl) ?_
        refine lv_aload_n S.1 S.2.1 dX8_take_59 rfl (lv_at hl 0 rfl) ?_
        obtain ⟨x33, h34, h⟩ := xb h
        refine xr_getr S w 9 xi_X8_take_X8 rfl 15 (by decide) xl_X8_take_48 h34 dX8_take_60 ?_
        refine lv_iload_n S.1 S.2.1 dX8_take_63 rfl (lv_at hl 1 rfl) ?_
        refine lv_iconst (v := 1) S.1 S.2.1 dX8_take_64 (by decide) ?_
        refine lv_iadd S.1 S.2.1 dX8_take_65 ?_
        obtain ⟨x35, h36, h⟩ := xb h
        refine xr_iald S w h36 dX8_take_66 ?_
        obtain ⟨g37, h38, h⟩ := xb h
        refine xr_iast S w h38 dX8_take_67 (fun H locs w => ?_)
        refine lv_aload_n S.1 S.2.1 dX8_take_68 rfl (lv_at hl 0 rfl) ?_
        obtain ⟨x39, h40, h⟩ := xb h
        refine xr_getr S w 9 xi_X8_take_X8 rfl 16 (by decide) xl_X8_take_51 h40 dX8_take_69 ?_
        refine lv_iload_n S.1 S.2.1 dX8_take_72 rfl (lv_at hl 1 rfl) ?_
        refine lv_aload_n S.1 S.2.1 dX8_take_73 rfl (lv_at hl 0 rfl) ?_
        obtain ⟨x41, h42, h⟩ := xb h
        refine xr_getr S w 9 xi_X8_take_X8 rfl 16 (by decide) xl_X8_take_51 h42 dX8_take_74 ?_
        refine lv_iload_n S.1 S.2.1 dX8_take_77 rfl (lv_at hl 1 rfl) ?_
        refine lv_iconst (v := 1) S.1 S.2.1 dX8_take_78 (by decide) ?_
        refine lv_iadd S.1 S.2.1 dX8_take_79 ?_
        obtain ⟨x43, h44, h⟩ := xb h
        refine xr_iald S w h44 dX8_take_80 ?_
        obtain ⟨g45, h46, h⟩ := xb h
        refine xr_iast S w h46 dX8_take_81 (fun H locs w => ?_)
        refine lv_aload_n S.1 S.2.1 dX8_take_82 rfl (lv_at hl 0 rfl) ?_
        obtain ⟨x47, h48, h⟩ := xb h
        refine xr_getr S w 9 xi_X8_take_X8 rfl 17 (by decide) xl_X8_take_54 h48 dX8_take_83 ?_
        refine lv_iload_n S.1 S.2.1 dX8_take_86 rfl (lv_at hl 1 rfl) ?_
        refine lv_aload_n S.1 S.2.1 dX8_take_87 rfl (lv_at hl 0 rfl) ?_
        obtain ⟨x49, h50, h⟩ := xb h
        refine xr_getr S w 9 xi_X8_take_X8 rfl 17 (by decide) xl_X8_take_54 h50 dX8_take_88 ?_
        refine lv_iload_n S.1 S.2.1 dX8_take_91 rfl (lv_at hl 1 rfl) ?_
        refine lv_iconst (v := 1) S.1 S.2.1 dX8_take_92 (by decide) ?_
        refine lv_iadd S.1 S.2.1 dX8_take_93 ?_
        obtain ⟨x51, h52, h⟩ := xb h
        refine xr_lald S w h52 dX8_take_94 ?_
        obtain ⟨g53, h54, h⟩ := xb h
        refine xr_last S w h54 dX8_take_95 (fun H locs w => ?_)
        refine lv_aload_n S.1 S.2.1 dX8_take_96 rfl (lv_at hl 0 rfl) ?_
        obtain ⟨x55, h56, h⟩ := xb h
        refine xr_getr S w 9 xi_X8_take_X8 rfl 18 (by decide) xl_X8_take_58 h56 dX8_take_97 ?_
        refine lv_iload_n S.1 S.2.1 dX8_take_100 rfl (lv_at hl 1 rfl) ?_
        refine lv_aload_n S.1 S.2.1 dX8_take_101 rfl (lv_at hl 0 rfl) ?_
        obtain ⟨x57, h58, h⟩ := xb h
        refine xr_getr S w 9 xi_X8_take_X8 rfl 18 (by decide) xl_X8_take_58 h58 dX8_take_102 ?_
        refine lv_iload_n S.1 S.2.1 dX8_take_105 rfl (lv_at hl 1 rfl) ?_
        refine lv_iconst (v := 1) S.1 S.2.1 dX8_take_106 (by decide) ?_
        refine lv_iadd S.1 S.2.1 dX8_take_107 ?_
        obtain ⟨x59, h60, h⟩ := xb h
        refine xr_lald S w h60 dX8_take_108 ?_
        obtain ⟨g61, h62, h⟩ := xb h
        refine xr_last S w h62 dX8_take_109 (fun H locs w => ?_)
        refine lv_iinc (v := (v2 + 1)) (lv' := [(2, .int (v2 + 1)), (0, .ref v0)]) S.1 S.2.1 dX8_take_110 hl (k := 1) rfl rfl (by decide) rfl (fun ls hl => ?_)
        refine lv_goto (tgt := 2) S.1 S.2.1 dX8_take_113 (by decide) ?_
        exact ih g61 v0 (v2 + 1) h _ _ _ w (lv_sub hl [1, 0] rfl)
  rw [f_X8_take] at h
  refine lv_iload_n S.1 S.2.1 dX8_take_0 rfl (lv_at hl 1 rfl) ?_
  refine lv_istore_n (lv' := [(2, .int a1), (0, .ref a0), (1, .int a1)]) S.1 S.2.1 dX8_take_1 rfl hl (by decide) rfl (fun ls hl => ?_)
  exact hb2 xFU g a0 a1 h _ _ _ w (lv_sub hl [1, 0] rfl)
theorem xi_X8_isKept_X8 : ∀ w ∈ wsX80, w ∈ wsX8_isKept := by decide +kernel
theorem xl_X8_isKept_70 : Cond.fieldLink RX8 70 (TX8 23).1 (TX8 23).2.1 (TX8 23).2.2.1 ∈ wsX8_isKept := by decide +kernel
theorem xl_X8_isKept_73 : Cond.fieldLink RX8 73 (TX8 24).1 (TX8 24).2.1 (TX8 24).2.2.1 ∈ wsX8_isKept := by decide +kernel
theorem xl_X8_isKept_76 : Cond.fieldLink RX8 76 (TX8 25).1 (TX8 25).2.1 (TX8 25).2.2.1 ∈ wsX8_isKept := by decide +kernel
theorem xl_X8_isKept_79 : Cond.fieldLink RX8 79 (TX8 26).1 (TX8 26).2.1 (TX8 26).2.2.1 ∈ wsX8_isKept := by decide +kernel
def f_X8_isKept_3 : Nat → xG → Nat → Int32 → Int32 → Int32 → Int64 → Int32 → Option Int32
  | 0, _, _, _, _, _, _, _ => none
  | n9 + 1, g, v0, v1, v2, v3, v4, v6 =>
  (xg_r g 9 v0 23).bind fun x1 =>
  (xa_i 1 g x1 v1).bind fun x3 =>
  if x3 ≤ v6 then
    some 0
  else
    (xg_r g 9 v0 24).bind fun x5 =>
    (xa_i 1 g x5 ((300 * v1) + v6)).bind fun x7 =>
    if x7 = v2 then
      (xg_r g 9 v0 25).bind fun x9 =>
      (xa_i 1 g x9 ((300 * v1) + v6)).bind fun x11 =>
      if x11 = v3 then
        (xg_r g 9 v0 26).bind fun x13 =>
        (xa_l g x13 ((300 * v1) + v6)).bind fun x15 =>
        if x15 = v4 then
          some 1
        else
          f_X8_isKept_3 n9 g v0 v1 v2 v3 v4 (v6 + 1)
      else
        f_X8_isKept_3 n9 g v0 v1 v2 v3 v4 (v6 + 1)
    else
      f_X8_isKept_3 n9 g v0 v1 v2 v3 v4 (v6 + 1)
def f_X8_isKept (g : xG) (a0 : Nat) (a1 : Int32) (a2 : Int32) (a3 : Int32) (a4 : Int64) : Option Int32 :=
  f_X8_isKept_3 xFU g a0 a1 a2 a3 a4 0
set_option maxHeartbeats 4000000 in
set_option maxRecDepth 100000 in
theorem c_X8_isKept (l : Launch) (D : va_G) (cy : Nat → ClassId) (L : List Nat) (g : xG) (a0 : Nat) (a1 : Int32) (a2 : Int32) (a3 : Int32) (a4 : Int64) {r1 : Int32} (h : f_X8_isKept g a0 a1 a2 a3 a4 = some r1) : xMi l yX8_isKept wsX8_isKept ({ frames := 0, cells := 0, slots := 0, locals := 0 }) D cy L g [.ref a0, .int a1, .int a2, .int a3, .long a4] r1 g := by
  refine xm_z (cc := cX8_isKept) (maxL := 8) RX8 rfl rfl rfl (by decide +kernel) rfl (Nat.le_of_ble_eq_true rfl) ?_
  intro p e s m args below meth c Q A S w hA hN ret ls hl
  have hl : lv_has ls 8 [(0, .ref a0), (1, .int a1), (2, .int a2), (3, .int a3), (4, .long a4)] := hl
  obtain ⟨rr, hrr⟩ : ∃ z, z = r1 := ⟨_, rfl⟩
  rw [← hrr] at h
  have hb3 : ∀ (n9 : Nat), ∀ (v0 : Nat) (v1 : Int32) (v2 : Int32) (v3 : Int32) (v4 : Int64) (v6 : Int32) , f_X8_isKept_3 n9 g v0 v1 v2 v3 v4 v6 = some rr → ∀ (H : Heap) (locs : List Loc) (ls : Array Slot), xOK D cy A s.heap s L g H locs → lv_has ls 8 [(0, .ref v0), (1, .int v1), (2, .int v2), (3, .int v3), (4, .long v4), (6, .int v6)] → W p l e { frames := 0, cells := 0, slots := 0, locals := 0 } s m args below meth c H locs 0 0 Q (F0 m 3 ls []) := by
    intro n9
    induction n9 with
    | zero => intro v0 v1 v2 v3 v4 v6 h; cases h
    | succ n9 ih =>
      intro v0 v1 v2 v3 v4 v6 h H locs ls w hl
      rw [f_X8_isKept_3] at h
      refine lv_iload S.1 S.2.1 dX8_isKept_3 (lv_at hl 5 rfl) ?_
      refine lv_aload_n S.1 S.2.1 dX8_isKept_5 rfl (lv_at hl 0 rfl) ?_
      obtain ⟨x1, h2, h⟩ := xb h
      refine xr_getr S w 9 xi_X8_isKept_X8 rfl 23 (by decide) xl_X8_isKept_70 h2 dX8_isKept_6 ?_
      refine lv_iload_n S.1 S.2.1 dX8_isKept_9 rfl (lv_at hl 1 rfl) ?_
      obtain ⟨x3, h4, h⟩ := xb h
      refine xr_iald S w h4 dX8_isKept_10 ?_
      refine lv_icmp_ge (tgt := 67) S.1 S.2.1 dX8_isKept_11 (by decide) (fun c11 => ?_) (fun c11 => ?_)
      · rw [if_pos c11] at h
        refine lv_iconst (v := 0) S.1 S.2.1 dX8_isKept_67 (by decide) ?_
        exact ret _ _ _ _ 0 0 _ (by decide) (congrArg (fun z => some (z, g)) ((Option.some.inj h).trans hrr)) w dX8_isKept_68
      · rw [if_neg c11] at h
        refine lv_sipush (v := 300) S.1 S.2.1 dX8_isKept_14 (by decide) ?_
        refine lv_iload_n S.1 S.2.1 dX8_isKept_17 rfl (lv_at hl 1 rfl) ?_
        refine lv_imul S.1 S.2.1 dX8_isKept_18 ?_
        refine lv_iload S.1 S.2.1 dX8_isKept_19 (lv_at hl 5 rfl) ?_
        refine lv_iadd S.1 S.2.1 dX8_isKept_21 ?_
        refine lv_istore (lv' := [(7, .int ((300 * v1) + v6)), (0, .ref v0), (1, .int v1), (2, .int v2), (3, .int v3), (4, .long v4), (6, .int v6)]) S.1 S.2.1 dX8_isKept_22 hl (by decide) rfl (fun ls hl => ?_)
        refine lv_aload_n S.1 S.2.1 dX8_isKept_24 rfl (lv_at hl 1 rfl) ?_
        obtain ⟨x5, h6, h⟩ := xb h
        refine xr_getr S w 9 xi_X8_isKept_X8 rfl 24 (by decide) xl_X8_isKept_73 h6 dX8_isKept_25 ?_
        refine lv_iload S.1 S.2.1 dX8_isKept_28 (lv_at hl 0 rfl) ?_
        obtain ⟨x7, h8, h⟩ := xb h
        refine xr_iald S w h8 dX8_isKept_30 ?_
        refine lv_iload_n S.1 S.2.1 dX8_isKept_31 rfl (lv_at hl 3 rfl) ?_
        refine lv_icmp_ne (tgt := 61) S.1 S.2.1 dX8_isKept_32 (by decide) (fun c32 => ?_) (fun c32 => ?_)
        · rw [if_neg c32] at h
          refine lv_iinc (v := (v6 + 1)) (lv' := [(6, .int (v6 + 1)), (7, .int ((300 * v1) + v6)), (0, .ref v0), (1, .int v1), (2, .int v2), (3, .int v3), (4, .long v4)]) S.1 S.2.1 dX8_isKept_61 hl (k := 6) rfl rfl (by decide) rfl (fun ls hl => ?_)
          refine lv_goto (tgt := 3) S.1 S.2.1 dX8_isKept_64 (by decide) ?_
          exact ih v0 v1 v2 v3 v4 (v6 + 1) h _ _ _ w (lv_sub hl [2, 3, 4, 5, 6, 0] rfl)
        · rw [if_pos c32] at h
          refine lv_aload_n S.1 S.2.1 dX8_isKept_35 rfl (lv_at hl 1 rfl) ?_
          obtain ⟨x9, h10, h⟩ := xb h
          refine xr_getr S w 9 xi_X8_isKept_X8 rfl 25 (by decide) xl_X8_isKept_76 h10 dX8_isKept_36 ?_
          refine lv_iload S.1 S.2.1 dX8_isKept_39 (lv_at hl 0 rfl) ?_
          obtain ⟨x11, h12, h⟩ := xb h
          refine xr_iald S w h12 dX8_isKept_41 ?_
          refine lv_iload_n S.1 S.2.1 dX8_isKept_42 rfl (lv_at hl 4 rfl) ?_
          refine lv_icmp_ne (tgt := 61) S.1 S.2.1 dX8_isKept_43 (by decide) (fun c43 => ?_) (fun c43 => ?_)
          · rw [if_neg c43] at h
            refine lv_iinc (v := (v6 + 1)) (lv' := [(6, .int (v6 + 1)), (7, .int ((300 * v1) + v6)), (0, .ref v0), (1, .int v1), (2, .int v2), (3, .int v3), (4, .long v4)]) S.1 S.2.1 dX8_isKept_61 hl (k := 6) rfl rfl (by decide) rfl (fun ls hl => ?_)
            refine lv_goto (tgt := 3) S.1 S.2.1 dX8_isKept_64 (by decide) ?_
            exact ih v0 v1 v2 v3 v4 (v6 + 1) h _ _ _ w (lv_sub hl [2, 3, 4, 5, 6, 0] rfl)
          · rw [if_pos c43] at h
            refine lv_aload_n S.1 S.2.1 dX8_isKept_46 rfl (lv_at hl 1 rfl) ?_
            obtain ⟨x13, h14, h⟩ := xb h
            refine xr_getr S w 9 xi_X8_isKept_X8 rfl 26 (by decide) xl_X8_isKept_79 h14 dX8_isKept_47 ?_
            refine lv_iload S.1 S.2.1 dX8_isKept_50 (lv_at hl 0 rfl) ?_
            obtain ⟨x15, h16, h⟩ := xb h
            refine xr_lald S w h16 dX8_isKept_52 ?_
            refine lv_lload S.1 S.2.1 dX8_isKept_53 (lv_at hl 5 rfl) ?_
            refine xr_lcne (tgt := 61) S dX8_isKept_55 dX8_isKept_56 (by decide) (fun c55 => ?_) (fun c55 => ?_)
            · rw [if_neg c55] at h
              refine lv_iinc (v := (v6 + 1)) (lv' := [(6, .int (v6 + 1)), (7, .int ((300 * v1) + v6)), (0, .ref v0), (1, .int v1), (2, .int v2), (3, .int v3), (4, .long v4)]) S.1 S.2.1 dX8_isKept_61 hl (k := 6) rfl rfl (by decide) rfl (fun ls hl => ?_)
              refine lv_goto (tgt := 3) S.1 S.2.1 dX8_isKept_64 (by decide) ?_
              exact ih v0 v1 v2 v3 v4 (v6 + 1) h _ _ _ w (lv_sub hl [2, 3, 4, 5, 6, 0] rfl)
            · rw [if_pos c55] at h
              refine lv_iconst (v := 1) S.1 S.2.1 dX8_isKept_59 (by decide) ?_
              exact ret _ _ _ _ 1 1 _ (by decide) (congrArg (fun z => some (z, g)) ((Option.some.inj h).trans hrr)) w dX8_isKept_60
  rw [f_X8_isKept] at h
  refine lv_iconst (v := 0) S.1 S.2.1 dX8_isKept_0 (by decide) ?_
  refine lv_istore (lv' := [(6, .int 0), (0, .ref a0), (1, .int a1), (2, .int a2), (3, .int a3), (4, .long a4)]) S.1 S.2.1 dX8_isKept_1 hl (by decide) rfl (fun ls hl => ?_)
  exact hb3 xFU a0 a1 a2 a3 a4 0 h _ _ _ w (lv_sub hl [1, 2, 3, 4, 5, 0] rfl)
theorem xi_X8_keep_X8 : ∀ w ∈ wsX80, w ∈ wsX8_keep := by decide +kernel
theorem xl_X8_keep_70 : Cond.fieldLink RX8 70 (TX8 23).1 (TX8 23).2.1 (TX8 23).2.2.1 ∈ wsX8_keep := by decide +kernel
theorem xl_X8_keep_73 : Cond.fieldLink RX8 73 (TX8 24).1 (TX8 24).2.1 (TX8 24).2.2.1 ∈ wsX8_keep := by decide +kernel
theorem xl_X8_keep_76 : Cond.fieldLink RX8 76 (TX8 25).1 (TX8 25).2.1 (TX8 25).2.2.1 ∈ wsX8_keep := by decide +kernel
theorem xl_X8_keep_79 : Cond.fieldLink RX8 79 (TX8 26).1 (TX8 26).2.1 (TX8 26).2.2.1 ∈ wsX8_keep := by decide +kernel
theorem xl_X8_keep_82 : Cond.fieldLink RX8 82 (TX8 27).1 (TX8 27).2.1 (TX8 27).2.2.1 ∈ wsX8_keep := by decide +kernel
def f_X8_keep (g : xG) (a0 : Nat) (a1 : Int32) (a2 : Int32) (a3 : Int32) (a4 : Int64) (a5 : Int32) : Option (Int32 × xG) :=
  (xg_r g 9 a0 23).bind fun x1 =>
  (xa_i 1 g x1 a1).bind fun x3 =>
  if x3 = 300 then
    some (0, g)
  else
    (xk g 9 a0).bind fun _ =>
    (f_X8_isKept g a0 a1 a2 a3 a4).bind fun x7 =>
    if x7 = 0 then
      (xg_r g 9 a0 23).bind fun x8 =>
      (xa_i 1 g x8 a1).bind fun x10 =>
      (xg_r g 9 a0 24).bind fun x12 =>
      (xs_i 1 g x12 ((300 * a1) + x10) a2).bind fun g14 =>
      (xg_r g14 9 a0 25).bind fun x16 =>
      (xs_i 1 g14 x16 ((300 * a1) + x10) a3).bind fun g18 =>
      (xg_r g18 9 a0 26).bind fun x20 =>
      (xs_l g18 x20 ((300 * a1) + x10) a4).bind fun g22 =>
      (xg_r g22 9 a0 27).bind fun x24 =>
      (xs_i 3 g22 x24 ((300 * a1) + x10) a5).bind fun g26 =>
      (xg_r g26 9 a0 23).bind fun x28 =>
      (xa_i 1 g26 x28 a1).bind fun x30 =>
      (xs_i 1 g26 x28 a1 (x30 + 1)).bind fun g32 =>
      some (1, g32)
    else
      some (0, g)
set_option maxHeartbeats 4000000 in
set_option maxRecDepth 100000 in
theorem c_X8_keep (l : Launch) (D : va_G) (cy : Nat → ClassId) (L : List Nat) (g : xG) (a0 : Nat) (a1 : Int32) (a2 : Int32) (a3 : Int32) (a4 : Int64) (a5 : Int32) {r1 : Int32} {g1 : xG} (h : f_X8_keep g a0 a1 a2 a3 a4 a5 = some (r1, g1)) : xMi l yX8_keep wsX8_keep ({ frames := 1, cells := 0, slots := 0, locals := 27 }) D cy L g [.ref a0, .int a1, .int a2, .int a3, .long a4, .int a5] r1 g1 := by
  refine xm_z (cc := cX8_keep) (maxL := 8) RX8 rfl rfl rfl (by decide +kernel) rfl (Nat.le_of_ble_eq_true rfl) ?_
  intro p e s m args below meth c Q A S w hA hN ret ls hl
  have hl : lv_has ls 8 [(0, .ref a0), (1, .int a1), (2, .int a2), (3, .int a3), (4, .long a4), (6, .int a5)] := hl
  rw [f_X8_keep] at h
  refine lv_aload_n S.1 S.2.1 dX8_keep_0 rfl (lv_at hl 0 rfl) ?_
  obtain ⟨x1, h2, h⟩ := xb h
  refine xr_getr S w 9 xi_X8_keep_X8 rfl 23 (by decide) xl_X8_keep_70 h2 dX8_keep_1 ?_
  refine lv_iload_n S.1 S.2.1 dX8_keep_4 rfl (lv_at hl 1 rfl) ?_
  obtain ⟨x3, h4, h⟩ := xb h
  refine xr_iald S w h4 dX8_keep_5 ?_
  refine lv_sipush (v := 300) S.1 S.2.1 dX8_keep_6 (by decide) ?_
  refine lv_icmp_eq (tgt := 24) S.1 S.2.1 dX8_keep_9 (by decide) (fun c9 => ?_) (fun c9 => ?_)
  · rw [if_pos c9] at h
    refine lv_iconst (v := 0) S.1 S.2.1 dX8_keep_24 (by decide) ?_
    exact ret _ _ _ _ 0 0 _ (by decide) h w dX8_keep_25
  · rw [if_neg c9] at h
    refine lv_aload_n S.1 S.2.1 dX8_keep_12 rfl (lv_at hl 0 rfl) ?_
    refine lv_iload_n S.1 S.2.1 dX8_keep_13 rfl (lv_at hl 1 rfl) ?_
    refine lv_iload_n S.1 S.2.1 dX8_keep_14 rfl (lv_at hl 2 rfl) ?_
    refine lv_iload_n S.1 S.2.1 dX8_keep_15 rfl (lv_at hl 3 rfl) ?_
    refine lv_lload S.1 S.2.1 dX8_keep_16 (lv_at hl 4 rfl) ?_
    obtain ⟨_, h5, h⟩ := xb h
    obtain ⟨x7, h6, h⟩ := xb h
    refine xr_callV_i S w hA hN 9 rfl h5 (c_X8_isKept l D cy L g a0 a1 a2 a3 a4 h6) (cwV 4 S.2.2.2.2 gX8_keep_X8_isKept rfl rfl rfl (by decide +kernel) ⟨Nat.le_of_ble_eq_true rfl, Nat.le_of_ble_eq_true rfl⟩) rfl rfl hl.1 (Nat.le_of_ble_eq_true rfl) dX8_keep_18 ⟨Nat.le_of_ble_eq_true rfl, Nat.le_of_ble_eq_true rfl⟩ (fun H locs w => ?_)
    refine lv_if_eq (tgt := 26) S.1 S.2.1 dX8_keep_21 (by decide) (fun c21 => ?_) (fun c21 => ?_)
    · rw [if_pos c21] at h
      refine lv_sipush (v := 300) S.1 S.2.1 dX8_keep_26 (by decide) ?_
      refine lv_iload_n S.1 S.2.1 dX8_keep_29 rfl (lv_at hl 1 rfl) ?_
      refine lv_imul S.1 S.2.1 dX8_keep_30 ?_
      refine lv_aload_n S.1 S.2.1 dX8_keep_31 rfl (lv_at hl 0 rfl) ?_
      obtain ⟨x8, h9, h⟩ := xb h
      refine xr_getr S w 9 xi_X8_keep_X8 rfl 23 (by decide) xl_X8_keep_70 h9 dX8_keep_32 ?_
      refine lv_iload_n S.1 S.2.1 dX8_keep_35 rfl (lv_at hl 1 rfl) ?_
      obtain ⟨x10, h11, h⟩ := xb h
      refine xr_iald S w h11 dX8_keep_36 ?_
      refine lv_iadd S.1 S.2.1 dX8_keep_37 ?_
      refine lv_istore (lv' := [(7, .int ((300 * a1) + x10)), (0, .ref a0), (1, .int a1), (2, .int a2), (3, .int a3), (4, .long a4), (6, .int a5)]) S.1 S.2.1 dX8_keep_38 hl (by decide) rfl (fun ls hl => ?_)
      refine lv_aload_n S.1 S.2.1 dX8_keep_40 rfl (lv_at hl 1 rfl) ?_
      obtain ⟨x12, h13, h⟩ := xb h
      refine xr_getr S w 9 xi_X8_keep_X8 rfl 24 (by decide) xl_X8_keep_73 h13 dX8_keep_41 ?_
      refine lv_iload S.1 S.2.1 dX8_keep_44 (lv_at hl 0 rfl) ?_
      refine lv_iload_n S.1 S.2.1 dX8_keep_46 rfl (lv_at hl 3 rfl) ?_
      obtain ⟨g14, h15, h⟩ := xb h
      refine xr_iast S w h15 dX8_keep_47 (fun H locs w => ?_)
      refine lv_aload_n S.1 S.2.1 dX8_keep_48 rfl (lv_at hl 1 rfl) ?_
      obtain ⟨x16, h17, h⟩ := xb h
      refine xr_getr S w 9 xi_X8_keep_X8 rfl 25 (by decide) xl_X8_keep_76 h17 dX8_keep_49 ?_
      refine lv_iload S.1 S.2.1 dX8_keep_52 (lv_at hl 0 rfl) ?_
      refine lv_iload_n S.1 S.2.1 dX8_keep_54 rfl (lv_at hl 4 rfl) ?_
      obtain ⟨g18, h19, h⟩ := xb h
      refine xr_iast S w h19 dX8_keep_55 (fun H locs w => ?_)
      refine lv_aload_n S.1 S.2.1 dX8_keep_56 rfl (lv_at hl 1 rfl) ?_
      obtain ⟨x20, h21, h⟩ := xb h
      refine xr_getr S w 9 xi_X8_keep_X8 rfl 26 (by decide) xl_X8_keep_79 h21 dX8_keep_57 ?_
      refine lv_iload S.1 S.2.1 dX8_keep_60 (lv_at hl 0 rfl) ?_
      refine lv_lload S.1 S.2.1 dX8_keep_62 (lv_at hl 5 rfl) ?_
      obtain ⟨g22, h23, h⟩ := xb h
      refine xr_last S w h23 dX8_keep_64 (fun H locs w => ?_)
      refine lv_aload_n S.1 S.2.1 dX8_keep_65 rfl (lv_at hl 1 rfl) ?_
      obtain ⟨x24, h25, h⟩ := xb h
      refine xr_getr S w 9 xi_X8_keep_X8 rfl 27 (by decide) xl_X8_keep_82 h25 dX8_keep_66 ?_
      refine lv_iload S.1 S.2.1 dX8_keep_69 (lv_at hl 0 rfl) ?_
      refine lv_iload S.1 S.2.1 dX8_keep_71 (lv_at hl 6 rfl) ?_
      obtain ⟨g26, h27, h⟩ := xb h
      refine xr_zast S w h27 dX8_keep_73 (fun H locs w => ?_)
      refine lv_aload_n S.1 S.2.1 dX8_keep_74 rfl (lv_at hl 1 rfl) ?_
      obtain ⟨x28, h29, h⟩ := xb h
      refine xr_getr S w 9 xi_X8_keep_X8 rfl 23 (by decide) xl_X8_keep_70 h29 dX8_keep_75 ?_
      refine lv_iload_n S.1 S.2.1 dX8_keep_78 rfl (lv_at hl 2 rfl) ?_
      refine lv_dup2_11 S.1 S.2.1 dX8_keep_79 rfl rfl ?_
      obtain ⟨x30, h31, h⟩ := xb h
      refine xr_iald S w h31 dX8_keep_80 ?_
      refine lv_iconst (v := 1) S.1 S.2.1 dX8_keep_81 (by decide) ?_
      refine lv_iadd S.1 S.2.1 dX8_keep_82 ?_
      obtain ⟨g32, h33, h⟩ := xb h
      refine xr_iast S w h33 dX8_keep_83 (fun H locs w => ?_)
      refine lv_iconst (v := 1) S.1 S.2.1 dX8_keep_84 (by decide) ?_
      exact ret _ _ _ _ 1 1 _ (by decide) h w dX8_keep_85
    · rw [if_neg c21] at h
      refine lv_iconst (v := 0) S.1 S.2.1 dX8_keep_24 (by decide) ?_
      exact ret _ _ _ _ 0 0 _ (by decide) h w dX8_keep_25
theorem xi_X8_wasTaken_X8 : ∀ w ∈ wsX80, w ∈ wsX8_wasTaken := by decide +kernel
theorem xl_X8_wasTaken_111 : Cond.fieldLink RX8 111 (TX8 19).1 (TX8 19).2.1 (TX8 19).2.2.1 ∈ wsX8_wasTaken := by decide +kernel
theorem xl_X8_wasTaken_61 : Cond.fieldLink RX8 61 (TX8 20).1 (TX8 20).2.1 (TX8 20).2.2.1 ∈ wsX8_wasTaken := by decide +kernel
theorem xl_X8_wasTaken_64 : Cond.fieldLink RX8 64 (TX8 21).1 (TX8 21).2.1 (TX8 21).2.2.1 ∈ wsX8_wasTaken := by decide +kernel
theorem xl_X8_wasTaken_67 : Cond.fieldLink RX8 67 (TX8 22).1 (TX8 22).2.1 (TX8 22).2.2.1 ∈ wsX8_wasTaken := by decide +kernel
def f_X8_wasTaken_3 : Nat → xG → Nat → Int32 → Int32 → Int32 → Int32 → Option Int32
  | 0, _, _, _, _, _, _ => none
  | n9 + 1, g, v0, v1, v2, v3, v4 =>
  (xg_i g 9 v0 19).bind fun x1 =>
  if x1 ≤ v4 then
    some 0
  else
    (xg_r g 9 v0 20).bind fun x3 =>
    (xa_i 1 g x3 v4).bind fun x5 =>
    if x5 = v1 then
      (xg_r g 9 v0 21).bind fun x7 =>
      (xa_i 1 g x7 v4).bind fun x9 =>
      if x9 = v2 then
        (xg_r g 9 v0 22).bind fun x11 =>
        (xa_i 1 g x11 v4).bind fun x13 =>
        if x13 = v3 then
          some 1
        else
          f_X8_wasTaken_3 n9 g v0 v1 v2 v3 (v4 + 1)
      else
        f_X8_wasTaken_3 n9 g v0 v1 v2 v3 (v4 + 1)
    else
      f_X8_wasTaken_3 n9 g v0 v1 v2 v3 (v4 + 1)
def f_X8_wasTaken (g : xG) (a0 : Nat) (a1 : Int32) (a2 : Int32) (a3 : Int32) : Option Int32 :=
  f_X8_wasTaken_3 xFU g a0 a1 a2 a3 0
set_option maxHeartbeats 4000000 in
set_option maxRecDepth 100000 in
theorem c_X8_wasTaken (l : Launch) (D : va_G) (cy : Nat → ClassId) (L : List Nat) (g : xG) (a0 : Nat) (a1 : Int32) (a2 : Int32) (a3 : Int32) {r1 : Int32} (h : f_X8_wasTaken g a0 a1 a2 a3 = some r1) : xMi l yX8_wasTaken wsX8_wasTaken ({ frames := 0, cells := 0, slots := 0, locals := 0 }) D cy L g [.ref a0, .int a1, .int a2, .int a3] r1 g := by
  refine xm_z (cc := cX8_wasTaken) (maxL := 5) RX8 rfl rfl rfl (by decide +kernel) rfl (Nat.le_of_ble_eq_true rfl) ?_
  intro p e s m args below meth c Q A S w hA hN ret ls hl
  have hl : lv_has ls 5 [(0, .ref a0), (1, .int a1), (2, .int a2), (3, .int a3)] := hl
  obtain ⟨rr, hrr⟩ : ∃ z, z = r1 := ⟨_, rfl⟩
  rw [← hrr] at h
  have hb3 : ∀ (n9 : Nat), ∀ (v0 : Nat) (v1 : Int32) (v2 : Int32) (v3 : Int32) (v4 : Int32) , f_X8_wasTaken_3 n9 g v0 v1 v2 v3 v4 = some rr → ∀ (H : Heap) (locs : List Loc) (ls : Array Slot), xOK D cy A s.heap s L g H locs → lv_has ls 5 [(0, .ref v0), (1, .int v1), (2, .int v2), (3, .int v3), (4, .int v4)] → W p l e { frames := 0, cells := 0, slots := 0, locals := 0 } s m args below meth c H locs 0 0 Q (F0 m 3 ls []) := by
    intro n9
    induction n9 with
    | zero => intro v0 v1 v2 v3 v4 h; cases h
    | succ n9 ih =>
      intro v0 v1 v2 v3 v4 h H locs ls w hl
      rw [f_X8_wasTaken_3] at h
      refine lv_iload S.1 S.2.1 dX8_wasTaken_3 (lv_at hl 4 rfl) ?_
      refine lv_aload_n S.1 S.2.1 dX8_wasTaken_5 rfl (lv_at hl 0 rfl) ?_
      obtain ⟨x1, h2, h⟩ := xb h
      refine xr_geti S w 9 xi_X8_wasTaken_X8 rfl 19 (by decide) xl_X8_wasTaken_111 h2 dX8_wasTaken_6 ?_
      refine lv_icmp_ge (tgt := 53) S.1 S.2.1 dX8_wasTaken_9 (by decide) (fun c9 => ?_) (fun c9 => ?_)
      · rw [if_pos c9] at h
        refine lv_iconst (v := 0) S.1 S.2.1 dX8_wasTaken_53 (by decide) ?_
        exact ret _ _ _ _ 0 0 _ (by decide) (congrArg (fun z => some (z, g)) ((Option.some.inj h).trans hrr)) w dX8_wasTaken_54
      · rw [if_neg c9] at h
        refine lv_aload_n S.1 S.2.1 dX8_wasTaken_12 rfl (lv_at hl 0 rfl) ?_
        obtain ⟨x3, h4, h⟩ := xb h
        refine xr_getr S w 9 xi_X8_wasTaken_X8 rfl 20 (by decide) xl_X8_wasTaken_61 h4 dX8_wasTaken_13 ?_
        refine lv_iload S.1 S.2.1 dX8_wasTaken_16 (lv_at hl 4 rfl) ?_
        obtain ⟨x5, h6, h⟩ := xb h
        refine xr_iald S w h6 dX8_wasTaken_18 ?_
        refine lv_iload_n S.1 S.2.1 dX8_wasTaken_19 rfl (lv_at hl 1 rfl) ?_
        refine lv_icmp_ne (tgt := 47) S.1 S.2.1 dX8_wasTaken_20 (by decide) (fun c20 => ?_) (fun c20 => ?_)
        · rw [if_neg c20] at h
          refine lv_iinc (v := (v4 + 1)) (lv' := [(4, .int (v4 + 1)), (0, .ref v0), (1, .int v1), (2, .int v2), (3, .int v3)]) S.1 S.2.1 dX8_wasTaken_47 hl (k := 4) rfl rfl (by decide) rfl (fun ls hl => ?_)
          refine lv_goto (tgt := 3) S.1 S.2.1 dX8_wasTaken_50 (by decide) ?_
          exact ih v0 v1 v2 v3 (v4 + 1) h _ _ _ w (lv_sub hl [1, 2, 3, 4, 0] rfl)
        · rw [if_pos c20] at h
          refine lv_aload_n S.1 S.2.1 dX8_wasTaken_23 rfl (lv_at hl 0 rfl) ?_
          obtain ⟨x7, h8, h⟩ := xb h
          refine xr_getr S w 9 xi_X8_wasTaken_X8 rfl 21 (by decide) xl_X8_wasTaken_64 h8 dX8_wasTaken_24 ?_
          refine lv_iload S.1 S.2.1 dX8_wasTaken_27 (lv_at hl 4 rfl) ?_
          obtain ⟨x9, h10, h⟩ := xb h
          refine xr_iald S w h10 dX8_wasTaken_29 ?_
          refine lv_iload_n S.1 S.2.1 dX8_wasTaken_30 rfl (lv_at hl 2 rfl) ?_
          refine lv_icmp_ne (tgt := 47) S.1 S.2.1 dX8_wasTaken_31 (by decide) (fun c31 => ?_) (fun c31 => ?_)
          · rw [if_neg c31] at h
            refine lv_iinc (v := (v4 + 1)) (lv' := [(4, .int (v4 + 1)), (0, .ref v0), (1, .int v1), (2, .int v2), (3, .int v3)]) S.1 S.2.1 dX8_wasTaken_47 hl (k := 4) rfl rfl (by decide) rfl (fun ls hl => ?_)
            refine lv_goto (tgt := 3) S.1 S.2.1 dX8_wasTaken_50 (by decide) ?_
            exact ih v0 v1 v2 v3 (v4 + 1) h _ _ _ w (lv_sub hl [1, 2, 3, 4, 0] rfl)
          · rw [if_pos c31] at h
            refine lv_aload_n S.1 S.2.1 dX8_wasTaken_34 rfl (lv_at hl 0 rfl) ?_
            obtain ⟨x11, h12, h⟩ := xb h
            refine xr_getr S w 9 xi_X8_wasTaken_X8 rfl 22 (by decide) xl_X8_wasTaken_67 h12 dX8_wasTaken_35 ?_
            refine lv_iload S.1 S.2.1 dX8_wasTaken_38 (lv_at hl 4 rfl) ?_
            obtain ⟨x13, h14, h⟩ := xb h
            refine xr_iald S w h14 dX8_wasTaken_40 ?_
            refine lv_iload_n S.1 S.2.1 dX8_wasTaken_41 rfl (lv_at hl 3 rfl) ?_
            refine lv_icmp_ne (tgt := 47) S.1 S.2.1 dX8_wasTaken_42 (by decide) (fun c42 => ?_) (fun c42 => ?_)
            · rw [if_neg c42] at h
              refine lv_iinc (v := (v4 + 1)) (lv' := [(4, .int (v4 + 1)), (0, .ref v0), (1, .int v1), (2, .int v2), (3, .int v3)]) S.1 S.2.1 dX8_wasTaken_47 hl (k := 4) rfl rfl (by decide) rfl (fun ls hl => ?_)
              refine lv_goto (tgt := 3) S.1 S.2.1 dX8_wasTaken_50 (by decide) ?_
              exact ih v0 v1 v2 v3 (v4 + 1) h _ _ _ w (lv_sub hl [1, 2, 3, 4, 0] rfl)
            · rw [if_pos c42] at h
              refine lv_iconst (v := 1) S.1 S.2.1 dX8_wasTaken_45 (by decide) ?_
              exact ret _ _ _ _ 1 1 _ (by decide) (congrArg (fun z => some (z, g)) ((Option.some.inj h).trans hrr)) w dX8_wasTaken_46
  rw [f_X8_wasTaken] at h
  refine lv_iconst (v := 0) S.1 S.2.1 dX8_wasTaken_0 (by decide) ?_
  refine lv_istore (lv' := [(4, .int 0), (0, .ref a0), (1, .int a1), (2, .int a2), (3, .int a3)]) S.1 S.2.1 dX8_wasTaken_1 hl (by decide) rfl (fun ls hl => ?_)
  exact hb3 xFU a0 a1 a2 a3 0 h _ _ _ w (lv_sub hl [1, 2, 3, 4, 0] rfl)
theorem xi_X8_deliver_X8 : ∀ w ∈ wsX80, w ∈ wsX8_deliver := by decide +kernel
theorem xl_X8_deliver_102 : Cond.fieldLink RX8 102 (TX8 0).1 (TX8 0).2.1 (TX8 0).2.2.1 ∈ wsX8_deliver := by decide +kernel
theorem xl_X8_deliver_39 : Cond.fieldLink RX8 39 (TX8 12).1 (TX8 12).2.1 (TX8 12).2.2.1 ∈ wsX8_deliver := by decide +kernel
theorem xl_X8_deliver_42 : Cond.fieldLink RX8 42 (TX8 13).1 (TX8 13).2.1 (TX8 13).2.2.1 ∈ wsX8_deliver := by decide +kernel
theorem xl_X8_deliver_45 : Cond.fieldLink RX8 45 (TX8 14).1 (TX8 14).2.1 (TX8 14).2.2.1 ∈ wsX8_deliver := by decide +kernel
theorem xl_X8_deliver_48 : Cond.fieldLink RX8 48 (TX8 15).1 (TX8 15).2.1 (TX8 15).2.2.1 ∈ wsX8_deliver := by decide +kernel
theorem xl_X8_deliver_51 : Cond.fieldLink RX8 51 (TX8 16).1 (TX8 16).2.1 (TX8 16).2.2.1 ∈ wsX8_deliver := by decide +kernel
theorem xl_X8_deliver_54 : Cond.fieldLink RX8 54 (TX8 17).1 (TX8 17).2.1 (TX8 17).2.2.1 ∈ wsX8_deliver := by decide +kernel
theorem xl_X8_deliver_58 : Cond.fieldLink RX8 58 (TX8 18).1 (TX8 18).2.1 (TX8 18).2.2.1 ∈ wsX8_deliver := by decide +kernel
theorem xl_X8_deliver_20 : Cond.fieldLink RX8 20 (TX8 4).1 (TX8 4).2.1 (TX8 4).2.2.1 ∈ wsX8_deliver := by decide +kernel
theorem xl_X8_deliver_61 : Cond.fieldLink RX8 61 (TX8 20).1 (TX8 20).2.1 (TX8 20).2.2.1 ∈ wsX8_deliver := by decide +kernel
theorem xl_X8_deliver_111 : Cond.fieldLink RX8 111 (TX8 19).1 (TX8 19).2.1 (TX8 19).2.2.1 ∈ wsX8_deliver := by decide +kernel
theorem xl_X8_deliver_64 : Cond.fieldLink RX8 64 (TX8 21).1 (TX8 21).2.1 (TX8 21).2.2.1 ∈ wsX8_deliver := by decide +kernel
theorem xl_X8_deliver_67 : Cond.fieldLink RX8 67 (TX8 22).1 (TX8 22).2.1 (TX8 22).2.2.1 ∈ wsX8_deliver := by decide +kernel
theorem xl_X8_deliver_17 : Cond.fieldLink RX8 17 (TX8 3).1 (TX8 3).2.1 (TX8 3).2.2.1 ∈ wsX8_deliver := by decide +kernel
theorem xl_X8_deliver_105 : Cond.fieldLink RX8 105 (TX8 10).1 (TX8 10).2.1 (TX8 10).2.2.1 ∈ wsX8_deliver := by decide +kernel
def f_X8_deliver_18 (g : xG) (v0 : Nat) (v1 : Int32) (s0 : Nat) (s1 : Int32) : Option (Int32 × xG) :=
  (xp_i g 9 s0 0 s1).bind fun g1 =>
  (xg_i g1 9 v0 0).bind fun x3 =>
  if x3 ≤ 0 then
    (xg_r g1 9 v0 12).bind fun x5 =>
    (xa_i 1 g1 x5 v1).bind fun x7 =>
    (xg_r g1 9 v0 13).bind fun x9 =>
    (xa_i 1 g1 x9 v1).bind fun x11 =>
    (xg_r g1 9 v0 14).bind fun x13 =>
    (xa_i 1 g1 x13 v1).bind fun x15 =>
    (xg_r g1 9 v0 15).bind fun x17 =>
    (xa_i 1 g1 x17 v1).bind fun x19 =>
    (xg_r g1 9 v0 16).bind fun x21 =>
    (xa_i 1 g1 x21 v1).bind fun x23 =>
    (xg_r g1 9 v0 17).bind fun x25 =>
    (xa_l g1 x25 v1).bind fun x27 =>
    (xg_r g1 9 v0 18).bind fun x29 =>
    (xa_l g1 x29 v1).bind fun x31 =>
    (xk g1 9 v0).bind fun _ =>
    (f_X8_take g1 v0 v1).bind fun g35 =>
    if x7 = 2 then
      (f_X8_signature x15 x23 x27).bind fun x102 =>
      if x31 = x102 then
        (xk g35 9 v0).bind fun _ =>
        x2 (f_X8_keep g35 v0 x11 x15 x23 x27 1) fun x105 g106 =>
        if x105 = 0 then
          some (0, g106)
        else
          some (1, g106)
      else
        some (0, g35)
    else
      (f_X8_headBehind x27 3 x11 x19).bind fun x37 =>
      (f_X8_signature x15 x23 x37).bind fun x39 =>
      if x31 = x39 then
        (xk g35 9 v0).bind fun _ =>
        (f_X8_wasTaken g35 v0 x11 x15 x23).bind fun x42 =>
        if x42 = 0 then
          (xg_r g35 9 v0 4).bind fun x43 =>
          (xa_i 1 g35 x43 x11).bind fun x45 =>
          if x45 ≤ 148 then
            (xg_r g35 9 v0 20).bind fun x47 =>
            (xg_i g35 9 v0 19).bind fun x49 =>
            (xs_i 1 g35 x47 x49 x11).bind fun g51 =>
            (xg_r g51 9 v0 21).bind fun x53 =>
            (xg_i g51 9 v0 19).bind fun x55 =>
            (xs_i 1 g51 x53 x55 x15).bind fun g57 =>
            (xg_r g57 9 v0 22).bind fun x59 =>
            (xg_i g57 9 v0 19).bind fun x61 =>
            (xs_i 1 g57 x59 x61 x23).bind fun g63 =>
            (xg_i g63 9 v0 19).bind fun x65 =>
            (xp_i g63 9 v0 19 (x65 + 1)).bind fun g67 =>
            (xk g67 9 v0).bind fun _ =>
            (f_X8_enter g67 v0 x11 2 x15 x19).bind fun g71 =>
            (xg_r g71 9 v0 3).bind fun x72 =>
            (xg_r g71 9 v0 3).bind fun x74 =>
            (xa_i 1 g71 x74 x11).bind fun x76 =>
            (f_X8_turned (x76 ^^^ (x19 + x15))).bind fun x79 =>
            (xs_i 1 g71 x72 x11 x79).bind fun g80 =>
            (xg_r g80 9 v0 3).bind fun x82 =>
            (xa_i 1 g80 x82 x11).bind fun x84 =>
            if (x84 - x84 / 8 * 8) = 0 then
              (xg_r g80 9 v0 3).bind fun x90 =>
              (xa_i 1 g80 x90 x11).bind fun x92 =>
              (xk g80 9 v0).bind fun _ =>
              (f_X8_send g80 v0 x11 x15 x92).bind fun g96 =>
              (xk g96 9 v0).bind fun _ =>
              x2 (f_X8_keep g96 v0 x11 x15 x23 x37 0) fun x99 g100 =>
              some (1, g100)
            else
              (xk g80 9 v0).bind fun _ =>
              x2 (f_X8_keep g80 v0 x11 x15 x23 x37 0) fun x88 g89 =>
              some (1, g89)
          else
            some (0, g35)
        else
          some (0, g35)
      else
        some (0, g35)
  else
    some (0, g1)
def f_X8_deliver_13 (g : xG) (v0 : Nat) (v1 : Int32) (s0 : Nat) : Option (Int32 × xG) :=
  f_X8_deliver_18 g v0 v1 s0 1
def f_X8_deliver (g : xG) (a0 : Nat) (a1 : Int32) : Option (Int32 × xG) :=
  if a1 < 0 then
    f_X8_deliver_13 g a0 a1 a0
  else
    (xg_i g 9 a0 10).bind fun x107 =>
    if a1 < x107 then
      f_X8_deliver_18 g a0 a1 a0 0
    else
      f_X8_deliver_13 g a0 a1 a0
set_option maxHeartbeats 4000000 in
set_option maxRecDepth 100000 in
theorem c_X8_deliver (l : Launch) (D : va_G) (cy : Nat → ClassId) (L : List Nat) (g : xG) (a0 : Nat) (a1 : Int32) {r1 : Int32} {g1 : xG} (h : f_X8_deliver g a0 a1 = some (r1, g1)) : xMi l yX8_deliver wsX8_deliver ({ frames := 4, cells := 0, slots := 0, locals := 107 }) D cy L g [.ref a0, .int a1] r1 g1 := by
  refine xm_z (cc := cX8_deliver) (maxL := 14) RX8 rfl rfl rfl (by decide +kernel) rfl (Nat.le_of_ble_eq_true rfl) ?_
  intro p e s m args below meth c Q A S w hA hN ret ls hl
  have hl : lv_has ls 14 [(0, .ref a0), (1, .int a1)] := hl
  obtain ⟨rr, hrr⟩ : ∃ z, z = (r1, g1) := ⟨_, rfl⟩
  rw [← hrr] at h
  have hb18 : ∀ (g : xG) (v0 : Nat) (v1 : Int32) (s0 : Nat) (s1 : Int32) , f_X8_deliver_18 g v0 v1 s0 s1 = some rr → ∀ (H : Heap) (locs : List Loc) (ls : Array Slot), xOK D cy A s.heap s L g H locs → lv_has ls 14 [(0, .ref v0), (1, .int v1)] → W p l e { frames := 4, cells := 0, slots := 0, locals := 107 } s m args below meth c H locs 0 0 Q (F0 m 18 ls [.int s1, .ref s0]) := by
    intro g v0 v1 s0 s1 h H locs ls w hl
    rw [f_X8_deliver_18] at h
    obtain ⟨g1, h2, h⟩ := xb h
    refine xr_puti S w 9 xi_X8_deliver_X8 rfl tyX8 tyX8_ok nmX8 0 (by decide) xl_X8_deliver_102 rfl (tyX8_ok 0 (by decide)) h2 dX8_deliver_18 (fun H locs w => ?_)
    refine lv_aload_n S.1 S.2.1 dX8_deliver_21 rfl (lv_at hl 0 rfl) ?_
    obtain ⟨x3, h4, h⟩ := xb h
    refine xr_geti S w 9 xi_X8_deliver_X8 rfl 0 (by decide) xl_X8_deliver_102 h4 dX8_deliver_22 ?_
    refine lv_if_le (tgt := 30) S.1 S.2.1 dX8_deliver_25 (by decide) (fun c25 => ?_) (fun c25 => ?_)
    · rw [if_pos c25] at h
      refine lv_aload_n S.1 S.2.1 dX8_deliver_30 rfl (lv_at hl 0 rfl) ?_
      obtain ⟨x5, h6, h⟩ := xb h
      refine xr_getr S w 9 xi_X8_deliver_X8 rfl 12 (by decide) xl_X8_deliver_39 h6 dX8_deliver_31 ?_
      refine lv_iload_n S.1 S.2.1 dX8_deliver_34 rfl (lv_at hl 1 rfl) ?_
      obtain ⟨x7, h8, h⟩ := xb h
      refine xr_iald S w h8 dX8_deliver_35 ?_
      refine lv_istore_n (lv' := [(2, .int x7), (0, .ref v0), (1, .int v1)]) S.1 S.2.1 dX8_deliver_36 rfl hl (by decide) rfl (fun ls hl => ?_)
      refine lv_aload_n S.1 S.2.1 dX8_deliver_37 rfl (lv_at hl 1 rfl) ?_
      obtain ⟨x9, h10, h⟩ := xb h
      refine xr_getr S w 9 xi_X8_deliver_X8 rfl 13 (by decide) xl_X8_deliver_42 h10 dX8_deliver_38 ?_
      refine lv_iload_n S.1 S.2.1 dX8_deliver_41 rfl (lv_at hl 2 rfl) ?_
      obtain ⟨x11, h12, h⟩ := xb h
      refine xr_iald S w h12 dX8_deliver_42 ?_
      refine lv_istore_n (lv' := [(3, .int x11), (2, .int x7), (0, .ref v0), (1, .int v1)]) S.1 S.2.1 dX8_deliver_43 rfl hl (by decide) rfl (fun ls hl => ?_)
      refine lv_aload_n S.1 S.2.1 dX8_deliver_44 rfl (lv_at hl 2 rfl) ?_
      obtain ⟨x13, h14, h⟩ := xb h
      refine xr_getr S w 9 xi_X8_deliver_X8 rfl 14 (by decide) xl_X8_deliver_45 h14 dX8_deliver_45 ?_
      refine lv_iload_n S.1 S.2.1 dX8_deliver_48 rfl (lv_at hl 3 rfl) ?_
      obtain ⟨x15, h16, h⟩ := xb h
      refine xr_iald S w h16 dX8_deliver_49 ?_
      refine lv_istore (lv' := [(4, .int x15), (3, .int x11), (2, .int x7), (0, .ref v0), (1, .int v1)]) S.1 S.2.1 dX8_deliver_50 hl (by decide) rfl (fun ls hl => ?_)
      refine lv_aload_n S.1 S.2.1 dX8_deliver_52 rfl (lv_at hl 3 rfl) ?_
      obtain ⟨x17, h18, h⟩ := xb h
      refine xr_getr S w 9 xi_X8_deliver_X8 rfl 15 (by decide) xl_X8_deliver_48 h18 dX8_deliver_53 ?_
      refine lv_iload_n S.1 S.2.1 dX8_deliver_56 rfl (lv_at hl 4 rfl) ?_
      obtain ⟨x19, h20, h⟩ := xb h
      refine xr_iald S w h20 dX8_deliver_57 ?_
      refine lv_istore (lv' := [(5, .int x19), (4, .int x15), (3, .int x11), (2, .int x7), (0, .ref v0), (1, .int v1)]) S.1 S.2.1 dX8_deliver_58 hl (by decide) rfl (fun ls hl => ?_)
      refine lv_aload_n S.1 S.2.1 dX8_deliver_60 rfl (lv_at hl 4 rfl) ?_
      obtain ⟨x21, h22, h⟩ := xb h
      refine xr_getr S w 9 xi_X8_deliver_X8 rfl 16 (by decide) xl_X8_deliver_51 h22 dX8_deliver_61 ?_
      refine lv_iload_n S.1 S.2.1 dX8_deliver_64 rfl (lv_at hl 5 rfl) ?_
      obtain ⟨x23, h24, h⟩ := xb h
      refine xr_iald S w h24 dX8_deliver_65 ?_
      refine lv_istore (lv' := [(6, .int x23), (5, .int x19), (4, .int x15), (3, .int x11), (2, .int x7), (0, .ref v0), (1, .int v1)]) S.1 S.2.1 dX8_deliver_66 hl (by decide) rfl (fun ls hl => ?_)
      refine lv_aload_n S.1 S.2.1 dX8_deliver_68 rfl (lv_at hl 5 rfl) ?_
      obtain ⟨x25, h26, h⟩ := xb h
      refine xr_getr S w 9 xi_X8_deliver_X8 rfl 17 (by decide) xl_X8_deliver_54 h26 dX8_deliver_69 ?_
      refine lv_iload_n S.1 S.2.1 dX8_deliver_72 rfl (lv_at hl 6 rfl) ?_
      obtain ⟨x27, h28, h⟩ := xb h
      refine xr_lald S w h28 dX8_deliver_73 ?_
      refine lv_lstore (lv' := [(7, .long x27), (6, .int x23), (5, .int x19), (4, .int x15), (3, .int x11), (2, .int x7), (0, .ref v0), (1, .int v1)]) S.1 S.2.1 dX8_deliver_74 hl (by decide) rfl (fun ls hl => ?_)
      refine lv_aload_n S.1 S.2.1 dX8_deliver_76 rfl (lv_at hl 6 rfl) ?_
      obtain ⟨x29, h30, h⟩ := xb h
      refine xr_getr S w 9 xi_X8_deliver_X8 rfl 18 (by decide) xl_X8_deliver_58 h30 dX8_deliver_77 ?_
      refine lv_iload_n S.1 S.2.1 dX8_deliver_80 rfl (lv_at hl 7 rfl) ?_
      obtain ⟨x31, h32, h⟩ := xb h
      refine xr_lald S w h32 dX8_deliver_81 ?_
      refine lv_lstore (lv' := [(9, .long x31), (7, .long x27), (6, .int x23), (5, .int x19), (4, .int x15), (3, .int x11), (2, .int x7), (0, .ref v0), (1, .int v1)]) S.1 S.2.1 dX8_deliver_82 hl (by decide) rfl (fun ls hl => ?_)
      refine lv_aload_n S.1 S.2.1 dX8_deliver_84 rfl (lv_at hl 7 rfl) ?_
      refine lv_iload_n S.1 S.2.1 dX8_deliver_85 rfl (lv_at hl 8 rfl) ?_
      obtain ⟨_, h33, h⟩ := xb h
      obtain ⟨g35, h34, h⟩ := xb h
      refine xr_callV_v S w hA hN 9 rfl h33 (c_X8_take l D cy L g1 v0 v1 h34) (cwV 1 S.2.2.2.2 gX8_deliver_X8_take rfl rfl rfl (by decide +kernel) ⟨Nat.le_of_ble_eq_true rfl, Nat.le_of_ble_eq_true rfl⟩) rfl rfl hl.1 (Nat.le_of_ble_eq_true rfl) dX8_deliver_86 ⟨Nat.le_of_ble_eq_true rfl, Nat.le_of_ble_eq_true rfl⟩ (fun H locs w => ?_)
      refine lv_iload_n S.1 S.2.1 dX8_deliver_89 rfl (lv_at hl 6 rfl) ?_
      refine lv_iconst (v := 2) S.1 S.2.1 dX8_deliver_90 (by decide) ?_
      refine lv_icmp_ne (tgt := 130) S.1 S.2.1 dX8_deliver_91 (by decide) (fun c91 => ?_) (fun c91 => ?_)
      · rw [if_neg c91] at h
        refine lv_lload S.1 S.2.1 dX8_deliver_130 (lv_at hl 1 rfl) ?_
        refine lv_iconst (v := 3) S.1 S.2.1 dX8_deliver_132 (by decide) ?_
        refine lv_iload_n S.1 S.2.1 dX8_deliver_133 rfl (lv_at hl 5 rfl) ?_
        refine lv_iload S.1 S.2.1 dX8_deliver_134 (lv_at hl 3 rfl) ?_
        obtain ⟨x37, h36, h⟩ := xb h
        refine xr_callS_l S w hA hN (c_X8_headBehind l D cy L g35 x27 3 x11 x19 h36) (va_cwS 4 S.2.2.2.2 gX8_deliver_X8_headBehind rfl rfl rfl (by decide +kernel) ⟨Nat.le_of_ble_eq_true rfl, Nat.le_of_ble_eq_true rfl⟩) rfl rfl hl.1 (Nat.le_of_ble_eq_true rfl) dX8_deliver_136 ⟨Nat.le_of_ble_eq_true rfl, Nat.le_of_ble_eq_true rfl⟩ (fun H locs w => ?_)
        refine lv_lstore (lv' := [(11, .long x37), (9, .long x31), (7, .long x27), (6, .int x23), (5, .int x19), (4, .int x15), (3, .int x11), (2, .int x7), (0, .ref v0), (1, .int v1)]) S.1 S.2.1 dX8_deliver_139 hl (by decide) rfl (fun ls hl => ?_)
        refine lv_lload S.1 S.2.1 dX8_deliver_141 (lv_at hl 1 rfl) ?_
        refine lv_iload S.1 S.2.1 dX8_deliver_143 (lv_at hl 5 rfl) ?_
        refine lv_iload S.1 S.2.1 dX8_deliver_145 (lv_at hl 3 rfl) ?_
        refine lv_lload S.1 S.2.1 dX8_deliver_147 (lv_at hl 0 rfl) ?_
        obtain ⟨x39, h38, h⟩ := xb h
        refine xr_callS_l S w hA hN (c_X8_signature l D cy L g35 x15 x23 x37 h38) (va_cwS 3 S.2.2.2.2 gX8_deliver_X8_signature rfl rfl rfl (by decide +kernel) ⟨Nat.le_of_ble_eq_true rfl, Nat.le_of_ble_eq_true rfl⟩) rfl rfl hl.1 (Nat.le_of_ble_eq_true rfl) dX8_deliver_149 ⟨Nat.le_of_ble_eq_true rfl, Nat.le_of_ble_eq_true rfl⟩ (fun H locs w => ?_)
        refine xr_lcne (tgt := 180) S dX8_deliver_152 dX8_deliver_153 (by decide) (fun c152 => ?_) (fun c152 => ?_)
        · rw [if_neg c152] at h
          refine lv_iconst (v := 0) S.1 S.2.1 dX8_deliver_180 (by decide) ?_
          exact ret _ _ _ _ 0 0 _ (by decide) (h.trans (congrArg some hrr)) w dX8_deliver_181
        · rw [if_pos c152] at h
          refine lv_aload_n S.1 S.2.1 dX8_deliver_156 rfl (lv_at hl 8 rfl) ?_
          refine lv_iload_n S.1 S.2.1 dX8_deliver_157 rfl (lv_at hl 6 rfl) ?_
          refine lv_iload S.1 S.2.1 dX8_deliver_158 (lv_at hl 5 rfl) ?_
          refine lv_iload S.1 S.2.1 dX8_deliver_160 (lv_at hl 3 rfl) ?_
          obtain ⟨_, h40, h⟩ := xb h
          obtain ⟨x42, h41, h⟩ := xb h
          refine xr_callV_i S w hA hN 9 rfl h40 (c_X8_wasTaken l D cy L g35 v0 x11 x15 x23 h41) (cwV 3 S.2.2.2.2 gX8_deliver_X8_wasTaken rfl rfl rfl (by decide +kernel) ⟨Nat.le_of_ble_eq_true rfl, Nat.le_of_ble_eq_true rfl⟩) rfl rfl hl.1 (Nat.le_of_ble_eq_true rfl) dX8_deliver_162 ⟨Nat.le_of_ble_eq_true rfl, Nat.le_of_ble_eq_true rfl⟩ (fun H locs w => ?_)
          refine lv_if_ne (tgt := 180) S.1 S.2.1 dX8_deliver_165 (by decide) (fun c165 => ?_) (fun c165 => ?_)
          · rw [if_neg c165] at h
            refine lv_iconst (v := 0) S.1 S.2.1 dX8_deliver_180 (by decide) ?_
            exact ret _ _ _ _ 0 0 _ (by decide) (h.trans (congrArg some hrr)) w dX8_deliver_181
          · rw [if_pos c165] at h
            refine lv_aload_n S.1 S.2.1 dX8_deliver_168 rfl (lv_at hl 8 rfl) ?_
            obtain ⟨x43, h44, h⟩ := xb h
            refine xr_getr S w 9 xi_X8_deliver_X8 rfl 4 (by decide) xl_X8_deliver_20 h44 dX8_deliver_169 ?_
            refine lv_iload_n S.1 S.2.1 dX8_deliver_172 rfl (lv_at hl 6 rfl) ?_
            obtain ⟨x45, h46, h⟩ := xb h
            refine xr_iald S w h46 dX8_deliver_173 ?_
            refine lv_sipush (v := 148) S.1 S.2.1 dX8_deliver_174 (by decide) ?_
            refine lv_icmp_le (tgt := 182) S.1 S.2.1 dX8_deliver_177 (by decide) (fun c177 => ?_) (fun c177 => ?_)
            · rw [if_pos c177] at h
              refine lv_aload_n S.1 S.2.1 dX8_deliver_182 rfl (lv_at hl 8 rfl) ?_
              obtain ⟨x47, h48, h⟩ := xb h
              refine xr_getr S w 9 xi_X8_deliver_X8 rfl 20 (by decide) xl_X8_deliver_61 h48 dX8_deliver_183 ?_
              refine lv_aload_n S.1 S.2.1 dX8_deliver_186 rfl (lv_at hl 8 rfl) ?_
              obtain ⟨x49, h50, h⟩ := xb h
              refine xr_geti S w 9 xi_X8_deliver_X8 rfl 19 (by decide) xl_X8_deliver_111 h50 dX8_deliver_187 ?_
              refine lv_iload_n S.1 S.2.1 dX8_deliver_190 rfl (lv_at hl 6 rfl) ?_
              obtain ⟨g51, h52, h⟩ := xb h
              refine xr_iast S w h52 dX8_deliver_191 (fun H locs w => ?_)
              refine lv_aload_n S.1 S.2.1 dX8_deliver_192 rfl (lv_at hl 8 rfl) ?_
              obtain ⟨x53, h54, h⟩ := xb h
              refine xr_getr S w 9 xi_X8_deliver_X8 rfl 21 (by decide) xl_X8_deliver_64 h54 dX8_deliver_193 ?_
              refine lv_aload_n S.1 S.2.1 dX8_deliver_196 rfl (lv_at hl 8 rfl) ?_
              obtain ⟨x55, h56, h⟩ := xb h
              refine xr_geti S w 9 xi_X8_deliver_X8 rfl 19 (by decide) xl_X8_deliver_111 h56 dX8_deliver_197 ?_
              refine lv_iload S.1 S.2.1 dX8_deliver_200 (lv_at hl 5 rfl) ?_
              obtain ⟨g57, h58, h⟩ := xb h
              refine xr_iast S w h58 dX8_deliver_202 (fun H locs w => ?_)
              refine lv_aload_n S.1 S.2.1 dX8_deliver_203 rfl (lv_at hl 8 rfl) ?_
              obtain ⟨x59, h60, h⟩ := xb h
              refine xr_getr S w 9 xi_X8_deliver_X8 rfl 22 (by decide) xl_X8_deliver_67 h60 dX8_deliver_204 ?_
              refine lv_aload_n S.1 S.2.1 dX8_deliver_207 rfl (lv_at hl 8 rfl) ?_
              obtain ⟨x61, h62, h⟩ := xb h
              refine xr_geti S w 9 xi_X8_deliver_X8 rfl 19 (by decide) xl_X8_deliver_111 h62 dX8_deliver_208 ?_
              refine lv_iload S.1 S.2.1 dX8_deliver_211 (lv_at hl 3 rfl) ?_
              obtain ⟨g63, h64, h⟩ := xb h
              refine xr_iast S w h64 dX8_deliver_213 (fun H locs w => ?_)
              refine lv_aload_n S.1 S.2.1 dX8_deliver_214 rfl (lv_at hl 8 rfl) ?_
              refine lv_dup S.1 S.2.1 dX8_deliver_215 rfl ?_
              obtain ⟨x65, h66, h⟩ := xb h
              refine xr_geti S w 9 xi_X8_deliver_X8 rfl 19 (by decide) xl_X8_deliver_111 h66 dX8_deliver_216 ?_
              refine lv_iconst (v := 1) S.1 S.2.1 dX8_deliver_219 (by decide) ?_
              refine lv_iadd S.1 S.2.1 dX8_deliver_220 ?_
              obtain ⟨g67, h68, h⟩ := xb h
              refine xr_puti S w 9 xi_X8_deliver_X8 rfl tyX8 tyX8_ok nmX8 19 (by decide) xl_X8_deliver_111 rfl (tyX8_ok 19 (by decide)) h68 dX8_deliver_221 (fun H locs w => ?_)
              refine lv_aload_n S.1 S.2.1 dX8_deliver_224 rfl (lv_at hl 8 rfl) ?_
              refine lv_iload_n S.1 S.2.1 dX8_deliver_225 rfl (lv_at hl 6 rfl) ?_
              refine lv_iconst (v := 2) S.1 S.2.1 dX8_deliver_226 (by decide) ?_
              refine lv_iload S.1 S.2.1 dX8_deliver_227 (lv_at hl 5 rfl) ?_
              refine lv_iload S.1 S.2.1 dX8_deliver_229 (lv_at hl 4 rfl) ?_
              obtain ⟨_, h69, h⟩ := xb h
              obtain ⟨g71, h70, h⟩ := xb h
              refine xr_callV_v S w hA hN 9 rfl h69 (c_X8_enter l D cy L g67 v0 x11 2 x15 x19 h70) (cwV 4 S.2.2.2.2 gX8_deliver_X8_enter rfl rfl rfl (by decide +kernel) ⟨Nat.le_of_ble_eq_true rfl, Nat.le_of_ble_eq_true rfl⟩) rfl rfl hl.1 (Nat.le_of_ble_eq_true rfl) dX8_deliver_231 ⟨Nat.le_of_ble_eq_true rfl, Nat.le_of_ble_eq_true rfl⟩ (fun H locs w => ?_)
              refine lv_aload_n S.1 S.2.1 dX8_deliver_234 rfl (lv_at hl 8 rfl) ?_
              obtain ⟨x72, h73, h⟩ := xb h
              refine xr_getr S w 9 xi_X8_deliver_X8 rfl 3 (by decide) xl_X8_deliver_17 h73 dX8_deliver_235 ?_
              refine lv_iload_n S.1 S.2.1 dX8_deliver_238 rfl (lv_at hl 6 rfl) ?_
              refine lv_aload_n S.1 S.2.1 dX8_deliver_239 rfl (lv_at hl 8 rfl) ?_
              obtain ⟨x74, h75, h⟩ := xb h
              refine xr_getr S w 9 xi_X8_deliver_X8 rfl 3 (by decide) xl_X8_deliver_17 h75 dX8_deliver_240 ?_
              refine lv_iload_n S.1 S.2.1 dX8_deliver_243 rfl (lv_at hl 6 rfl) ?_
              obtain ⟨x76, h77, h⟩ := xb h
              refine xr_iald S w h77 dX8_deliver_244 ?_
              refine lv_iload S.1 S.2.1 dX8_deliver_245 (lv_at hl 4 rfl) ?_
              refine lv_iload S.1 S.2.1 dX8_deliver_247 (lv_at hl 5 rfl) ?_
              refine lv_iadd S.1 S.2.1 dX8_deliver_249 ?_
              refine lv_ixor S.1 S.2.1 dX8_deliver_250 ?_
              obtain ⟨x79, h78, h⟩ := xb h
              refine xr_callS_i S w hA hN (c_X8_turned l D cy L g71 (x76 ^^^ (x19 + x15)) h78) (va_cwS 1 S.2.2.2.2 gX8_deliver_X8_turned rfl rfl rfl (by decide +kernel) ⟨Nat.le_of_ble_eq_true rfl, Nat.le_of_ble_eq_true rfl⟩) rfl rfl hl.1 (Nat.le_of_ble_eq_true rfl) dX8_deliver_251 ⟨Nat.le_of_ble_eq_true rfl, Nat.le_of_ble_eq_true rfl⟩ (fun H locs w => ?_)
              obtain ⟨g80, h81, h⟩ := xb h
              refine xr_iast S w h81 dX8_deliver_254 (fun H locs w => ?_)
              refine lv_aload_n S.1 S.2.1 dX8_deliver_255 rfl (lv_at hl 8 rfl) ?_
              obtain ⟨x82, h83, h⟩ := xb h
              refine xr_getr S w 9 xi_X8_deliver_X8 rfl 3 (by decide) xl_X8_deliver_17 h83 dX8_deliver_256 ?_
              refine lv_iload_n S.1 S.2.1 dX8_deliver_259 rfl (lv_at hl 6 rfl) ?_
              obtain ⟨x84, h85, h⟩ := xb h
              refine xr_iald S w h85 dX8_deliver_260 ?_
              refine lv_bipush (v := 8) S.1 S.2.1 dX8_deliver_261 (by decide) ?_
              refine lv_irem S.1 S.2.1 dX8_deliver_263 (by decide) ?_
              refine lv_if_ne (tgt := 280) S.1 S.2.1 dX8_deliver_264 (by decide) (fun c264 => ?_) (fun c264 => ?_)
              · rw [if_neg c264] at h
                refine lv_aload_n S.1 S.2.1 dX8_deliver_280 rfl (lv_at hl 8 rfl) ?_
                refine lv_iload_n S.1 S.2.1 dX8_deliver_281 rfl (lv_at hl 6 rfl) ?_
                refine lv_iload S.1 S.2.1 dX8_deliver_282 (lv_at hl 5 rfl) ?_
                refine lv_iload S.1 S.2.1 dX8_deliver_284 (lv_at hl 3 rfl) ?_
                refine lv_lload S.1 S.2.1 dX8_deliver_286 (lv_at hl 0 rfl) ?_
                refine lv_iconst (v := 0) S.1 S.2.1 dX8_deliver_288 (by decide) ?_
                obtain ⟨_, h86, h⟩ := xb h
                obtain ⟨x88, g89, h87, h⟩ := x2b h
                refine xr_callV_i S w hA hN 9 rfl h86 (c_X8_keep l D cy L g80 v0 x11 x15 x23 x37 0 h87) (cwV 5 S.2.2.2.2 gX8_deliver_X8_keep rfl rfl rfl (by decide +kernel) ⟨Nat.le_of_ble_eq_true rfl, Nat.le_of_ble_eq_true rfl⟩) rfl rfl hl.1 (Nat.le_of_ble_eq_true rfl) dX8_deliver_289 ⟨Nat.le_of_ble_eq_true rfl, Nat.le_of_ble_eq_true rfl⟩ (fun H locs w => ?_)
                refine lv_istore (lv' := [(13, .int x88), (11, .long x37), (9, .long x31), (7, .long x27), (6, .int x23), (5, .int x19), (4, .int x15), (3, .int x11), (2, .int x7), (0, .ref v0), (1, .int v1)]) S.1 S.2.1 dX8_deliver_292 hl (by decide) rfl (fun ls hl => ?_)
                refine lv_iconst (v := 1) S.1 S.2.1 dX8_deliver_294 (by decide) ?_
                exact ret _ _ _ _ 1 1 _ (by decide) (h.trans (congrArg some hrr)) w dX8_deliver_295
              · rw [if_pos c264] at h
                refine lv_aload_n S.1 S.2.1 dX8_deliver_267 rfl (lv_at hl 8 rfl) ?_
                refine lv_iload_n S.1 S.2.1 dX8_deliver_268 rfl (lv_at hl 6 rfl) ?_
                refine lv_iload S.1 S.2.1 dX8_deliver_269 (lv_at hl 5 rfl) ?_
                refine lv_aload_n S.1 S.2.1 dX8_deliver_271 rfl (lv_at hl 8 rfl) ?_
                obtain ⟨x90, h91, h⟩ := xb h
                refine xr_getr S w 9 xi_X8_deliver_X8 rfl 3 (by decide) xl_X8_deliver_17 h91 dX8_deliver_272 ?_
                refine lv_iload_n S.1 S.2.1 dX8_deliver_275 rfl (lv_at hl 6 rfl) ?_
                obtain ⟨x92, h93, h⟩ := xb h
                refine xr_iald S w h93 dX8_deliver_276 ?_
                obtain ⟨_, h94, h⟩ := xb h
                obtain ⟨g96, h95, h⟩ := xb h
                refine xr_callV_v S w hA hN 9 rfl h94 (c_X8_send l D cy L g80 v0 x11 x15 x92 h95) (cwV 3 S.2.2.2.2 gX8_deliver_X8_send rfl rfl rfl (by decide +kernel) ⟨Nat.le_of_ble_eq_true rfl, Nat.le_of_ble_eq_true rfl⟩) rfl rfl hl.1 (Nat.le_of_ble_eq_true rfl) dX8_deliver_277 ⟨Nat.le_of_ble_eq_true rfl, Nat.le_of_ble_eq_true rfl⟩ (fun H locs w => ?_)
                refine lv_aload_n S.1 S.2.1 dX8_deliver_280 rfl (lv_at hl 8 rfl) ?_
                refine lv_iload_n S.1 S.2.1 dX8_deliver_281 rfl (lv_at hl 6 rfl) ?_
                refine lv_iload S.1 S.2.1 dX8_deliver_282 (lv_at hl 5 rfl) ?_
                refine lv_iload S.1 S.2.1 dX8_deliver_284 (lv_at hl 3 rfl) ?_
                refine lv_lload S.1 S.2.1 dX8_deliver_286 (lv_at hl 0 rfl) ?_
                refine lv_iconst (v := 0) S.1 S.2.1 dX8_deliver_288 (by decide) ?_
                obtain ⟨_, h97, h⟩ := xb h
                obtain ⟨x99, g100, h98, h⟩ := x2b h
                refine xr_callV_i S w hA hN 9 rfl h97 (c_X8_keep l D cy L g96 v0 x11 x15 x23 x37 0 h98) (cwV 5 S.2.2.2.2 gX8_deliver_X8_keep rfl rfl rfl (by decide +kernel) ⟨Nat.le_of_ble_eq_true rfl, Nat.le_of_ble_eq_true rfl⟩) rfl rfl hl.1 (Nat.le_of_ble_eq_true rfl) dX8_deliver_289 ⟨Nat.le_of_ble_eq_true rfl, Nat.le_of_ble_eq_true rfl⟩ (fun H locs w => ?_)
                refine lv_istore (lv' := [(13, .int x99), (11, .long x37), (9, .long x31), (7, .long x27), (6, .int x23), (5, .int x19), (4, .int x15), (3, .int x11), (2, .int x7), (0, .ref v0), (1, .int v1)]) S.1 S.2.1 dX8_deliver_292 hl (by decide) rfl (fun ls hl => ?_)
                refine lv_iconst (v := 1) S.1 S.2.1 dX8_deliver_294 (by decide) ?_
                exact ret _ _ _ _ 1 1 _ (by decide) (h.trans (congrArg some hrr)) w dX8_deliver_295
            · rw [if_neg c177] at h
              refine lv_iconst (v := 0) S.1 S.2.1 dX8_deliver_180 (by decide) ?_
              exact ret _ _ _ _ 0 0 _ (by decide) (h.trans (congrArg some hrr)) w dX8_deliver_181
      · rw [if_pos c91] at h
        refine lv_lload S.1 S.2.1 dX8_deliver_94 (lv_at hl 0 rfl) ?_
        refine lv_iload S.1 S.2.1 dX8_deliver_96 (lv_at hl 4 rfl) ?_
        refine lv_iload S.1 S.2.1 dX8_deliver_98 (lv_at hl 2 rfl) ?_
        refine lv_lload S.1 S.2.1 dX8_deliver_100 (lv_at hl 1 rfl) ?_
        obtain ⟨x102, h101, h⟩ := xb h
        refine xr_callS_l S w hA hN (c_X8_signature l D cy L g35 x15 x23 x27 h101) (va_cwS 3 S.2.2.2.2 gX8_deliver_X8_signature rfl rfl rfl (by decide +kernel) ⟨Nat.le_of_ble_eq_true rfl, Nat.le_of_ble_eq_true rfl⟩) rfl rfl hl.1 (Nat.le_of_ble_eq_true rfl) dX8_deliver_102 ⟨Nat.le_of_ble_eq_true rfl, Nat.le_of_ble_eq_true rfl⟩ (fun H locs w => ?_)
        refine xr_lcne (tgt := 128) S dX8_deliver_105 dX8_deliver_106 (by decide) (fun c105 => ?_) (fun c105 => ?_)
        · rw [if_neg c105] at h
          refine lv_iconst (v := 0) S.1 S.2.1 dX8_deliver_128 (by decide) ?_
          exact ret _ _ _ _ 0 0 _ (by decide) (h.trans (congrArg some hrr)) w dX8_deliver_129
        · rw [if_pos c105] at h
          refine lv_aload_n S.1 S.2.1 dX8_deliver_109 rfl (lv_at hl 7 rfl) ?_
          refine lv_iload_n S.1 S.2.1 dX8_deliver_110 rfl (lv_at hl 5 rfl) ?_
          refine lv_iload S.1 S.2.1 dX8_deliver_111 (lv_at hl 4 rfl) ?_
          refine lv_iload S.1 S.2.1 dX8_deliver_113 (lv_at hl 2 rfl) ?_
          refine lv_lload S.1 S.2.1 dX8_deliver_115 (lv_at hl 1 rfl) ?_
          refine lv_iconst (v := 1) S.1 S.2.1 dX8_deliver_117 (by decide) ?_
          obtain ⟨_, h103, h⟩ := xb h
          obtain ⟨x105, g106, h104, h⟩ := x2b h
          refine xr_callV_i S w hA hN 9 rfl h103 (c_X8_keep l D cy L g35 v0 x11 x15 x23 x27 1 h104) (cwV 5 S.2.2.2.2 gX8_deliver_X8_keep rfl rfl rfl (by decide +kernel) ⟨Nat.le_of_ble_eq_true rfl, Nat.le_of_ble_eq_true rfl⟩) rfl rfl hl.1 (Nat.le_of_ble_eq_true rfl) dX8_deliver_118 ⟨Nat.le_of_ble_eq_true rfl, Nat.le_of_ble_eq_true rfl⟩ (fun H locs w => ?_)
          refine lv_if_eq (tgt := 128) S.1 S.2.1 dX8_deliver_121 (by decide) (fun c121 => ?_) (fun c121 => ?_)
          · rw [if_pos c121] at h
            refine lv_iconst (v := 0) S.1 S.2.1 dX8_deliver_128 (by decide) ?_
            exact ret _ _ _ _ 0 0 _ (by decide) (h.trans (congrArg some hrr)) w dX8_deliver_129
          · rw [if_neg c121] at h
            refine lv_iconst (v := 1) S.1 S.2.1 dX8_deliver_124 (by decide) ?_
            refine lv_goto (tgt := 129) S.1 S.2.1 dX8_deliver_125 (by decide) ?_
            exact ret _ _ _ _ 1 1 _ (by decide) (h.trans (congrArg some hrr)) w dX8_deliver_129
    · rw [if_neg c25] at h
      refine lv_iconst (v := 0) S.1 S.2.1 dX8_deliver_28 (by decide) ?_
      exact ret _ _ _ _ 0 0 _ (by decide) (h.trans (congrArg some hrr)) w dX8_deliver_29
  have hb13 : ∀ (g : xG) (v0 : Nat) (v1 : Int32) (s0 : Nat) , f_X8_deliver_13 g v0 v1 s0 = some rr → ∀ (H : Heap) (locs : List Loc) (ls : Array Slot), xOK D cy A s.heap s L g H locs → lv_has ls 14 [(0, .ref v0), (1, .int v1)] → W p l e { frames := 4, cells := 0, slots := 0, locals := 107 } s m args below meth c H locs 0 0 Q (F0 m 13 ls [.ref s0]) := by
    intro g v0 v1 s0 h H locs ls w hl
    rw [f_X8_deliver_13] at h
    refine lv_iconst (v := 1) S.1 S.2.1 dX8_deliver_13 (by decide) ?_
    refine lv_goto (tgt := 18) S.1 S.2.1 dX8_deliver_14 (by decide) ?_
    exact hb18 g v0 v1 s0 1 h _ _ _ w hl
  rw [f_X8_deliver] at h
  refine lv_aload_n S.1 S.2.1 dX8_deliver_0 rfl (lv_at hl 0 rfl) ?_
  refine lv_iload_n S.1 S.2.1 dX8_deliver_1 rfl (lv_at hl 1 rfl) ?_
  refine lv_if_lt (tgt := 13) S.1 S.2.1 dX8_deliver_2 (by decide) (fun c2 => ?_) (fun c2 => ?_)
  · rw [if_pos c2] at h
    exact hb13 g a0 a1 a0 h _ _ _ w hl
  · rw [if_neg c2] at h
    refine lv_iload_n S.1 S.2.1 dX8_deliver_5 rfl (lv_at hl 1 rfl) ?_
    refine lv_aload_n S.1 S.2.1 dX8_deliver_6 rfl (lv_at hl 0 rfl) ?_
    obtain ⟨x107, h108, h⟩ := xb h
    refine xr_geti S w 9 xi_X8_deliver_X8 rfl 10 (by decide) xl_X8_deliver_105 h108 dX8_deliver_7 ?_
    refine lv_icmp_lt (tgt := 17) S.1 S.2.1 dX8_deliver_10 (by decide) (fun c10 => ?_) (fun c10 => ?_)
    · rw [if_pos c10] at h
      refine lv_iconst (v := 0) S.1 S.2.1 dX8_deliver_17 (by decide) ?_
      exact hb18 g a0 a1 a0 0 h _ _ _ w hl
    · rw [if_neg c10] at h
      exact hb13 g a0 a1 a0 h _ _ _ w hl
theorem xi_X8_drop_X8 : ∀ w ∈ wsX80, w ∈ wsX8_drop := by decide +kernel
theorem xl_X8_drop_102 : Cond.fieldLink RX8 102 (TX8 0).1 (TX8 0).2.1 (TX8 0).2.2.1 ∈ wsX8_drop := by decide +kernel
theorem xl_X8_drop_39 : Cond.fieldLink RX8 39 (TX8 12).1 (TX8 12).2.1 (TX8 12).2.2.1 ∈ wsX8_drop := by decide +kernel
theorem xl_X8_drop_105 : Cond.fieldLink RX8 105 (TX8 10).1 (TX8 10).2.1 (TX8 10).2.2.1 ∈ wsX8_drop := by decide +kernel
def f_X8_drop (g : xG) (a0 : Nat) (a1 : Int32) : Option (Int32 × xG) :=
  if a1 < 0 then
    (xp_i g 9 a0 0 1).bind fun g1 =>
    (xg_i g1 9 a0 0).bind fun x3 =>
    if x3 ≤ 0 then
      (xg_r g1 9 a0 12).bind fun x5 =>
      (xa_i 1 g1 x5 a1).bind fun x7 =>
      (xk g1 9 a0).bind fun _ =>
      (f_X8_take g1 a0 a1).bind fun g11 =>
      some (x7, g11)
    else
      some (0, g1)
  else
    (xg_i g 9 a0 10).bind fun x12 =>
    if a1 < x12 then
      (xp_i g 9 a0 0 0).bind fun g14 =>
      (xg_i g14 9 a0 0).bind fun x16 =>
      if x16 ≤ 0 then
        (xg_r g14 9 a0 12).bind fun x18 =>
        (xa_i 1 g14 x18 a1).bind fun x20 =>
        (xk g14 9 a0).bind fun _ =>
        (f_X8_take g14 a0 a1).bind fun g24 =>
        some (x20, g24)
      else
        some (0, g14)
    else
      (xp_i g 9 a0 0 1).bind fun g25 =>
      (xg_i g25 9 a0 0).bind fun x27 =>
      if x27 ≤ 0 then
        (xg_r g25 9 a0 12).bind fun x29 =>
        (xa_i 1 g25 x29 a1).bind fun x31 =>
        (xk g25 9 a0).bind fun _ =>
        (f_X8_take g25 a0 a1).bind fun g35 =>
        some (x31, g35)
      else
        some (0, g25)
set_option maxHeartbeats 4000000 in
set_option maxRecDepth 100000 in
theorem c_X8_drop (l : Launch) (D : va_G) (cy : Nat → ClassId) (L : List Nat) (g : xG) (a0 : Nat) (a1 : Int32) {r1 : Int32} {g1 : xG} (h : f_X8_drop g a0 a1 = some (r1, g1)) : xMi l yX8_drop wsX8_drop ({ frames := 1, cells := 0, slots := 0, locals := 22 }) D cy L g [.ref a0, .int a1] r1 g1 := by
  refine xm_i (cc := cX8_drop) (maxL := 3) RX8 rfl rfl rfl (by decide +kernel) rfl (Nat.le_of_ble_eq_true rfl) ?_
  intro p e s m args below meth c Q A S w hA hN ret ls hl
  have hl : lv_has ls 3 [(0, .ref a0), (1, .int a1)] := hl
  rw [f_X8_drop] at h
  refine lv_aload_n S.1 S.2.1 dX8_drop_0 rfl (lv_at hl 0 rfl) ?_
  refine lv_iload_n S.1 S.2.1 dX8_drop_1 rfl (lv_at hl 1 rfl) ?_
  refine lv_if_lt (tgt := 13) S.1 S.2.1 dX8_drop_2 (by decide) (fun c2 => ?_) (fun c2 => ?_)
  · rw [if_pos c2] at h
    refine lv_iconst (v := 1) S.1 S.2.1 dX8_drop_13 (by decide) ?_
    refine lv_goto (tgt := 18) S.1 S.2.1 dX8_drop_14 (by decide) ?_
    obtain ⟨g1, h2, h⟩ := xb h
    refine xr_puti S w 9 xi_X8_drop_X8 rfl tyX8 tyX8_ok nmX8 0 (by decide) xl_X8_drop_102 rfl (tyX8_ok 0 (by decide)) h2 dX8_drop_18 (fun H locs w => ?_)
    refine lv_aload_n S.1 S.2.1 dX8_drop_21 rfl (lv_at hl 0 rfl) ?_
    obtain ⟨x3, h4, h⟩ := xb h
    refine xr_geti S w 9 xi_X8_drop_X8 rfl 0 (by decide) xl_X8_drop_102 h4 dX8_drop_22 ?_
    refine lv_if_le (tgt := 30) S.1 S.2.1 dX8_drop_25 (by decide) (fun c25 => ?_) (fun c25 => ?_)
    · rw [if_pos c25] at h
      refine lv_aload_n S.1 S.2.1 dX8_drop_30 rfl (lv_at hl 0 rfl) ?_
      obtain ⟨x5, h6, h⟩ := xb h
      refine xr_getr S w 9 xi_X8_drop_X8 rfl 12 (by decide) xl_X8_drop_39 h6 dX8_drop_31 ?_
      refine lv_iload_n S.1 S.2.1 dX8_drop_34 rfl (lv_at hl 1 rfl) ?_
      obtain ⟨x7, h8, h⟩ := xb h
      refine xr_iald S w h8 dX8_drop_35 ?_
      refine lv_istore_n (lv' := [(2, .int x7), (0, .ref a0), (1, .int a1)]) S.1 S.2.1 dX8_drop_36 rfl hl (by decide) rfl (fun ls hl => ?_)
      refine lv_aload_n S.1 S.2.1 dX8_drop_37 rfl (lv_at hl 1 rfl) ?_
      refine lv_iload_n S.1 S.2.1 dX8_drop_38 rfl (lv_at hl 2 rfl) ?_
      obtain ⟨_, h9, h⟩ := xb h
      obtain ⟨g11, h10, h⟩ := xb h
      refine xr_callV_v S w hA hN 9 rfl h9 (c_X8_take l D cy L g1 a0 a1 h10) (cwV 1 S.2.2.2.2 gX8_drop_X8_take rfl rfl rfl (by decide +kernel) ⟨Nat.le_of_ble_eq_true rfl, Nat.le_of_ble_eq_true rfl⟩) rfl rfl hl.1 (Nat.le_of_ble_eq_true rfl) dX8_drop_39 ⟨Nat.le_of_ble_eq_true rfl, Nat.le_of_ble_eq_true rfl⟩ (fun H locs w => ?_)
      refine lv_iload_n S.1 S.2.1 dX8_drop_42 rfl (lv_at hl 0 rfl) ?_
      exact ret _ _ _ _ _ _ h w dX8_drop_43
    · rw [if_neg c25] at h
      refine lv_iconst (v := 0) S.1 S.2.1 dX8_drop_28 (by decide) ?_
      exact ret _ _ _ _ _ _ h w dX8_drop_29
  · rw [if_neg c2] at h
    refine lv_iload_n S.1 S.2.1 dX8_drop_5 rfl (lv_at hl 1 rfl) ?_
    refine lv_aload_n S.1 S.2.1 dX8_drop_6 rfl (lv_at hl 0 rfl) ?_
    obtain ⟨x12, h13, h⟩ := xb h
    refine xr_geti S w 9 xi_X8_drop_X8 rfl 10 (by decide) xl_X8_drop_105 h13 dX8_drop_7 ?_
    refine lv_icmp_lt (tgt := 17) S.1 S.2.1 dX8_drop_10 (by decide) (fun c10 => ?_) (fun c10 => ?_)
    · rw [if_pos c10] at h
      refine lv_iconst (v := 0) S.1 S.2.1 dX8_drop_17 (by decide) ?_
      obtain ⟨g14, h15, h⟩ := xb h
      refine xr_puti S w 9 xi_X8_drop_X8 rfl tyX8 tyX8_ok nmX8 0 (by decide) xl_X8_drop_102 rfl (tyX8_ok 0 (by decide)) h15 dX8_drop_18 (fun H locs w => ?_)
      refine lv_aload_n S.1 S.2.1 dX8_drop_21 rfl (lv_at hl 0 rfl) ?_
      obtain ⟨x16, h17, h⟩ := xb h
      refine xr_geti S w 9 xi_X8_drop_X8 rfl 0 (by decide) xl_X8_drop_102 h17 dX8_drop_22 ?_
      refine lv_if_le (tgt := 30) S.1 S.2.1 dX8_drop_25 (by decide) (fun c25 => ?_) (fun c25 => ?_)
      · rw [if_pos c25] at h
        refine lv_aload_n S.1 S.2.1 dX8_drop_30 rfl (lv_at hl 0 rfl) ?_
        obtain ⟨x18, h19, h⟩ := xb h
        refine xr_getr S w 9 xi_X8_drop_X8 rfl 12 (by decide) xl_X8_drop_39 h19 dX8_drop_31 ?_
        refine lv_iload_n S.1 S.2.1 dX8_drop_34 rfl (lv_at hl 1 rfl) ?_
        obtain ⟨x20, h21, h⟩ := xb h
        refine xr_iald S w h21 dX8_drop_35 ?_
        refine lv_istore_n (lv' := [(2, .int x20), (0, .ref a0), (1, .int a1)]) S.1 S.2.1 dX8_drop_36 rfl hl (by decide) rfl (fun ls hl => ?_)
        refine lv_aload_n S.1 S.2.1 dX8_drop_37 rfl (lv_at hl 1 rfl) ?_
        refine lv_iload_n S.1 S.2.1 dX8_drop_38 rfl (lv_at hl 2 rfl) ?_
        obtain ⟨_, h22, h⟩ := xb h
        obtain ⟨g24, h23, h⟩ := xb h
        refine xr_callV_v S w hA hN 9 rfl h22 (c_X8_take l D cy L g14 a0 a1 h23) (cwV 1 S.2.2.2.2 gX8_drop_X8_take rfl rfl rfl (by decide +kernel) ⟨Nat.le_of_ble_eq_true rfl, Nat.le_of_ble_eq_true rfl⟩) rfl rfl hl.1 (Nat.le_of_ble_eq_true rfl) dX8_drop_39 ⟨Nat.le_of_ble_eq_true rfl, Nat.le_of_ble_eq_true rfl⟩ (fun H locs w => ?_)
        refine lv_iload_n S.1 S.2.1 dX8_drop_42 rfl (lv_at hl 0 rfl) ?_
        exact ret _ _ _ _ _ _ h w dX8_drop_43
      · rw [if_neg c25] at h
        refine lv_iconst (v := 0) S.1 S.2.1 dX8_drop_28 (by decide) ?_
        exact ret _ _ _ _ _ _ h w dX8_drop_29
    · rw [if_neg c10] at h
      refine lv_iconst (v := 1) S.1 S.2.1 dX8_drop_13 (by decide) ?_
      refine lv_goto (tgt := 18) S.1 S.2.1 dX8_drop_14 (by decide) ?_
      obtain ⟨g25, h26, h⟩ := xb h
      refine xr_puti S w 9 xi_X8_drop_X8 rfl tyX8 tyX8_ok nmX8 0 (by decide) xl_X8_drop_102 rfl (tyX8_ok 0 (by decide)) h26 dX8_drop_18 (fun H locs w => ?_)
      refine lv_aload_n S.1 S.2.1 dX8_drop_21 rfl (lv_at hl 0 rfl) ?_
      obtain ⟨x27, h28, h⟩ := xb h
      refine xr_geti S w 9 xi_X8_drop_X8 rfl 0 (by decide) xl_X8_drop_102 h28 dX8_drop_22 ?_
      refine lv_if_le (tgt := 30) S.1 S.2.1 dX8_drop_25 (by decide) (fun c25 => ?_) (fun c25 => ?_)
      · rw [if_pos c25] at h
        refine lv_aload_n S.1 S.2.1 dX8_drop_30 rfl (lv_at hl 0 rfl) ?_
        obtain ⟨x29, h30, h⟩ := xb h
        refine xr_getr S w 9 xi_X8_drop_X8 rfl 12 (by decide) xl_X8_drop_39 h30 dX8_drop_31 ?_
        refine lv_iload_n S.1 S.2.1 dX8_drop_34 rfl (lv_at hl 1 rfl) ?_
        obtain ⟨x31, h32, h⟩ := xb h
        refine xr_iald S w h32 dX8_drop_35 ?_
        refine lv_istore_n (lv' := [(2, .int x31), (0, .ref a0), (1, .int a1)]) S.1 S.2.1 dX8_drop_36 rfl hl (by decide) rfl (fun ls hl => ?_)
        refine lv_aload_n S.1 S.2.1 dX8_drop_37 rfl (lv_at hl 1 rfl) ?_
        refine lv_iload_n S.1 S.2.1 dX8_drop_38 rfl (lv_at hl 2 rfl) ?_
        obtain ⟨_, h33, h⟩ := xb h
        obtain ⟨g35, h34, h⟩ := xb h
        refine xr_callV_v S w hA hN 9 rfl h33 (c_X8_take l D cy L g25 a0 a1 h34) (cwV 1 S.2.2.2.2 gX8_drop_X8_take rfl rfl rfl (by decide +kernel) ⟨Nat.le_of_ble_eq_true rfl, Nat.le_of_ble_eq_true rfl⟩) rfl rfl hl.1 (Nat.le_of_ble_eq_true rfl) dX8_drop_39 ⟨Nat.le_of_ble_eq_true rfl, Nat.le_of_ble_eq_true rfl⟩ (fun H locs w => ?_)
        refine lv_iload_n S.1 S.2.1 dX8_drop_42 rfl (lv_at hl 0 rfl) ?_
        exact ret _ _ _ _ _ _ h w dX8_drop_43
      · rw [if_neg c25] at h
        refine lv_iconst (v := 0) S.1 S.2.1 dX8_drop_28 (by decide) ?_
        exact ret _ _ _ _ _ _ h w dX8_drop_29
theorem xi_X8_copy_X8 : ∀ w ∈ wsX80, w ∈ wsX8_copy := by decide +kernel
theorem xl_X8_copy_102 : Cond.fieldLink RX8 102 (TX8 0).1 (TX8 0).2.1 (TX8 0).2.2.1 ∈ wsX8_copy := by decide +kernel
theorem xl_X8_copy_105 : Cond.fieldLink RX8 105 (TX8 10).1 (TX8 10).2.1 (TX8 10).2.2.1 ∈ wsX8_copy := by decide +kernel
theorem xl_X8_copy_39 : Cond.fieldLink RX8 39 (TX8 12).1 (TX8 12).2.1 (TX8 12).2.2.1 ∈ wsX8_copy := by decide +kernel
theorem xl_X8_copy_42 : Cond.fieldLink RX8 42 (TX8 13).1 (TX8 13).2.1 (TX8 13).2.2.1 ∈ wsX8_copy := by decide +kernel
theorem xl_X8_copy_45 : Cond.fieldLink RX8 45 (TX8 14).1 (TX8 14).2.1 (TX8 14).2.2.1 ∈ wsX8_copy := by decide +kernel
theorem xl_X8_copy_48 : Cond.fieldLink RX8 48 (TX8 15).1 (TX8 15).2.1 (TX8 15).2.2.1 ∈ wsX8_copy := by decide +kernel
theorem xl_X8_copy_51 : Cond.fieldLink RX8 51 (TX8 16).1 (TX8 16).2.1 (TX8 16).2.2.1 ∈ wsX8_copy := by decide +kernel
theorem xl_X8_copy_54 : Cond.fieldLink RX8 54 (TX8 17).1 (TX8 17).2.1 (TX8 17).2.2.1 ∈ wsX8_copy := by decide +kernel
theorem xl_X8_copy_58 : Cond.fieldLink RX8 58 (TX8 18).1 (TX8 18).2.1 (TX8 18).2.2.1 ∈ wsX8_copy := by decide +kernel
theorem xl_X8_copy_108 : Cond.fieldLink RX8 108 (TX8 11).1 (TX8 11).2.1 (TX8 11).2.2.1 ∈ wsX8_copy := by decide +kernel
def f_X8_copy_18 (g : xG) (v0 : Nat) (v1 : Int32) (s0 : Nat) (s1 : Int32) : Option (Int32 × xG) :=
  (xp_i g 9 s0 0 s1).bind fun g1 =>
  (xg_i g1 9 v0 0).bind fun x3 =>
  if 0 < x3 then
    some (0, g1)
  else
    (xg_i g1 9 v0 10).bind fun x5 =>
    if x5 = 200 then
      some (0, g1)
    else
      (xg_r g1 9 v0 12).bind fun x7 =>
      (xa_i 1 g1 x7 v1).bind fun x9 =>
      (xg_r g1 9 v0 13).bind fun x11 =>
      (xa_i 1 g1 x11 v1).bind fun x13 =>
      (xg_r g1 9 v0 14).bind fun x15 =>
      (xa_i 1 g1 x15 v1).bind fun x17 =>
      (xg_r g1 9 v0 15).bind fun x19 =>
      (xa_i 1 g1 x19 v1).bind fun x21 =>
      (xg_r g1 9 v0 16).bind fun x23 =>
      (xa_i 1 g1 x23 v1).bind fun x25 =>
      (xg_r g1 9 v0 17).bind fun x27 =>
      (xa_l g1 x27 v1).bind fun x29 =>
      (xg_r g1 9 v0 18).bind fun x31 =>
      (xa_l g1 x31 v1).bind fun x33 =>
      (xk g1 9 v0).bind fun _ =>
      (f_X8_letter g1 v0 x9 x13 x17 x21 x25 x29 x33).bind fun g37 =>
      (xg_i g37 9 v0 11).bind fun x38 =>
      (xp_i g37 9 v0 11 (x38 - 1)).bind fun g40 =>
      some (1, g40)
def f_X8_copy_13 (g : xG) (v0 : Nat) (v1 : Int32) (s0 : Nat) : Option (Int32 × xG) :=
  f_X8_copy_18 g v0 v1 s0 1
def f_X8_copy (g : xG) (a0 : Nat) (a1 : Int32) : Option (Int32 × xG) :=
  if a1 < 0 then
    f_X8_copy_13 g a0 a1 a0
  else
    (xg_i g 9 a0 10).bind fun x42 =>
    if a1 < x42 then
      f_X8_copy_18 g a0 a1 a0 0
    else
      f_X8_copy_13 g a0 a1 a0
set_option maxHeartbeats 4000000 in
set_option maxRecDepth 100000 in
theorem c_X8_copy (l : Launch) (D : va_G) (cy : Nat → ClassId) (L : List Nat) (g : xG) (a0 : Nat) (a1 : Int32) {r1 : Int32} {g1 : xG} (h : f_X8_copy g a0 a1 = some (r1, g1)) : xMi l yX8_copy wsX8_copy ({ frames := 1, cells := 0, slots := 0, locals := 29 }) D cy L g [.ref a0, .int a1] r1 g1 := by
  refine xm_z (cc := cX8_copy) (maxL := 2) RX8 rfl rfl rfl (by decide +kernel) rfl (Nat.le_of_ble_eq_true rfl) ?_
  intro p e s m args below meth c Q A S w hA hN ret ls hl
  have hl : lv_has ls 2 [(0, .ref a0), (1, .int a1)] := hl
  obtain ⟨rr, hrr⟩ : ∃ z, z = (r1, g1) := ⟨_, rfl⟩
  rw [← hrr] at h
  have hb18 : ∀ (g : xG) (v0 : Nat) (v1 : Int32) (s0 : Nat) (s1 : Int32) , f_X8_copy_18 g v0 v1 s0 s1 = some rr → ∀ (H : Heap) (locs : List Loc) (ls : Array Slot), xOK D cy A s.heap s L g H locs → lv_has ls 2 [(0, .ref v0), (1, .int v1)] → W p l e { frames := 1, cells := 0, slots := 0, locals := 29 } s m args below meth c H locs 0 0 Q (F0 m 18 ls [.int s1, .ref s0]) := by
    intro g v0 v1 s0 s1 h H locs ls w hl
    rw [f_X8_copy_18] at h
    obtain ⟨g1, h2, h⟩ := xb h
    refine xr_puti S w 9 xi_X8_copy_X8 rfl tyX8 tyX8_ok nmX8 0 (by decide) xl_X8_copy_102 rfl (tyX8_ok 0 (by decide)) h2 dX8_copy_18 (fun H locs w => ?_)
    refine lv_aload_n S.1 S.2.1 dX8_copy_21 rfl (lv_at hl 0 rfl) ?_
    obtain ⟨x3, h4, h⟩ := xb h
    refine xr_geti S w 9 xi_X8_copy_X8 rfl 0 (by decide) xl_X8_copy_102 h4 dX8_copy_22 ?_
    refine lv_if_gt (tgt := 38) S.1 S.2.1 dX8_copy_25 (by decide) (fun c25 => ?_) (fun c25 => ?_)
    · rw [if_pos c25] at h
      refine lv_iconst (v := 0) S.1 S.2.1 dX8_copy_38 (by decide) ?_
      exact ret _ _ _ _ 0 0 _ (by decide) (h.trans (congrArg some hrr)) w dX8_copy_39
    · rw [if_neg c25] at h
      refine lv_aload_n S.1 S.2.1 dX8_copy_28 rfl (lv_at hl 0 rfl) ?_
      obtain ⟨x5, h6, h⟩ := xb h
      refine xr_geti S w 9 xi_X8_copy_X8 rfl 10 (by decide) xl_X8_copy_105 h6 dX8_copy_29 ?_
      refine lv_sipush (v := 200) S.1 S.2.1 dX8_copy_32 (by decide) ?_
      refine lv_icmp_ne (tgt := 40) S.1 S.2.1 dX8_copy_35 (by decide) (fun c35 => ?_) (fun c35 => ?_)
      · rw [if_neg c35] at h
        refine lv_aload_n S.1 S.2.1 dX8_copy_40 rfl (lv_at hl 0 rfl) ?_
        refine lv_aload_n S.1 S.2.1 dX8_copy_41 rfl (lv_at hl 0 rfl) ?_
        obtain ⟨x7, h8, h⟩ := xb h
        refine xr_getr S w 9 xi_X8_copy_X8 rfl 12 (by decide) xl_X8_copy_39 h8 dX8_copy_42 ?_
        refine lv_iload_n S.1 S.2.1 dX8_copy_45 rfl (lv_at hl 1 rfl) ?_
        obtain ⟨x9, h10, h⟩ := xb h
        refine xr_iald S w h10 dX8_copy_46 ?_
        refine lv_aload_n S.1 S.2.1 dX8_copy_47 rfl (lv_at hl 0 rfl) ?_
        obtain ⟨x11, h12, h⟩ := xb h
        refine xr_getr S w 9 xi_X8_copy_X8 rfl 13 (by decide) xl_X8_copy_42 h12 dX8_copy_48 ?_
        refine lv_iload_n S.1 S.2.1 dX8_copy_51 rfl (lv_at hl 1 rfl) ?_
        obtain ⟨x13, h14, h⟩ := xb h
        refine xr_iald S w h14 dX8_copy_52 ?_
        refine lv_aload_n S.1 S.2.1 dX8_copy_53 rfl (lv_at hl 0 rfl) ?_
        obtain ⟨x15, h16, h⟩ := xb h
        refine xr_getr S w 9 xi_X8_copy_X8 rfl 14 (by decide) xl_X8_copy_45 h16 dX8_copy_54 ?_
        refine lv_iload_n S.1 S.2.1 dX8_copy_57 rfl (lv_at hl 1 rfl) ?_
        obtain ⟨x17, h18, h⟩ := xb h
        refine xr_iald S w h18 dX8_copy_58 ?_
        refine lv_aload_n S.1 S.2.1 dX8_copy_59 rfl (lv_at hl 0 rfl) ?_
        obtain ⟨x19, h20, h⟩ := xb h
        refine xr_getr S w 9 xi_X8_copy_X8 rfl 15 (by decide) xl_X8_copy_48 h20 dX8_copy_60 ?_
        refine lv_iload_n S.1 S.2.1 dX8_copy_63 rfl (lv_at hl 1 rfl) ?_
        obtain ⟨x21, h22, h⟩ := xb h
        refine xr_iald S w h22 dX8_copy_64 ?_
        refine lv_aload_n S.1 S.2.1 dX8_copy_65 rfl (lv_at hl 0 rfl) ?_
        obtain ⟨x23, h24, h⟩ := xb h
        refine xr_getr S w 9 xi_X8_copy_X8 rfl 16 (by decide) xl_X8_copy_51 h24 dX8_copy_66 ?_
        refine lv_iload_n S.1 S.2.1 dX8_copy_69 rfl (lv_at hl 1 rfl) ?_
        obtain ⟨x25, h26, h⟩ := xb h
        refine xr_iald S w h26 dX8_copy_70 ?_
        refine lv_aload_n S.1 S.2.1 dX8_copy_71 rfl (lv_at hl 0 rfl) ?_
        obtain ⟨x27, h28, h⟩ := xb h
        refine xr_getr S w 9 xi_X8_copy_X8 rfl 17 (by decide) xl_X8_copy_54 h28 dX8_copy_72 ?_
        refine lv_iload_n S.1 S.2.1 dX8_copy_75 rfl (lv_at hl 1 rfl) ?_
        obtain ⟨x29, h30, h⟩ := xb h
        refine xr_lald S w h30 dX8_copy_76 ?_
        refine lv_aload_n S.1 S.2.1 dX8_copy_77 rfl (lv_at hl 0 rfl) ?_
        obtain ⟨x31, h32, h⟩ := xb h
        refine xr_getr S w 9 xi_X8_copy_X8 rfl 18 (by decide) xl_X8_copy_58 h32 dX8_copy_78 ?_
        refine lv_iload_n S.1 S.2.1 dX8_copy_81 rfl (lv_at hl 1 rfl) ?_
        obtain ⟨x33, h34, h⟩ := xb h
        refine xr_lald S w h34 dX8_copy_82 ?_
        obtain ⟨_, h35, h⟩ := xb h
        obtain ⟨g37, h36, h⟩ := xb h
        refine xr_callV_v S w hA hN 9 rfl h35 (c_X8_letter l D cy L g1 v0 x9 x13 x17 x21 x25 x29 x33 h36) (cwV 7 S.2.2.2.2 gX8_copy_X8_letter rfl rfl rfl (by decide +kernel) ⟨Nat.le_of_ble_eq_true rfl, Nat.le_of_ble_eq_true rfl⟩) rfl rfl hl.1 (Nat.le_of_ble_eq_true rfl) dX8_copy_83 ⟨Nat.le_of_ble_eq_true rfl, Nat.le_of_ble_eq_true rfl⟩ (fun H locs w => ?_)
        refine lv_aload_n S.1 S.2.1 dX8_copy_86 rfl (lv_at hl 0 rfl) ?_
        refine lv_dup S.1 S.2.1 dX8_copy_87 rfl ?_
        obtain ⟨x38, h39, h⟩ := xb h
        refine xr_geti S w 9 xi_X8_copy_X8 rfl 11 (by decide) xl_X8_copy_108 h39 dX8_copy_88 ?_
        refine lv_iconst (v := 1) S.1 S.2.1 dX8_copy_91 (by decide) ?_
        refine lv_isub S.1 S.2.1 dX8_copy_92 ?_
        obtain ⟨g40, h41, h⟩ := xb h
        refine xr_puti S w 9 xi_X8_copy_X8 rfl tyX8 tyX8_ok nmX8 11 (by decide) xl_X8_copy_108 rfl (tyX8_ok 11 (by decide)) h41 dX8_copy_93 (fun H locs w => ?_)
        refine lv_iconst (v := 1) S.1 S.2.1 dX8_copy_96 (by decide) ?_
        exact ret _ _ _ _ 1 1 _ (by decide) (h.trans (congrArg some hrr)) w dX8_copy_97
      · rw [if_pos c35] at h
        refine lv_iconst (v := 0) S.1 S.2.1 dX8_copy_38 (by decide) ?_
        exact ret _ _ _ _ 0 0 _ (by decide) (h.trans (congrArg some hrr)) w dX8_copy_39
  have hb13 : ∀ (g : xG) (v0 : Nat) (v1 : Int32) (s0 : Nat) , f_X8_copy_13 g v0 v1 s0 = some rr → ∀ (H : Heap) (locs : List Loc) (ls : Array Slot), xOK D cy A s.heap s L g H locs → lv_has ls 2 [(0, .ref v0), (1, .int v1)] → W p l e { frames := 1, cells := 0, slots := 0, locals := 29 } s m args below meth c H locs 0 0 Q (F0 m 13 ls [.ref s0]) := by
    intro g v0 v1 s0 h H locs ls w hl
    rw [f_X8_copy_13] at h
    refine lv_iconst (v := 1) S.1 S.2.1 dX8_copy_13 (by decide) ?_
    refine lv_goto (tgt := 18) S.1 S.2.1 dX8_copy_14 (by decide) ?_
    exact hb18 g v0 v1 s0 1 h _ _ _ w hl
  rw [f_X8_copy] at h
  refine lv_aload_n S.1 S.2.1 dX8_copy_0 rfl (lv_at hl 0 rfl) ?_
  refine lv_iload_n S.1 S.2.1 dX8_copy_1 rfl (lv_at hl 1 rfl) ?_
  refine lv_if_lt (tgt := 13) S.1 S.2.1 dX8_copy_2 (by decide) (fun c2 => ?_) (fun c2 => ?_)
  · rw [if_pos c2] at h
    exact hb13 g a0 a1 a0 h _ _ _ w hl
  · rw [if_neg c2] at h
    refine lv_iload_n S.1 S.2.1 dX8_copy_5 rfl (lv_at hl 1 rfl) ?_
    refine lv_aload_n S.1 S.2.1 dX8_copy_6 rfl (lv_at hl 0 rfl) ?_
    obtain ⟨x42, h43, h⟩ := xb h
    refine xr_geti S w 9 xi_X8_copy_X8 rfl 10 (by decide) xl_X8_copy_105 h43 dX8_copy_7 ?_
    refine lv_icmp_lt (tgt := 17) S.1 S.2.1 dX8_copy_10 (by decide) (fun c10 => ?_) (fun c10 => ?_)
    · rw [if_pos c10] at h
      refine lv_iconst (v := 0) S.1 S.2.1 dX8_copy_17 (by decide) ?_
      exact hb18 g a0 a1 a0 0 h _ _ _ w hl
    · rw [if_neg c10] at h
      exact hb13 g a0 a1 a0 h _ _ _ w hl
theorem xi_X8_spoil_X8 : ∀ w ∈ wsX80, w ∈ wsX8_spoil := by decide +kernel
theorem xl_X8_spoil_102 : Cond.fieldLink RX8 102 (TX8 0).1 (TX8 0).2.1 (TX8 0).2.2.1 ∈ wsX8_spoil := by decide +kernel
theorem xl_X8_spoil_48 : Cond.fieldLink RX8 48 (TX8 15).1 (TX8 15).2.1 (TX8 15).2.2.1 ∈ wsX8_spoil := by decide +kernel
theorem xl_X8_spoil_105 : Cond.fieldLink RX8 105 (TX8 10).1 (TX8 10).2.1 (TX8 10).2.2.1 ∈ wsX8_spoil := by decide +kernel
theorem xl_X8_spoil_39 : Cond.fieldLink RX8 39 (TX8 12).1 (TX8 12).2.1 (TX8 12).2.2.1 ∈ wsX8_spoil := by decide +kernel
def f_X8_spoil (g : xG) (a0 : Nat) (a1 : Int32) (a2 : Int32) : Option (Int32 × xG) :=
  if a1 < 0 then
    (xp_i g 9 a0 0 1).bind fun g1 =>
    (xg_i g1 9 a0 0).bind fun x3 =>
    if x3 ≤ 0 then
      (xg_r g1 9 a0 15).bind fun x5 =>
      (xa_i 1 g1 x5 a1).bind fun x7 =>
      (xg_r g1 9 a0 15).bind fun x9 =>
      (xs_i 1 g1 x9 a1 a2).bind fun g11 =>
      some (x7, g11)
    else
      some (0, g1)
  else
    (xg_i g 9 a0 10).bind fun x13 =>
    if a1 < x13 then
      (xg_r g 9 a0 12).bind fun x15 =>
      (xa_i 1 g x15 a1).bind fun x17 =>
      if x17 = 1 then
        (xp_i g 9 a0 0 0).bind fun g19 =>
        (xg_i g19 9 a0 0).bind fun x21 =>
        if x21 ≤ 0 then
          (xg_r g19 9 a0 15).bind fun x23 =>
          (xa_i 1 g19 x23 a1).bind fun x25 =>
          (xg_r g19 9 a0 15).bind fun x27 =>
          (xs_i 1 g19 x27 a1 a2).bind fun g29 =>
          some (x25, g29)
        else
          some (0, g19)
      else
        (xp_i g 9 a0 0 1).bind fun g31 =>
        (xg_i g31 9 a0 0).bind fun x33 =>
        if x33 ≤ 0 then
          (xg_r g31 9 a0 15).bind fun x35 =>
          (xa_i 1 g31 x35 a1).bind fun x37 =>
          (xg_r g31 9 a0 15).bind fun x39 =>
          (xs_i 1 g31 x39 a1 a2).bind fun g41 =>
          some (x37, g41)
        else
          some (0, g31)
    else
      (xp_i g 9 a0 0 1).bind fun g43 =>
      (xg_i g43 9 a0 0).bind fun x45 =>
      if x45 ≤ 0 then
        (xg_r g43 9 a0 15).bind fun x47 =>
        (xa_i 1 g43 x47 a1).bind fun x49 =>
        (xg_r g43 9 a0 15).bind fun x51 =>
        (xs_i 1 g43 x51 a1 a2).bind fun g53 =>
        some (x49, g53)
      else
        some (0, g43)
set_option maxHeartbeats 4000000 in
set_option maxRecDepth 100000 in
theorem c_X8_spoil (l : Launch) (D : va_G) (cy : Nat → ClassId) (L : List Nat) (g : xG) (a0 : Nat) (a1 : Int32) (a2 : Int32) {r1 : Int32} {g1 : xG} (h : f_X8_spoil g a0 a1 a2 = some (r1, g1)) : xMi l yX8_spoil wsX8_spoil ({ frames := 0, cells := 0, slots := 0, locals := 0 }) D cy L g [.ref a0, .int a1, .int a2] r1 g1 := by
  refine xm_i (cc := cX8_spoil) (maxL := 4) RX8 rfl rfl rfl (by decide +kernel) rfl (Nat.le_of_ble_eq_true rfl) ?_
  intro p e s m args below meth c Q A S w hA hN ret ls hl
  have hl : lv_has ls 4 [(0, .ref a0), (1, .int a1), (2, .int a2)] := hl
  rw [f_X8_spoil] at h
  refine lv_aload_n S.1 S.2.1 dX8_spoil_0 rfl (lv_at hl 0 rfl) ?_
  refine lv_iload_n S.1 S.2.1 dX8_spoil_1 rfl (lv_at hl 1 rfl) ?_
  refine lv_if_lt (tgt := 13) S.1 S.2.1 dX8_spoil_2 (by decide) (fun c2 => ?_) (fun c2 => ?_)
  · rw [if_pos c2] at h
    refine lv_iconst (v := 1) S.1 S.2.1 dX8_spoil_13 (by decide) ?_
    refine lv_goto (tgt := 32) S.1 S.2.1 dX8_spoil_14 (by decide) ?_
    obtain ⟨g1, h2, h⟩ := xb h
    refine xr_puti S w 9 xi_X8_spoil_X8 rfl tyX8 tyX8_ok nmX8 0 (by decide) xl_X8_spoil_102 rfl (tyX8_ok 0 (by decide)) h2 dX8_spoil_32 (fun H locs w => ?_)
    refine lv_aload_n S.1 S.2.1 dX8_spoil_35 rfl (lv_at hl 0 rfl) ?_
    obtain ⟨x3, h4, h⟩ := xb h
    refine xr_geti S w 9 xi_X8_spoil_X8 rfl 0 (by decide) xl_X8_spoil_102 h4 dX8_spoil_36 ?_
    refine lv_if_le (tgt := 44) S.1 S.2.1 dX8_spoil_39 (by decide) (fun c39 => ?_) (fun c39 => ?_)
    · rw [if_pos c39] at h
      refine lv_aload_n S.1 S.2.1 dX8_spoil_44 rfl (lv_at hl 0 rfl) ?_
      obtain ⟨x5, h6, h⟩ := xb h
      refine xr_getr S w 9 xi_X8_spoil_X8 rfl 15 (by decide) xl_X8_spoil_48 h6 dX8_spoil_45 ?_
      refine lv_iload_n S.1 S.2.1 dX8_spoil_48 rfl (lv_at hl 1 rfl) ?_
      obtain ⟨x7, h8, h⟩ := xb h
      refine xr_iald S w h8 dX8_spoil_49 ?_
      refine lv_istore_n (lv' := [(3, .int x7), (0, .ref a0), (1, .int a1), (2, .int a2)]) S.1 S.2.1 dX8_spoil_50 rfl hl (by decide) rfl (fun ls hl => ?_)
      refine lv_aload_n S.1 S.2.1 dX8_spoil_51 rfl (lv_at hl 1 rfl) ?_
      obtain ⟨x9, h10, h⟩ := xb h
      refine xr_getr S w 9 xi_X8_spoil_X8 rfl 15 (by decide) xl_X8_spoil_48 h10 dX8_spoil_52 ?_
      refine lv_iload_n S.1 S.2.1 dX8_spoil_55 rfl (lv_at hl 2 rfl) ?_
      refine lv_iload_n S.1 S.2.1 dX8_spoil_56 rfl (lv_at hl 3 rfl) ?_
      obtain ⟨g11, h12, h⟩ := xb h
      refine xr_iast S w h12 dX8_spoil_57 (fun H locs w => ?_)
      refine lv_iload_n S.1 S.2.1 dX8_spoil_58 rfl (lv_at hl 0 rfl) ?_
      exact ret _ _ _ _ _ _ h w dX8_spoil_59
    · rw [if_neg c39] at h
      refine lv_iconst (v := 0) S.1 S.2.1 dX8_spoil_42 (by decide) ?_
      exact ret _ _ _ _ _ _ h w dX8_spoil_43
  · rw [if_neg c2] at h
    refine lv_iload_n S.1 S.2.1 dX8_spoil_5 rfl (lv_at hl 1 rfl) ?_
    refine lv_aload_n S.1 S.2.1 dX8_spoil_6 rfl (lv_at hl 0 rfl) ?_
    obtain ⟨x13, h14, h⟩ := xb h
    refine xr_geti S w 9 xi_X8_spoil_X8 rfl 10 (by decide) xl_X8_spoil_105 h14 dX8_spoil_7 ?_
    refine lv_icmp_lt (tgt := 17) S.1 S.2.1 dX8_spoil_10 (by decide) (fun c10 => ?_) (fun c10 => ?_)
    · rw [if_pos c10] at h
      refine lv_aload_n S.1 S.2.1 dX8_spoil_17 rfl (lv_at hl 0 rfl) ?_
      obtain ⟨x15, h16, h⟩ := xb h
      refine xr_getr S w 9 xi_X8_spoil_X8 rfl 12 (by decide) xl_X8_spoil_39 h16 dX8_spoil_18 ?_
      refine lv_iload_n S.1 S.2.1 dX8_spoil_21 rfl (lv_at hl 1 rfl) ?_
      obtain ⟨x17, h18, h⟩ := xb h
      refine xr_iald S w h18 dX8_spoil_22 ?_
      refine lv_iconst (v := 1) S.1 S.2.1 dX8_spoil_23 (by decide) ?_
      refine lv_icmp_eq (tgt := 31) S.1 S.2.1 dX8_spoil_24 (by decide) (fun c24 => ?_) (fun c24 => ?_)
      · rw [if_pos c24] at h
        refine lv_iconst (v := 0) S.1 S.2.1 dX8_spoil_31 (by decide) ?_
        obtain ⟨g19, h20, h⟩ := xb h
        refine xr_puti S w 9 xi_X8_spoil_X8 rfl tyX8 tyX8_ok nmX8 0 (by decide) xl_X8_spoil_102 rfl (tyX8_ok 0 (by decide)) h20 dX8_spoil_32 (fun H locs w => ?_)
        refine lv_aload_n S.1 S.2.1 dX8_spoil_35 rfl (lv_at hl 0 rfl) ?_
        obtain ⟨x21, h22, h⟩ := xb h
        refine xr_geti S w 9 xi_X8_spoil_X8 rfl 0 (by decide) xl_X8_spoil_102 h22 dX8_spoil_36 ?_
        refine lv_if_le (tgt := 44) S.1 S.2.1 dX8_spoil_39 (by decide) (fun c39 => ?_) (fun c39 => ?_)
        · rw [if_pos c39] at h
          refine lv_aload_n S.1 S.2.1 dX8_spoil_44 rfl (lv_at hl 0 rfl) ?_
          obtain ⟨x23, h24, h⟩ := xb h
          refine xr_getr S w 9 xi_X8_spoil_X8 rfl 15 (by decide) xl_X8_spoil_48 h24 dX8_spoil_45 ?_
          refine lv_iload_n S.1 S.2.1 dX8_spoil_48 rfl (lv_at hl 1 rfl) ?_
          obtain ⟨x25, h26, h⟩ := xb h
          refine xr_iald S w h26 dX8_spoil_49 ?_
          refine lv_istore_n (lv' := [(3, .int x25), (0, .ref a0), (1, .int a1), (2, .int a2)]) S.1 S.2.1 dX8_spoil_50 rfl hl (by decide) rfl (fun ls hl => ?_)
          refine lv_aload_n S.1 S.2.1 dX8_spoil_51 rfl (lv_at hl 1 rfl) ?_
          obtain ⟨x27, h28, h⟩ := xb h
          refine xr_getr S w 9 xi_X8_spoil_X8 rfl 15 (by decide) xl_X8_spoil_48 h28 dX8_spoil_52 ?_
          refine lv_iload_n S.1 S.2.1 dX8_spoil_55 rfl (lv_at hl 2 rfl) ?_
          refine lv_iload_n S.1 S.2.1 dX8_spoil_56 rfl (lv_at hl 3 rfl) ?_
          obtain ⟨g29, h30, h⟩ := xb h
          refine xr_iast S w h30 dX8_spoil_57 (fun H locs w => ?_)
          refine lv_iload_n S.1 S.2.1 dX8_spoil_58 rfl (lv_at hl 0 rfl) ?_
          exact ret _ _ _ _ _ _ h w dX8_spoil_59
        · rw [if_neg c39] at h
          refine lv_iconst (v := 0) S.1 S.2.1 dX8_spoil_42 (by decide) ?_
          exact ret _ _ _ _ _ _ h w dX8_spoil_43
      · rw [if_neg c24] at h
        refine lv_iconst (v := 1) S.1 S.2.1 dX8_spoil_27 (by decide) ?_
        refine lv_goto (tgt := 32) S.1 S.2.1 dX8_spoil_28 (by decide) ?_
        obtain ⟨g31, h32, h⟩ := xb h
        refine xr_puti S w 9 xi_X8_spoil_X8 rfl tyX8 tyX8_ok nmX8 0 (by decide) xl_X8_spoil_102 rfl (tyX8_ok 0 (by decide)) h32 dX8_spoil_32 (fun H locs w => ?_)
        refine lv_aload_n S.1 S.2.1 dX8_spoil_35 rfl (lv_at hl 0 rfl) ?_
        obtain ⟨x33, h34, h⟩ := xb h
        refine xr_geti S w 9 xi_X8_spoil_X8 rfl 0 (by decide) xl_X8_spoil_102 h34 dX8_spoil_36 ?_
        refine lv_if_le (tgt := 44) S.1 S.2.1 dX8_spoil_39 (by decide) (fun c39 => ?_) (fun c39 => ?_)
        · rw [if_pos c39] at h
          refine lv_aload_n S.1 S.2.1 dX8_spoil_44 rfl (lv_at hl 0 rfl) ?_
          obtain ⟨x35, h36, h⟩ := xb h
          refine xr_getr S w 9 xi_X8_spoil_X8 rfl 15 (by decide) xl_X8_spoil_48 h36 dX8_spoil_45 ?_
          refine lv_iload_n S.1 S.2.1 dX8_spoil_48 rfl (lv_at hl 1 rfl) ?_
          obtain ⟨x37, h38, h⟩ := xb h
          refine xr_iald S w h38 dX8_spoil_49 ?_
          refine lv_istore_n (lv' := [(3, .int x37), (0, .ref a0), (1, .int a1), (2, .int a2)]) S.1 S.2.1 dX8_spoil_50 rfl hl (by decide) rfl (fun ls hl => ?_)
          refine lv_aload_n S.1 S.2.1 dX8_spoil_51 rfl (lv_at hl 1 rfl) ?_
          obtain ⟨x39, h40, h⟩ := xb h
          refine xr_getr S w 9 xi_X8_spoil_X8 rfl 15 (by decide) xl_X8_spoil_48 h40 dX8_spoil_52 ?_
          refine lv_iload_n S.1 S.2.1 dX8_spoil_55 rfl (lv_at hl 2 rfl) ?_
          refine lv_iload_n S.1 S.2.1 dX8_spoil_56 rfl (lv_at hl 3 rfl) ?_
          obtain ⟨g41, h42, h⟩ := xb h
          refine xr_iast S w h42 dX8_spoil_57 (fun H locs w => ?_)
          refine lv_iload_n S.1 S.2.1 dX8_spoil_58 rfl (lv_at hl 0 rfl) ?_
          exact ret _ _ _ _ _ _ h w dX8_spoil_59
        · rw [if_neg c39] at h
          refine lv_iconst (v := 0) S.1 S.2.1 dX8_spoil_42 (by decide) ?_
          exact ret _ _ _ _ _ _ h w dX8_spoil_43
    · rw [if_neg c10] at h
      refine lv_iconst (v := 1) S.1 S.2.1 dX8_spoil_13 (by decide) ?_
      refine lv_goto (tgt := 32) S.1 S.2.1 dX8_spoil_14 (by decide) ?_
      obtain ⟨g43, h44, h⟩ := xb h
      refine xr_puti S w 9 xi_X8_spoil_X8 rfl tyX8 tyX8_ok nmX8 0 (by decide) xl_X8_spoil_102 rfl (tyX8_ok 0 (by decide)) h44 dX8_spoil_32 (fun H locs w => ?_)
      refine lv_aload_n S.1 S.2.1 dX8_spoil_35 rfl (lv_at hl 0 rfl) ?_
      obtain ⟨x45, h46, h⟩ := xb h
      refine xr_geti S w 9 xi_X8_spoil_X8 rfl 0 (by decide) xl_X8_spoil_102 h46 dX8_spoil_36 ?_
      refine lv_if_le (tgt := 44) S.1 S.2.1 dX8_spoil_39 (by decide) (fun c39 => ?_) (fun c39 => ?_)
      · rw [if_pos c39] at h
        refine lv_aload_n S.1 S.2.1 dX8_spoil_44 rfl (lv_at hl 0 rfl) ?_
        obtain ⟨x47, h48, h⟩ := xb h
        refine xr_getr S w 9 xi_X8_spoil_X8 rfl 15 (by decide) xl_X8_spoil_48 h48 dX8_spoil_45 ?_
        refine lv_iload_n S.1 S.2.1 dX8_spoil_48 rfl (lv_at hl 1 rfl) ?_
        obtain ⟨x49, h50, h⟩ := xb h
        refine xr_iald S w h50 dX8_spoil_49 ?_
        refine lv_istore_n (lv' := [(3, .int x49), (0, .ref a0), (1, .int a1), (2, .int a2)]) S.1 S.2.1 dX8_spoil_50 rfl hl (by decide) rfl (fun ls hl => ?_)
        refine lv_aload_n S.1 S.2.1 dX8_spoil_51 rfl (lv_at hl 1 rfl) ?_
        obtain ⟨x51, h52, h⟩ := xb h
        refine xr_getr S w 9 xi_X8_spoil_X8 rfl 15 (by decide) xl_X8_spoil_48 h52 dX8_spoil_52 ?_
        refine lv_iload_n S.1 S.2.1 dX8_spoil_55 rfl (lv_at hl 2 rfl) ?_
        refine lv_iload_n S.1 S.2.1 dX8_spoil_56 rfl (lv_at hl 3 rfl) ?_
        obtain ⟨g53, h54, h⟩ := xb h
        refine xr_iast S w h54 dX8_spoil_57 (fun H locs w => ?_)
        refine lv_iload_n S.1 S.2.1 dX8_spoil_58 rfl (lv_at hl 0 rfl) ?_
        exact ret _ _ _ _ _ _ h w dX8_spoil_59
      · rw [if_neg c39] at h
        refine lv_iconst (v := 0) S.1 S.2.1 dX8_spoil_42 (by decide) ?_
        exact ret _ _ _ _ _ _ h w dX8_spoil_43
