theorem xi_X8_forward_X8 : ∀ w ∈ wsX80, w ∈ wsX8_forward := by decide +kernel
theorem xl_X8_forward_73 : Cond.fieldLink RX8 73 (TX8 24).1 (TX8 24).2.1 (TX8 24).2.2.1 ∈ wsX8_forward := by decide +kernel
theorem xl_X8_forward_7 : Cond.fieldLink RX8 7 (TX8 1).1 (TX8 1).2.1 (TX8 1).2.2.1 ∈ wsX8_forward := by decide +kernel
theorem xl_X8_forward_76 : Cond.fieldLink RX8 76 (TX8 25).1 (TX8 25).2.1 (TX8 25).2.2.1 ∈ wsX8_forward := by decide +kernel
theorem xl_X8_forward_79 : Cond.fieldLink RX8 79 (TX8 26).1 (TX8 26).2.1 (TX8 26).2.2.1 ∈ wsX8_forward := by decide +kernel
theorem xl_X8_forward_102 : Cond.fieldLink RX8 102 (TX8 0).1 (TX8 0).2.1 (TX8 0).2.2.1 ∈ wsX8_forward := by decide +kernel
theorem xl_X8_forward_82 : Cond.fieldLink RX8 82 (TX8 27).1 (TX8 27).2.1 (TX8 27).2.2.1 ∈ wsX8_forward := by decide +kernel
theorem xl_X8_forward_70 : Cond.fieldLink RX8 70 (TX8 23).1 (TX8 23).2.1 (TX8 23).2.2.1 ∈ wsX8_forward := by decide +kernel
def f_X8_forward_82 (k21 : xG → Nat → Int32 → Int32 → Int32 → Option (Int32 × xG)) : Nat → xG → Nat → Int32 → Int32 → Int32 → Int32 → Int32 → Option (Int32 × xG)
  | 0, _, _, _, _, _, _, _ => none
  | n9 + 1, g, v0, v1, v2, v3, v4, v5 =>
  if 3 ≤ v5 then
    k21 g v0 v1 v2 (v3 + 1)
  else
    (xg_r g 9 v0 24).bind fun x1 =>
    (xa_i 1 g x1 v4).bind fun x3 =>
    (xg_i g 9 v0 1).bind fun x5 =>
    (xnz x5).bind fun _ =>
    if ((x3 + v5) - (x3 + v5) / x5 * x5) = v1 then
      f_X8_forward_82 k21 n9 g v0 v1 v2 v3 v4 (v5 + 1)
    else
      (xg_r g 9 v0 24).bind fun x8 =>
      (xa_i 1 g x8 v4).bind fun x10 =>
      (xg_r g 9 v0 25).bind fun x12 =>
      (xa_i 1 g x12 v4).bind fun x14 =>
      (xg_r g 9 v0 26).bind fun x16 =>
      (xa_l g x16 v4).bind fun x18 =>
      (xg_r g 9 v0 24).bind fun x20 =>
      (xa_i 1 g x20 v4).bind fun x22 =>
      (xg_r g 9 v0 25).bind fun x24 =>
      (xa_i 1 g x24 v4).bind fun x26 =>
      (xg_r g 9 v0 26).bind fun x28 =>
      (xa_l g x28 v4).bind fun x30 =>
      (f_X8_signature x22 x26 x30).bind fun x33 =>
      (xk g 9 v0).bind fun _ =>
      (f_X8_letter g v0 2 ((x3 + v5) - (x3 + v5) / x5 * x5) x10 0 x14 x18 x33).bind fun g36 =>
      f_X8_forward_82 k21 n9 g36 v0 v1 (v2 + 1) v3 v4 (v5 + 1)
def f_X8_forward_38 (k21 : xG → Nat → Int32 → Int32 → Int32 → Option (Int32 × xG)) (g : xG) (v0 : Nat) (v1 : Int32) (v2 : Int32) (v3 : Int32) (s0 : Int32) (s1 : Nat) (s2 : Int32) : Option (Int32 × xG) :=
  (xa_i 1 g s1 s2).bind fun x37 =>
  if x37 ≤ s0 then
    some (v2, g)
  else
    (xg_i g 9 v0 0).bind fun x39 =>
    if x39 = 0 then
      (xg_r g 9 v0 27).bind fun x41 =>
      (xa_i 3 g x41 ((300 * v1) + v3)).bind fun x43 =>
      if x43 = 0 then
        (xg_r g 9 v0 27).bind fun x45 =>
        (xs_i 3 g x45 ((300 * v1) + v3) 1).bind fun g47 =>
        f_X8_forward_82 k21 xFU g47 v0 v1 v2 v3 ((300 * v1) + v3) 1
      else
        k21 g v0 v1 v2 (v3 + 1)
    else
      some (v2, g)
def f_X8_forward_21 : Nat → xG → Nat → Int32 → Int32 → Int32 → Option (Int32 × xG)
  | 0, _, _, _, _, _ => none
  | n9 + 1, g, v0, v1, v2, v3 =>
  (xg_r g 9 v0 23).bind fun x49 =>
  (xg_i g 9 v0 0).bind fun x51 =>
  if x51 ≤ 0 then
    f_X8_forward_38 (f_X8_forward_21 n9) g v0 v1 v2 v3 v3 x49 v1
  else
    f_X8_forward_38 (f_X8_forward_21 n9) g v0 v1 v2 v3 v3 x49 0
def f_X8_forward_14 (g : xG) (v0 : Nat) (v1 : Int32) (s0 : Nat) (s1 : Int32) : Option (Int32 × xG) :=
  (xp_i g 9 s0 0 s1).bind fun g53 =>
  f_X8_forward_21 xFU g53 v0 v1 0 0
def f_X8_forward (g : xG) (a0 : Nat) (a1 : Int32) : Option (Int32 × xG) :=
  (xk g 9 a0).bind fun _ =>
  (f_X8_no g a0 a1).bind fun x57 =>
  if x57 = 0 then
    f_X8_forward_14 g a0 a1 a0 0
  else
    f_X8_forward_14 g a0 a1 a0 1
set_option maxHeartbeats 4000000 in
set_option maxRecDepth 100000 in
theorem c_X8_forward (l : Launch) (D : va_G) (cy : Nat → ClassId) (L : List Nat) (g : xG) (a0 : Nat) (a1 : Int32) {r1 : Int32} {g1 : xG} (h : f_X8_forward g a0 a1 = some (r1, g1)) : xMi l yX8_forward wsX8_forward ({ frames := 2, cells := 0, slots := 0, locals := 48 }) D cy L g [.ref a0, .int a1] r1 g1 := by
  refine xm_i (cc := cX8_forward) (maxL := 7) RX8 rfl rfl rfl (by decide +kernel) rfl (Nat.le_of_ble_eq_true rfl) ?_
  intro p e s m args below meth c Q A S w hA hN ret ls hl
  have hl : lv_has ls 7 [(0, .ref a0), (1, .int a1)] := hl
  obtain ⟨rr, hrr⟩ : ∃ z, z = (r1, g1) := ⟨_, rfl⟩
  rw [← hrr] at h
  have hb82 : ∀ (k21 : xG → Nat → Int32 → Int32 → Int32 → Option (Int32 × xG)) (hk21 : ∀ (g : xG) (v0 : Nat) (v1 : Int32) (v2 : Int32) (v3 : Int32) , k21 g v0 v1 v2 v3 = some rr → ∀ (H : Heap) (locs : List Loc) (ls : Array Slot), xOK D cy A s.heap s L g H locs → lv_has ls 7 [(0, .ref v0), (1, .int v1), (2, .int v2), (3, .int v3)] → W p l e { frames := 2, cells := 0, slots := 0, locals := 48 } s m args below meth c H locs 0 0 Q (F0 m 21 ls [])) (n9 : Nat), ∀ (g : xG) (v0 : Nat) (v1 : Int32) (v2 : Int32) (v3 : Int32) (v4 : Int32) (v5 : Int32) , f_X8_forward_82 k21 n9 g v0 v1 v2 v3 v4 v5 = some rr → ∀ (H : Heap) (locs : List Loc) (ls : Array Slot), xOK D cy A s.heap s L g H locs → lv_has ls 7 [(0, .ref v0), (1, .int v1), (2, .int v2), (3, .int v3), (4, .int v4), (5, .int v5)] → W p l e { frames := 2, cells := 0, slots := 0, locals := 48 } s m args below meth c H locs 0 0 Q (F0 m 82 ls []) := by
    intro k21 hk21 n9
    induction n9 with
    | zero => intro g v0 v1 v2 v3 v4 v5 h; cases h
    | succ n9 ih =>
      intro g v0 v1 v2 v3 v4 v5 h H locs ls w hl
      rw [f_X8_forward_82] at h
      refine lv_iload S.1 S.2.1 dX8_forward_82 (lv_at hl 5 rfl) ?_
      refine lv_iconst (v := 3) S.1 S.2.1 dX8_forward_84 (by decide) ?_
      refine lv_icmp_ge (tgt := 176) S.1 S.2.1 dX8_forward_85 (by decide) (fun c85 => ?_) (fun c85 => ?_)
      · rw [if_pos c85] at h
        refine lv_iinc (v := (v3 + 1)) (lv' := [(3, .int (v3 + 1)), (0, .ref v0), (1, .int v1), (2, .int v2), (4, .int v4), (5, .int v5)]) S.1 S.2.1 dX8_forward_176 hl (k := 3) rfl rfl (by decide) rfl (fun ls hl => ?_)
        refine lv_goto (tgt := 21) S.1 S.2.1 dX8_forward_179 (by decide) ?_
        exact hk21 g v0 v1 v2 (v3 + 1) h _ _ _ w (lv_sub hl [1, 2, 3, 0] rfl)
      · rw [if_neg c85] at h
        refine lv_aload_n S.1 S.2.1 dX8_forward_88 rfl (lv_at hl 0 rfl) ?_
        obtain ⟨x1, h2, h⟩ := xb h
        refine xr_getr S w 9 xi_X8_forward_X8 rfl 24 (by decide) xl_X8_forward_73 h2 dX8_forward_89 ?_
        refine lv_iload S.1 S.2.1 dX8_forward_92 (lv_at hl 4 rfl) ?_
        obtain ⟨x3, h4, h⟩ := xb h
        refine xr_iald S w h4 dX8_forward_94 ?_
        refine lv_iload S.1 S.2.1 dX8_forward_95 (lv_at hl 5 rfl) ?_
        refine lv_iadd S.1 S.2.1 dX8_forward_97 ?_
        refine lv_aload_n S.1 S.2.1 dX8_forward_98 rfl (lv_at hl 0 rfl) ?_
        obtain ⟨x5, h6, h⟩ := xb h
        refine xr_geti S w 9 xi_X8_forward_X8 rfl 1 (by decide) xl_X8_forward_7 h6 dX8_forward_99 ?_
        obtain ⟨_, h7, h⟩ := xb h
        refine lv_irem S.1 S.2.1 dX8_forward_102 (xnz_ok h7) ?_
        refine lv_istore (lv' := [(6, .int ((x3 + v5) - (x3 + v5) / x5 * x5)), (0, .ref v0), (1, .int v1), (2, .int v2), (3, .int v3), (4, .int v4), (5, .int v5)]) S.1 S.2.1 dX8_forward_103 hl (by decide) rfl (fun ls hl => ?_)
        refine lv_iload S.1 S.2.1 dX8_forward_105 (lv_at hl 0 rfl) ?_
        refine lv_iload_n S.1 S.2.1 dX8_forward_107 rfl (lv_at hl 2 rfl) ?_
        refine lv_icmp_ne (tgt := 114) S.1 S.2.1 dX8_forward_108 (by decide) (fun c108 => ?_) (fun c108 => ?_)
        · rw [if_neg c108] at h
          refine lv_aload_n S.1 S.2.1 dX8_forward_114 rfl (lv_at hl 1 rfl) ?_
          refine lv_iconst (v := 2) S.1 S.2.1 dX8_forward_115 (by decide) ?_
          refine lv_iload S.1 S.2.1 dX8_forward_116 (lv_at hl 0 rfl) ?_
          refine lv_aload_n S.1 S.2.1 dX8_forward_118 rfl (lv_at hl 1 rfl) ?_
          obtain ⟨x8, h9, h⟩ := xb h
          refine xr_getr S w 9 xi_X8_forward_X8 rfl 24 (by decide) xl_X8_forward_73 h9 dX8_forward_119 ?_
          refine lv_iload S.1 S.2.1 dX8_forward_122 (lv_at hl 5 rfl) ?_
          obtain ⟨x10, h11, h⟩ := xb h
          refine xr_iald S w h11 dX8_forward_124 ?_
          refine lv_iconst (v := 0) S.1 S.2.1 dX8_forward_125 (by decide) ?_
          refine lv_aload_n S.1 S.2.1 dX8_forward_126 rfl (lv_at hl 1 rfl) ?_
          obtain ⟨x12, h13, h⟩ := xb h
          refine xr_getr S w 9 xi_X8_forward_X8 rfl 25 (by decide) xl_X8_forward_76 h13 dX8_forward_127 ?_
          refine lv_iload S.1 S.2.1 dX8_forward_130 (lv_at hl 5 rfl) ?_
          obtain ⟨x14, h15, h⟩ := xb h
          refine xr_iald S w h15 dX8_forward_132 ?_
          refine lv_aload_n S.1 S.2.1 dX8_forward_133 rfl (lv_at hl 1 rfl) ?_
          obtain ⟨x16, h17, h⟩ := xb h
          refine xr_getr S w 9 xi_X8_forward_X8 rfl 26 (by decide) xl_X8_forward_79 h17 dX8_forward_134 ?_
          refine lv_iload S.1 S.2.1 dX8_forward_137 (lv_at hl 5 rfl) ?_
          obtain ⟨x18, h19, h⟩ := xb h
          refine xr_lald S w h19 dX8_forward_139 ?_
          refine lv_aload_n S.1 S.2.1 dX8_forward_140 rfl (lv_at hl 1 rfl) ?_
          obtain ⟨x20, h21, h⟩ := xb h
          refine xr_getr S w 9 xi_X8_forward_X8 rfl 24 (by decide) xl_X8_forward_73 h21 dX8_forward_141 ?_
          refine lv_iload S.1 S.2.1 dX8_forward_144 (lv_at hl 5 rfl) ?_
          obtain ⟨x22, h23, h⟩ := xb h
          refine xr_iald S w h23 dX8_forward_146 ?_
          refine lv_aload_n S.1 S.2.1 dX8_forward_147 rfl (lv_at hl 1 rfl) ?_
          obtain ⟨x24, h25, h⟩ := xb h
          refine xr_getr S w 9 xi_X8_forward_X8 rfl 25 (by decide) xl_X8_forward_76 h25 dX8_forward_148 ?_
          refine lv_iload S.1 S.2.1 dX8_forward_151 (lv_at hl 5 rfl) ?_
          obtain ⟨x26, h27, h⟩ := xb h
          refine xr_iald S w h27 dX8_forward_153 ?_
          refine lv_aload_n S.1 S.2.1 dX8_forward_154 rfl (lv_at hl 1 rfl) ?_
          obtain ⟨x28, h29, h⟩ := xb h
          refine xr_getr S w 9 xi_X8_forward_X8 rfl 26 (by decide) xl_X8_forward_79 h29 dX8_forward_155 ?_
          refine lv_iload S.1 S.2.1 dX8_forward_158 (lv_at hl 5 rfl) ?_
          obtain ⟨x30, h31, h⟩ := xb h
          refine xr_lald S w h31 dX8_forward_160 ?_
          obtain ⟨x33, h32, h⟩ := xb h
          refine xr_callS_l S w hA hN (c_X8_signature l D cy L g x22 x26 x30 h32) (va_cwS 3 S.2.2.2.2 gX8_forward_X8_signature rfl rfl rfl (by decide +kernel) ⟨Nat.le_of_ble_eq_true rfl, Nat.le_of_ble_eq_true rfl⟩) rfl rfl hl.1 (Nat.le_of_ble_eq_true rfl) dX8_forward_161 ⟨Nat.le_of_ble_eq_true rfl, Nat.le_of_ble_eq_true rfl⟩ (fun H locs w => ?_)
          obtain ⟨_, h34, h⟩ := xb h
          obtain ⟨g36, h35, h⟩ := xb h
          refine xr_callV_v S w hA hN 9 rfl h34 (c_X8_letter l D cy L g v0 2 ((x3 + v5) - (x3 + v5) / x5 * x5) x10 0 x14 x18 x33 h35) (cwV 7 S.2.2.2.2 gX8_forward_X8_letter rfl rfl rfl (by decide +kernel) ⟨Nat.le_of_ble_eq_true rfl, Nat.le_of_ble_eq_true rfl⟩) rfl rfl hl.1 (Nat.le_of_ble_eq_true rfl) dX8_forward_164 ⟨Nat.le_of_ble_eq_true rfl, Nat.le_of_ble_eq_true rfl⟩ (fun H locs w => ?_)
          refine lv_iinc (v := (v2 + 1)) (lv' := [(2, .int (v2 + 1)), (6, .int ((x3 + v5) - (x3 + v5) / x5 * x5)), (0, .ref v0), (1, .int v1), (3, .int v3), (4, .int v4), (5, .int v5)]) S.1 S.2.1 dX8_forward_167 hl (k := 3) rfl rfl (by decide) rfl (fun ls hl => ?_)
          refine lv_iinc (v := (v5 + 1)) (lv' := [(5, .int (v5 + 1)), (2, .int (v2 + 1)), (6, .int ((x3 + v5) - (x3 + v5) / x5 * x5)), (0, .ref v0), (1, .int v1), (3, .int v3), (4, .int v4)]) S.1 S.2.1 dX8_forward_170 hl (k := 6) rfl rfl (by decide) rfl (fun ls hl => ?_)
          refine lv_goto (tgt := 82) S.1 S.2.1 dX8_forward_173 (by decide) ?_
          exact ih g36 v0 v1 (v2 + 1) v3 v4 (v5 + 1) h _ _ _ w (lv_sub hl [3, 4, 1, 5, 6, 0] rfl)
        · rw [if_pos c108] at h
          refine lv_goto (tgt := 170) S.1 S.2.1 dX8_forward_111 (by decide) ?_
          refine lv_iinc (v := (v5 + 1)) (lv' := [(5, .int (v5 + 1)), (6, .int ((x3 + v5) - (x3 + v5) / x5 * x5)), (0, .ref v0), (1, .int v1), (2, .int v2), (3, .int v3), (4, .int v4)]) S.1 S.2.1 dX8_forward_170 hl (k := 6) rfl rfl (by decide) rfl (fun ls hl => ?_)
          refine lv_goto (tgt := 82) S.1 S.2.1 dX8_forward_173 (by decide) ?_
          exact ih g v0 v1 v2 v3 v4 (v5 + 1) h _ _ _ w (lv_sub hl [2, 3, 4, 5, 6, 0] rfl)
  have hb38 : ∀ (k21 : xG → Nat → Int32 → Int32 → Int32 → Option (Int32 × xG)) (hk21 : ∀ (g : xG) (v0 : Nat) (v1 : Int32) (v2 : Int32) (v3 : Int32) , k21 g v0 v1 v2 v3 = some rr → ∀ (H : Heap) (locs : List Loc) (ls : Array Slot), xOK D cy A s.heap s L g H locs → lv_has ls 7 [(0, .ref v0), (1, .int v1), (2, .int v2), (3, .int v3)] → W p l e { frames := 2, cells := 0, slots := 0, locals := 48 } s m args below meth c H locs 0 0 Q (F0 m 21 ls [])) , ∀ (g : xG) (v0 : Nat) (v1 : Int32) (v2 : Int32) (v3 : Int32) (s0 : Int32) (s1 : Nat) (s2 : Int32) , f_X8_forward_38 k21 g v0 v1 v2 v3 s0 s1 s2 = some rr → ∀ (H : Heap) (locs : List Loc) (ls : Array Slot), xOK D cy A s.heap s L g H locs → lv_has ls 7 [(0, .ref v0), (1, .int v1), (2, .int v2), (3, .int v3)] → W p l e { frames := 2, cells := 0, slots := 0, locals := 48 } s m args below meth c H locs 0 0 Q (F0 m 38 ls [.int s2, .ref s1, .int s0]) := by
    intro k21 hk21 g v0 v1 v2 v3 s0 s1 s2 h H locs ls w hl
    rw [f_X8_forward_38] at h
    obtain ⟨x37, h38, h⟩ := xb h
    refine xr_iald S w h38 dX8_forward_38 ?_
    refine lv_icmp_ge (tgt := 182) S.1 S.2.1 dX8_forward_39 (by decide) (fun c39 => ?_) (fun c39 => ?_)
    · rw [if_pos c39] at h
      refine lv_iload_n S.1 S.2.1 dX8_forward_182 rfl (lv_at hl 2 rfl) ?_
      exact ret _ _ _ _ _ _ (h.trans (congrArg some hrr)) w dX8_forward_183
    · rw [if_neg c39] at h
      refine lv_aload_n S.1 S.2.1 dX8_forward_42 rfl (lv_at hl 0 rfl) ?_
      obtain ⟨x39, h40, h⟩ := xb h
      refine xr_geti S w 9 xi_X8_forward_X8 rfl 0 (by decide) xl_X8_forward_102 h40 dX8_forward_43 ?_
      refine lv_if_ne (tgt := 182) S.1 S.2.1 dX8_forward_46 (by decide) (fun c46 => ?_) (fun c46 => ?_)
      · rw [if_neg c46] at h
        refine lv_iload_n S.1 S.2.1 dX8_forward_182 rfl (lv_at hl 2 rfl) ?_
        exact ret _ _ _ _ _ _ (h.trans (congrArg some hrr)) w dX8_forward_183
      · rw [if_pos c46] at h
        refine lv_sipush (v := 300) S.1 S.2.1 dX8_forward_49 (by decide) ?_
        refine lv_iload_n S.1 S.2.1 dX8_forward_52 rfl (lv_at hl 1 rfl) ?_
        refine lv_imul S.1 S.2.1 dX8_forward_53 ?_
        refine lv_iload_n S.1 S.2.1 dX8_forward_54 rfl (lv_at hl 3 rfl) ?_
        refine lv_iadd S.1 S.2.1 dX8_forward_55 ?_
        refine lv_istore (lv' := [(4, .int ((300 * v1) + v3)), (0, .ref v0), (1, .int v1), (2, .int v2), (3, .int v3)]) S.1 S.2.1 dX8_forward_56 hl (by decide) rfl (fun ls hl => ?_)
        refine lv_aload_n S.1 S.2.1 dX8_forward_58 rfl (lv_at hl 1 rfl) ?_
        obtain ⟨x41, h42, h⟩ := xb h
        refine xr_getr S w 9 xi_X8_forward_X8 rfl 27 (by decide) xl_X8_forward_82 h42 dX8_forward_59 ?_
        refine lv_iload S.1 S.2.1 dX8_forward_62 (lv_at hl 0 rfl) ?_
        obtain ⟨x43, h44, h⟩ := xb h
        refine xr_zald S w h44 dX8_forward_64 ?_
        refine lv_if_eq (tgt := 71) S.1 S.2.1 dX8_forward_65 (by decide) (fun c65 => ?_) (fun c65 => ?_)
        · rw [if_pos c65] at h
          refine lv_aload_n S.1 S.2.1 dX8_forward_71 rfl (lv_at hl 1 rfl) ?_
          obtain ⟨x45, h46, h⟩ := xb h
          refine xr_getr S w 9 xi_X8_forward_X8 rfl 27 (by decide) xl_X8_forward_82 h46 dX8_forward_72 ?_
          refine lv_iload S.1 S.2.1 dX8_forward_75 (lv_at hl 0 rfl) ?_
          refine lv_iconst (v := 1) S.1 S.2.1 dX8_forward_77 (by decide) ?_
          obtain ⟨g47, h48, h⟩ := xb h
          refine xr_zast S w h48 dX8_forward_78 (fun H locs w => ?_)
          refine lv_iconst (v := 1) S.1 S.2.1 dX8_forward_79 (by decide) ?_
          refine lv_istore (lv' := [(5, .int 1), (4, .int ((300 * v1) + v3)), (0, .ref v0), (1, .int v1), (2, .int v2), (3, .int v3)]) S.1 S.2.1 dX8_forward_80 hl (by decide) rfl (fun ls hl => ?_)
          exact hb82 k21 hk21 xFU g47 v0 v1 v2 v3 ((300 * v1) + v3) 1 h _ _ _ w (lv_sub hl [2, 3, 4, 5, 1, 0] rfl)
        · rw [if_neg c65] at h
          refine lv_goto (tgt := 176) S.1 S.2.1 dX8_forward_68 (by decide) ?_
          refine lv_iinc (v := (v3 + 1)) (lv' := [(3, .int (v3 + 1)), (4, .int ((300 * v1) + v3)), (0, .ref v0), (1, .int v1), (2, .int v2)]) S.1 S.2.1 dX8_forward_176 hl (k := 4) rfl rfl (by decide) rfl (fun ls hl => ?_)
          refine lv_goto (tgt := 21) S.1 S.2.1 dX8_forward_179 (by decide) ?_
          exact hk21 g v0 v1 v2 (v3 + 1) h _ _ _ w (lv_sub hl [2, 3, 4, 0] rfl)
  have hb21 : ∀ (n9 : Nat), ∀ (g : xG) (v0 : Nat) (v1 : Int32) (v2 : Int32) (v3 : Int32) , f_X8_forward_21 n9 g v0 v1 v2 v3 = some rr → ∀ (H : Heap) (locs : List Loc) (ls : Array Slot), xOK D cy A s.heap s L g H locs → lv_has ls 7 [(0, .ref v0), (1, .int v1), (2, .int v2), (3, .int v3)] → W p l e { frames := 2, cells := 0, slots := 0, locals := 48 } s m args below meth c H locs 0 0 Q (F0 m 21 ls []) := by
    intro n9
    induction n9 with
    | zero => intro g v0 v1 v2 v3 h; cases h
    | succ n9 ih =>
      intro g v0 v1 v2 v3 h H locs ls w hl
      rw [f_X8_forward_21] at h
      refine lv_iload_n S.1 S.2.1 dX8_forward_21 rfl (lv_at hl 3 rfl) ?_
      refine lv_aload_n S.1 S.2.1 dX8_forward_22 rfl (lv_at hl 0 rfl) ?_
      obtain ⟨x49, h50, h⟩ := xb h
      refine xr_getr S w 9 xi_X8_forward_X8 rfl 23 (by decide) xl_X8_forward_70 h50 dX8_forward_23 ?_
      refine lv_aload_n S.1 S.2.1 dX8_forward_26 rfl (lv_at hl 0 rfl) ?_
      obtain ⟨x51, h52, h⟩ := xb h
      refine xr_geti S w 9 xi_X8_forward_X8 rfl 0 (by decide) xl_X8_forward_102 h52 dX8_forward_27 ?_
      refine lv_if_le (tgt := 37) S.1 S.2.1 dX8_forward_30 (by decide) (fun c30 => ?_) (fun c30 => ?_)
      · rw [if_pos c30] at h
        refine lv_iload_n S.1 S.2.1 dX8_forward_37 rfl (lv_at hl 1 rfl) ?_
        exact hb38 _ ih g v0 v1 v2 v3 v3 x49 v1 h _ _ _ w hl
      · rw [if_neg c30] at h
        refine lv_iconst (v := 0) S.1 S.2.1 dX8_forward_33 (by decide) ?_
        refine lv_goto (tgt := 38) S.1 S.2.1 dX8_forward_34 (by decide) ?_
        exact hb38 _ ih g v0 v1 v2 v3 v3 x49 0 h _ _ _ w hl
  have hb14 : ∀ (g : xG) (v0 : Nat) (v1 : Int32) (s0 : Nat) (s1 : Int32) , f_X8_forward_14 g v0 v1 s0 s1 = some rr → ∀ (H : Heap) (locs : List Loc) (ls : Array Slot), xOK D cy A s.heap s L g H locs → lv_has ls 7 [(0, .ref v0), (1, .int v1)] → W p l e { frames := 2, cells := 0, slots := 0, locals := 48 } s m args below meth c H locs 0 0 Q (F0 m 14 ls [.int s1, .ref s0]) := by
    intro g v0 v1 s0 s1 h H locs ls w hl
    rw [f_X8_forward_14] at h
    obtain ⟨g53, h54, h⟩ := xb h
    refine xr_puti S w 9 xi_X8_forward_X8 rfl tyX8 tyX8_ok nmX8 0 (by decide) xl_X8_forward_102 rfl (tyX8_ok 0 (by decide)) h54 dX8_forward_14 (fun H locs w => ?_)
    refine lv_iconst (v := 0) S.1 S.2.1 dX8_forward_17 (by decide) ?_
    refine lv_istore_n (lv' := [(2, .int 0), (0, .ref v0), (1, .int v1)]) S.1 S.2.1 dX8_forward_18 rfl hl (by decide) rfl (fun ls hl => ?_)
    refine lv_iconst (v := 0) S.1 S.2.1 dX8_forward_19 (by decide) ?_
    refine lv_istore_n (lv' := [(3, .int 0), (2, .int 0), (0, .ref v0), (1, .int v1)]) S.1 S.2.1 dX8_forward_20 rfl hl (by decide) rfl (fun ls hl => ?_)
    exact hb21 xFU g53 v0 v1 0 0 h _ _ _ w (lv_sub hl [2, 3, 1, 0] rfl)
  rw [f_X8_forward] at h
  refine lv_aload_n S.1 S.2.1 dX8_forward_0 rfl (lv_at hl 0 rfl) ?_
  refine lv_aload_n S.1 S.2.1 dX8_forward_1 rfl (lv_at hl 0 rfl) ?_
  refine lv_iload_n S.1 S.2.1 dX8_forward_2 rfl (lv_at hl 1 rfl) ?_
  obtain ⟨_, h55, h⟩ := xb h
  obtain ⟨x57, h56, h⟩ := xb h
  refine xr_callV_i S w hA hN 9 rfl h55 (c_X8_no l D cy L g a0 a1 h56) (cwV 1 S.2.2.2.2 gX8_forward_X8_no rfl rfl rfl (by decide +kernel) ⟨Nat.le_of_ble_eq_true rfl, Nat.le_of_ble_eq_true rfl⟩) rfl rfl hl.1 (Nat.le_of_ble_eq_true rfl) dX8_forward_3 ⟨Nat.le_of_ble_eq_true rfl, Nat.le_of_ble_eq_true rfl⟩ (fun H locs w => ?_)
  refine lv_if_eq (tgt := 13) S.1 S.2.1 dX8_forward_6 (by decide) (fun c6 => ?_) (fun c6 => ?_)
  · rw [if_pos c6] at h
    refine lv_iconst (v := 0) S.1 S.2.1 dX8_forward_13 (by decide) ?_
    exact hb14 g a0 a1 a0 0 h _ _ _ w hl
  · rw [if_neg c6] at h
    refine lv_iconst (v := 1) S.1 S.2.1 dX8_forward_9 (by decide) ?_
    refine lv_goto (tgt := 14) S.1 S.2.1 dX8_forward_10 (by decide) ?_
    exact hb14 g a0 a1 a0 1 h _ _ _ w hl
theorem xi_X8_bend_X8 : ∀ w ∈ wsX80, w ∈ wsX8_bend := by decide +kernel
theorem xl_X8_bend_102 : Cond.fieldLink RX8 102 (TX8 0).1 (TX8 0).2.1 (TX8 0).2.2.1 ∈ wsX8_bend := by decide +kernel
theorem xl_X8_bend_29 : Cond.fieldLink RX8 29 (TX8 7).1 (TX8 7).2.1 (TX8 7).2.2.1 ∈ wsX8_bend := by decide +kernel
theorem xl_X8_bend_20 : Cond.fieldLink RX8 20 (TX8 4).1 (TX8 4).2.1 (TX8 4).2.2.1 ∈ wsX8_bend := by decide +kernel
def f_X8_bend_14 (g : xG) (v0 : Nat) (v1 : Int32) (v2 : Int32) (v3 : Int32) (s0 : Nat) : Option (Int32 × xG) :=
  (xp_i g 9 s0 0 1).bind fun g1 =>
  (xg_i g1 9 v0 0).bind fun x3 =>
  if x3 ≤ 0 then
    (xg_r g1 9 v0 7).bind fun x5 =>
    (xa_i 1 g1 x5 (((151 * v1) + v2) - 1)).bind fun x7 =>
    (xg_r g1 9 v0 7).bind fun x9 =>
    (xs_i 1 g1 x9 (((151 * v1) + v2) - 1) v3).bind fun g11 =>
    some (x7, g11)
  else
    some (0, g1)
def f_X8_bend (g : xG) (a0 : Nat) (a1 : Int32) (a2 : Int32) (a3 : Int32) : Option (Int32 × xG) :=
  (xk g 9 a0).bind fun _ =>
  (f_X8_no g a0 a1).bind fun x15 =>
  if x15 = 0 then
    if 1 ≤ a2 then
      (xg_r g 9 a0 4).bind fun x16 =>
      (xa_i 1 g x16 a1).bind fun x18 =>
      if a2 ≤ x18 then
        (xp_i g 9 a0 0 0).bind fun g20 =>
        (xg_i g20 9 a0 0).bind fun x22 =>
        if x22 ≤ 0 then
          (xg_r g20 9 a0 7).bind fun x24 =>
          (xa_i 1 g20 x24 (((151 * a1) + a2) - 1)).bind fun x26 =>
          (xg_r g20 9 a0 7).bind fun x28 =>
          (xs_i 1 g20 x28 (((151 * a1) + a2) - 1) a3).bind fun g30 =>
          some (x26, g30)
        else
          some (0, g20)
      else
        (xp_i g 9 a0 0 1).bind fun g32 =>
        (xg_i g32 9 a0 0).bind fun x34 =>
        if x34 ≤ 0 then
          (xg_r g32 9 a0 7).bind fun x36 =>
          (xa_i 1 g32 x36 (((151 * a1) + a2) - 1)).bind fun x38 =>
          (xg_r g32 9 a0 7).bind fun x40 =>
          (xs_i 1 g32 x40 (((151 * a1) + a2) - 1) a3).bind fun g42 =>
          some (x38, g42)
        else
          some (0, g32)
    else
      f_X8_bend_14 g a0 a1 a2 a3 a0
  else
    f_X8_bend_14 g a0 a1 a2 a3 a0
set_option maxHeartbeats 4000000 in
set_option maxRecDepth 100000 in
theorem c_X8_bend (l : Launch) (D : va_G) (cy : Nat → ClassId) (L : List Nat) (g : xG) (a0 : Nat) (a1 : Int32) (a2 : Int32) (a3 : Int32) {r1 : Int32} {g1 : xG} (h : f_X8_bend g a0 a1 a2 a3 = some (r1, g1)) : xMi l yX8_bend wsX8_bend ({ frames := 1, cells := 0, slots := 0, locals := 21 }) D cy L g [.ref a0, .int a1, .int a2, .int a3] r1 g1 := by
  refine xm_i (cc := cX8_bend) (maxL := 5) RX8 rfl rfl rfl (by decide +kernel) rfl (Nat.le_of_ble_eq_true rfl) ?_
  intro p e s m args below meth c Q A S w hA hN ret ls hl
  have hl : lv_has ls 5 [(0, .ref a0), (1, .int a1), (2, .int a2), (3, .int a3)] := hl
  obtain ⟨rr, hrr⟩ : ∃ z, z = (r1, g1) := ⟨_, rfl⟩
  rw [← hrr] at h
  have hb14 : ∀ (g : xG) (v0 : Nat) (v1 : Int32) (v2 : Int32) (v3 : Int32) (s0 : Nat) , f_X8_bend_14 g v0 v1 v2 v3 s0 = some rr → ∀ (H : Heap) (locs : List Loc) (ls : Array Slot), xOK D cy A s.heap s L g H locs → lv_has ls 5 [(0, .ref v0), (1, .int v1), (2, .int v2), (3, .int v3)] → W p l e { frames := 1, cells := 0, slots := 0, locals := 21 } s m args below meth c H locs 0 0 Q (F0 m 14 ls [.ref s0]) := by
    intro g v0 v1 v2 v3 s0 h H locs ls w hl
    rw [f_X8_bend_14] at h
    refine lv_iconst (v := 1) S.1 S.2.1 dX8_bend_14 (by decide) ?_
    refine lv_goto (tgt := 33) S.1 S.2.1 dX8_bend_15 (by decide) ?_
    obtain ⟨g1, h2, h⟩ := xb h
    refine xr_puti S w 9 xi_X8_bend_X8 rfl tyX8 tyX8_ok nmX8 0 (by decide) xl_X8_bend_102 rfl (tyX8_ok 0 (by decide)) h2 dX8_bend_33 (fun H locs w => ?_)
    refine lv_aload_n S.1 S.2.1 dX8_bend_36 rfl (lv_at hl 0 rfl) ?_
    obtain ⟨x3, h4, h⟩ := xb h
    refine xr_geti S w 9 xi_X8_bend_X8 rfl 0 (by decide) xl_X8_bend_102 h4 dX8_bend_37 ?_
    refine lv_if_le (tgt := 45) S.1 S.2.1 dX8_bend_40 (by decide) (fun c40 => ?_) (fun c40 => ?_)
    · rw [if_pos c40] at h
      refine lv_aload_n S.1 S.2.1 dX8_bend_45 rfl (lv_at hl 0 rfl) ?_
      obtain ⟨x5, h6, h⟩ := xb h
      refine xr_getr S w 9 xi_X8_bend_X8 rfl 7 (by decide) xl_X8_bend_29 h6 dX8_bend_46 ?_
      refine lv_sipush (v := 151) S.1 S.2.1 dX8_bend_49 (by decide) ?_
      refine lv_iload_n S.1 S.2.1 dX8_bend_52 rfl (lv_at hl 1 rfl) ?_
      refine lv_imul S.1 S.2.1 dX8_bend_53 ?_
      refine lv_iload_n S.1 S.2.1 dX8_bend_54 rfl (lv_at hl 2 rfl) ?_
      refine lv_iadd S.1 S.2.1 dX8_bend_55 ?_
      refine lv_iconst (v := 1) S.1 S.2.1 dX8_bend_56 (by decide) ?_
      refine lv_isub S.1 S.2.1 dX8_bend_57 ?_
      obtain ⟨x7, h8, h⟩ := xb h
      refine xr_iald S w h8 dX8_bend_58 ?_
      refine lv_istore (lv' := [(4, .int x7), (0, .ref v0), (1, .int v1), (2, .int v2), (3, .int v3)]) S.1 S.2.1 dX8_bend_59 hl (by decide) rfl (fun ls hl => ?_)
      refine lv_aload_n S.1 S.2.1 dX8_bend_61 rfl (lv_at hl 1 rfl) ?_
      obtain ⟨x9, h10, h⟩ := xb h
      refine xr_getr S w 9 xi_X8_bend_X8 rfl 7 (by decide) xl_X8_bend_29 h10 dX8_bend_62 ?_
      refine lv_sipush (v := 151) S.1 S.2.1 dX8_bend_65 (by decide) ?_
      refine lv_iload_n S.1 S.2.1 dX8_bend_68 rfl (lv_at hl 2 rfl) ?_
      refine lv_imul S.1 S.2.1 dX8_bend_69 ?_
      refine lv_iload_n S.1 S.2.1 dX8_bend_70 rfl (lv_at hl 3 rfl) ?_
      refine lv_iadd S.1 S.2.1 dX8_bend_71 ?_
      refine lv_iconst (v := 1) S.1 S.2.1 dX8_bend_72 (by decide) ?_
      refine lv_isub S.1 S.2.1 dX8_bend_73 ?_
      refine lv_iload_n S.1 S.2.1 dX8_bend_74 rfl (lv_at hl 4 rfl) ?_
      obtain ⟨g11, h12, h⟩ := xb h
      refine xr_iast S w h12 dX8_bend_75 (fun H locs w => ?_)
      refine lv_iload S.1 S.2.1 dX8_bend_76 (lv_at hl 0 rfl) ?_
      exact ret _ _ _ _ _ _ (h.trans (congrArg some hrr)) w dX8_bend_78
    · rw [if_neg c40] at h
      refine lv_iconst (v := 0) S.1 S.2.1 dX8_bend_43 (by decide) ?_
      exact ret _ _ _ _ _ _ (h.trans (congrArg some hrr)) w dX8_bend_44
  rw [f_X8_bend] at h
  refine lv_aload_n S.1 S.2.1 dX8_bend_0 rfl (lv_at hl 0 rfl) ?_
  refine lv_aload_n S.1 S.2.1 dX8_bend_1 rfl (lv_at hl 0 rfl) ?_
  refine lv_iload_n S.1 S.2.1 dX8_bend_2 rfl (lv_at hl 1 rfl) ?_
  obtain ⟨_, h13, h⟩ := xb h
  obtain ⟨x15, h14, h⟩ := xb h
  refine xr_callV_i S w hA hN 9 rfl h13 (c_X8_no l D cy L g a0 a1 h14) (cwV 1 S.2.2.2.2 gX8_bend_X8_no rfl rfl rfl (by decide +kernel) ⟨Nat.le_of_ble_eq_true rfl, Nat.le_of_ble_eq_true rfl⟩) rfl rfl hl.1 (Nat.le_of_ble_eq_true rfl) dX8_bend_3 ⟨Nat.le_of_ble_eq_true rfl, Nat.le_of_ble_eq_true rfl⟩ (fun H locs w => ?_)
  refine lv_if_ne (tgt := 14) S.1 S.2.1 dX8_bend_6 (by decide) (fun c6 => ?_) (fun c6 => ?_)
  · rw [if_neg c6] at h
    exact hb14 g a0 a1 a2 a3 a0 h _ _ _ w hl
  · rw [if_pos c6] at h
    refine lv_iload_n S.1 S.2.1 dX8_bend_9 rfl (lv_at hl 2 rfl) ?_
    refine lv_iconst (v := 1) S.1 S.2.1 dX8_bend_10 (by decide) ?_
    refine lv_icmp_ge (tgt := 18) S.1 S.2.1 dX8_bend_11 (by decide) (fun c11 => ?_) (fun c11 => ?_)
    · rw [if_pos c11] at h
      refine lv_iload_n S.1 S.2.1 dX8_bend_18 rfl (lv_at hl 2 rfl) ?_
      refine lv_aload_n S.1 S.2.1 dX8_bend_19 rfl (lv_at hl 0 rfl) ?_
      obtain ⟨x16, h17, h⟩ := xb h
      refine xr_getr S w 9 xi_X8_bend_X8 rfl 4 (by decide) xl_X8_bend_20 h17 dX8_bend_20 ?_
      refine lv_iload_n S.1 S.2.1 dX8_bend_23 rfl (lv_at hl 1 rfl) ?_
      obtain ⟨x18, h19, h⟩ := xb h
      refine xr_iald S w h19 dX8_bend_24 ?_
      refine lv_icmp_le (tgt := 32) S.1 S.2.1 dX8_bend_25 (by decide) (fun c25 => ?_) (fun c25 => ?_)
      · rw [if_pos c25] at h
        refine lv_iconst (v := 0) S.1 S.2.1 dX8_bend_32 (by decide) ?_
        obtain ⟨g20, h21, h⟩ := xb h
        refine xr_puti S w 9 xi_X8_bend_X8 rfl tyX8 tyX8_ok nmX8 0 (by decide) xl_X8_bend_102 rfl (tyX8_ok 0 (by decide)) h21 dX8_bend_33 (fun H locs w => ?_)
        refine lv_aload_n S.1 S.2.1 dX8_bend_36 rfl (lv_at hl 0 rfl) ?_
        obtain ⟨x22, h23, h⟩ := xb h
        refine xr_geti S w 9 xi_X8_bend_X8 rfl 0 (by decide) xl_X8_bend_102 h23 dX8_bend_37 ?_
        refine lv_if_le (tgt := 45) S.1 S.2.1 dX8_bend_40 (by decide) (fun c40 => ?_) (fun c40 => ?_)
        · rw [if_pos c40] at h
          refine lv_aload_n S.1 S.2.1 dX8_bend_45 rfl (lv_at hl 0 rfl) ?_
          obtain ⟨x24, h25, h⟩ := xb h
          refine xr_getr S w 9 xi_X8_bend_X8 rfl 7 (by decide) xl_X8_bend_29 h25 dX8_bend_46 ?_
          refine lv_sipush (v := 151) S.1 S.2.1 dX8_bend_49 (by decide) ?_
          refine lv_iload_n S.1 S.2.1 dX8_bend_52 rfl (lv_at hl 1 rfl) ?_
          refine lv_imul S.1 S.2.1 dX8_bend_53 ?_
          refine lv_iload_n S.1 S.2.1 dX8_bend_54 rfl (lv_at hl 2 rfl) ?_
          refine lv_iadd S.1 S.2.1 dX8_bend_55 ?_
          refine lv_iconst (v := 1) S.1 S.2.1 dX8_bend_56 (by decide) ?_
          refine lv_isub S.1 S.2.1 dX8_bend_57 ?_
          obtain ⟨x26, h27, h⟩ := xb h
          refine xr_iald S w h27 dX8_bend_58 ?_
          refine lv_istore (lv' := [(4, .int x26), (0, .ref a0), (1, .int a1), (2, .int a2), (3, .int a3)]) S.1 S.2.1 dX8_bend_59 hl (by decide) rfl (fun ls hl => ?_)
          refine lv_aload_n S.1 S.2.1 dX8_bend_61 rfl (lv_at hl 1 rfl) ?_
          obtain ⟨x28, h29, h⟩ := xb h
          refine xr_getr S w 9 xi_X8_bend_X8 rfl 7 (by decide) xl_X8_bend_29 h29 dX8_bend_62 ?_
          refine lv_sipush (v := 151) S.1 S.2.1 dX8_bend_65 (by decide) ?_
          refine lv_iload_n S.1 S.2.1 dX8_bend_68 rfl (lv_at hl 2 rfl) ?_
          refine lv_imul S.1 S.2.1 dX8_bend_69 ?_
          refine lv_iload_n S.1 S.2.1 dX8_bend_70 rfl (lv_at hl 3 rfl) ?_
          refine lv_iadd S.1 S.2.1 dX8_bend_71 ?_
          refine lv_iconst (v := 1) S.1 S.2.1 dX8_bend_72 (by decide) ?_
          refine lv_isub S.1 S.2.1 dX8_bend_73 ?_
          refine lv_iload_n S.1 S.2.1 dX8_bend_74 rfl (lv_at hl 4 rfl) ?_
          obtain ⟨g30, h31, h⟩ := xb h
          refine xr_iast S w h31 dX8_bend_75 (fun H locs w => ?_)
          refine lv_iload S.1 S.2.1 dX8_bend_76 (lv_at hl 0 rfl) ?_
          exact ret _ _ _ _ _ _ (h.trans (congrArg some hrr)) w dX8_bend_78
        · rw [if_neg c40] at h
          refine lv_iconst (v := 0) S.1 S.2.1 dX8_bend_43 (by decide) ?_
          exact ret _ _ _ _ _ _ (h.trans (congrArg some hrr)) w dX8_bend_44
      · rw [if_neg c25] at h
        refine lv_iconst (v := 1) S.1 S.2.1 dX8_bend_28 (by decide) ?_
        refine lv_goto (tgt := 33) S.1 S.2.1 dX8_bend_29 (by decide) ?_
        obtain ⟨g32, h33, h⟩ := xb h
        refine xr_puti S w 9 xi_X8_bend_X8 rfl tyX8 tyX8_ok nmX8 0 (by decide) xl_X8_bend_102 rfl (tyX8_ok 0 (by decide)) h33 dX8_bend_33 (fun H locs w => ?_)
        refine lv_aload_n S.1 S.2.1 dX8_bend_36 rfl (lv_at hl 0 rfl) ?_
        obtain ⟨x34, h35, h⟩ := xb h
        refine xr_geti S w 9 xi_X8_bend_X8 rfl 0 (by decide) xl_X8_bend_102 h35 dX8_bend_37 ?_
        refine lv_if_le (tgt := 45) S.1 S.2.1 dX8_bend_40 (by decide) (fun c40 => ?_) (fun c40 => ?_)
        · rw [if_pos c40] at h
          refine lv_aload_n S.1 S.2.1 dX8_bend_45 rfl (lv_at hl 0 rfl) ?_
          obtain ⟨x36, h37, h⟩ := xb h
          refine xr_getr S w 9 xi_X8_bend_X8 rfl 7 (by decide) xl_X8_bend_29 h37 dX8_bend_46 ?_
          refine lv_sipush (v := 151) S.1 S.2.1 dX8_bend_49 (by decide) ?_
          refine lv_iload_n S.1 S.2.1 dX8_bend_52 rfl (lv_at hl 1 rfl) ?_
          refine lv_imul S.1 S.2.1 dX8_bend_53 ?_
          refine lv_iload_n S.1 S.2.1 dX8_bend_54 rfl (lv_at hl 2 rfl) ?_
          refine lv_iadd S.1 S.2.1 dX8_bend_55 ?_
          refine lv_iconst (v := 1) S.1 S.2.1 dX8_bend_56 (by decide) ?_
          refine lv_isub S.1 S.2.1 dX8_bend_57 ?_
          obtain ⟨x38, h39, h⟩ := xb h
          refine xr_iald S w h39 dX8_bend_58 ?_
          refine lv_istore (lv' := [(4, .int x38), (0, .ref a0), (1, .int a1), (2, .int a2), (3, .int a3)]) S.1 S.2.1 dX8_bend_59 hl (by decide) rfl (fun ls hl => ?_)
          refine lv_aload_n S.1 S.2.1 dX8_bend_61 rfl (lv_at hl 1 rfl) ?_
          obtain ⟨x40, h41, h⟩ := xb h
          refine xr_getr S w 9 xi_X8_bend_X8 rfl 7 (by decide) xl_X8_bend_29 h41 dX8_bend_62 ?_
          refine lv_sipush (v := 151) S.1 S.2.1 dX8_bend_65 (by decide) ?_
          refine lv_iload_n S.1 S.2.1 dX8_bend_68 rfl (lv_at hl 2 rfl) ?_
          refine lv_imul S.1 S.2.1 dX8_bend_69 ?_
          refine lv_iload_n S.1 S.2.1 dX8_bend_70 rfl (lv_at hl 3 rfl) ?_
          refine lv_iadd S.1 S.2.1 dX8_bend_71 ?_
          refine lv_iconst (v := 1) S.1 S.2.1 dX8_bend_72 (by decide) ?_
          refine lv_isub S.1 S.2.1 dX8_bend_73 ?_
          refine lv_iload_n S.1 S.2.1 dX8_bend_74 rfl (lv_at hl 4 rfl) ?_
          obtain ⟨g42, h43, h⟩ := xb h
          refine xr_iast S w h43 dX8_bend_75 (fun H locs w => ?_)
          refine lv_iload S.1 S.2.1 dX8_bend_76 (lv_at hl 0 rfl) ?_
          exact ret _ _ _ _ _ _ (h.trans (congrArg some hrr)) w dX8_bend_78
        · rw [if_neg c40] at h
          refine lv_iconst (v := 0) S.1 S.2.1 dX8_bend_43 (by decide) ?_
          exact ret _ _ _ _ _ _ (h.trans (congrArg some hrr)) w dX8_bend_44
    · rw [if_neg c11] at h
      exact hb14 g a0 a1 a2 a3 a0 h _ _ _ w hl
theorem xi_X8_cut_X8 : ∀ w ∈ wsX80, w ∈ wsX8_cut := by decide +kernel
theorem xl_X8_cut_102 : Cond.fieldLink RX8 102 (TX8 0).1 (TX8 0).2.1 (TX8 0).2.2.1 ∈ wsX8_cut := by decide +kernel
theorem xl_X8_cut_20 : Cond.fieldLink RX8 20 (TX8 4).1 (TX8 4).2.1 (TX8 4).2.2.1 ∈ wsX8_cut := by decide +kernel
def f_X8_cut (g : xG) (a0 : Nat) (a1 : Int32) (a2 : Int32) : Option (Int32 × xG) :=
  (xk g 9 a0).bind fun _ =>
  (f_X8_no g a0 a1).bind fun x3 =>
  if x3 = 0 then
    if 0 ≤ a2 then
      (xg_r g 9 a0 4).bind fun x16 =>
      (xa_i 1 g x16 a1).bind fun x18 =>
      if a2 ≤ x18 then
        (xp_i g 9 a0 0 0).bind fun g20 =>
        (xg_i g20 9 a0 0).bind fun x22 =>
        if x22 ≤ 0 then
          (xg_r g20 9 a0 4).bind fun x24 =>
          (xa_i 1 g20 x24 a1).bind fun x26 =>
          (xg_r g20 9 a0 4).bind fun x28 =>
          (xs_i 1 g20 x28 a1 a2).bind fun g30 =>
          some ((x26 - a2), g30)
        else
          some (0, g20)
      else
        (xp_i g 9 a0 0 1).bind fun g32 =>
        (xg_i g32 9 a0 0).bind fun x34 =>
        if x34 ≤ 0 then
          (xg_r g32 9 a0 4).bind fun x36 =>
          (xa_i 1 g32 x36 a1).bind fun x38 =>
          (xg_r g32 9 a0 4).bind fun x40 =>
          (xs_i 1 g32 x40 a1 a2).bind fun g42 =>
          some ((x38 - a2), g42)
        else
          some (0, g32)
    else
      (xp_i g 9 a0 0 1).bind fun g44 =>
      (xg_i g44 9 a0 0).bind fun x46 =>
      if x46 ≤ 0 then
        (xg_r g44 9 a0 4).bind fun x48 =>
        (xa_i 1 g44 x48 a1).bind fun x50 =>
        (xg_r g44 9 a0 4).bind fun x52 =>
        (xs_i 1 g44 x52 a1 a2).bind fun g54 =>
        some ((x50 - a2), g54)
      else
        some (0, g44)
  else
    (xp_i g 9 a0 0 1).bind fun g4 =>
    (xg_i g4 9 a0 0).bind fun x6 =>
    if x6 ≤ 0 then
      (xg_r g4 9 a0 4).bind fun x8 =>
      (xa_i 1 g4 x8 a1).bind fun x10 =>
      (xg_r g4 9 a0 4).bind fun x12 =>
      (xs_i 1 g4 x12 a1 a2).bind fun g14 =>
      some ((x10 - a2), g14)
    else
      some (0, g4)
set_option maxHeartbeats 4000000 in
set_option maxRecDepth 100000 in
theorem c_X8_cut (l : Launch) (D : va_G) (cy : Nat → ClassId) (L : List Nat) (g : xG) (a0 : Nat) (a1 : Int32) (a2 : Int32) {r1 : Int32} {g1 : xG} (h : f_X8_cut g a0 a1 a2 = some (r1, g1)) : xMi l yX8_cut wsX8_cut ({ frames := 1, cells := 0, slots := 0, locals := 21 }) D cy L g [.ref a0, .int a1, .int a2] r1 g1 := by
  refine xm_i (cc := cX8_cut) (maxL := 4) RX8 rfl rfl rfl (by decide +kernel) rfl (Nat.le_of_ble_eq_true rfl) ?_
  intro p e s m args below meth c Q A S w hA hN ret ls hl
  have hl : lv_has ls 4 [(0, .ref a0), (1, .int a1), (2, .int a2)] := hl
  rw [f_X8_cut] at h
  refine lv_aload_n S.1 S.2.1 dX8_cut_0 rfl (lv_at hl 0 rfl) ?_
  refine lv_aload_n S.1 S.2.1 dX8_cut_1 rfl (lv_at hl 0 rfl) ?_
  refine lv_iload_n S.1 S.2.1 dX8_cut_2 rfl (lv_at hl 1 rfl) ?_
  obtain ⟨_, h1, h⟩ := xb h
  obtain ⟨x3, h2, h⟩ := xb h
  refine xr_callV_i S w hA hN 9 rfl h1 (c_X8_no l D cy L g a0 a1 h2) (cwV 1 S.2.2.2.2 gX8_cut_X8_no rfl rfl rfl (by decide +kernel) ⟨Nat.le_of_ble_eq_true rfl, Nat.le_of_ble_eq_true rfl⟩) rfl rfl hl.1 (Nat.le_of_ble_eq_true rfl) dX8_cut_3 ⟨Nat.le_of_ble_eq_true rfl, Nat.le_of_ble_eq_true rfl⟩ (fun H locs w => ?_)
  refine lv_if_ne (tgt := 13) S.1 S.2.1 dX8_cut_6 (by decide) (fun c6 => ?_) (fun c6 => ?_)
  · rw [if_neg c6] at h
    refine lv_iconst (v := 1) S.1 S.2.1 dX8_cut_13 (by decide) ?_
    refine lv_goto (tgt := 32) S.1 S.2.1 dX8_cut_14 (by decide) ?_
    obtain ⟨g4, h5, h⟩ := xb h
    refine xr_puti S w 9 xi_X8_cut_X8 rfl tyX8 tyX8_ok nmX8 0 (by decide) xl_X8_cut_102 rfl (tyX8_ok 0 (by decide)) h5 dX8_cut_32 (fun H locs w => ?_)
    refine lv_aload_n S.1 S.2.1 dX8_cut_35 rfl (lv_at hl 0 rfl) ?_
    obtain ⟨x6, h7, h⟩ := xb h
    refine xr_geti S w 9 xi_X8_cut_X8 rfl 0 (by decide) xl_X8_cut_102 h7 dX8_cut_36 ?_
    refine lv_if_le (tgt := 44) S.1 S.2.1 dX8_cut_39 (by decide) (fun c39 => ?_) (fun c39 => ?_)
    · rw [if_pos c39] at h
      refine lv_aload_n S.1 S.2.1 dX8_cut_44 rfl (lv_at hl 0 rfl) ?_
      obtain ⟨x8, h9, h⟩ := xb h
      refine xr_getr S w 9 xi_X8_cut_X8 rfl 4 (by decide) xl_X8_cut_20 h9 dX8_cut_45 ?_
      refine lv_iload_n S.1 S.2.1 dX8_cut_48 rfl (lv_at hl 1 rfl) ?_
      obtain ⟨x10, h11, h⟩ := xb h
      refine xr_iald S w h11 dX8_cut_49 ?_
      refine lv_iload_n S.1 S.2.1 dX8_cut_50 rfl (lv_at hl 2 rfl) ?_
      refine lv_isub S.1 S.2.1 dX8_cut_51 ?_
      refine lv_istore_n (lv' := [(3, .int (x10 - a2)), (0, .ref a0), (1, .int a1), (2, .int a2)]) S.1 S.2.1 dX8_cut_52 rfl hl (by decide) rfl (fun ls hl => ?_)
      refine lv_aload_n S.1 S.2.1 dX8_cut_53 rfl (lv_at hl 1 rfl) ?_
      obtain ⟨x12, h13, h⟩ := xb h
      refine xr_getr S w 9 xi_X8_cut_X8 rfl 4 (by decide) xl_X8_cut_20 h13 dX8_cut_54 ?_
      refine lv_iload_n S.1 S.2.1 dX8_cut_57 rfl (lv_at hl 2 rfl) ?_
      refine lv_iload_n S.1 S.2.1 dX8_cut_58 rfl (lv_at hl 3 rfl) ?_
      obtain ⟨g14, h15, h⟩ := xb h
      refine xr_iast S w h15 dX8_cut_59 (fun H locs w => ?_)
      refine lv_iload_n S.1 S.2.1 dX8_cut_60 rfl (lv_at hl 0 rfl) ?_
      exact ret _ _ _ _ _ _ h w dX8_cut_61
    · rw [if_neg c39] at h
      refine lv_iconst (v := 0) S.1 S.2.1 dX8_cut_42 (by decide) ?_
      exact ret _ _ _ _ _ _ h w dX8_cut_43
  · rw [if_pos c6] at h
    refine lv_iload_n S.1 S.2.1 dX8_cut_9 rfl (lv_at hl 2 rfl) ?_
    refine lv_if_ge (tgt := 17) S.1 S.2.1 dX8_cut_10 (by decide) (fun c10 => ?_) (fun c10 => ?_)
    · rw [if_pos c10] at h
      refine lv_iload_n S.1 S.2.1 dX8_cut_17 rfl (lv_at hl 2 rfl) ?_
      refine lv_aload_n S.1 S.2.1 dX8_cut_18 rfl (lv_at hl 0 rfl) ?_
      obtain ⟨x16, h17, h⟩ := xb h
      refine xr_getr S w 9 xi_X8_cut_X8 rfl 4 (by decide) xl_X8_cut_20 h17 dX8_cut_19 ?_
      refine lv_iload_n S.1 S.2.1 dX8_cut_22 rfl (lv_at hl 1 rfl) ?_
      obtain ⟨x18, h19, h⟩ := xb h
      refine xr_iald S w h19 dX8_cut_23 ?_
      refine lv_icmp_le (tgt := 31) S.1 S.2.1 dX8_cut_24 (by decide) (fun c24 => ?_) (fun c24 => ?_)
      · rw [if_pos c24] at h
        refine lv_iconst (v := 0) S.1 S.2.1 dX8_cut_31 (by decide) ?_
        obtain ⟨g20, h21, h⟩ := xb h
        refine xr_puti S w 9 xi_X8_cut_X8 rfl tyX8 tyX8_ok nmX8 0 (by decide) xl_X8_cut_102 rfl (tyX8_ok 0 (by decide)) h21 dX8_cut_32 (fun H locs w => ?_)
        refine lv_aload_n S.1 S.2.1 dX8_cut_35 rfl (lv_at hl 0 rfl) ?_
        obtain ⟨x22, h23, h⟩ := xb h
        refine xr_geti S w 9 xi_X8_cut_X8 rfl 0 (by decide) xl_X8_cut_102 h23 dX8_cut_36 ?_
        refine lv_if_le (tgt := 44) S.1 S.2.1 dX8_cut_39 (by decide) (fun c39 => ?_) (fun c39 => ?_)
        · rw [if_pos c39] at h
          refine lv_aload_n S.1 S.2.1 dX8_cut_44 rfl (lv_at hl 0 rfl) ?_
          obtain ⟨x24, h25, h⟩ := xb h
          refine xr_getr S w 9 xi_X8_cut_X8 rfl 4 (by decide) xl_X8_cut_20 h25 dX8_cut_45 ?_
          refine lv_iload_n S.1 S.2.1 dX8_cut_48 rfl (lv_at hl 1 rfl) ?_
          obtain ⟨x26, h27, h⟩ := xb h
          refine xr_iald S w h27 dX8_cut_49 ?_
          refine lv_iload_n S.1 S.2.1 dX8_cut_50 rfl (lv_at hl 2 rfl) ?_
          refine lv_isub S.1 S.2.1 dX8_cut_51 ?_
          refine lv_istore_n (lv' := [(3, .int (x26 - a2)), (0, .ref a0), (1, .int a1), (2, .int a2)]) S.1 S.2.1 dX8_cut_52 rfl hl (by decide) rfl (fun ls hl => ?_)
          refine lv_aload_n S.1 S.2.1 dX8_cut_53 rfl (lv_at hl 1 rfl) ?_
          obtain ⟨x28, h29, h⟩ := xb h
          refine xr_getr S w 9 xi_X8_cut_X8 rfl 4 (by decide) xl_X8_cut_20 h29 dX8_cut_54 ?_
          refine lv_iload_n S.1 S.2.1 dX8_cut_57 rfl (lv_at hl 2 rfl) ?_
          refine lv_iload_n S.1 S.2.1 dX8_cut_58 rfl (lv_at hl 3 rfl) ?_
          obtain ⟨g30, h31, h⟩ := xb h
          refine xr_iast S w h31 dX8_cut_59 (fun H locs w => ?_)
          refine lv_iload_n S.1 S.2.1 dX8_cut_60 rfl (lv_at hl 0 rfl) ?_
          exact ret _ _ _ _ _ _ h w dX8_cut_61
        · rw [if_neg c39] at h
          refine lv_iconst (v := 0) S.1 S.2.1 dX8_cut_42 (by decide) ?_
          exact ret _ _ _ _ _ _ h w dX8_cut_43
      · rw [if_neg c24] at h
        refine lv_iconst (v := 1) S.1 S.2.1 dX8_cut_27 (by decide) ?_
        refine lv_goto (tgt := 32) S.1 S.2.1 dX8_cut_28 (by decide) ?_
        obtain ⟨g32, h33, h⟩ := xb h
        refine xr_puti S w 9 xi_X8_cut_X8 rfl tyX8 tyX8_ok nmX8 0 (by decide) xl_X8_cut_102 rfl (tyX8_ok 0 (by decide)) h33 dX8_cut_32 (fun H locs w => ?_)
        refine lv_aload_n S.1 S.2.1 dX8_cut_35 rfl (lv_at hl 0 rfl) ?_
        obtain ⟨x34, h35, h⟩ := xb h
        refine xr_geti S w 9 xi_X8_cut_X8 rfl 0 (by decide) xl_X8_cut_102 h35 dX8_cut_36 ?_
        refine lv_if_le (tgt := 44) S.1 S.2.1 dX8_cut_39 (by decide) (fun c39 => ?_) (fun c39 => ?_)
        · rw [if_pos c39] at h
          refine lv_aload_n S.1 S.2.1 dX8_cut_44 rfl (lv_at hl 0 rfl) ?_
          obtain ⟨x36, h37, h⟩ := xb h
          refine xr_getr S w 9 xi_X8_cut_X8 rfl 4 (by decide) xl_X8_cut_20 h37 dX8_cut_45 ?_
          refine lv_iload_n S.1 S.2.1 dX8_cut_48 rfl (lv_at hl 1 rfl) ?_
          obtain ⟨x38, h39, h⟩ := xb h
          refine xr_iald S w h39 dX8_cut_49 ?_
          refine lv_iload_n S.1 S.2.1 dX8_cut_50 rfl (lv_at hl 2 rfl) ?_
          refine lv_isub S.1 S.2.1 dX8_cut_51 ?_
          refine lv_istore_n (lv' := [(3, .int (x38 - a2)), (0, .ref a0), (1, .int a1), (2, .int a2)]) S.1 S.2.1 dX8_cut_52 rfl hl (by decide) rfl (fun ls hl => ?_)
          refine lv_aload_n S.1 S.2.1 dX8_cut_53 rfl (lv_at hl 1 rfl) ?_
          obtain ⟨x40, h41, h⟩ := xb h
          refine xr_getr S w 9 xi_X8_cut_X8 rfl 4 (by decide) xl_X8_cut_20 h41 dX8_cut_54 ?_
          refine lv_iload_n S.1 S.2.1 dX8_cut_57 rfl (lv_at hl 2 rfl) ?_
          refine lv_iload_n S.1 S.2.1 dX8_cut_58 rfl (lv_at hl 3 rfl) ?_
          obtain ⟨g42, h43, h⟩ := xb h
          refine xr_iast S w h43 dX8_cut_59 (fun H locs w => ?_)
          refine lv_iload_n S.1 S.2.1 dX8_cut_60 rfl (lv_at hl 0 rfl) ?_
          exact ret _ _ _ _ _ _ h w dX8_cut_61
        · rw [if_neg c39] at h
          refine lv_iconst (v := 0) S.1 S.2.1 dX8_cut_42 (by decide) ?_
          exact ret _ _ _ _ _ _ h w dX8_cut_43
    · rw [if_neg c10] at h
      refine lv_iconst (v := 1) S.1 S.2.1 dX8_cut_13 (by decide) ?_
      refine lv_goto (tgt := 32) S.1 S.2.1 dX8_cut_14 (by decide) ?_
      obtain ⟨g44, h45, h⟩ := xb h
      refine xr_puti S w 9 xi_X8_cut_X8 rfl tyX8 tyX8_ok nmX8 0 (by decide) xl_X8_cut_102 rfl (tyX8_ok 0 (by decide)) h45 dX8_cut_32 (fun H locs w => ?_)
      refine lv_aload_n S.1 S.2.1 dX8_cut_35 rfl (lv_at hl 0 rfl) ?_
      obtain ⟨x46, h47, h⟩ := xb h
      refine xr_geti S w 9 xi_X8_cut_X8 rfl 0 (by decide) xl_X8_cut_102 h47 dX8_cut_36 ?_
      refine lv_if_le (tgt := 44) S.1 S.2.1 dX8_cut_39 (by decide) (fun c39 => ?_) (fun c39 => ?_)
      · rw [if_pos c39] at h
        refine lv_aload_n S.1 S.2.1 dX8_cut_44 rfl (lv_at hl 0 rfl) ?_
        obtain ⟨x48, h49, h⟩ := xb h
        refine xr_getr S w 9 xi_X8_cut_X8 rfl 4 (by decide) xl_X8_cut_20 h49 dX8_cut_45 ?_
        refine lv_iload_n S.1 S.2.1 dX8_cut_48 rfl (lv_at hl 1 rfl) ?_
        obtain ⟨x50, h51, h⟩ := xb h
        refine xr_iald S w h51 dX8_cut_49 ?_
        refine lv_iload_n S.1 S.2.1 dX8_cut_50 rfl (lv_at hl 2 rfl) ?_
        refine lv_isub S.1 S.2.1 dX8_cut_51 ?_
        refine lv_istore_n (lv' := [(3, .int (x50 - a2)), (0, .ref a0), (1, .int a1), (2, .int a2)]) S.1 S.2.1 dX8_cut_52 rfl hl (by decide) rfl (fun ls hl => ?_)
        refine lv_aload_n S.1 S.2.1 dX8_cut_53 rfl (lv_at hl 1 rfl) ?_
        obtain ⟨x52, h53, h⟩ := xb h
        refine xr_getr S w 9 xi_X8_cut_X8 rfl 4 (by decide) xl_X8_cut_20 h53 dX8_cut_54 ?_
        refine lv_iload_n S.1 S.2.1 dX8_cut_57 rfl (lv_at hl 2 rfl) ?_
        refine lv_iload_n S.1 S.2.1 dX8_cut_58 rfl (lv_at hl 3 rfl) ?_
        obtain ⟨g54, h55, h⟩ := xb h
        refine xr_iast S w h55 dX8_cut_59 (fun H locs w => ?_)
        refine lv_iload_n S.1 S.2.1 dX8_cut_60 rfl (lv_at hl 0 rfl) ?_
        exact ret _ _ _ _ _ _ h w dX8_cut_61
      · rw [if_neg c39] at h
        refine lv_iconst (v := 0) S.1 S.2.1 dX8_cut_42 (by decide) ?_
        exact ret _ _ _ _ _ _ h w dX8_cut_43
theorem xi_X8_hide_X8 : ∀ w ∈ wsX80, w ∈ wsX8_hide := by decide +kernel
theorem xl_X8_hide_102 : Cond.fieldLink RX8 102 (TX8 0).1 (TX8 0).2.1 (TX8 0).2.2.1 ∈ wsX8_hide := by decide +kernel
theorem xl_X8_hide_32 : Cond.fieldLink RX8 32 (TX8 8).1 (TX8 8).2.1 (TX8 8).2.2.1 ∈ wsX8_hide := by decide +kernel
def f_X8_hide (g : xG) (a0 : Nat) (a1 : Int32) (a2 : Int32) : Option (Int32 × xG) :=
  (xk g 9 a0).bind fun _ =>
  (f_X8_no g a0 a1).bind fun x3 =>
  if x3 = 0 then
    (xp_i g 9 a0 0 0).bind fun g4 =>
    (xg_i g4 9 a0 0).bind fun x6 =>
    if x6 ≤ 0 then
      (xg_r g4 9 a0 8).bind fun x8 =>
      (xa_i 3 g4 x8 a1).bind fun x10 =>
      (xg_r g4 9 a0 8).bind fun x12 =>
      (xs_i 3 g4 x12 a1 a2).bind fun g14 =>
      (xz x10).bind fun x17 =>
      some (x17, g14)
    else
      some (0, g4)
  else
    (xp_i g 9 a0 0 1).bind fun g18 =>
    (xg_i g18 9 a0 0).bind fun x20 =>
    if x20 ≤ 0 then
      (xg_r g18 9 a0 8).bind fun x22 =>
      (xa_i 3 g18 x22 a1).bind fun x24 =>
      (xg_r g18 9 a0 8).bind fun x26 =>
      (xs_i 3 g18 x26 a1 a2).bind fun g28 =>
      (xz x24).bind fun x31 =>
      some (x31, g28)
    else
      some (0, g18)
set_option maxHeartbeats 4000000 in
set_option maxRecDepth 100000 in
theorem c_X8_hide (l : Launch) (D : va_G) (cy : Nat → ClassId) (L : List Nat) (g : xG) (a0 : Nat) (a1 : Int32) (a2 : Int32) {r1 : Int32} {g1 : xG} (h : f_X8_hide g a0 a1 a2 = some (r1, g1)) : xMi l yX8_hide wsX8_hide ({ frames := 1, cells := 0, slots := 0, locals := 21 }) D cy L g [.ref a0, .int a1, .int a2] r1 g1 := by
  refine xm_z (cc := cX8_hide) (maxL := 4) RX8 rfl rfl rfl (by decide +kernel) rfl (Nat.le_of_ble_eq_true rfl) ?_
  intro p e s m args below meth c Q A S w hA hN ret ls hl
  have hl : lv_has ls 4 [(0, .ref a0), (1, .int a1), (2, .int a2)] := hl
  rw [f_X8_hide] at h
  refine lv_aload_n S.1 S.2.1 dX8_hide_0 rfl (lv_at hl 0 rfl) ?_
  refine lv_aload_n S.1 S.2.1 dX8_hide_1 rfl (lv_at hl 0 rfl) ?_
  refine lv_iload_n S.1 S.2.1 dX8_hide_2 rfl (lv_at hl 1 rfl) ?_
  obtain ⟨_, h1, h⟩ := xb h
  obtain ⟨x3, h2, h⟩ := xb h
  refine xr_callV_i S w hA hN 9 rfl h1 (c_X8_no l D cy L g a0 a1 h2) (cwV 1 S.2.2.2.2 gX8_hide_X8_no rfl rfl rfl (by decide +kernel) ⟨Nat.le_of_ble_eq_true rfl, Nat.le_of_ble_eq_true rfl⟩) rfl rfl hl.1 (Nat.le_of_ble_eq_true rfl) dX8_hide_3 ⟨Nat.le_of_ble_eq_true rfl, Nat.le_of_ble_eq_true rfl⟩ (fun H locs w => ?_)
  refine lv_if_eq (tgt := 13) S.1 S.2.1 dX8_hide_6 (by decide) (fun c6 => ?_) (fun c6 => ?_)
  · rw [if_pos c6] at h
    refine lv_iconst (v := 0) S.1 S.2.1 dX8_hide_13 (by decide) ?_
    obtain ⟨g4, h5, h⟩ := xb h
    refine xr_puti S w 9 xi_X8_hide_X8 rfl tyX8 tyX8_ok nmX8 0 (by decide) xl_X8_hide_102 rfl (tyX8_ok 0 (by decide)) h5 dX8_hide_14 (fun H locs w => ?_)
    refine lv_aload_n S.1 S.2.1 dX8_hide_17 rfl (lv_at hl 0 rfl) ?_
    obtain ⟨x6, h7, h⟩ := xb h
    refine xr_geti S w 9 xi_X8_hide_X8 rfl 0 (by decide) xl_X8_hide_102 h7 dX8_hide_18 ?_
    refine lv_if_le (tgt := 26) S.1 S.2.1 dX8_hide_21 (by decide) (fun c21 => ?_) (fun c21 => ?_)
    · rw [if_pos c21] at h
      refine lv_aload_n S.1 S.2.1 dX8_hide_26 rfl (lv_at hl 0 rfl) ?_
      obtain ⟨x8, h9, h⟩ := xb h
      refine xr_getr S w 9 xi_X8_hide_X8 rfl 8 (by decide) xl_X8_hide_32 h9 dX8_hide_27 ?_
      refine lv_iload_n S.1 S.2.1 dX8_hide_30 rfl (lv_at hl 1 rfl) ?_
      obtain ⟨x10, h11, h⟩ := xb h
      refine xr_zald S w h11 dX8_hide_31 ?_
      refine lv_istore_n (lv' := [(3, .int x10), (0, .ref a0), (1, .int a1), (2, .int a2)]) S.1 S.2.1 dX8_hide_32 rfl hl (by decide) rfl (fun ls hl => ?_)
      refine lv_aload_n S.1 S.2.1 dX8_hide_33 rfl (lv_at hl 1 rfl) ?_
      obtain ⟨x12, h13, h⟩ := xb h
      refine xr_getr S w 9 xi_X8_hide_X8 rfl 8 (by decide) xl_X8_hide_32 h13 dX8_hide_34 ?_
      refine lv_iload_n S.1 S.2.1 dX8_hide_37 rfl (lv_at hl 2 rfl) ?_
      refine lv_iload_n S.1 S.2.1 dX8_hide_38 rfl (lv_at hl 3 rfl) ?_
      obtain ⟨g14, h15, h⟩ := xb h
      refine xr_zast S w h15 dX8_hide_39 (fun H locs w => ?_)
      refine lv_iload_n S.1 S.2.1 dX8_hide_40 rfl (lv_at hl 0 rfl) ?_
      obtain ⟨x17, h16, h⟩ := xb h
      exact ret _ _ _ _ x10 x17 _ h16 h w dX8_hide_41
    · rw [if_neg c21] at h
      refine lv_iconst (v := 0) S.1 S.2.1 dX8_hide_24 (by decide) ?_
      exact ret _ _ _ _ 0 0 _ (by decide) h w dX8_hide_25
  · rw [if_neg c6] at h
    refine lv_iconst (v := 1) S.1 S.2.1 dX8_hide_9 (by decide) ?_
    refine lv_goto (tgt := 14) S.1 S.2.1 dX8_hide_10 (by decide) ?_
    obtain ⟨g18, h19, h⟩ := xb h
    refine xr_puti S w 9 xi_X8_hide_X8 rfl tyX8 tyX8_ok nmX8 0 (by decide) xl_X8_hide_102 rfl (tyX8_ok 0 (by decide)) h19 dX8_hide_14 (fun H locs w => ?_)
    refine lv_aload_n S.1 S.2.1 dX8_hide_17 rfl (lv_at hl 0 rfl) ?_
    obtain ⟨x20, h21, h⟩ := xb h
    refine xr_geti S w 9 xi_X8_hide_X8 rfl 0 (by decide) xl_X8_hide_102 h21 dX8_hide_18 ?_
    refine lv_if_le (tgt := 26) S.1 S.2.1 dX8_hide_21 (by decide) (fun c21 => ?_) (fun c21 => ?_)
    · rw [if_pos c21] at h
      refine lv_aload_n S.1 S.2.1 dX8_hide_26 rfl (lv_at hl 0 rfl) ?_
      obtain ⟨x22, h23, h⟩ := xb h
      refine xr_getr S w 9 xi_X8_hide_X8 rfl 8 (by decide) xl_X8_hide_32 h23 dX8_hide_27 ?_
      refine lv_iload_n S.1 S.2.1 dX8_hide_30 rfl (lv_at hl 1 rfl) ?_
      obtain ⟨x24, h25, h⟩ := xb h
      refine xr_zald S w h25 dX8_hide_31 ?_
      refine lv_istore_n (lv' := [(3, .int x24), (0, .ref a0), (1, .int a1), (2, .int a2)]) S.1 S.2.1 dX8_hide_32 rfl hl (by decide) rfl (fun ls hl => ?_)
      refine lv_aload_n S.1 S.2.1 dX8_hide_33 rfl (lv_at hl 1 rfl) ?_
      obtain ⟨x26, h27, h⟩ := xb h
      refine xr_getr S w 9 xi_X8_hide_X8 rfl 8 (by decide) xl_X8_hide_32 h27 dX8_hide_34 ?_
      refine lv_iload_n S.1 S.2.1 dX8_hide_37 rfl (lv_at hl 2 rfl) ?_
      refine lv_iload_n S.1 S.2.1 dX8_hide_38 rfl (lv_at hl 3 rfl) ?_
      obtain ⟨g28, h29, h⟩ := xb h
      refine xr_zast S w h29 dX8_hide_39 (fun H locs w => ?_)
      refine lv_iload_n S.1 S.2.1 dX8_hide_40 rfl (lv_at hl 0 rfl) ?_
      obtain ⟨x31, h30, h⟩ := xb h
      exact ret _ _ _ _ x24 x31 _ h30 h w dX8_hide_41
    · rw [if_neg c21] at h
      refine lv_iconst (v := 0) S.1 S.2.1 dX8_hide_24 (by decide) ?_
      exact ret _ _ _ _ 0 0 _ (by decide) h w dX8_hide_25
theorem xi_X8_look_X8 : ∀ w ∈ wsX80, w ∈ wsX8_look := by decide +kernel
theorem xl_X8_look_180 : Cond.fieldLink RX8 180 (TX8 31).1 (TX8 31).2.1 (TX8 31).2.2.1 ∈ wsX8_look := by decide +kernel
theorem xl_X8_look_93 : Cond.fieldLink RX8 93 (TX8 32).1 (TX8 32).2.1 (TX8 32).2.2.1 ∈ wsX8_look := by decide +kernel
theorem xl_X8_look_23 : Cond.fieldLink RX8 23 (TX8 5).1 (TX8 5).2.1 (TX8 5).2.2.1 ∈ wsX8_look := by decide +kernel
theorem xl_X8_look_96 : Cond.fieldLink RX8 96 (TX8 33).1 (TX8 33).2.1 (TX8 33).2.2.1 ∈ wsX8_look := by decide +kernel
theorem xl_X8_look_26 : Cond.fieldLink RX8 26 (TX8 6).1 (TX8 6).2.1 (TX8 6).2.2.1 ∈ wsX8_look := by decide +kernel
theorem xl_X8_look_99 : Cond.fieldLink RX8 99 (TX8 34).1 (TX8 34).2.1 (TX8 34).2.2.1 ∈ wsX8_look := by decide +kernel
theorem xl_X8_look_29 : Cond.fieldLink RX8 29 (TX8 7).1 (TX8 7).2.1 (TX8 7).2.2.1 ∈ wsX8_look := by decide +kernel
theorem xl_X8_look_20 : Cond.fieldLink RX8 20 (TX8 4).1 (TX8 4).2.1 (TX8 4).2.2.1 ∈ wsX8_look := by decide +kernel
def f_X8_look_12 : Nat → xG → Nat → Int32 → Int32 → Option xG
  | 0, _, _, _, _ => none
  | n9 + 1, g, v0, v1, v2 =>
  (xg_i g 9 v0 31).bind fun x1 =>
  if x1 ≤ v2 then
    some g
  else
    (xg_r g 9 v0 32).bind fun x3 =>
    (xg_r g 9 v0 5).bind fun x5 =>
    (xa_i 1 g x5 ((151 * v1) + v2)).bind fun x7 =>
    (xs_i 1 g x3 v2 x7).bind fun g9 =>
    (xg_r g9 9 v0 33).bind fun x11 =>
    (xg_r g9 9 v0 6).bind fun x13 =>
    (xa_i 1 g9 x13 ((151 * v1) + v2)).bind fun x15 =>
    (xs_i 1 g9 x11 v2 x15).bind fun g17 =>
    (xg_r g17 9 v0 34).bind fun x19 =>
    (xg_r g17 9 v0 7).bind fun x21 =>
    (xa_i 1 g17 x21 ((151 * v1) + v2)).bind fun x23 =>
    (xs_i 1 g17 x19 v2 x23).bind fun g25 =>
    f_X8_look_12 n9 g25 v0 v1 (v2 + 1)
def f_X8_look (g : xG) (a0 : Nat) (a1 : Int32) : Option xG :=
  (xg_r g 9 a0 4).bind fun x27 =>
  (xa_i 1 g x27 a1).bind fun x29 =>
  (xp_i g 9 a0 31 x29).bind fun g31 =>
  f_X8_look_12 xFU g31 a0 a1 0
set_option maxHeartbeats 4000000 in
set_option maxRecDepth 100000 in
theorem c_X8_look (l : Launch) (D : va_G) (cy : Nat → ClassId) (L : List Nat) (g : xG) (a0 : Nat) (a1 : Int32) {g1 : xG} (h : f_X8_look g a0 a1 = some g1) : xMv l yX8_look wsX8_look ({ frames := 0, cells := 0, slots := 0, locals := 0 }) D cy L g [.ref a0, .int a1] g1 := by
  refine xm_v (cc := cX8_look) (maxL := 3) RX8 rfl rfl rfl (by decide +kernel) rfl (Nat.le_of_ble_eq_true rfl) ?_
  intro p e s m args below meth c Q A S w hA hN ret ls hl
  have hl : lv_has ls 3 [(0, .ref a0), (1, .int a1)] := hl
  obtain ⟨rr, hrr⟩ : ∃ z, z = g1 := ⟨_, rfl⟩
  rw [← hrr] at h
  have hb12 : ∀ (n9 : Nat), ∀ (g : xG) (v0 : Nat) (v1 : Int32) (v2 : Int32) , f_X8_look_12 n9 g v0 v1 v2 = some rr → ∀ (H : Heap) (locs : List Loc) (ls : Array Slot), xOK D cy A s.heap s L g H locs → lv_has ls 3 [(0, .ref v0), (1, .int v1), (2, .int v2)] → W p l e { frames := 0, cells := 0, slots := 0, locals := 0 } s m args below meth c H locs 0 0 Q (F0 m 12 ls []) := by
    intro n9
    induction n9 with
    | zero => intro g v0 v1 v2 h; cases h
    | succ n9 ih =>
      intro g v0 v1 v2 h H locs ls w hl
      rw [f_X8_look_12] at h
      refine lv_iload_n S.1 S.2.1 dX8_look_12 rfl (lv_at hl 2 rfl) ?_
      refine lv_aload_n S.1 S.2.1 dX8_look_13 rfl (lv_at hl 0 rfl) ?_
      obtain ⟨x1, h2, h⟩ := xb h
      refine xr_geti S w 9 xi_X8_look_X8 rfl 31 (by decide) xl_X8_look_180 h2 dX8_look_14 ?_
      refine lv_icmp_ge (tgt := 80) S.1 S.2.1 dX8_look_17 (by decide) (fun c17 => ?_) (fun c17 => ?_)
      · rw [if_pos c17] at h
        exact ret _ _ _ _ _ (h.trans (congrArg some hrr)) w dX8_look_80
      · rw [if_neg c17] at h
        refine lv_aload_n S.1 S.2.1 dX8_look_20 rfl (lv_at hl 0 rfl) ?_
        obtain ⟨x3, h4, h⟩ := xb h
        refine xr_getr S w 9 xi_X8_look_X8 rfl 32 (by decide) xl_X8_look_93 h4 dX8_look_21 ?_
        refine lv_iload_n S.1 S.2.1 dX8_look_24 rfl (lv_at hl 2 rfl) ?_
        refine lv_aload_n S.1 S.2.1 dX8_look_25 rfl (lv_at hl 0 rfl) ?_
        obtain ⟨x5, h6, h⟩ := xb h
        refine xr_getr S w 9 xi_X8_look_X8 rfl 5 (by decide) xl_X8_look_23 h6 dX8_look_26 ?_
        refine lv_sipush (v := 151) S.1 S.2.1 dX8_look_29 (by decide) ?_
        refine lv_iload_n S.1 S.2.1 dX8_look_32 rfl (lv_at hl 1 rfl) ?_
        refine lv_imul S.1 S.2.1 dX8_look_33 ?_
        refine lv_iload_n S.1 S.2.1 dX8_look_34 rfl (lv_at hl 2 rfl) ?_
        refine lv_iadd S.1 S.2.1 dX8_look_35 ?_
        obtain ⟨x7, h8, h⟩ := xb h
        refine xr_iald S w h8 dX8_look_36 ?_
        obtain ⟨g9, h10, h⟩ := xb h
        refine xr_iast S w h10 dX8_look_37 (fun H locs w => ?_)
        refine lv_aload_n S.1 S.2.1 dX8_look_38 rfl (lv_at hl 0 rfl) ?_
        obtain ⟨x11, h12, h⟩ := xb h
        refine xr_getr S w 9 xi_X8_look_X8 rfl 33 (by decide) xl_X8_look_96 h12 dX8_look_39 ?_
        refine lv_iload_n S.1 S.2.1 dX8_look_42 rfl (lv_at hl 2 rfl) ?_
        refine lv_aload_n S.1 S.2.1 dX8_look_43 rfl (lv_at hl 0 rfl) ?_
        obtain ⟨x13, h14, h⟩ := xb h
        refine xr_getr S w 9 xi_X8_look_X8 rfl 6 (by decide) xl_X8_look_26 h14 dX8_look_44 ?_
        refine lv_sipush (v := 151) S.1 S.2.1 dX8_look_47 (by decide) ?_
        refine lv_iload_n S.1 S.2.1 dX8_look_50 rfl (lv_at hl 1 rfl) ?_
        refine lv_imul S.1 S.2.1 dX8_look_51 ?_
        refine lv_iload_n S.1 S.2.1 dX8_look_52 rfl (lv_at hl 2 rfl) ?_
        refine lv_iadd S.1 S.2.1 dX8_look_53 ?_
        obtain ⟨x15, h16, h⟩ := xb h
        refine xr_iald S w h16 dX8_look_54 ?_
        obtain ⟨g17, h18, h⟩ := xb h
        refine xr_iast S w h18 dX8_look_55 (fun H locs w => ?_)
        refine lv_aload_n S.1 S.2.1 dX8_look_56 rfl (lv_at hl 0 rfl) ?_
        obtain ⟨x19, h20, h⟩ := xb h
        refine xr_getr S w 9 xi_X8_look_X8 rfl 34 (by decide) xl_X8_look_99 h20 dX8_look_57 ?_
        refine lv_iload_n S.1 S.2.1 dX8_look_60 rfl (lv_at hl 2 rfl) ?_
        refine lv_aload_n S.1 S.2.1 dX8_look_61 rfl (lv_at hl 0 rfl) ?_
        obtain ⟨x21, h22, h⟩ := xb h
        refine xr_getr S w 9 xi_X8_look_X8 rfl 7 (by decide) xl_X8_look_29 h22 dX8_look_62 ?_
        refine lv_sipush (v := 151) S.1 S.2.1 dX8_look_65 (by decide) ?_
        refine lv_iload_n S.1 S.2.1 dX8_look_68 rfl (lv_at hl 1 rfl) ?_
        refine lv_imul S.1 S.2.1 dX8_look_69 ?_
        refine lv_iload_n S.1 S.2.1 dX8_look_70 rfl (lv_at hl 2 rfl) ?_
        refine lv_iadd S.1 S.2.1 dX8_look_71 ?_
        obtain ⟨x23, h24, h⟩ := xb h
        refine xr_iald S w h24 dX8_look_72 ?_
        obtain ⟨g25, h26, h⟩ := xb h
        refine xr_iast S w h26 dX8_look_73 (fun H locs w => ?_)
        refine lv_iinc (v := (v2 + 1)) (lv' := [(2, .int (v2 + 1)), (0, .ref v0), (1, .int v1)]) S.1 S.2.1 dX8_look_74 hl (k := 2) rfl rfl (by decide) rfl (fun ls hl => ?_)
        refine lv_goto (tgt := 12) S.1 S.2.1 dX8_look_77 (by decide) ?_
        exact ih g25 v0 v1 (v2 + 1) h _ _ _ w (lv_sub hl [1, 2, 0] rfl)
  rw [f_X8_look] at h
  refine lv_aload_n S.1 S.2.1 dX8_look_0 rfl (lv_at hl 0 rfl) ?_
  refine lv_aload_n S.1 S.2.1 dX8_look_1 rfl (lv_at hl 0 rfl) ?_
  obtain ⟨x27, h28, h⟩ := xb h
  refine xr_getr S w 9 xi_X8_look_X8 rfl 4 (by decide) xl_X8_look_20 h28 dX8_look_2 ?_
  refine lv_iload_n S.1 S.2.1 dX8_look_5 rfl (lv_at hl 1 rfl) ?_
  obtain ⟨x29, h30, h⟩ := xb h
  refine xr_iald S w h30 dX8_look_6 ?_
  obtain ⟨g31, h32, h⟩ := xb h
  refine xr_puti S w 9 xi_X8_look_X8 rfl tyX8 tyX8_ok nmX8 31 (by decide) xl_X8_look_180 rfl (tyX8_ok 31 (by decide)) h32 dX8_look_7 (fun H locs w => ?_)
  refine lv_iconst (v := 0) S.1 S.2.1 dX8_look_10 (by decide) ?_
  refine lv_istore_n (lv' := [(2, .int 0), (0, .ref a0), (1, .int a1)]) S.1 S.2.1 dX8_look_11 rfl hl (by decide) rfl (fun ls hl => ?_)
  exact hb12 xFU g31 a0 a1 0 h _ _ _ w (lv_sub hl [1, 2, 0] rfl)
theorem xi_X8_seenHead_X8 : ∀ w ∈ wsX80, w ∈ wsX8_seenHead := by decide +kernel
theorem xl_X8_seenHead_93 : Cond.fieldLink RX8 93 (TX8 32).1 (TX8 32).2.1 (TX8 32).2.2.1 ∈ wsX8_seenHead := by decide +kernel
theorem xl_X8_seenHead_96 : Cond.fieldLink RX8 96 (TX8 33).1 (TX8 33).2.1 (TX8 33).2.2.1 ∈ wsX8_seenHead := by decide +kernel
theorem xl_X8_seenHead_99 : Cond.fieldLink RX8 99 (TX8 34).1 (TX8 34).2.1 (TX8 34).2.2.1 ∈ wsX8_seenHead := by decide +kernel
def f_X8_seenHead_5 : Nat → xG → Nat → Int32 → Int64 → Int32 → Option Int64
  | 0, _, _, _, _, _ => none
  | n9 + 1, g, v0, v1, v2, v4 =>
  if v1 ≤ v4 then
    some v2
  else
    (xg_r g 9 v0 32).bind fun x1 =>
    (xa_i 1 g x1 v4).bind fun x3 =>
    (xg_r g 9 v0 33).bind fun x5 =>
    (xa_i 1 g x5 v4).bind fun x7 =>
    (xg_r g 9 v0 34).bind fun x9 =>
    (xa_i 1 g x9 v4).bind fun x11 =>
    (f_X8_headBehind v2 x3 x7 x11).bind fun x14 =>
    f_X8_seenHead_5 n9 g v0 v1 x14 (v4 + 1)
def f_X8_seenHead (g : xG) (a0 : Nat) (a1 : Int32) : Option Int64 :=
  f_X8_seenHead_5 xFU g a0 a1 0 0
set_option maxHeartbeats 4000000 in
set_option maxRecDepth 100000 in
theorem c_X8_seenHead (l : Launch) (D : va_G) (cy : Nat → ClassId) (L : List Nat) (g : xG) (a0 : Nat) (a1 : Int32) {r1 : Int64} (h : f_X8_seenHead g a0 a1 = some r1) : xMl l yX8_seenHead wsX8_seenHead ({ frames := 2, cells := 0, slots := 0, locals := 49 }) D cy L g [.ref a0, .int a1] r1 g := by
  refine xm_l (cc := cX8_seenHead) (maxL := 5) RX8 rfl rfl rfl (by decide +kernel) rfl (Nat.le_of_ble_eq_true rfl) ?_
  intro p e s m args below meth c Q A S w hA hN ret ls hl
  have hl : lv_has ls 5 [(0, .ref a0), (1, .int a1)] := hl
  obtain ⟨rr, hrr⟩ : ∃ z, z = r1 := ⟨_, rfl⟩
  rw [← hrr] at h
  have hb5 : ∀ (n9 : Nat), ∀ (v0 : Nat) (v1 : Int32) (v2 : Int64) (v4 : Int32) , f_X8_seenHead_5 n9 g v0 v1 v2 v4 = some rr → ∀ (H : Heap) (locs : List Loc) (ls : Array Slot), xOK D cy A s.heap s L g H locs → lv_has ls 5 [(0, .ref v0), (1, .int v1), (2, .long v2), (4, .int v4)] → W p l e { frames := 2, cells := 0, slots := 0, locals := 49 } s m args below meth c H locs 0 0 Q (F0 m 5 ls []) := by
    intro n9
    induction n9 with
    | zero => intro v0 v1 v2 v4 h; cases h
    | succ n9 ih =>
      intro v0 v1 v2 v4 h H locs ls w hl
      rw [f_X8_seenHead_5] at h
      refine lv_iload S.1 S.2.1 dX8_seenHead_5 (lv_at hl 3 rfl) ?_
      refine lv_iload_n S.1 S.2.1 dX8_seenHead_7 rfl (lv_at hl 1 rfl) ?_
      refine lv_icmp_ge (tgt := 43) S.1 S.2.1 dX8_seenHead_8 (by decide) (fun c8 => ?_) (fun c8 => ?_)
      · rw [if_pos c8] at h
        refine lv_lload_n S.1 S.2.1 dX8_seenHead_43 rfl (lv_at hl 2 rfl) ?_
        exact ret _ _ _ _ _ _ (congrArg (fun z => some (z, g)) ((Option.some.inj h).trans hrr)) w dX8_seenHead_44
      · rw [if_neg c8] at h
        refine lv_lload_n S.1 S.2.1 dX8_seenHead_11 rfl (lv_at hl 2 rfl) ?_
        refine lv_aload_n S.1 S.2.1 dX8_seenHead_12 rfl (lv_at hl 0 rfl) ?_
        obtain ⟨x1, h2, h⟩ := xb h
        refine xr_getr S w 9 xi_X8_seenHead_X8 rfl 32 (by decide) xl_X8_seenHead_93 h2 dX8_seenHead_13 ?_
        refine lv_iload S.1 S.2.1 dX8_seenHead_16 (lv_at hl 3 rfl) ?_
        obtain ⟨x3, h4, h⟩ := xb h
        refine xr_iald S w h4 dX8_seenHead_18 ?_
        refine lv_aload_n S.1 S.2.1 dX8_seenHead_19 rfl (lv_at hl 0 rfl) ?_
        obtain ⟨x5, h6, h⟩ := xb h
        refine xr_getr S w 9 xi_X8_seenHead_X8 rfl 33 (by decide) xl_X8_seenHead_96 h6 dX8_seenHead_20 ?_
        refine lv_iload S.1 S.2.1 dX8_seenHead_23 (lv_at hl 3 rfl) ?_
        obtain ⟨x7, h8, h⟩ := xb h
        refine xr_iald S w h8 dX8_seenHead_25 ?_
        refine lv_aload_n S.1 S.2.1 dX8_seenHead_26 rfl (lv_at hl 0 rfl) ?_
        obtain ⟨x9, h10, h⟩ := xb h
        refine xr_getr S w 9 xi_X8_seenHead_X8 rfl 34 (by decide) xl_X8_seenHead_99 h10 dX8_seenHead_27 ?_
        refine lv_iload S.1 S.2.1 dX8_seenHead_30 (lv_at hl 3 rfl) ?_
        obtain ⟨x11, h12, h⟩ := xb h
        refine xr_iald S w h12 dX8_seenHead_32 ?_
        obtain ⟨x14, h13, h⟩ := xb h
        refine xr_callS_l S w hA hN (c_X8_headBehind l D cy L g v2 x3 x7 x11 h13) (va_cwS 4 S.2.2.2.2 gX8_seenHead_X8_headBehind rfl rfl rfl (by decide +kernel) ⟨Nat.le_of_ble_eq_true rfl, Nat.le_of_ble_eq_true rfl⟩) rfl rfl hl.1 (Nat.le_of_ble_eq_true rfl) dX8_seenHead_33 ⟨Nat.le_of_ble_eq_true rfl, Nat.le_of_ble_eq_true rfl⟩ (fun H locs w => ?_)
        refine lv_lstore_n (lv' := [(2, .long x14), (0, .ref v0), (1, .int v1), (4, .int v4)]) S.1 S.2.1 dX8_seenHead_36 rfl hl (by decide) rfl (fun ls hl => ?_)
        refine lv_iinc (v := (v4 + 1)) (lv' := [(4, .int (v4 + 1)), (2, .long x14), (0, .ref v0), (1, .int v1)]) S.1 S.2.1 dX8_seenHead_37 hl (k := 3) rfl rfl (by decide) rfl (fun ls hl => ?_)
        refine lv_goto (tgt := 5) S.1 S.2.1 dX8_seenHead_40 (by decide) ?_
        exact ih v0 v1 x14 (v4 + 1) h _ _ _ w (lv_sub hl [2, 3, 1, 0] rfl)
  rw [f_X8_seenHead] at h
  refine lv_lconst (v := 0) S.1 S.2.1 dX8_seenHead_0 (by decide) ?_
  refine lv_lstore_n (lv' := [(2, .long 0), (0, .ref a0), (1, .int a1)]) S.1 S.2.1 dX8_seenHead_1 rfl hl (by decide) rfl (fun ls hl => ?_)
  refine lv_iconst (v := 0) S.1 S.2.1 dX8_seenHead_2 (by decide) ?_
  refine lv_istore (lv' := [(4, .int 0), (2, .long 0), (0, .ref a0), (1, .int a1)]) S.1 S.2.1 dX8_seenHead_3 hl (by decide) rfl (fun ls hl => ?_)
  exact hb5 xFU a0 a1 0 0 h _ _ _ w (lv_sub hl [2, 3, 1, 0] rfl)
theorem xi_X8_firstWrong_X8 : ∀ w ∈ wsX80, w ∈ wsX8_firstWrong := by decide +kernel
theorem xl_X8_firstWrong_99 : Cond.fieldLink RX8 99 (TX8 34).1 (TX8 34).2.1 (TX8 34).2.2.1 ∈ wsX8_firstWrong := by decide +kernel
theorem xl_X8_firstWrong_96 : Cond.fieldLink RX8 96 (TX8 33).1 (TX8 33).2.1 (TX8 33).2.2.1 ∈ wsX8_firstWrong := by decide +kernel
theorem xl_X8_firstWrong_93 : Cond.fieldLink RX8 93 (TX8 32).1 (TX8 32).2.1 (TX8 32).2.2.1 ∈ wsX8_firstWrong := by decide +kernel
theorem xl_X8_firstWrong_7 : Cond.fieldLink RX8 7 (TX8 1).1 (TX8 1).2.1 (TX8 1).2.2.1 ∈ wsX8_firstWrong := by decide +kernel
theorem xl_X8_firstWrong_180 : Cond.fieldLink RX8 180 (TX8 31).1 (TX8 31).2.1 (TX8 31).2.2.1 ∈ wsX8_firstWrong := by decide +kernel
def f_X8_firstWrong_166 (k16 : xG → Nat → Int32 → Int32 → Int32 → Int32 → Int32 → Int32 → Int32 → Option Int32) (g : xG) (v0 : Nat) (v1 : Int32) (v2 : Int32) (v3 : Int32) (v4 : Int32) (v5 : Int32) (v6 : Int32) (v7 : Int32) (v9 : Int32) : Option Int32 :=
  if v4 = 0 then
    if v9 = 0 then
      (xg_r g 9 v0 34).bind fun x1 =>
      (xa_i 1 g x1 v7).bind fun x3 =>
      (xg_r g 9 v0 33).bind fun x5 =>
      (xa_i 1 g x5 v7).bind fun x7 =>
      (f_X8_turned (v3 ^^^ (x3 + x7))).bind fun x10 =>
      if (x10 - x10 / 8 * 8) = 0 then
        (xg_r g 9 v0 33).bind fun x15 =>
        (xa_i 1 g x15 v7).bind fun x17 =>
        k16 g v0 v1 v2 x10 1 x17 x10 (v7 + 1)
      else
        (xg_r g 9 v0 33).bind fun x11 =>
        (xa_i 1 g x11 v7).bind fun x13 =>
        k16 g v0 v1 v2 x10 0 x13 x10 (v7 + 1)
    else
      (xg_r g 9 v0 34).bind fun x19 =>
      (xa_i 1 g x19 v7).bind fun x21 =>
      (f_X8_sendsByInput ((31 * v2) + x21)).bind fun x24 =>
      (xk g 9 v0).bind fun _ =>
      (f_X8_target g v0 v1 ((31 * v2) + x21)).bind fun x27 =>
      k16 g v0 v1 ((31 * v2) + x21) v3 x24 x27 ((xiushr ((31 * v2) + x21) 1) ^^^ v3) (v7 + 1)
  else
    k16 g v0 v1 v2 v3 0 v5 v6 (v7 + 1)
def f_X8_firstWrong_136 (k16 : xG → Nat → Int32 → Int32 → Int32 → Int32 → Int32 → Int32 → Int32 → Option Int32) (g : xG) (v0 : Nat) (v1 : Int32) (v2 : Int32) (v3 : Int32) (v4 : Int32) (v5 : Int32) (v6 : Int32) (v7 : Int32) (v8 : Int32) (v9 : Int32) (s0 : Int32) : Option Int32 :=
  if v4 = 0 then
    if v9 = 0 then
      if s0 = 0 then
        some (v7 + 1)
      else
        f_X8_firstWrong_166 k16 g v0 v1 v2 v3 v4 v5 v6 v7 v9
    else
      f_X8_firstWrong_166 k16 g v0 v1 v2 v3 v4 v5 v6 v7 v9
  else
    if v8 = 0 then
      some (v7 + 1)
    else
      f_X8_firstWrong_166 k16 g v0 v1 v2 v3 v4 v5 v6 v7 v9
def f_X8_firstWrong_135 (k16 : xG → Nat → Int32 → Int32 → Int32 → Int32 → Int32 → Int32 → Int32 → Option Int32) (g : xG) (v0 : Nat) (v1 : Int32) (v2 : Int32) (v3 : Int32) (v4 : Int32) (v5 : Int32) (v6 : Int32) (v7 : Int32) (v8 : Int32) (v9 : Int32) : Option Int32 :=
  f_X8_firstWrong_136 k16 g v0 v1 v2 v3 v4 v5 v6 v7 v8 v9 0
def f_X8_firstWrong_93 (k16 : xG → Nat → Int32 → Int32 → Int32 → Int32 → Int32 → Int32 → Int32 → Option Int32) (g : xG) (v0 : Nat) (v1 : Int32) (v2 : Int32) (v3 : Int32) (v4 : Int32) (v5 : Int32) (v6 : Int32) (v7 : Int32) (v8 : Int32) (s0 : Int32) : Option Int32 :=
  (xg_r g 9 v0 32).bind fun x28 =>
  (xa_i 1 g x28 v7).bind fun x30 =>
  if x30 = 2 then
    (xg_r g 9 v0 33).bind fun x32 =>
    (xa_i 1 g x32 v7).bind fun x34 =>
    if x34 = v1 then
      f_X8_firstWrong_135 k16 g v0 v1 v2 v3 v4 v5 v6 v7 v8 s0
    else
      (xg_r g 9 v0 33).bind fun x36 =>
      (xa_i 1 g x36 v7).bind fun x38 =>
      (xg_i g 9 v0 1).bind fun x40 =>
      if x40 ≤ x38 then
        f_X8_firstWrong_135 k16 g v0 v1 v2 v3 v4 v5 v6 v7 v8 s0
      else
        f_X8_firstWrong_136 k16 g v0 v1 v2 v3 v4 v5 v6 v7 v8 s0 1
  else
    f_X8_firstWrong_135 k16 g v0 v1 v2 v3 v4 v5 v6 v7 v8 s0
def f_X8_firstWrong_92 (k16 : xG → Nat → Int32 → Int32 → Int32 → Int32 → Int32 → Int32 → Int32 → Option Int32) (g : xG) (v0 : Nat) (v1 : Int32) (v2 : Int32) (v3 : Int32) (v4 : Int32) (v5 : Int32) (v6 : Int32) (v7 : Int32) (v8 : Int32) : Option Int32 :=
  f_X8_firstWrong_93 k16 g v0 v1 v2 v3 v4 v5 v6 v7 v8 0
def f_X8_firstWrong_65 (k16 : xG → Nat → Int32 → Int32 → Int32 → Int32 → Int32 → Int32 → Int32 → Option Int32) (g : xG) (v0 : Nat) (v1 : Int32) (v2 : Int32) (v3 : Int32) (v4 : Int32) (v5 : Int32) (v6 : Int32) (v7 : Int32) (s0 : Int32) : Option Int32 :=
  (xg_r g 9 v0 32).bind fun x42 =>
  (xa_i 1 g x42 v7).bind fun x44 =>
  if x44 = 1 then
    (xg_r g 9 v0 33).bind fun x46 =>
    (xa_i 1 g x46 v7).bind fun x48 =>
    if x48 = 0 then
      f_X8_firstWrong_93 k16 g v0 v1 v2 v3 v4 v5 v6 v7 s0 1
    else
      f_X8_firstWrong_92 k16 g v0 v1 v2 v3 v4 v5 v6 v7 s0
  else
    f_X8_firstWrong_92 k16 g v0 v1 v2 v3 v4 v5 v6 v7 s0
def f_X8_firstWrong_64 (k16 : xG → Nat → Int32 → Int32 → Int32 → Int32 → Int32 → Int32 → Int32 → Option Int32) (g : xG) (v0 : Nat) (v1 : Int32) (v2 : Int32) (v3 : Int32) (v4 : Int32) (v5 : Int32) (v6 : Int32) (v7 : Int32) : Option Int32 :=
  f_X8_firstWrong_65 k16 g v0 v1 v2 v3 v4 v5 v6 v7 0
def f_X8_firstWrong_16 : Nat → xG → Nat → Int32 → Int32 → Int32 → Int32 → Int32 → Int32 → Int32 → Option Int32
  | 0, _, _, _, _, _, _, _, _, _ => none
  | n9 + 1, g, v0, v1, v2, v3, v4, v5, v6, v7 =>
  (xg_i g 9 v0 31).bind fun x50 =>
  if x50 ≤ v7 then
    if v4 = 0 then
      some 0
    else
      (xg_i g 9 v0 31).bind fun x52 =>
      some (x52 + 1)
  else
    (xg_r g 9 v0 32).bind fun x54 =>
    (xa_i 1 g x54 v7).bind fun x56 =>
    if x56 = 3 then
      (xg_r g 9 v0 33).bind fun x58 =>
      (xa_i 1 g x58 v7).bind fun x60 =>
      if x60 = v5 then
        (xg_r g 9 v0 34).bind fun x62 =>
        (xa_i 1 g x62 v7).bind fun x64 =>
        if x64 = v6 then
          f_X8_firstWrong_65 (f_X8_firstWrong_16 n9) g v0 v1 v2 v3 v4 v5 v6 v7 1
        else
          f_X8_firstWrong_64 (f_X8_firstWrong_16 n9) g v0 v1 v2 v3 v4 v5 v6 v7
      else
        f_X8_firstWrong_64 (f_X8_firstWrong_16 n9) g v0 v1 v2 v3 v4 v5 v6 v7
    else
      f_X8_firstWrong_64 (f_X8_firstWrong_16 n9) g v0 v1 v2 v3 v4 v5 v6 v7
def f_X8_firstWrong (g : xG) (a0 : Nat) (a1 : Int32) : Option Int32 :=
  f_X8_firstWrong_16 xFU g a0 a1 0 0 0 0 0 0
set_option maxHeartbeats 4000000 in
set_option maxRecDepth 100000 in
theorem c_X8_firstWrong (l : Launch) (D : va_G) (cy : Nat → ClassId) (L : List Nat) (g : xG) (a0 : Nat) (a1 : Int32) {r1 : Int32} (h : f_X8_firstWrong g a0 a1 = some r1) : xMi l yX8_firstWrong wsX8_firstWrong ({ frames := 1, cells := 0, slots := 0, locals := 22 }) D cy L g [.ref a0, .int a1] r1 g := by
  refine xm_i (cc := cX8_firstWrong) (maxL := 11) RX8 rfl rfl rfl (by decide +kernel) rfl (Nat.le_of_ble_eq_true rfl) ?_
  intro p e s m args below meth c Q A S w hA hN ret ls hl
  have hl : lv_has ls 11 [(0, .ref a0), (1, .int a1)] := hl
  obtain ⟨rr, hrr⟩ : ∃ z, z = r1 := ⟨_, rfl⟩
  rw [← hrr] at h
  have hb166 : ∀ (k16 : xG → Nat → Int32 → Int32 → Int32 → Int32 → Int32 → Int32 → Int32 → Option Int32) (hk16 : ∀ (v0 : Nat) (v1 : Int32) (v2 : Int32) (v3 : Int32) (v4 : Int32) (v5 : Int32) (v6 : Int32) (v7 : Int32) , k16 g v0 v1 v2 v3 v4 v5 v6 v7 = some rr → ∀ (H : Heap) (locs : List Loc) (ls : Array Slot), xOK D cy A s.heap s L g H locs → lv_has ls 11 [(0, .ref v0), (1, .int v1), (2, .int v2), (3, .int v3), (4, .int v4), (5, .int v5), (6, .int v6), (7, .int v7)] → W p l e { frames := 1, cells := 0, slots := 0, locals := 22 } s m args below meth c H locs 0 0 Q (F0 m 16 ls [])) , ∀ (v0 : Nat) (v1 : Int32) (v2 : Int32) (v3 : Int32) (v4 : Int32) (v5 : Int32) (v6 : Int32) (v7 : Int32) (v9 : Int32) , f_X8_firstWrong_166 k16 g v0 v1 v2 v3 v4 v5 v6 v7 v9 = some rr → ∀ (H : Heap) (locs : List Loc) (ls : Array Slot), xOK D cy A s.heap s L g H locs → lv_has ls 11 [(0, .ref v0), (1, .int v1), (2, .int v2), (3, .int v3), (4, .int v4), (5, .int v5), (6, .int v6), (7, .int v7), (9, .int v9)] → W p l e { frames := 1, cells := 0, slots := 0, locals := 22 } s m args below meth c H locs 0 0 Q (F0 m 166 ls []) := by
    intro k16 hk16 v0 v1 v2 v3 v4 v5 v6 v7 v9 h H locs ls w hl
    rw [f_X8_firstWrong_166] at h
    refine lv_iload S.1 S.2.1 dX8_firstWrong_166 (lv_at hl 4 rfl) ?_
    refine lv_if_eq (tgt := 177) S.1 S.2.1 dX8_firstWrong_168 (by decide) (fun c168 => ?_) (fun c168 => ?_)
    · rw [if_pos c168] at h
      refine lv_iload S.1 S.2.1 dX8_firstWrong_177 (lv_at hl 8 rfl) ?_
      refine lv_if_eq (tgt := 219) S.1 S.2.1 dX8_firstWrong_179 (by decide) (fun c179 => ?_) (fun c179 => ?_)
      · rw [if_pos c179] at h
        refine lv_iload_n S.1 S.2.1 dX8_firstWrong_219 rfl (lv_at hl 3 rfl) ?_
        refine lv_aload_n S.1 S.2.1 dX8_firstWrong_220 rfl (lv_at hl 0 rfl) ?_
        obtain ⟨x1, h2, h⟩ := xb h
        refine xr_getr S w 9 xi_X8_firstWrong_X8 rfl 34 (by decide) xl_X8_firstWrong_99 h2 dX8_firstWrong_221 ?_
        refine lv_iload S.1 S.2.1 dX8_firstWrong_224 (lv_at hl 7 rfl) ?_
        obtain ⟨x3, h4, h⟩ := xb h
        refine xr_iald S w h4 dX8_firstWrong_226 ?_
        refine lv_aload_n S.1 S.2.1 dX8_firstWrong_227 rfl (lv_at hl 0 rfl) ?_
        obtain ⟨x5, h6, h⟩ := xb h
        refine xr_getr S w 9 xi_X8_firstWrong_X8 rfl 33 (by decide) xl_X8_firstWrong_96 h6 dX8_firstWrong_228 ?_
        refine lv_iload S.1 S.2.1 dX8_firstWrong_231 (lv_at hl 7 rfl) ?_
        obtain ⟨x7, h8, h⟩ := xb h
        refine xr_iald S w h8 dX8_firstWrong_233 ?_
        refine lv_iadd S.1 S.2.1 dX8_firstWrong_234 ?_
        refine lv_ixor S.1 S.2.1 dX8_firstWrong_235 ?_
        obtain ⟨x10, h9, h⟩ := xb h
        refine xr_callS_i S w hA hN (c_X8_turned l D cy L g (v3 ^^^ (x3 + x7)) h9) (va_cwS 1 S.2.2.2.2 gX8_firstWrong_X8_turned rfl rfl rfl (by decide +kernel) ⟨Nat.le_of_ble_eq_true rfl, Nat.le_of_ble_eq_true rfl⟩) rfl rfl hl.1 (Nat.le_of_ble_eq_true rfl) dX8_firstWrong_236 ⟨Nat.le_of_ble_eq_true rfl, Nat.le_of_ble_eq_true rfl⟩ (fun H locs w => ?_)
        refine lv_istore_n (lv' := [(3, .int x10), (0, .ref v0), (1, .int v1), (2, .int v2), (4, .int v4), (5, .int v5), (6, .int v6), (7, .int v7), (9, .int v9)]) S.1 S.2.1 dX8_firstWrong_239 rfl hl (by decide) rfl (fun ls hl => ?_)
        refine lv_iload_n S.1 S.2.1 dX8_firstWrong_240 rfl (lv_at hl 0 rfl) ?_
        refine lv_bipush (v := 8) S.1 S.2.1 dX8_firstWrong_241 (by decide) ?_
        refine lv_irem S.1 S.2.1 dX8_firstWrong_243 (by decide) ?_
        refine lv_if_ne (tgt := 251) S.1 S.2.1 dX8_firstWrong_244 (by decide) (fun c244 => ?_) (fun c244 => ?_)
        · rw [if_neg c244] at h
          refine lv_iconst (v := 0) S.1 S.2.1 dX8_firstWrong_251 (by decide) ?_
          refine lv_istore (lv' := [(4, .int 0), (3, .int x10), (0, .ref v0), (1, .int v1), (2, .int v2), (5, .int v5), (6, .int v6), (7, .int v7), (9, .int v9)]) S.1 S.2.1 dX8_firstWrong_252 hl (by decide) rfl (fun ls hl => ?_)
          refine lv_aload_n S.1 S.2.1 dX8_firstWrong_254 rfl (lv_at hl 2 rfl) ?_
          obtain ⟨x11, h12, h⟩ := xb h
          refine xr_getr S w 9 xi_X8_firstWrong_X8 rfl 33 (by decide) xl_X8_firstWrong_96 h12 dX8_firstWrong_255 ?_
          refine lv_iload S.1 S.2.1 dX8_firstWrong_258 (lv_at hl 7 rfl) ?_
          obtain ⟨x13, h14, h⟩ := xb h
          refine xr_iald S w h14 dX8_firstWrong_260 ?_
          refine lv_istore (lv' := [(5, .int x13), (4, .int 0), (3, .int x10), (0, .ref v0), (1, .int v1), (2, .int v2), (6, .int v6), (7, .int v7), (9, .int v9)]) S.1 S.2.1 dX8_firstWrong_261 hl (by decide) rfl (fun ls hl => ?_)
          refine lv_iload_n S.1 S.2.1 dX8_firstWrong_263 rfl (lv_at hl 2 rfl) ?_
          refine lv_istore (lv' := [(6, .int x10), (5, .int x13), (4, .int 0), (3, .int x10), (0, .ref v0), (1, .int v1), (2, .int v2), (7, .int v7), (9, .int v9)]) S.1 S.2.1 dX8_firstWrong_264 hl (by decide) rfl (fun ls hl => ?_)
          refine lv_iinc (v := (v7 + 1)) (lv' := [(7, .int (v7 + 1)), (6, .int x10), (5, .int x13), (4, .int 0), (3, .int x10), (0, .ref v0), (1, .int v1), (2, .int v2), (9, .int v9)]) S.1 S.2.1 dX8_firstWrong_266 hl (k := 7) rfl rfl (by decide) rfl (fun ls hl => ?_)
          refine lv_goto (tgt := 16) S.1 S.2.1 dX8_firstWrong_269 (by decide) ?_
          exact hk16 v0 v1 v2 x10 0 x13 x10 (v7 + 1) h _ _ _ w (lv_sub hl [5, 6, 7, 4, 3, 2, 1, 0] rfl)
        · rw [if_pos c244] at h
          refine lv_iconst (v := 1) S.1 S.2.1 dX8_firstWrong_247 (by decide) ?_
          refine lv_goto (tgt := 252) S.1 S.2.1 dX8_firstWrong_248 (by decide) ?_
          refine lv_istore (lv' := [(4, .int 1), (3, .int x10), (0, .ref v0), (1, .int v1), (2, .int v2), (5, .int v5), (6, .int v6), (7, .int v7), (9, .int v9)]) S.1 S.2.1 dX8_firstWrong_252 hl (by decide) rfl (fun ls hl => ?_)
          refine lv_aload_n S.1 S.2.1 dX8_firstWrong_254 rfl (lv_at hl 2 rfl) ?_
          obtain ⟨x15, h16, h⟩ := xb h
          refine xr_getr S w 9 xi_X8_firstWrong_X8 rfl 33 (by decide) xl_X8_firstWrong_96 h16 dX8_firstWrong_255 ?_
          refine lv_iload S.1 S.2.1 dX8_firstWrong_258 (lv_at hl 7 rfl) ?_
          obtain ⟨x17, h18, h⟩ := xb h
          refine xr_iald S w h18 dX8_firstWrong_260 ?_
          refine lv_istore (lv' := [(5, .int x17), (4, .int 1), (3, .int x10), (0, .ref v0), (1, .int v1), (2, .int v2), (6, .int v6), (7, .int v7), (9, .int v9)]) S.1 S.2.1 dX8_firstWrong_261 hl (by decide) rfl (fun ls hl => ?_)
          refine lv_iload_n S.1 S.2.1 dX8_firstWrong_263 rfl (lv_at hl 2 rfl) ?_
          refine lv_istore (lv' := [(6, .int x10), (5, .int x17), (4, .int 1), (3, .int x10), (0, .ref v0), (1, .int v1), (2, .int v2), (7, .int v7), (9, .int v9)]) S.1 S.2.1 dX8_firstWrong_264 hl (by decide) rfl (fun ls hl => ?_)
          refine lv_iinc (v := (v7 + 1)) (lv' := [(7, .int (v7 + 1)), (6, .int x10), (5, .int x17), (4, .int 1), (3, .int x10), (0, .ref v0), (1, .int v1), (2, .int v2), (9, .int v9)]) S.1 S.2.1 dX8_firstWrong_266 hl (k := 7) rfl rfl (by decide) rfl (fun ls hl => ?_)
          refine lv_goto (tgt := 16) S.1 S.2.1 dX8_firstWrong_269 (by decide) ?_
          exact hk16 v0 v1 v2 x10 1 x17 x10 (v7 + 1) h _ _ _ w (lv_sub hl [5, 6, 7, 4, 3, 2, 1, 0] rfl)
      · rw [if_neg c179] at h
        refine lv_bipush (v := 31) S.1 S.2.1 dX8_firstWrong_182 (by decide) ?_
        refine lv_iload_n S.1 S.2.1 dX8_firstWrong_184 rfl (lv_at hl 2 rfl) ?_
        refine lv_imul S.1 S.2.1 dX8_firstWrong_185 ?_
        refine lv_aload_n S.1 S.2.1 dX8_firstWrong_186 rfl (lv_at hl 0 rfl) ?_
        obtain ⟨x19, h20, h⟩ := xb h
        refine xr_getr S w 9 xi_X8_firstWrong_X8 rfl 34 (by decide) xl_X8_firstWrong_99 h20 dX8_firstWrong_187 ?_
        refine lv_iload S.1 S.2.1 dX8_firstWrong_190 (lv_at hl 7 rfl) ?_
        obtain ⟨x21, h22, h⟩ := xb h
        refine xr_iald S w h22 dX8_firstWrong_192 ?_
        refine lv_iadd S.1 S.2.1 dX8_firstWrong_193 ?_
        refine lv_istore_n (lv' := [(2, .int ((31 * v2) + x21)), (0, .ref v0), (1, .int v1), (3, .int v3), (4, .int v4), (5, .int v5), (6, .int v6), (7, .int v7), (9, .int v9)]) S.1 S.2.1 dX8_firstWrong_194 rfl hl (by decide) rfl (fun ls hl => ?_)
        refine lv_iload_n S.1 S.2.1 dX8_firstWrong_195 rfl (lv_at hl 0 rfl) ?_
        obtain ⟨x24, h23, h⟩ := xb h
        refine xr_callS_i S w hA hN (c_X8_sendsByInput l D cy L g ((31 * v2) + x21) h23) (va_cwS 1 S.2.2.2.2 gX8_firstWrong_X8_sendsByInput rfl rfl rfl (by decide +kernel) ⟨Nat.le_of_ble_eq_true rfl, Nat.le_of_ble_eq_true rfl⟩) rfl rfl hl.1 (Nat.le_of_ble_eq_true rfl) dX8_firstWrong_196 ⟨Nat.le_of_ble_eq_true rfl, Nat.le_of_ble_eq_true rfl⟩ (fun H locs w => ?_)
        refine lv_istore (lv' := [(4, .int x24), (2, .int ((31 * v2) + x21)), (0, .ref v0), (1, .int v1), (3, .int v3), (5, .int v5), (6, .int v6), (7, .int v7), (9, .int v9)]) S.1 S.2.1 dX8_firstWrong_199 hl (by decide) rfl (fun ls hl => ?_)
        refine lv_aload_n S.1 S.2.1 dX8_firstWrong_201 rfl (lv_at hl 2 rfl) ?_
        refine lv_iload_n S.1 S.2.1 dX8_firstWrong_202 rfl (lv_at hl 3 rfl) ?_
        refine lv_iload_n S.1 S.2.1 dX8_firstWrong_203 rfl (lv_at hl 1 rfl) ?_
        obtain ⟨_, h25, h⟩ := xb h
        obtain ⟨x27, h26, h⟩ := xb h
        refine xr_callV_i S w hA hN 9 rfl h25 (c_X8_target l D cy L g v0 v1 ((31 * v2) + x21) h26) (cwV 2 S.2.2.2.2 gX8_firstWrong_X8_target rfl rfl rfl (by decide +kernel) ⟨Nat.le_of_ble_eq_true rfl, Nat.le_of_ble_eq_true rfl⟩) rfl rfl hl.1 (Nat.le_of_ble_eq_true rfl) dX8_firstWrong_204 ⟨Nat.le_of_ble_eq_true rfl, Nat.le_of_ble_eq_true rfl⟩ (fun H locs w => ?_)
        refine lv_istore (lv' := [(5, .int x27), (4, .int x24), (2, .int ((31 * v2) + x21)), (0, .ref v0), (1, .int v1), (3, .int v3), (6, .int v6), (7, .int v7), (9, .int v9)]) S.1 S.2.1 dX8_firstWrong_207 hl (by decide) rfl (fun ls hl => ?_)
        refine lv_iload_n S.1 S.2.1 dX8_firstWrong_209 rfl (lv_at hl 2 rfl) ?_
        refine lv_iconst (v := 1) S.1 S.2.1 dX8_firstWrong_210 (by decide) ?_
        refine lv_iushr (v := (xiushr ((31 * v2) + x21) 1)) S.1 S.2.1 dX8_firstWrong_211 rfl ?_
        refine lv_iload_n S.1 S.2.1 dX8_firstWrong_212 rfl (lv_at hl 5 rfl) ?_
        refine lv_ixor S.1 S.2.1 dX8_firstWrong_213 ?_
        refine lv_istore (lv' := [(6, .int ((xiushr ((31 * v2) + x21) 1) ^^^ v3)), (5, .int x27), (4, .int x24), (2, .int ((31 * v2) + x21)), (0, .ref v0), (1, .int v1), (3, .int v3), (7, .int v7), (9, .int v9)]) S.1 S.2.1 dX8_firstWrong_214 hl (by decide) rfl (fun ls hl => ?_)
        refine lv_goto (tgt := 266) S.1 S.2.1 dX8_firstWrong_216 (by decide) ?_
        refine lv_iinc (v := (v7 + 1)) (lv' := [(7, .int (v7 + 1)), (6, .int ((xiushr ((31 * v2) + x21) 1) ^^^ v3)), (5, .int x27), (4, .int x24), (2, .int ((31 * v2) + x21)), (0, .ref v0), (1, .int v1), (3, .int v3), (9, .int v9)]) S.1 S.2.1 dX8_firstWrong_266 hl (k := 7) rfl rfl (by decide) rfl (fun ls hl => ?_)
        refine lv_goto (tgt := 16) S.1 S.2.1 dX8_firstWrong_269 (by decide) ?_
        exact hk16 v0 v1 ((31 * v2) + x21) v3 x24 x27 ((xiushr ((31 * v2) + x21) 1) ^^^ v3) (v7 + 1) h _ _ _ w (lv_sub hl [5, 6, 4, 7, 3, 2, 1, 0] rfl)
    · rw [if_neg c168] at h
      refine lv_iconst (v := 0) S.1 S.2.1 dX8_firstWrong_171 (by decide) ?_
      refine lv_istore (lv' := [(4, .int 0), (0, .ref v0), (1, .int v1), (2, .int v2), (3, .int v3), (5, .int v5), (6, .int v6), (7, .int v7), (9, .int v9)]) S.1 S.2.1 dX8_firstWrong_172 hl (by decide) rfl (fun ls hl => ?_)
      refine lv_goto (tgt := 266) S.1 S.2.1 dX8_firstWrong_174 (by decide) ?_
      refine lv_iinc (v := (v7 + 1)) (lv' := [(7, .int (v7 + 1)), (4, .int 0), (0, .ref v0), (1, .int v1), (2, .int v2), (3, .int v3), (5, .int v5), (6, .int v6), (9, .int v9)]) S.1 S.2.1 dX8_firstWrong_266 hl (k := 7) rfl rfl (by decide) rfl (fun ls hl => ?_)
      refine lv_goto (tgt := 16) S.1 S.2.1 dX8_firstWrong_269 (by decide) ?_
      exact hk16 v0 v1 v2 v3 0 v5 v6 (v7 + 1) h _ _ _ w (lv_sub hl [2, 3, 4, 5, 1, 6, 7, 0] rfl)
  have hb136 : ∀ (k16 : xG → Nat → Int32 → Int32 → Int32 → Int32 → Int32 → Int32 → Int32 → Option Int32) (hk16 : ∀ (v0 : Nat) (v1 : Int32) (v2 : Int32) (v3 : Int32) (v4 : Int32) (v5 : Int32) (v6 : Int32) (v7 : Int32) , k16 g v0 v1 v2 v3 v4 v5 v6 v7 = some rr → ∀ (H : Heap) (locs : List Loc) (ls : Array Slot), xOK D cy A s.heap s L g H locs → lv_has ls 11 [(0, .ref v0), (1, .int v1), (2, .int v2), (3, .int v3), (4, .int v4), (5, .int v5), (6, .int v6), (7, .int v7)] → W p l e { frames := 1, cells := 0, slots := 0, locals := 22 } s m args below meth c H locs 0 0 Q (F0 m 16 ls [])) , ∀ (v0 : Nat) (v1 : Int32) (v2 : Int32) (v3 : Int32) (v4 : Int32) (v5 : Int32) (v6 : Int32) (v7 : Int32) (v8 : Int32) (v9 : Int32) (s0 : Int32) , f_X8_firstWrong_136 k16 g v0 v1 v2 v3 v4 v5 v6 v7 v8 v9 s0 = some rr → ∀ (H : Heap) (locs : List Loc) (ls : Array Slot), xOK D cy A s.heap s L g H locs → lv_has ls 11 [(0, .ref v0), (1, .int v1), (2, .int v2), (3, .int v3), (4, .int v4), (5, .int v5), (6, .int v6), (7, .int v7), (8, .int v8), (9, .int v9)] → W p l e { frames := 1, cells := 0, slots := 0, locals := 22 } s m args below meth c H locs 0 0 Q (F0 m 136 ls [.int s0]) := by
    intro k16 hk16 v0 v1 v2 v3 v4 v5 v6 v7 v8 v9 s0 h H locs ls w hl
    rw [f_X8_firstWrong_136] at h
    refine lv_istore (lv' := [(10, .int s0), (0, .ref v0), (1, .int v1), (2, .int v2), (3, .int v3), (4, .int v4), (5, .int v5), (6, .int v6), (7, .int v7), (8, .int v8), (9, .int v9)]) S.1 S.2.1 dX8_firstWrong_136 hl (by decide) rfl (fun ls hl => ?_)
    refine lv_iload S.1 S.2.1 dX8_firstWrong_138 (lv_at hl 5 rfl) ?_
    refine lv_if_eq (tgt := 151) S.1 S.2.1 dX8_firstWrong_140 (by decide) (fun c140 => ?_) (fun c140 => ?_)
    · rw [if_pos c140] at h
      refine lv_iload S.1 S.2.1 dX8_firstWrong_151 (lv_at hl 10 rfl) ?_
      refine lv_if_ne (tgt := 166) S.1 S.2.1 dX8_firstWrong_153 (by decide) (fun c153 => ?_) (fun c153 => ?_)
      · rw [if_neg c153] at h
        exact hb166 k16 hk16 v0 v1 v2 v3 v4 v5 v6 v7 v9 h _ _ _ w (lv_sub hl [1, 2, 3, 4, 5, 6, 7, 8, 10] rfl)
      · rw [if_pos c153] at h
        refine lv_iload S.1 S.2.1 dX8_firstWrong_156 (lv_at hl 0 rfl) ?_
        refine lv_if_ne (tgt := 166) S.1 S.2.1 dX8_firstWrong_158 (by decide) (fun c158 => ?_) (fun c158 => ?_)
        · rw [if_neg c158] at h
          exact hb166 k16 hk16 v0 v1 v2 v3 v4 v5 v6 v7 v9 h _ _ _ w (lv_sub hl [1, 2, 3, 4, 5, 6, 7, 8, 10] rfl)
        · rw [if_pos c158] at h
          refine lv_iload S.1 S.2.1 dX8_firstWrong_161 (lv_at hl 8 rfl) ?_
          refine lv_iconst (v := 1) S.1 S.2.1 dX8_firstWrong_163 (by decide) ?_
          refine lv_iadd S.1 S.2.1 dX8_firstWrong_164 ?_
          exact ret _ _ _ _ _ _ (congrArg (fun z => some (z, g)) ((Option.some.inj h).trans hrr)) w dX8_firstWrong_165
    · rw [if_neg c140] at h
      refine lv_iload S.1 S.2.1 dX8_firstWrong_143 (lv_at hl 9 rfl) ?_
      refine lv_if_ne (tgt := 166) S.1 S.2.1 dX8_firstWrong_145 (by decide) (fun c145 => ?_) (fun c145 => ?_)
      · rw [if_neg c145] at h
        exact hb166 k16 hk16 v0 v1 v2 v3 v4 v5 v6 v7 v9 h _ _ _ w (lv_sub hl [1, 2, 3, 4, 5, 6, 7, 8, 10] rfl)
      · rw [if_pos c145] at h
        refine lv_goto (tgt := 161) S.1 S.2.1 dX8_firstWrong_148 (by decide) ?_
        refine lv_iload S.1 S.2.1 dX8_firstWrong_161 (lv_at hl 8 rfl) ?_
        refine lv_iconst (v := 1) S.1 S.2.1 dX8_firstWrong_163 (by decide) ?_
        refine lv_iadd S.1 S.2.1 dX8_firstWrong_164 ?_
        exact ret _ _ _ _ _ _ (congrArg (fun z => some (z, g)) ((Option.some.inj h).trans hrr)) w dX8_firstWrong_165
  have hb135 : ∀ (k16 : xG → Nat → Int32 → Int32 → Int32 → Int32 → Int32 → Int32 → Int32 → Option Int32) (hk16 : ∀ (v0 : Nat) (v1 : Int32) (v2 : Int32) (v3 : Int32) (v4 : Int32) (v5 : Int32) (v6 : Int32) (v7 : Int32) , k16 g v0 v1 v2 v3 v4 v5 v6 v7 = some rr → ∀ (H : Heap) (locs : List Loc) (ls : Array Slot), xOK D cy A s.heap s L g H locs → lv_has ls 11 [(0, .ref v0), (1, .int v1), (2, .int v2), (3, .int v3), (4, .int v4), (5, .int v5), (6, .int v6), (7, .int v7)] → W p l e { frames := 1, cells := 0, slots := 0, locals := 22 } s m args below meth c H locs 0 0 Q (F0 m 16 ls [])) , ∀ (v0 : Nat) (v1 : Int32) (v2 : Int32) (v3 : Int32) (v4 : Int32) (v5 : Int32) (v6 : Int32) (v7 : Int32) (v8 : Int32) (v9 : Int32) , f_X8_firstWrong_135 k16 g v0 v1 v2 v3 v4 v5 v6 v7 v8 v9 = some rr → ∀ (H : Heap) (locs : List Loc) (ls : Array Slot), xOK D cy A s.heap s L g H locs → lv_has ls 11 [(0, .ref v0), (1, .int v1), (2, .int v2), (3, .int v3), (4, .int v4), (5, .int v5), (6, .int v6), (7, .int v7), (8, .int v8), (9, .int v9)] → W p l e { frames := 1, cells := 0, slots := 0, locals := 22 } s m args below meth c H locs 0 0 Q (F0 m 135 ls []) := by
    intro k16 hk16 v0 v1 v2 v3 v4 v5 v6 v7 v8 v9 h H locs ls w hl
    rw [f_X8_firstWrong_135] at h
    refine lv_iconst (v := 0) S.1 S.2.1 dX8_firstWrong_135 (by decide) ?_
    exact hb136 k16 hk16 v0 v1 v2 v3 v4 v5 v6 v7 v8 v9 0 h _ _ _ w hl
  have hb93 : ∀ (k16 : xG → Nat → Int32 → Int32 → Int32 → Int32 → Int32 → Int32 → Int32 → Option Int32) (hk16 : ∀ (v0 : Nat) (v1 : Int32) (v2 : Int32) (v3 : Int32) (v4 : Int32) (v5 : Int32) (v6 : Int32) (v7 : Int32) , k16 g v0 v1 v2 v3 v4 v5 v6 v7 = some rr → ∀ (H : Heap) (locs : List Loc) (ls : Array Slot), xOK D cy A s.heap s L g H locs → lv_has ls 11 [(0, .ref v0), (1, .int v1), (2, .int v2), (3, .int v3), (4, .int v4), (5, .int v5), (6, .int v6), (7, .int v7)] → W p l e { frames := 1, cells := 0, slots := 0, locals := 22 } s m args below meth c H locs 0 0 Q (F0 m 16 ls [])) , ∀ (v0 : Nat) (v1 : Int32) (v2 : Int32) (v3 : Int32) (v4 : Int32) (v5 : Int32) (v6 : Int32) (v7 : Int32) (v8 : Int32) (s0 : Int32) , f_X8_firstWrong_93 k16 g v0 v1 v2 v3 v4 v5 v6 v7 v8 s0 = some rr → ∀ (H : Heap) (locs : List Loc) (ls : Array Slot), xOK D cy A s.heap s L g H locs → lv_has ls 11 [(0, .ref v0), (1, .int v1), (2, .int v2), (3, .int v3), (4, .int v4), (5, .int v5), (6, .int v6), (7, .int v7), (8, .int v8)] → W p l e { frames := 1, cells := 0, slots := 0, locals := 22 } s m args below meth c H locs 0 0 Q (F0 m 93 ls [.int s0]) := by
    intro k16 hk16 v0 v1 v2 v3 v4 v5 v6 v7 v8 s0 h H locs ls w hl
    rw [f_X8_firstWrong_93] at h
    refine lv_istore (lv' := [(9, .int s0), (0, .ref v0), (1, .int v1), (2, .int v2), (3, .int v3), (4, .int v4), (5, .int v5), (6, .int v6), (7, .int v7), (8, .int v8)]) S.1 S.2.1 dX8_firstWrong_93 hl (by decide) rfl (fun ls hl => ?_)
    refine lv_aload_n S.1 S.2.1 dX8_firstWrong_95 rfl (lv_at hl 1 rfl) ?_
    obtain ⟨x28, h29, h⟩ := xb h
    refine xr_getr S w 9 xi_X8_firstWrong_X8 rfl 32 (by decide) xl_X8_firstWrong_93 h29 dX8_firstWrong_96 ?_
    refine lv_iload S.1 S.2.1 dX8_firstWrong_99 (lv_at hl 8 rfl) ?_
    obtain ⟨x30, h31, h⟩ := xb h
    refine xr_iald S w h31 dX8_firstWrong_101 ?_
    refine lv_iconst (v := 2) S.1 S.2.1 dX8_firstWrong_102 (by decide) ?_
    refine lv_icmp_ne (tgt := 135) S.1 S.2.1 dX8_firstWrong_103 (by decide) (fun c103 => ?_) (fun c103 => ?_)
    · rw [if_neg c103] at h
      exact hb135 k16 hk16 v0 v1 v2 v3 v4 v5 v6 v7 v8 s0 h _ _ _ w (lv_sub hl [1, 2, 3, 4, 5, 6, 7, 8, 9, 0] rfl)
    · rw [if_pos c103] at h
      refine lv_aload_n S.1 S.2.1 dX8_firstWrong_106 rfl (lv_at hl 1 rfl) ?_
      obtain ⟨x32, h33, h⟩ := xb h
      refine xr_getr S w 9 xi_X8_firstWrong_X8 rfl 33 (by decide) xl_X8_firstWrong_96 h33 dX8_firstWrong_107 ?_
      refine lv_iload S.1 S.2.1 dX8_firstWrong_110 (lv_at hl 8 rfl) ?_
      obtain ⟨x34, h35, h⟩ := xb h
      refine xr_iald S w h35 dX8_firstWrong_112 ?_
      refine lv_iload_n S.1 S.2.1 dX8_firstWrong_113 rfl (lv_at hl 2 rfl) ?_
      refine lv_icmp_eq (tgt := 135) S.1 S.2.1 dX8_firstWrong_114 (by decide) (fun c114 => ?_) (fun c114 => ?_)
      · rw [if_pos c114] at h
        exact hb135 k16 hk16 v0 v1 v2 v3 v4 v5 v6 v7 v8 s0 h _ _ _ w (lv_sub hl [1, 2, 3, 4, 5, 6, 7, 8, 9, 0] rfl)
      · rw [if_neg c114] at h
        refine lv_aload_n S.1 S.2.1 dX8_firstWrong_117 rfl (lv_at hl 1 rfl) ?_
        obtain ⟨x36, h37, h⟩ := xb h
        refine xr_getr S w 9 xi_X8_firstWrong_X8 rfl 33 (by decide) xl_X8_firstWrong_96 h37 dX8_firstWrong_118 ?_
        refine lv_iload S.1 S.2.1 dX8_firstWrong_121 (lv_at hl 8 rfl) ?_
        obtain ⟨x38, h39, h⟩ := xb h
        refine xr_iald S w h39 dX8_firstWrong_123 ?_
        refine lv_aload_n S.1 S.2.1 dX8_firstWrong_124 rfl (lv_at hl 1 rfl) ?_
        obtain ⟨x40, h41, h⟩ := xb h
        refine xr_geti S w 9 xi_X8_firstWrong_X8 rfl 1 (by decide) xl_X8_firstWrong_7 h41 dX8_firstWrong_125 ?_
        refine lv_icmp_ge (tgt := 135) S.1 S.2.1 dX8_firstWrong_128 (by decide) (fun c128 => ?_) (fun c128 => ?_)
        · rw [if_pos c128] at h
          exact hb135 k16 hk16 v0 v1 v2 v3 v4 v5 v6 v7 v8 s0 h _ _ _ w (lv_sub hl [1, 2, 3, 4, 5, 6, 7, 8, 9, 0] rfl)
        · rw [if_neg c128] at h
          refine lv_iconst (v := 1) S.1 S.2.1 dX8_firstWrong_131 (by decide) ?_
          refine lv_goto (tgt := 136) S.1 S.2.1 dX8_firstWrong_132 (by decide) ?_
          exact hb136 k16 hk16 v0 v1 v2 v3 v4 v5 v6 v7 v8 s0 1 h _ _ _ w (lv_sub hl [1, 2, 3, 4, 5, 6, 7, 8, 9, 0] rfl)
  have hb92 : ∀ (k16 : xG → Nat → Int32 → Int32 → Int32 → Int32 → Int32 → Int32 → Int32 → Option Int32) (hk16 : ∀ (v0 : Nat) (v1 : Int32) (v2 : Int32) (v3 : Int32) (v4 : Int32) (v5 : Int32) (v6 : Int32) (v7 : Int32) , k16 g v0 v1 v2 v3 v4 v5 v6 v7 = some rr → ∀ (H : Heap) (locs : List Loc) (ls : Array Slot), xOK D cy A s.heap s L g H locs → lv_has ls 11 [(0, .ref v0), (1, .int v1), (2, .int v2), (3, .int v3), (4, .int v4), (5, .int v5), (6, .int v6), (7, .int v7)] → W p l e { frames := 1, cells := 0, slots := 0, locals := 22 } s m args below meth c H locs 0 0 Q (F0 m 16 ls [])) , ∀ (v0 : Nat) (v1 : Int32) (v2 : Int32) (v3 : Int32) (v4 : Int32) (v5 : Int32) (v6 : Int32) (v7 : Int32) (v8 : Int32) , f_X8_firstWrong_92 k16 g v0 v1 v2 v3 v4 v5 v6 v7 v8 = some rr → ∀ (H : Heap) (locs : List Loc) (ls : Array Slot), xOK D cy A s.heap s L g H locs → lv_has ls 11 [(0, .ref v0), (1, .int v1), (2, .int v2), (3, .int v3), (4, .int v4), (5, .int v5), (6, .int v6), (7, .int v7), (8, .int v8)] → W p l e { frames := 1, cells := 0, slots := 0, locals := 22 } s m args below meth c H locs 0 0 Q (F0 m 92 ls []) := by
    intro k16 hk16 v0 v1 v2 v3 v4 v5 v6 v7 v8 h H locs ls w hl
    rw [f_X8_firstWrong_92] at h
    refine lv_iconst (v := 0) S.1 S.2.1 dX8_firstWrong_92 (by decide) ?_
    exact hb93 k16 hk16 v0 v1 v2 v3 v4 v5 v6 v7 v8 0 h _ _ _ w hl
  have hb65 : ∀ (k16 : xG → Nat → Int32 → Int32 → Int32 → Int32 → Int32 → Int32 → Int32 → Option Int32) (hk16 : ∀ (v0 : Nat) (v1 : Int32) (v2 : Int32) (v3 : Int32) (v4 : Int32) (v5 : Int32) (v6 : Int32) (v7 : Int32) , k16 g v0 v1 v2 v3 v4 v5 v6 v7 = some rr → ∀ (H : Heap) (locs : List Loc) (ls : Array Slot), xOK D cy A s.heap s L g H locs → lv_has ls 11 [(0, .ref v0), (1, .int v1), (2, .int v2), (3, .int v3), (4, .int v4), (5, .int v5), (6, .int v6), (7, .int v7)] → W p l e { frames := 1, cells := 0, slots := 0, locals := 22 } s m args below meth c H locs 0 0 Q (F0 m 16 ls [])) , ∀ (v0 : Nat) (v1 : Int32) (v2 : Int32) (v3 : Int32) (v4 : Int32) (v5 : Int32) (v6 : Int32) (v7 : Int32) (s0 : Int32) , f_X8_firstWrong_65 k16 g v0 v1 v2 v3 v4 v5 v6 v7 s0 = some rr → ∀ (H : Heap) (locs : List Loc) (ls : Array Slot), xOK D cy A s.heap s L g H locs → lv_has ls 11 [(0, .ref v0), (1, .int v1), (2, .int v2), (3, .int v3), (4, .int v4), (5, .int v5), (6, .int v6), (7, .int v7)] → W p l e { frames := 1, cells := 0, slots := 0, locals := 22 } s m args below meth c H locs 0 0 Q (F0 m 65 ls [.int s0]) := by
    intro k16 hk16 v0 v1 v2 v3 v4 v5 v6 v7 s0 h H locs ls w hl
    rw [f_X8_firstWrong_65] at h
    refine lv_istore (lv' := [(8, .int s0), (0, .ref v0), (1, .int v1), (2, .int v2), (3, .int v3), (4, .int v4), (5, .int v5), (6, .int v6), (7, .int v7)]) S.1 S.2.1 dX8_firstWrong_65 hl (by decide) rfl (fun ls hl => ?_)
    refine lv_aload_n S.1 S.2.1 dX8_firstWrong_67 rfl (lv_at hl 1 rfl) ?_
    obtain ⟨x42, h43, h⟩ := xb h
    refine xr_getr S w 9 xi_X8_firstWrong_X8 rfl 32 (by decide) xl_X8_firstWrong_93 h43 dX8_firstWrong_68 ?_
    refine lv_iload S.1 S.2.1 dX8_firstWrong_71 (lv_at hl 8 rfl) ?_
    obtain ⟨x44, h45, h⟩ := xb h
    refine xr_iald S w h45 dX8_firstWrong_73 ?_
    refine lv_iconst (v := 1) S.1 S.2.1 dX8_firstWrong_74 (by decide) ?_
    refine lv_icmp_ne (tgt := 92) S.1 S.2.1 dX8_firstWrong_75 (by decide) (fun c75 => ?_) (fun c75 => ?_)
    · rw [if_neg c75] at h
      exact hb92 k16 hk16 v0 v1 v2 v3 v4 v5 v6 v7 s0 h _ _ _ w (lv_sub hl [1, 2, 3, 4, 5, 6, 7, 8, 0] rfl)
    · rw [if_pos c75] at h
      refine lv_aload_n S.1 S.2.1 dX8_firstWrong_78 rfl (lv_at hl 1 rfl) ?_
      obtain ⟨x46, h47, h⟩ := xb h
      refine xr_getr S w 9 xi_X8_firstWrong_X8 rfl 33 (by decide) xl_X8_firstWrong_96 h47 dX8_firstWrong_79 ?_
      refine lv_iload S.1 S.2.1 dX8_firstWrong_82 (lv_at hl 8 rfl) ?_
      obtain ⟨x48, h49, h⟩ := xb h
      refine xr_iald S w h49 dX8_firstWrong_84 ?_
      refine lv_if_ne (tgt := 92) S.1 S.2.1 dX8_firstWrong_85 (by decide) (fun c85 => ?_) (fun c85 => ?_)
      · rw [if_neg c85] at h
        exact hb92 k16 hk16 v0 v1 v2 v3 v4 v5 v6 v7 s0 h _ _ _ w (lv_sub hl [1, 2, 3, 4, 5, 6, 7, 8, 0] rfl)
      · rw [if_pos c85] at h
        refine lv_iconst (v := 1) S.1 S.2.1 dX8_firstWrong_88 (by decide) ?_
        refine lv_goto (tgt := 93) S.1 S.2.1 dX8_firstWrong_89 (by decide) ?_
        exact hb93 k16 hk16 v0 v1 v2 v3 v4 v5 v6 v7 s0 1 h _ _ _ w (lv_sub hl [1, 2, 3, 4, 5, 6, 7, 8, 0] rfl)
  have hb64 : ∀ (k16 : xG → Nat → Int32 → Int32 → Int32 → Int32 → Int32 → Int32 → Int32 → Option Int32) (hk16 : ∀ (v0 : Nat) (v1 : Int32) (v2 : Int32) (v3 : Int32) (v4 : Int32) (v5 : Int32) (v6 : Int32) (v7 : Int32) , k16 g v0 v1 v2 v3 v4 v5 v6 v7 = some rr → ∀ (H : Heap) (locs : List Loc) (ls : Array Slot), xOK D cy A s.heap s L g H locs → lv_has ls 11 [(0, .ref v0), (1, .int v1), (2, .int v2), (3, .int v3), (4, .int v4), (5, .int v5), (6, .int v6), (7, .int v7)] → W p l e { frames := 1, cells := 0, slots := 0, locals := 22 } s m args below meth c H locs 0 0 Q (F0 m 16 ls [])) , ∀ (v0 : Nat) (v1 : Int32) (v2 : Int32) (v3 : Int32) (v4 : Int32) (v5 : Int32) (v6 : Int32) (v7 : Int32) , f_X8_firstWrong_64 k16 g v0 v1 v2 v3 v4 v5 v6 v7 = some rr → ∀ (H : Heap) (locs : List Loc) (ls : Array Slot), xOK D cy A s.heap s L g H locs → lv_has ls 11 [(0, .ref v0), (1, .int v1), (2, .int v2), (3, .int v3), (4, .int v4), (5, .int v5), (6, .int v6), (7, .int v7)] → W p l e { frames := 1, cells := 0, slots := 0, locals := 22 } s m args below meth c H locs 0 0 Q (F0 m 64 ls []) := by
    intro k16 hk16 v0 v1 v2 v3 v4 v5 v6 v7 h H locs ls w hl
    rw [f_X8_firstWrong_64] at h
    refine lv_iconst (v := 0) S.1 S.2.1 dX8_firstWrong_64 (by decide) ?_
    exact hb65 k16 hk16 v0 v1 v2 v3 v4 v5 v6 v7 0 h _ _ _ w hl
  have hb16 : ∀ (n9 : Nat), ∀ (v0 : Nat) (v1 : Int32) (v2 : Int32) (v3 : Int32) (v4 : Int32) (v5 : Int32) (v6 : Int32) (v7 : Int32) , f_X8_firstWrong_16 n9 g v0 v1 v2 v3 v4 v5 v6 v7 = some rr → ∀ (H : Heap) (locs : List Loc) (ls : Array Slot), xOK D cy A s.heap s L g H locs → lv_has ls 11 [(0, .ref v0), (1, .int v1), (2, .int v2), (3, .int v3), (4, .int v4), (5, .int v5), (6, .int v6), (7, .int v7)] → W p l e { frames := 1, cells := 0, slots := 0, locals := 22 } s m args below meth c H locs 0 0 Q (F0 m 16 ls []) := by
    intro n9
    induction n9 with
    | zero => intro v0 v1 v2 v3 v4 v5 v6 v7 h; cases h
    | succ n9 ih =>
      intro v0 v1 v2 v3 v4 v5 v6 v7 h H locs ls w hl
      rw [f_X8_firstWrong_16] at h
      refine lv_iload S.1 S.2.1 dX8_firstWrong_16 (lv_at hl 7 rfl) ?_
      refine lv_aload_n S.1 S.2.1 dX8_firstWrong_18 rfl (lv_at hl 0 rfl) ?_
      obtain ⟨x50, h51, h⟩ := xb h
      refine xr_geti S w 9 xi_X8_firstWrong_X8 rfl 31 (by decide) xl_X8_firstWrong_180 h51 dX8_firstWrong_19 ?_
      refine lv_icmp_ge (tgt := 272) S.1 S.2.1 dX8_firstWrong_22 (by decide) (fun c22 => ?_) (fun c22 => ?_)
      · rw [if_pos c22] at h
        refine lv_iload S.1 S.2.1 dX8_firstWrong_272 (lv_at hl 4 rfl) ?_
        refine lv_if_eq (tgt := 286) S.1 S.2.1 dX8_firstWrong_274 (by decide) (fun c274 => ?_) (fun c274 => ?_)
        · rw [if_pos c274] at h
          refine lv_iconst (v := 0) S.1 S.2.1 dX8_firstWrong_286 (by decide) ?_
          exact ret _ _ _ _ _ _ (congrArg (fun z => some (z, g)) ((Option.some.inj h).trans hrr)) w dX8_firstWrong_287
        · rw [if_neg c274] at h
          refine lv_aload_n S.1 S.2.1 dX8_firstWrong_277 rfl (lv_at hl 0 rfl) ?_
          obtain ⟨x52, h53, h⟩ := xb h
          refine xr_geti S w 9 xi_X8_firstWrong_X8 rfl 31 (by decide) xl_X8_firstWrong_180 h53 dX8_firstWrong_278 ?_
          refine lv_iconst (v := 1) S.1 S.2.1 dX8_firstWrong_281 (by decide) ?_
          refine lv_iadd S.1 S.2.1 dX8_firstWrong_282 ?_
          refine lv_goto (tgt := 287) S.1 S.2.1 dX8_firstWrong_283 (by decide) ?_
          exact ret _ _ _ _ _ _ (congrArg (fun z => some (z, g)) ((Option.some.inj h).trans hrr)) w dX8_firstWrong_287
      · rw [if_neg c22] at h
        refine lv_aload_n S.1 S.2.1 dX8_firstWrong_25 rfl (lv_at hl 0 rfl) ?_
        obtain ⟨x54, h55, h⟩ := xb h
        refine xr_getr S w 9 xi_X8_firstWrong_X8 rfl 32 (by decide) xl_X8_firstWrong_93 h55 dX8_firstWrong_26 ?_
        refine lv_iload S.1 S.2.1 dX8_firstWrong_29 (lv_at hl 7 rfl) ?_
        obtain ⟨x56, h57, h⟩ := xb h
        refine xr_iald S w h57 dX8_firstWrong_31 ?_
        refine lv_iconst (v := 3) S.1 S.2.1 dX8_firstWrong_32 (by decide) ?_
        refine lv_icmp_ne (tgt := 64) S.1 S.2.1 dX8_firstWrong_33 (by decide) (fun c33 => ?_) (fun c33 => ?_)
        · rw [if_neg c33] at h
          exact hb64 _ ih v0 v1 v2 v3 v4 v5 v6 v7 h _ _ _ w hl
        · rw [if_pos c33] at h
          refine lv_aload_n S.1 S.2.1 dX8_firstWrong_36 rfl (lv_at hl 0 rfl) ?_
          obtain ⟨x58, h59, h⟩ := xb h
          refine xr_getr S w 9 xi_X8_firstWrong_X8 rfl 33 (by decide) xl_X8_firstWrong_96 h59 dX8_firstWrong_37 ?_
          refine lv_iload S.1 S.2.1 dX8_firstWrong_40 (lv_at hl 7 rfl) ?_
          obtain ⟨x60, h61, h⟩ := xb h
          refine xr_iald S w h61 dX8_firstWrong_42 ?_
          refine lv_iload S.1 S.2.1 dX8_firstWrong_43 (lv_at hl 5 rfl) ?_
          refine lv_icmp_ne (tgt := 64) S.1 S.2.1 dX8_firstWrong_45 (by decide) (fun c45 => ?_) (fun c45 => ?_)
          · rw [if_neg c45] at h
            exact hb64 _ ih v0 v1 v2 v3 v4 v5 v6 v7 h _ _ _ w hl
          · rw [if_pos c45] at h
            refine lv_aload_n S.1 S.2.1 dX8_firstWrong_48 rfl (lv_at hl 0 rfl) ?_
            obtain ⟨x62, h63, h⟩ := xb h
            refine xr_getr S w 9 xi_X8_firstWrong_X8 rfl 34 (by decide) xl_X8_firstWrong_99 h63 dX8_firstWrong_49 ?_
            refine lv_iload S.1 S.2.1 dX8_firstWrong_52 (lv_at hl 7 rfl) ?_
            obtain ⟨x64, h65, h⟩ := xb h
            refine xr_iald S w h65 dX8_firstWrong_54 ?_
            refine lv_iload S.1 S.2.1 dX8_firstWrong_55 (lv_at hl 6 rfl) ?_
            refine lv_icmp_ne (tgt := 64) S.1 S.2.1 dX8_firstWrong_57 (by decide) (fun c57 => ?_) (fun c57 => ?_)
            · rw [if_neg c57] at h
              exact hb64 _ ih v0 v1 v2 v3 v4 v5 v6 v7 h _ _ _ w hl
            · rw [if_pos c57] at h
              refine lv_iconst (v := 1) S.1 S.2.1 dX8_firstWrong_60 (by decide) ?_
              refine lv_goto (tgt := 65) S.1 S.2.1 dX8_firstWrong_61 (by decide) ?_
              exact hb65 _ ih v0 v1 v2 v3 v4 v5 v6 v7 1 h _ _ _ w hl
  rw [f_X8_firstWrong] at h
  refine lv_iconst (v := 0) S.1 S.2.1 dX8_firstWrong_0 (by decide) ?_
  refine lv_istore_n (lv' := [(2, .int 0), (0, .ref a0), (1, .int a1)]) S.1 S.2.1 dX8_firstWrong_1 rfl hl (by decide) rfl (fun ls hl => ?_)
  refine lv_iconst (v := 0) S.1 S.2.1 dX8_firstWrong_2 (by decide) ?_
  refine lv_istore_n (lv' := [(3, .int 0), (2, .int 0), (0, .ref a0), (1, .int a1)]) S.1 S.2.1 dX8_firstWrong_3 rfl hl (by decide) rfl (fun ls hl => ?_)
  refine lv_iconst (v := 0) S.1 S.2.1 dX8_firstWrong_4 (by decide) ?_
  refine lv_istore (lv' := [(4, .int 0), (3, .int 0), (2, .int 0), (0, .ref a0), (1, .int a1)]) S.1 S.2.1 dX8_firstWrong_5 hl (by decide) rfl (fun ls hl => ?_)
  refine lv_iconst (v := 0) S.1 S.2.1 dX8_firstWrong_7 (by decide) ?_
  refine lv_istore (lv' := [(5, .int 0), (4, .int 0), (3, .int 0), (2, .int 0), (0, .ref a0), (1, .int a1)]) S.1 S.2.1 dX8_firstWrong_8 hl (by decide) rfl (fun ls hl => ?_)
  refine lv_iconst (v := 0) S.1 S.2.1 dX8_firstWrong_10 (by decide) ?_
  refine lv_istore (lv' := [(6, .int 0), (5, .int 0), (4, .int 0), (3, .int 0), (2, .int 0), (0, .ref a0), (1, .int a1)]) S.1 S.2.1 dX8_firstWrong_11 hl (by decide) rfl (fun ls hl => ?_)
  refine lv_iconst (v := 0) S.1 S.2.1 dX8_firstWrong_13 (by decide) ?_
  refine lv_istore (lv' := [(7, .int 0), (6, .int 0), (5, .int 0), (4, .int 0), (3, .int 0), (2, .int 0), (0, .ref a0), (1, .int a1)]) S.1 S.2.1 dX8_firstWrong_14 hl (by decide) rfl (fun ls hl => ?_)
  exact hb16 xFU a0 a1 0 0 0 0 0 0 h _ _ _ w (lv_sub hl [6, 7, 5, 4, 3, 2, 1, 0] rfl)
theorem xi_X8_fork_X8 : ∀ w ∈ wsX80, w ∈ wsX8_fork := by decide +kernel
theorem xl_X8_fork_79 : Cond.fieldLink RX8 79 (TX8 26).1 (TX8 26).2.1 (TX8 26).2.2.1 ∈ wsX8_fork := by decide +kernel
theorem xl_X8_fork_76 : Cond.fieldLink RX8 76 (TX8 25).1 (TX8 25).2.1 (TX8 25).2.2.1 ∈ wsX8_fork := by decide +kernel
theorem xl_X8_fork_70 : Cond.fieldLink RX8 70 (TX8 23).1 (TX8 23).2.1 (TX8 23).2.2.1 ∈ wsX8_fork := by decide +kernel
theorem xl_X8_fork_73 : Cond.fieldLink RX8 73 (TX8 24).1 (TX8 24).2.1 (TX8 24).2.2.1 ∈ wsX8_fork := by decide +kernel
theorem xl_X8_fork_20 : Cond.fieldLink RX8 20 (TX8 4).1 (TX8 4).2.1 (TX8 4).2.2.1 ∈ wsX8_fork := by decide +kernel
def f_X8_fork_92 (k5 : xG → Nat → Int32 → Int32 → Int32 → Int32 → Option Int32) (g : xG) (v0 : Nat) (v1 : Int32) (v2 : Int32) (v3 : Int32) (v4 : Int32) (v5 : Int32) : Option Int32 :=
  k5 g v0 v1 v2 v3 (v4 + 1)
def f_X8_fork_58 (k5 : xG → Nat → Int32 → Int32 → Int32 → Int32 → Option Int32) (g : xG) (v0 : Nat) (v1 : Int32) (v2 : Int32) (v3 : Int32) (v4 : Int32) (v5 : Int32) (s0 : Int32) : Option Int32 :=
  if s0 = 0 then
    f_X8_fork_92 k5 g v0 v1 v2 v3 v4 v5
  else
    (xg_r g 9 v0 26).bind fun x1 =>
    (xa_l g x1 v5).bind fun x3 =>
    (xg_r g 9 v0 25).bind fun x5 =>
    (xa_i 1 g x5 v5).bind fun x7 =>
    (xk g 9 v0).bind fun _ =>
    (f_X8_headOf g v0 v2 x7).bind fun x11 =>
    if x3 = x11 then
      f_X8_fork_92 k5 g v0 v1 v2 v3 v4 v5
    else
      if v3 < 0 then
        k5 g v0 v1 v2 v5 (v4 + 1)
      else
        (xg_r g 9 v0 25).bind fun x12 =>
        (xa_i 1 g x12 v5).bind fun x14 =>
        (xg_r g 9 v0 25).bind fun x16 =>
        (xa_i 1 g x16 v3).bind fun x18 =>
        if x18 ≤ x14 then
          k5 g v0 v1 v2 v3 (v4 + 1)
        else
          k5 g v0 v1 v2 v5 (v4 + 1)
def f_X8_fork_57 (k5 : xG → Nat → Int32 → Int32 → Int32 → Int32 → Option Int32) (g : xG) (v0 : Nat) (v1 : Int32) (v2 : Int32) (v3 : Int32) (v4 : Int32) (v5 : Int32) : Option Int32 :=
  f_X8_fork_58 k5 g v0 v1 v2 v3 v4 v5 0
def f_X8_fork_5 : Nat → xG → Nat → Int32 → Int32 → Int32 → Int32 → Option Int32
  | 0, _, _, _, _, _, _ => none
  | n9 + 1, g, v0, v1, v2, v3, v4 =>
  (xg_r g 9 v0 23).bind fun x20 =>
  (xa_i 1 g x20 v1).bind fun x22 =>
  if x22 ≤ v4 then
    some v3
  else
    (xg_r g 9 v0 24).bind fun x24 =>
    (xa_i 1 g x24 ((300 * v1) + v4)).bind fun x26 =>
    if x26 = v2 then
      (xg_r g 9 v0 25).bind fun x28 =>
      (xa_i 1 g x28 ((300 * v1) + v4)).bind fun x30 =>
      (xg_r g 9 v0 4).bind fun x32 =>
      (xa_i 1 g x32 v2).bind fun x34 =>
      if x34 < x30 then
        f_X8_fork_57 (f_X8_fork_5 n9) g v0 v1 v2 v3 v4 ((300 * v1) + v4)
      else
        f_X8_fork_58 (f_X8_fork_5 n9) g v0 v1 v2 v3 v4 ((300 * v1) + v4) 1
    else
      f_X8_fork_57 (f_X8_fork_5 n9) g v0 v1 v2 v3 v4 ((300 * v1) + v4)
def f_X8_fork (g : xG) (a0 : Nat) (a1 : Int32) (a2 : Int32) : Option Int32 :=
  f_X8_fork_5 xFU g a0 a1 a2 (-1) 0
set_option maxHeartbeats 4000000 in
set_option maxRecDepth 100000 in
theorem c_X8_fork (l : Launch) (D : va_G) (cy : Nat → ClassId) (L : List Nat) (g : xG) (a0 : Nat) (a1 : Int32) (a2 : Int32) {r1 : Int32} (h : f_X8_fork g a0 a1 a2 = some r1) : xMi l yX8_fork wsX8_fork ({ frames := 3, cells := 0, slots := 0, locals := 74 }) D cy L g [.ref a0, .int a1, .int a2] r1 g := by
  refine xm_i (cc := cX8_fork) (maxL := 7) RX8 rfl rfl rfl (by decide +kernel) rfl (Nat.le_of_ble_eq_true rfl) ?_
  intro p e s m args below meth c Q A S w hA hN ret ls hl
  have hl : lv_has ls 7 [(0, .ref a0), (1, .int a1), (2, .int a2)] := hl
  obtain ⟨rr, hrr⟩ : ∃ z, z = r1 := ⟨_, rfl⟩
  rw [← hrr] at h
  have hb92 : ∀ (k5 : xG → Nat → Int32 → Int32 → Int32 → Int32 → Option Int32) (hk5 : ∀ (v0 : Nat) (v1 : Int32) (v2 : Int32) (v3 : Int32) (v4 : Int32) , k5 g v0 v1 v2 v3 v4 = some rr → ∀ (H : Heap) (locs : List Loc) (ls : Array Slot), xOK D cy A s.heap s L g H locs → lv_has ls 7 [(0, .ref v0), (1, .int v1), (2, .int v2), (3, .int v3), (4, .int v4)] → W p l e { frames := 3, cells := 0, slots := 0, locals := 74 } s m args below meth c H locs 0 0 Q (F0 m 5 ls [])) , ∀ (v0 : Nat) (v1 : Int32) (v2 : Int32) (v3 : Int32) (v4 : Int32) (v5 : Int32) , f_X8_fork_92 k5 g v0 v1 v2 v3 v4 v5 = some rr → ∀ (H : Heap) (locs : List Loc) (ls : Array Slot), xOK D cy A s.heap s L g H locs → lv_has ls 7 [(0, .ref v0), (1, .int v1), (2, .int v2), (3, .int v3), (4, .int v4), (5, .int v5)] → W p l e { frames := 3, cells := 0, slots := 0, locals := 74 } s m args below meth c H locs 0 0 Q (F0 m 92 ls []) := by
    intro k5 hk5 v0 v1 v2 v3 v4 v5 h H locs ls w hl
    rw [f_X8_fork_92] at h
    refine lv_iconst (v := 0) S.1 S.2.1 dX8_fork_92 (by decide) ?_
    refine lv_istore (lv' := [(6, .int 0), (0, .ref v0), (1, .int v1), (2, .int v2), (3, .int v3), (4, .int v4), (5, .int v5)]) S.1 S.2.1 dX8_fork_93 hl (by decide) rfl (fun ls hl => ?_)
    refine lv_iload S.1 S.2.1 dX8_fork_95 (lv_at hl 0 rfl) ?_
    refine lv_if_eq (tgt := 123) S.1 S.2.1 dX8_fork_97 (by decide) (fun c97 => ?_) (fun c97 => ?_)
    · refine lv_iinc (v := (v4 + 1)) (lv' := [(4, .int (v4 + 1)), (6, .int 0), (0, .ref v0), (1, .int v1), (2, .int v2), (3, .int v3), (5, .int v5)]) S.1 S.2.1 dX8_fork_123 hl (k := 5) rfl rfl (by decide) rfl (fun ls hl => ?_)
      refine lv_goto (tgt := 5) S.1 S.2.1 dX8_fork_126 (by decide) ?_
      exact hk5 v0 v1 v2 v3 (v4 + 1) h _ _ _ w (lv_sub hl [2, 3, 4, 5, 0] rfl)
    · exact absurd c97 (by decide)
  have hb58 : ∀ (k5 : xG → Nat → Int32 → Int32 → Int32 → Int32 → Option Int32) (hk5 : ∀ (v0 : Nat) (v1 : Int32) (v2 : Int32) (v3 : Int32) (v4 : Int32) , k5 g v0 v1 v2 v3 v4 = some rr → ∀ (H : Heap) (locs : List Loc) (ls : Array Slot), xOK D cy A s.heap s L g H locs → lv_has ls 7 [(0, .ref v0), (1, .int v1), (2, .int v2), (3, .int v3), (4, .int v4)] → W p l e { frames := 3, cells := 0, slots := 0, locals := 74 } s m args below meth c H locs 0 0 Q (F0 m 5 ls [])) , ∀ (v0 : Nat) (v1 : Int32) (v2 : Int32) (v3 : Int32) (v4 : Int32) (v5 : Int32) (s0 : Int32) , f_X8_fork_58 k5 g v0 v1 v2 v3 v4 v5 s0 = some rr → ∀ (H : Heap) (locs : List Loc) (ls : Array Slot), xOK D cy A s.heap s L g H locs → lv_has ls 7 [(0, .ref v0), (1, .int v1), (2, .int v2), (3, .int v3), (4, .int v4), (5, .int v5)] → W p l e { frames := 3, cells := 0, slots := 0, locals := 74 } s m args below meth c H locs 0 0 Q (F0 m 58 ls [.int s0]) := by
    intro k5 hk5 v0 v1 v2 v3 v4 v5 s0 h H locs ls w hl
    rw [f_X8_fork_58] at h
    refine lv_istore (lv' := [(6, .int s0), (0, .ref v0), (1, .int v1), (2, .int v2), (3, .int v3), (4, .int v4), (5, .int v5)]) S.1 S.2.1 dX8_fork_58 hl (by decide) rfl (fun ls hl => ?_)
    refine lv_iload S.1 S.2.1 dX8_fork_60 (lv_at hl 0 rfl) ?_
    refine lv_if_eq (tgt := 92) S.1 S.2.1 dX8_fork_62 (by decide) (fun c62 => ?_) (fun c62 => ?_)
    · rw [if_pos c62] at h
      exact hb92 k5 hk5 v0 v1 v2 v3 v4 v5 h _ _ _ w (lv_sub hl [1, 2, 3, 4, 5, 6] rfl)
    · rw [if_neg c62] at h
      refine lv_aload_n S.1 S.2.1 dX8_fork_65 rfl (lv_at hl 1 rfl) ?_
      obtain ⟨x1, h2, h⟩ := xb h
      refine xr_getr S w 9 xi_X8_fork_X8 rfl 26 (by decide) xl_X8_fork_79 h2 dX8_fork_66 ?_
      refine lv_iload S.1 S.2.1 dX8_fork_69 (lv_at hl 6 rfl) ?_
      obtain ⟨x3, h4, h⟩ := xb h
      refine xr_lald S w h4 dX8_fork_71 ?_
      refine lv_aload_n S.1 S.2.1 dX8_fork_72 rfl (lv_at hl 1 rfl) ?_
      refine lv_iload_n S.1 S.2.1 dX8_fork_73 rfl (lv_at hl 3 rfl) ?_
      refine lv_aload_n S.1 S.2.1 dX8_fork_74 rfl (lv_at hl 1 rfl) ?_
      obtain ⟨x5, h6, h⟩ := xb h
      refine xr_getr S w 9 xi_X8_fork_X8 rfl 25 (by decide) xl_X8_fork_76 h6 dX8_fork_75 ?_
      refine lv_iload S.1 S.2.1 dX8_fork_78 (lv_at hl 6 rfl) ?_
      obtain ⟨x7, h8, h⟩ := xb h
      refine xr_iald S w h8 dX8_fork_80 ?_
      obtain ⟨_, h9, h⟩ := xb h
      obtain ⟨x11, h10, h⟩ := xb h
      refine xr_callV_l S w hA hN 9 rfl h9 (c_X8_headOf l D cy L g v0 v2 x7 h10) (cwV 2 S.2.2.2.2 gX8_fork_X8_headOf rfl rfl rfl (by decide +kernel) ⟨Nat.le_of_ble_eq_true rfl, Nat.le_of_ble_eq_true rfl⟩) rfl rfl hl.1 (Nat.le_of_ble_eq_true rfl) dX8_fork_81 ⟨Nat.le_of_ble_eq_true rfl, Nat.le_of_ble_eq_true rfl⟩ (fun H locs w => ?_)
      refine xr_lceq (tgt := 92) S dX8_fork_84 dX8_fork_85 (by decide) (fun c84 => ?_) (fun c84 => ?_)
      · rw [if_pos c84] at h
        exact hb92 k5 hk5 v0 v1 v2 v3 v4 v5 h _ _ _ w (lv_sub hl [1, 2, 3, 4, 5, 6] rfl)
      · rw [if_neg c84] at h
        refine lv_iconst (v := 1) S.1 S.2.1 dX8_fork_88 (by decide) ?_
        refine lv_goto (tgt := 93) S.1 S.2.1 dX8_fork_89 (by decide) ?_
        refine lv_istore (lv' := [(6, .int 1), (0, .ref v0), (1, .int v1), (2, .int v2), (3, .int v3), (4, .int v4), (5, .int v5)]) S.1 S.2.1 dX8_fork_93 hl (by decide) rfl (fun ls hl => ?_)
        refine lv_iload S.1 S.2.1 dX8_fork_95 (lv_at hl 0 rfl) ?_
        refine lv_if_eq (tgt := 123) S.1 S.2.1 dX8_fork_97 (by decide) (fun c97 => ?_) (fun c97 => ?_)
        · exact absurd c97 (by decide)
        · refine lv_iload_n S.1 S.2.1 dX8_fork_100 rfl (lv_at hl 4 rfl) ?_
          refine lv_if_lt (tgt := 120) S.1 S.2.1 dX8_fork_101 (by decide) (fun c101 => ?_) (fun c101 => ?_)
          · rw [if_pos c101] at h
            refine lv_iload S.1 S.2.1 dX8_fork_120 (lv_at hl 6 rfl) ?_
            refine lv_istore_n (lv' := [(3, .int v5), (6, .int 1), (0, .ref v0), (1, .int v1), (2, .int v2), (4, .int v4), (5, .int v5)]) S.1 S.2.1 dX8_fork_122 rfl hl (by decide) rfl (fun ls hl => ?_)
            refine lv_iinc (v := (v4 + 1)) (lv' := [(4, .int (v4 + 1)), (3, .int v5), (6, .int 1), (0, .ref v0), (1, .int v1), (2, .int v2), (5, .int v5)]) S.1 S.2.1 dX8_fork_123 hl (k := 5) rfl rfl (by decide) rfl (fun ls hl => ?_)
            refine lv_goto (tgt := 5) S.1 S.2.1 dX8_fork_126 (by decide) ?_
            exact hk5 v0 v1 v2 v5 (v4 + 1) h _ _ _ w (lv_sub hl [3, 4, 5, 1, 0] rfl)
          · rw [if_neg c101] at h
            refine lv_aload_n S.1 S.2.1 dX8_fork_104 rfl (lv_at hl 1 rfl) ?_
            obtain ⟨x12, h13, h⟩ := xb h
            refine xr_getr S w 9 xi_X8_fork_X8 rfl 25 (by decide) xl_X8_fork_76 h13 dX8_fork_105 ?_
            refine lv_iload S.1 S.2.1 dX8_fork_108 (lv_at hl 6 rfl) ?_
            obtain ⟨x14, h15, h⟩ := xb h
            refine xr_iald S w h15 dX8_fork_110 ?_
            refine lv_aload_n S.1 S.2.1 dX8_fork_111 rfl (lv_at hl 1 rfl) ?_
            obtain ⟨x16, h17, h⟩ := xb h
            refine xr_getr S w 9 xi_X8_fork_X8 rfl 25 (by decide) xl_X8_fork_76 h17 dX8_fork_112 ?_
            refine lv_iload_n S.1 S.2.1 dX8_fork_115 rfl (lv_at hl 4 rfl) ?_
            obtain ⟨x18, h19, h⟩ := xb h
            refine xr_iald S w h19 dX8_fork_116 ?_
            refine lv_icmp_ge (tgt := 123) S.1 S.2.1 dX8_fork_117 (by decide) (fun c117 => ?_) (fun c117 => ?_)
            · rw [if_pos c117] at h
              refine lv_iinc (v := (v4 + 1)) (lv' := [(4, .int (v4 + 1)), (6, .int 1), (0, .ref v0), (1, .int v1), (2, .int v2), (3, .int v3), (5, .int v5)]) S.1 S.2.1 dX8_fork_123 hl (k := 5) rfl rfl (by decide) rfl (fun ls hl => ?_)
              refine lv_goto (tgt := 5) S.1 S.2.1 dX8_fork_126 (by decide) ?_
              exact hk5 v0 v1 v2 v3 (v4 + 1) h _ _ _ w (lv_sub hl [2, 3, 4, 5, 0] rfl)
            · rw [if_neg c117] at h
              refine lv_iload S.1 S.2.1 dX8_fork_120 (lv_at hl 6 rfl) ?_
              refine lv_istore_n (lv' := [(3, .int v5), (6, .int 1), (0, .ref v0), (1, .int v1), (2, .int v2), (4, .int v4), (5, .int v5)]) S.1 S.2.1 dX8_fork_122 rfl hl (by decide) rfl (fun ls hl => ?_)
              refine lv_iinc (v := (v4 + 1)) (lv' := [(4, .int (v4 + 1)), (3, .int v5), (6, .int 1), (0, .ref v0), (1, .int v1), (2, .int v2), (5, .int v5)]) S.1 S.2.1 dX8_fork_123 hl (k := 5) rfl rfl (by decide) rfl (fun ls hl => ?_)
              refine lv_goto (tgt := 5) S.1 S.2.1 dX8_fork_126 (by decide) ?_
              exact hk5 v0 v1 v2 v5 (v4 + 1) h _ _ _ w (lv_sub hl [3, 4, 5, 1, 0] rfl)
  have hb57 : ∀ (k5 : xG → Nat → Int32 → Int32 → Int32 → Int32 → Option Int32) (hk5 : ∀ (v0 : Nat) (v1 : Int32) (v2 : Int32) (v3 : Int32) (v4 : Int32) , k5 g v0 v1 v2 v3 v4 = some rr → ∀ (H : Heap) (locs : List Loc) (ls : Array Slot), xOK D cy A s.heap s L g H locs → lv_has ls 7 [(0, .ref v0), (1, .int v1), (2, .int v2), (3, .int v3), (4, .int v4)] → W p l e { frames := 3, cells := 0, slots := 0, locals := 74 } s m args below meth c H locs 0 0 Q (F0 m 5 ls [])) , ∀ (v0 : Nat) (v1 : Int32) (v2 : Int32) (v3 : Int32) (v4 : Int32) (v5 : Int32) , f_X8_fork_57 k5 g v0 v1 v2 v3 v4 v5 = some rr → ∀ (H : Heap) (locs : List Loc) (ls : Array Slot), xOK D cy A s.heap s L g H locs → lv_has ls 7 [(0, .ref v0), (1, .int v1), (2, .int v2), (3, .int v3), (4, .int v4), (5, .int v5)] → W p l e { frames := 3, cells := 0, slots := 0, locals := 74 } s m args below meth c H locs 0 0 Q (F0 m 57 ls []) := by
    intro k5 hk5 v0 v1 v2 v3 v4 v5 h H locs ls w hl
    rw [f_X8_fork_57] at h
    refine lv_iconst (v := 0) S.1 S.2.1 dX8_fork_57 (by decide) ?_
    exact hb58 k5 hk5 v0 v1 v2 v3 v4 v5 0 h _ _ _ w hl
  have hb5 : ∀ (n9 : Nat), ∀ (v0 : Nat) (v1 : Int32) (v2 : Int32) (v3 : Int32) (v4 : Int32) , f_X8_fork_5 n9 g v0 v1 v2 v3 v4 = some rr → ∀ (H : Heap) (locs : List Loc) (ls : Array Slot), xOK D cy A s.heap s L g H locs → lv_has ls 7 [(0, .ref v0), (1, .int v1), (2, .int v2), (3, .int v3), (4, .int v4)] → W p l e { frames := 3, cells := 0, slots := 0, locals := 74 } s m args below meth c H locs 0 0 Q (F0 m 5 ls []) := by
    intro n9
    induction n9 with
    | zero => intro v0 v1 v2 v3 v4 h; cases h
    | succ n9 ih =>
      intro v0 v1 v2 v3 v4 h H locs ls w hl
      rw [f_X8_fork_5] at h
      refine lv_iload S.1 S.2.1 dX8_fork_5 (lv_at hl 4 rfl) ?_
      refine lv_aload_n S.1 S.2.1 dX8_fork_7 rfl (lv_at hl 0 rfl) ?_
      obtain ⟨x20, h21, h⟩ := xb h
      refine xr_getr S w 9 xi_X8_fork_X8 rfl 23 (by decide) xl_X8_fork_70 h21 dX8_fork_8 ?_
      refine lv_iload_n S.1 S.2.1 dX8_fork_11 rfl (lv_at hl 1 rfl) ?_
      obtain ⟨x22, h23, h⟩ := xb h
      refine xr_iald S w h23 dX8_fork_12 ?_
      refine lv_icmp_ge (tgt := 129) S.1 S.2.1 dX8_fork_13 (by decide) (fun c13 => ?_) (fun c13 => ?_)
      · rw [if_pos c13] at h
        refine lv_iload_n S.1 S.2.1 dX8_fork_129 rfl (lv_at hl 3 rfl) ?_
        exact ret _ _ _ _ _ _ (congrArg (fun z => some (z, g)) ((Option.some.inj h).trans hrr)) w dX8_fork_130
      · rw [if_neg c13] at h
        refine lv_sipush (v := 300) S.1 S.2.1 dX8_fork_16 (by decide) ?_
        refine lv_iload_n S.1 S.2.1 dX8_fork_19 rfl (lv_at hl 1 rfl) ?_
        refine lv_imul S.1 S.2.1 dX8_fork_20 ?_
        refine lv_iload S.1 S.2.1 dX8_fork_21 (lv_at hl 4 rfl) ?_
        refine lv_iadd S.1 S.2.1 dX8_fork_23 ?_
        refine lv_istore (lv' := [(5, .int ((300 * v1) + v4)), (0, .ref v0), (1, .int v1), (2, .int v2), (3, .int v3), (4, .int v4)]) S.1 S.2.1 dX8_fork_24 hl (by decide) rfl (fun ls hl => ?_)
        refine lv_aload_n S.1 S.2.1 dX8_fork_26 rfl (lv_at hl 1 rfl) ?_
        obtain ⟨x24, h25, h⟩ := xb h
        refine xr_getr S w 9 xi_X8_fork_X8 rfl 24 (by decide) xl_X8_fork_73 h25 dX8_fork_27 ?_
        refine lv_iload S.1 S.2.1 dX8_fork_30 (lv_at hl 0 rfl) ?_
        obtain ⟨x26, h27, h⟩ := xb h
        refine xr_iald S w h27 dX8_fork_32 ?_
        refine lv_iload_n S.1 S.2.1 dX8_fork_33 rfl (lv_at hl 3 rfl) ?_
        refine lv_icmp_ne (tgt := 57) S.1 S.2.1 dX8_fork_34 (by decide) (fun c34 => ?_) (fun c34 => ?_)
        · rw [if_neg c34] at h
          exact hb57 _ ih v0 v1 v2 v3 v4 ((300 * v1) + v4) h _ _ _ w (lv_sub hl [1, 2, 3, 4, 5, 0] rfl)
        · rw [if_pos c34] at h
          refine lv_aload_n S.1 S.2.1 dX8_fork_37 rfl (lv_at hl 1 rfl) ?_
          obtain ⟨x28, h29, h⟩ := xb h
          refine xr_getr S w 9 xi_X8_fork_X8 rfl 25 (by decide) xl_X8_fork_76 h29 dX8_fork_38 ?_
          refine lv_iload S.1 S.2.1 dX8_fork_41 (lv_at hl 0 rfl) ?_
          obtain ⟨x30, h31, h⟩ := xb h
          refine xr_iald S w h31 dX8_fork_43 ?_
          refine lv_aload_n S.1 S.2.1 dX8_fork_44 rfl (lv_at hl 1 rfl) ?_
          obtain ⟨x32, h33, h⟩ := xb h
          refine xr_getr S w 9 xi_X8_fork_X8 rfl 4 (by decide) xl_X8_fork_20 h33 dX8_fork_45 ?_
          refine lv_iload_n S.1 S.2.1 dX8_fork_48 rfl (lv_at hl 3 rfl) ?_
          obtain ⟨x34, h35, h⟩ := xb h
          refine xr_iald S w h35 dX8_fork_49 ?_
          refine lv_icmp_gt (tgt := 57) S.1 S.2.1 dX8_fork_50 (by decide) (fun c50 => ?_) (fun c50 => ?_)
          · rw [if_pos c50] at h
            exact hb57 _ ih v0 v1 v2 v3 v4 ((300 * v1) + v4) h _ _ _ w (lv_sub hl [1, 2, 3, 4, 5, 0] rfl)
          · rw [if_neg c50] at h
            refine lv_iconst (v := 1) S.1 S.2.1 dX8_fork_53 (by decide) ?_
            refine lv_goto (tgt := 58) S.1 S.2.1 dX8_fork_54 (by decide) ?_
            exact hb58 _ ih v0 v1 v2 v3 v4 ((300 * v1) + v4) 1 h _ _ _ w (lv_sub hl [1, 2, 3, 4, 5, 0] rfl)
  rw [f_X8_fork] at h
  refine lv_iconst (v := (-1)) S.1 S.2.1 dX8_fork_0 (by decide) ?_
  refine lv_istore_n (lv' := [(3, .int (-1)), (0, .ref a0), (1, .int a1), (2, .int a2)]) S.1 S.2.1 dX8_fork_1 rfl hl (by decide) rfl (fun ls hl => ?_)
  refine lv_iconst (v := 0) S.1 S.2.1 dX8_fork_2 (by decide) ?_
  refine lv_istore (lv' := [(4, .int 0), (3, .int (-1)), (0, .ref a0), (1, .int a1), (2, .int a2)]) S.1 S.2.1 dX8_fork_3 hl (by decide) rfl (fun ls hl => ?_)
  exact hb5 xFU a0 a1 a2 (-1) 0 h _ _ _ w (lv_sub hl [2, 3, 4, 1, 0] rfl)
theorem xi_X8_isBehind_X8 : ∀ w ∈ wsX80, w ∈ wsX8_isBehind := by decide +kernel
theorem xl_X8_isBehind_70 : Cond.fieldLink RX8 70 (TX8 23).1 (TX8 23).2.1 (TX8 23).2.2.1 ∈ wsX8_isBehind := by decide +kernel
theorem xl_X8_isBehind_73 : Cond.fieldLink RX8 73 (TX8 24).1 (TX8 24).2.1 (TX8 24).2.2.1 ∈ wsX8_isBehind := by decide +kernel
theorem xl_X8_isBehind_76 : Cond.fieldLink RX8 76 (TX8 25).1 (TX8 25).2.1 (TX8 25).2.2.1 ∈ wsX8_isBehind := by decide +kernel
theorem xl_X8_isBehind_20 : Cond.fieldLink RX8 20 (TX8 4).1 (TX8 4).2.1 (TX8 4).2.2.1 ∈ wsX8_isBehind := by decide +kernel
def f_X8_isBehind_2 : Nat → xG → Nat → Int32 → Int32 → Int32 → Option Int32
  | 0, _, _, _, _, _ => none
  | n9 + 1, g, v0, v1, v2, v3 =>
  (xg_r g 9 v0 23).bind fun x1 =>
  (xa_i 1 g x1 v1).bind fun x3 =>
  if x3 ≤ v3 then
    some 0
  else
    (xg_r g 9 v0 24).bind fun x5 =>
    (xa_i 1 g x5 ((300 * v1) + v3)).bind fun x7 =>
    if x7 = v2 then
      (xg_r g 9 v0 25).bind fun x9 =>
      (xa_i 1 g x9 ((300 * v1) + v3)).bind fun x11 =>
      (xg_r g 9 v0 4).bind fun x13 =>
      (xa_i 1 g x13 v2).bind fun x15 =>
      if x11 ≤ x15 then
        f_X8_isBehind_2 n9 g v0 v1 v2 (v3 + 1)
      else
        some 1
    else
      f_X8_isBehind_2 n9 g v0 v1 v2 (v3 + 1)
def f_X8_isBehind (g : xG) (a0 : Nat) (a1 : Int32) (a2 : Int32) : Option Int32 :=
  f_X8_isBehind_2 xFU g a0 a1 a2 0
set_option maxHeartbeats 4000000 in
set_option maxRecDepth 100000 in
theorem c_X8_isBehind (l : Launch) (D : va_G) (cy : Nat → ClassId) (L : List Nat) (g : xG) (a0 : Nat) (a1 : Int32) (a2 : Int32) {r1 : Int32} (h : f_X8_isBehind g a0 a1 a2 = some r1) : xMi l yX8_isBehind wsX8_isBehind ({ frames := 0, cells := 0, slots := 0, locals := 0 }) D cy L g [.ref a0, .int a1, .int a2] r1 g := by
  refine xm_z (cc := cX8_isBehind) (maxL := 5) RX8 rfl rfl rfl (by decide +kernel) rfl (Nat.le_of_ble_eq_true rfl) ?_
  intro p e s m args below meth c Q A S w hA hN ret ls hl
  have hl : lv_has ls 5 [(0, .ref a0), (1, .int a1), (2, .int a2)] := hl
  obtain ⟨rr, hrr⟩ : ∃ z, z = r1 := ⟨_, rfl⟩
  rw [← hrr] at h
  have hb2 : ∀ (n9 : Nat), ∀ (v0 : Nat) (v1 : Int32) (v2 : Int32) (v3 : Int32) , f_X8_isBehind_2 n9 g v0 v1 v2 v3 = some rr → ∀ (H : Heap) (locs : List Loc) (ls : Array Slot), xOK D cy A s.heap s L g H locs → lv_has ls 5 [(0, .ref v0), (1, .int v1), (2, .int v2), (3, .int v3)] → W p l e { frames := 0, cells := 0, slots := 0, locals := 0 } s m args below meth c H locs 0 0 Q (F0 m 2 ls []) := by
    intro n9
    induction n9 with
    | zero => intro v0 v1 v2 v3 h; cases h
    | succ n9 ih =>
      intro v0 v1 v2 v3 h H locs ls w hl
      rw [f_X8_isBehind_2] at h
      refine lv_iload_n S.1 S.2.1 dX8_isBehind_2 rfl (lv_at hl 3 rfl) ?_
      refine lv_aload_n S.1 S.2.1 dX8_isBehind_3 rfl (lv_at hl 0 rfl) ?_
      obtain ⟨x1, h2, h⟩ := xb h
      refine xr_getr S w 9 xi_X8_isBehind_X8 rfl 23 (by decide) xl_X8_isBehind_70 h2 dX8_isBehind_4 ?_
      refine lv_iload_n S.1 S.2.1 dX8_isBehind_7 rfl (lv_at hl 1 rfl) ?_
      obtain ⟨x3, h4, h⟩ := xb h
      refine xr_iald S w h4 dX8_isBehind_8 ?_
      refine lv_icmp_ge (tgt := 56) S.1 S.2.1 dX8_isBehind_9 (by decide) (fun c9 => ?_) (fun c9 => ?_)
      · rw [if_pos c9] at h
        refine lv_iconst (v := 0) S.1 S.2.1 dX8_isBehind_56 (by decide) ?_
        exact ret _ _ _ _ 0 0 _ (by decide) (congrArg (fun z => some (z, g)) ((Option.some.inj h).trans hrr)) w dX8_isBehind_57
      · rw [if_neg c9] at h
        refine lv_sipush (v := 300) S.1 S.2.1 dX8_isBehind_12 (by decide) ?_
        refine lv_iload_n S.1 S.2.1 dX8_isBehind_15 rfl (lv_at hl 1 rfl) ?_
        refine lv_imul S.1 S.2.1 dX8_isBehind_16 ?_
        refine lv_iload_n S.1 S.2.1 dX8_isBehind_17 rfl (lv_at hl 3 rfl) ?_
        refine lv_iadd S.1 S.2.1 dX8_isBehind_18 ?_
        refine lv_istore (lv' := [(4, .int ((300 * v1) + v3)), (0, .ref v0), (1, .int v1), (2, .int v2), (3, .int v3)]) S.1 S.2.1 dX8_isBehind_19 hl (by decide) rfl (fun ls hl => ?_)
        refine lv_aload_n S.1 S.2.1 dX8_isBehind_21 rfl (lv_at hl 1 rfl) ?_
        obtain ⟨x5, h6, h⟩ := xb h
        refine xr_getr S w 9 xi_X8_isBehind_X8 rfl 24 (by decide) xl_X8_isBehind_73 h6 dX8_isBehind_22 ?_
        refine lv_iload S.1 S.2.1 dX8_isBehind_25 (lv_at hl 0 rfl) ?_
        obtain ⟨x7, h8, h⟩ := xb h
        refine xr_iald S w h8 dX8_isBehind_27 ?_
        refine lv_iload_n S.1 S.2.1 dX8_isBehind_28 rfl (lv_at hl 3 rfl) ?_
        refine lv_icmp_ne (tgt := 50) S.1 S.2.1 dX8_isBehind_29 (by decide) (fun c29 => ?_) (fun c29 => ?_)
        · rw [if_neg c29] at h
          refine lv_iinc (v := (v3 + 1)) (lv' := [(3, .int (v3 + 1)), (4, .int ((300 * v1) + v3)), (0, .ref v0), (1, .int v1), (2, .int v2)]) S.1 S.2.1 dX8_isBehind_50 hl (k := 4) rfl rfl (by decide) rfl (fun ls hl => ?_)
          refine lv_goto (tgt := 2) S.1 S.2.1 dX8_isBehind_53 (by decide) ?_
          exact ih v0 v1 v2 (v3 + 1) h _ _ _ w (lv_sub hl [2, 3, 4, 0] rfl)
        · rw [if_pos c29] at h
          refine lv_aload_n S.1 S.2.1 dX8_isBehind_32 rfl (lv_at hl 1 rfl) ?_
          obtain ⟨x9, h10, h⟩ := xb h
          refine xr_getr S w 9 xi_X8_isBehind_X8 rfl 25 (by decide) xl_X8_isBehind_76 h10 dX8_isBehind_33 ?_
          refine lv_iload S.1 S.2.1 dX8_isBehind_36 (lv_at hl 0 rfl) ?_
          obtain ⟨x11, h12, h⟩ := xb h
          refine xr_iald S w h12 dX8_isBehind_38 ?_
          refine lv_aload_n S.1 S.2.1 dX8_isBehind_39 rfl (lv_at hl 1 rfl) ?_
          obtain ⟨x13, h14, h⟩ := xb h
          refine xr_getr S w 9 xi_X8_isBehind_X8 rfl 4 (by decide) xl_X8_isBehind_20 h14 dX8_isBehind_40 ?_
          refine lv_iload_n S.1 S.2.1 dX8_isBehind_43 rfl (lv_at hl 3 rfl) ?_
          obtain ⟨x15, h16, h⟩ := xb h
          refine xr_iald S w h16 dX8_isBehind_44 ?_
          refine lv_icmp_le (tgt := 50) S.1 S.2.1 dX8_isBehind_45 (by decide) (fun c45 => ?_) (fun c45 => ?_)
          · rw [if_pos c45] at h
            refine lv_iinc (v := (v3 + 1)) (lv' := [(3, .int (v3 + 1)), (4, .int ((300 * v1) + v3)), (0, .ref v0), (1, .int v1), (2, .int v2)]) S.1 S.2.1 dX8_isBehind_50 hl (k := 4) rfl rfl (by decide) rfl (fun ls hl => ?_)
            refine lv_goto (tgt := 2) S.1 S.2.1 dX8_isBehind_53 (by decide) ?_
            exact ih v0 v1 v2 (v3 + 1) h _ _ _ w (lv_sub hl [2, 3, 4, 0] rfl)
          · rw [if_neg c45] at h
            refine lv_iconst (v := 1) S.1 S.2.1 dX8_isBehind_48 (by decide) ?_
            exact ret _ _ _ _ 1 1 _ (by decide) (congrArg (fun z => some (z, g)) ((Option.some.inj h).trans hrr)) w dX8_isBehind_49
  rw [f_X8_isBehind] at h
  refine lv_iconst (v := 0) S.1 S.2.1 dX8_isBehind_0 (by decide) ?_
  refine lv_istore_n (lv' := [(3, .int 0), (0, .ref a0), (1, .int a1), (2, .int a2)]) S.1 S.2.1 dX8_isBehind_1 rfl hl (by decide) rfl (fun ls hl => ?_)
  exact hb2 xFU a0 a1 a2 0 h _ _ _ w (lv_sub hl [1, 2, 3, 0] rfl)
theorem xi_X8_put_X8 : ∀ w ∈ wsX80, w ∈ wsX8_put := by decide +kernel
theorem xl_X8_put_89 : Cond.fieldLink RX8 89 (TX8 30).1 (TX8 30).2.1 (TX8 30).2.2.1 ∈ wsX8_put := by decide +kernel
theorem xl_X8_put_114 : Cond.fieldLink RX8 114 (TX8 28).1 (TX8 28).2.1 (TX8 28).2.2.1 ∈ wsX8_put := by decide +kernel
theorem xl_X8_put_85 : Cond.fieldLink RX8 85 (TX8 29).1 (TX8 29).2.1 (TX8 29).2.2.1 ∈ wsX8_put := by decide +kernel
def f_X8_put_5 : Nat → xG → Nat → Int64 → Int32 → Option xG
  | 0, _, _, _, _ => none
  | n9 + 1, g, v0, v1, v4 =>
  if v4 < 0 then
    some g
  else
    (xg_r g 9 v0 30).bind fun x1 =>
    (xg_i g 9 v0 28).bind fun x3 =>
    (xg_r g 9 v0 29).bind fun x5 =>
    (xg_i g 9 v0 28).bind fun x7 =>
    (xa_i 1 g x5 x7).bind fun x9 =>
    (xs_i 0 g x1 ((940 * x3) + x9) (Int8.toInt32 (Int32.toInt8 (Int64.toInt32 (xlshr v1 (8 * v4)))))).bind fun g11 =>
    (xg_r g11 9 v0 29).bind fun x13 =>
    (xg_i g11 9 v0 28).bind fun x15 =>
    (xa_i 1 g11 x13 x15).bind fun x17 =>
    (xs_i 1 g11 x13 x15 (x17 + 1)).bind fun g19 =>
    f_X8_put_5 n9 g19 v0 v1 (v4 + (-1))
def f_X8_put (g : xG) (a0 : Nat) (a1 : Int64) (a2 : Int32) : Option xG :=
  f_X8_put_5 xFU g a0 a1 (a2 - 1)
set_option maxHeartbeats 4000000 in
set_option maxRecDepth 100000 in
theorem c_X8_put (l : Launch) (D : va_G) (cy : Nat → ClassId) (L : List Nat) (g : xG) (a0 : Nat) (a1 : Int64) (a2 : Int32) {g1 : xG} (h : f_X8_put g a0 a1 a2 = some g1) : xMv l yX8_put wsX8_put ({ frames := 0, cells := 0, slots := 0, locals := 0 }) D cy L g [.ref a0, .long a1, .int a2] g1 := by
  refine xm_v (cc := cX8_put) (maxL := 5) RX8 rfl rfl rfl (by decide +kernel) rfl (Nat.le_of_ble_eq_true rfl) ?_
  intro p e s m args below meth c Q A S w hA hN ret ls hl
  have hl : lv_has ls 5 [(0, .ref a0), (1, .long a1), (3, .int a2)] := hl
  obtain ⟨rr, hrr⟩ : ∃ z, z = g1 := ⟨_, rfl⟩
  rw [← hrr] at h
  have hb5 : ∀ (n9 : Nat), ∀ (g : xG) (v0 : Nat) (v1 : Int64) (v4 : Int32) , f_X8_put_5 n9 g v0 v1 v4 = some rr → ∀ (H : Heap) (locs : List Loc) (ls : Array Slot), xOK D cy A s.heap s L g H locs → lv_has ls 5 [(0, .ref v0), (1, .long v1), (4, .int v4)] → W p l e { frames := 0, cells := 0, slots := 0, locals := 0 } s m args below meth c H locs 0 0 Q (F0 m 5 ls []) := by
    intro n9
    induction n9 with
    | zero => intro g v0 v1 v4 h; cases h
    | succ n9 ih =>
      intro g v0 v1 v4 h H locs ls w hl
      rw [f_X8_put_5] at h
      refine lv_iload S.1 S.2.1 dX8_put_5 (lv_at hl 2 rfl) ?_
      refine lv_if_lt (tgt := 61) S.1 S.2.1 dX8_put_7 (by decide) (fun c7 => ?_) (fun c7 => ?_)
      · rw [if_pos c7] at h
        exact ret _ _ _ _ _ (h.trans (congrArg some hrr)) w dX8_put_61
      · rw [if_neg c7] at h
        refine lv_aload_n S.1 S.2.1 dX8_put_10 rfl (lv_at hl 0 rfl) ?_
        obtain ⟨x1, h2, h⟩ := xb h
        refine xr_getr S w 9 xi_X8_put_X8 rfl 30 (by decide) xl_X8_put_89 h2 dX8_put_11 ?_
        refine lv_sipush (v := 940) S.1 S.2.1 dX8_put_14 (by decide) ?_
        refine lv_aload_n S.1 S.2.1 dX8_put_17 rfl (lv_at hl 0 rfl) ?_
        obtain ⟨x3, h4, h⟩ := xb h
        refine xr_geti S w 9 xi_X8_put_X8 rfl 28 (by decide) xl_X8_put_114 h4 dX8_put_18 ?_
        refine lv_imul S.1 S.2.1 dX8_put_21 ?_
        refine lv_aload_n S.1 S.2.1 dX8_put_22 rfl (lv_at hl 0 rfl) ?_
        obtain ⟨x5, h6, h⟩ := xb h
        refine xr_getr S w 9 xi_X8_put_X8 rfl 29 (by decide) xl_X8_put_85 h6 dX8_put_23 ?_
        refine lv_aload_n S.1 S.2.1 dX8_put_26 rfl (lv_at hl 0 rfl) ?_
        obtain ⟨x7, h8, h⟩ := xb h
        refine xr_geti S w 9 xi_X8_put_X8 rfl 28 (by decide) xl_X8_put_114 h8 dX8_put_27 ?_
        obtain ⟨x9, h10, h⟩ := xb h
        refine xr_iald S w h10 dX8_put_30 ?_
        refine lv_iadd S.1 S.2.1 dX8_put_31 ?_
        refine lv_lload_n S.1 S.2.1 dX8_put_32 rfl (lv_at hl 1 rfl) ?_
        refine lv_bipush (v := 8) S.1 S.2.1 dX8_put_33 (by decide) ?_
        refine lv_iload S.1 S.2.1 dX8_put_35 (lv_at hl 2 rfl) ?_
        refine lv_imul S.1 S.2.1 dX8_put_37 ?_
        refine lv_lshr (v := (xlshr v1 (8 * v4))) S.1 S.2.1 dX8_put_38 rfl ?_
        refine lv_l2i (v := (Int64.toInt32 (xlshr v1 (8 * v4)))) S.1 S.2.1 dX8_put_39 rfl ?_
        refine lv_i2b (v := (Int8.toInt32 (Int32.toInt8 (Int64.toInt32 (xlshr v1 (8 * v4)))))) S.1 S.2.1 dX8_put_40 rfl ?_
        obtain ⟨g11, h12, h⟩ := xb h
        refine xr_bast S w h12 dX8_put_41 (fun H locs w => ?_)
        refine lv_aload_n S.1 S.2.1 dX8_put_42 rfl (lv_at hl 0 rfl) ?_
        obtain ⟨x13, h14, h⟩ := xb h
        refine xr_getr S w 9 xi_X8_put_X8 rfl 29 (by decide) xl_X8_put_85 h14 dX8_put_43 ?_
        refine lv_aload_n S.1 S.2.1 dX8_put_46 rfl (lv_at hl 0 rfl) ?_
        obtain ⟨x15, h16, h⟩ := xb h
        refine xr_geti S w 9 xi_X8_put_X8 rfl 28 (by decide) xl_X8_put_114 h16 dX8_put_47 ?_
        refine lv_dup2_11 S.1 S.2.1 dX8_put_50 rfl rfl ?_
        obtain ⟨x17, h18, h⟩ := xb h
        refine xr_iald S w h18 dX8_put_51 ?_
        refine lv_iconst (v := 1) S.1 S.2.1 dX8_put_52 (by decide) ?_
        refine lv_iadd S.1 S.2.1 dX8_put_53 ?_
        obtain ⟨g19, h20, h⟩ := xb h
        refine xr_iast S w h20 dX8_put_54 (fun H locs w => ?_)
        refine lv_iinc (v := (v4 + (-1))) (lv' := [(4, .int (v4 + (-1))), (0, .ref v0), (1, .long v1)]) S.1 S.2.1 dX8_put_55 hl (k := 2) rfl rfl (by decide) rfl (fun ls hl => ?_)
        refine lv_goto (tgt := 5) S.1 S.2.1 dX8_put_58 (by decide) ?_
        exact ih g19 v0 v1 (v4 + (-1)) h _ _ _ w (lv_sub hl [1, 2, 0] rfl)
  rw [f_X8_put] at h
  refine lv_iload_n S.1 S.2.1 dX8_put_0 rfl (lv_at hl 2 rfl) ?_
  refine lv_iconst (v := 1) S.1 S.2.1 dX8_put_1 (by decide) ?_
  refine lv_isub S.1 S.2.1 dX8_put_2 ?_
  refine lv_istore (lv' := [(4, .int (a2 - 1)), (0, .ref a0), (1, .long a1), (3, .int a2)]) S.1 S.2.1 dX8_put_3 hl (by decide) rfl (fun ls hl => ?_)
  exact hb5 xFU g a0 a1 (a2 - 1) h _ _ _ w (lv_sub hl [1, 2, 0] rfl)
theorem xi_X8_beginPiece_X8 : ∀ w ∈ wsX80, w ∈ wsX8_beginPiece := by decide +kernel
theorem xl_X8_beginPiece_180 : Cond.fieldLink RX8 180 (TX8 31).1 (TX8 31).2.1 (TX8 31).2.2.1 ∈ wsX8_beginPiece := by decide +kernel
theorem xl_X8_beginPiece_93 : Cond.fieldLink RX8 93 (TX8 32).1 (TX8 32).2.1 (TX8 32).2.2.1 ∈ wsX8_beginPiece := by decide +kernel
theorem xl_X8_beginPiece_96 : Cond.fieldLink RX8 96 (TX8 33).1 (TX8 33).2.1 (TX8 33).2.2.1 ∈ wsX8_beginPiece := by decide +kernel
theorem xl_X8_beginPiece_99 : Cond.fieldLink RX8 99 (TX8 34).1 (TX8 34).2.1 (TX8 34).2.2.1 ∈ wsX8_beginPiece := by decide +kernel
theorem xl_X8_beginPiece_85 : Cond.fieldLink RX8 85 (TX8 29).1 (TX8 29).2.1 (TX8 29).2.2.1 ∈ wsX8_beginPiece := by decide +kernel
theorem xl_X8_beginPiece_114 : Cond.fieldLink RX8 114 (TX8 28).1 (TX8 28).2.1 (TX8 28).2.2.1 ∈ wsX8_beginPiece := by decide +kernel
def f_X8_beginPiece_36 : Nat → xG → Nat → Int32 → Int32 → Option xG
  | 0, _, _, _, _ => none
  | n9 + 1, g, v0, v2, v3 =>
  (xg_i g 9 v0 31).bind fun x1 =>
  if x1 ≤ v3 then
    (xg_i g 9 v0 31).bind fun x3 =>
    (xg_i g 9 v0 31).bind fun x5 =>
    (xk g 9 v0).bind fun _ =>
    (f_X8_seenHead g v0 x5).bind fun x9 =>
    (f_X8_signature v2 x3 x9).bind fun x11 =>
    (xk g 9 v0).bind fun _ =>
    (f_X8_put g v0 x11 8).bind fun g14 =>
    some g14
  else
    (xg_r g 9 v0 32).bind fun x15 =>
    (xa_i 1 g x15 v3).bind fun x17 =>
    (xk g 9 v0).bind fun _ =>
    (f_X8_put g v0 (Int32.toInt64 x17) 1).bind fun g21 =>
    (xg_r g21 9 v0 33).bind fun x22 =>
    (xa_i 1 g21 x22 v3).bind fun x24 =>
    (xk g21 9 v0).bind fun _ =>
    (f_X8_put g21 v0 (Int32.toInt64 x24) 1).bind fun g28 =>
    (xg_r g28 9 v0 34).bind fun x29 =>
    (xa_i 1 g28 x29 v3).bind fun x31 =>
    (xk g28 9 v0).bind fun _ =>
    (f_X8_put g28 v0 (Int32.toInt64 x31) 4).bind fun g35 =>
    f_X8_beginPiece_36 n9 g35 v0 v2 (v3 + 1)
def f_X8_beginPiece (g : xG) (a0 : Nat) (a1 : Int32) (a2 : Int32) : Option xG :=
  (xg_r g 9 a0 29).bind fun x36 =>
  (xg_i g 9 a0 28).bind fun x38 =>
  (xs_i 1 g x36 x38 0).bind fun g40 =>
  (xk g40 9 a0).bind fun _ =>
  (f_X8_put g40 a0 (Int32.toInt64 a1) 1).bind fun g44 =>
  (xk g44 9 a0).bind fun _ =>
  (f_X8_put g44 a0 (Int32.toInt64 a2) 1).bind fun g47 =>
  (xg_i g47 9 a0 31).bind fun x48 =>
  (xk g47 9 a0).bind fun _ =>
  (f_X8_put g47 a0 (Int32.toInt64 x48) 2).bind fun g52 =>
  f_X8_beginPiece_36 xFU g52 a0 a2 0
set_option maxHeartbeats 4000000 in
set_option maxRecDepth 100000 in
theorem c_X8_beginPiece (l : Launch) (D : va_G) (cy : Nat → ClassId) (L : List Nat) (g : xG) (a0 : Nat) (a1 : Int32) (a2 : Int32) {g1 : xG} (h : f_X8_beginPiece g a0 a1 a2 = some g1) : xMv l yX8_beginPiece wsX8_beginPiece ({ frames := 3, cells := 0, slots := 0, locals := 73 }) D cy L g [.ref a0, .int a1, .int a2] g1 := by
  refine xm_v (cc := cX8_beginPiece) (maxL := 4) RX8 rfl rfl rfl (by decide +kernel) rfl (Nat.le_of_ble_eq_true rfl) ?_
  intro p e s m args below meth c Q A S w hA hN ret ls hl
  have hl : lv_has ls 4 [(0, .ref a0), (1, .int a1), (2, .int a2)] := hl
  obtain ⟨rr, hrr⟩ : ∃ z, z = g1 := ⟨_, rfl⟩
  rw [← hrr] at h
  have hb36 : ∀ (n9 : Nat), ∀ (g : xG) (v0 : Nat) (v2 : Int32) (v3 : Int32) , f_X8_beginPiece_36 n9 g v0 v2 v3 = some rr → ∀ (H : Heap) (locs : List Loc) (ls : Array Slot), xOK D cy A s.heap s L g H locs → lv_has ls 4 [(0, .ref v0), (2, .int v2), (3, .int v3)] → W p l e { frames := 3, cells := 0, slots := 0, locals := 73 } s m args below meth c H locs 0 0 Q (F0 m 36 ls []) := by
    intro n9
    induction n9 with
    | zero => intro g v0 v2 v3 h; cases h
    | succ n9 ih =>
      intro g v0 v2 v3 h H locs ls w hl
      rw [f_X8_beginPiece_36] at h
      refine lv_iload_n S.1 S.2.1 dX8_beginPiece_36 rfl (lv_at hl 2 rfl) ?_
      refine lv_aload_n S.1 S.2.1 dX8_beginPiece_37 rfl (lv_at hl 0 rfl) ?_
      obtain ⟨x1, h2, h⟩ := xb h
      refine xr_geti S w 9 xi_X8_beginPiece_X8 rfl 31 (by decide) xl_X8_beginPiece_180 h2 dX8_beginPiece_38 ?_
      refine lv_icmp_ge (tgt := 86) S.1 S.2.1 dX8_beginPiece_41 (by decide) (fun c41 => ?_) (fun c41 => ?_)
      · rw [if_pos c41] at h
        refine lv_aload_n S.1 S.2.1 dX8_beginPiece_86 rfl (lv_at hl 0 rfl) ?_
        refine lv_iload_n S.1 S.2.1 dX8_beginPiece_87 rfl (lv_at hl 1 rfl) ?_
        refine lv_aload_n S.1 S.2.1 dX8_beginPiece_88 rfl (lv_at hl 0 rfl) ?_
        obtain ⟨x3, h4, h⟩ := xb h
        refine xr_geti S w 9 xi_X8_beginPiece_X8 rfl 31 (by decide) xl_X8_beginPiece_180 h4 dX8_beginPiece_89 ?_
        refine lv_aload_n S.1 S.2.1 dX8_beginPiece_92 rfl (lv_at hl 0 rfl) ?_
        refine lv_aload_n S.1 S.2.1 dX8_beginPiece_93 rfl (lv_at hl 0 rfl) ?_
        obtain ⟨x5, h6, h⟩ := xb h
        refine xr_geti S w 9 xi_X8_beginPiece_X8 rfl 31 (by decide) xl_X8_beginPiece_180 h6 dX8_beginPiece_94 ?_
        obtain ⟨_, h7, h⟩ := xb h
        obtain ⟨x9, h8, h⟩ := xb h
        refine xr_callV_l S w hA hN 9 rfl h7 (c_X8_seenHead l D cy L g v0 x5 h8) (cwV 1 S.2.2.2.2 gX8_beginPiece_X8_seenHead rfl rfl rfl (by decide +kernel) ⟨Nat.le_of_ble_eq_true rfl, Nat.le_of_ble_eq_true rfl⟩) rfl rfl hl.1 (Nat.le_of_ble_eq_true rfl) dX8_beginPiece_97 ⟨Nat.le_of_ble_eq_true rfl, Nat.le_of_ble_eq_true rfl⟩ (fun H locs w => ?_)
        obtain ⟨x11, h10, h⟩ := xb h
        refine xr_callS_l S w hA hN (c_X8_signature l D cy L g v2 x3 x9 h10) (va_cwS 3 S.2.2.2.2 gX8_beginPiece_X8_signature rfl rfl rfl (by decide +kernel) ⟨Nat.le_of_ble_eq_true rfl, Nat.le_of_ble_eq_true rfl⟩) rfl rfl hl.1 (Nat.le_of_ble_eq_true rfl) dX8_beginPiece_100 ⟨Nat.le_of_ble_eq_true rfl, Nat.le_of_ble_eq_true rfl⟩ (fun H locs w => ?_)
        refine lv_bipush (v := 8) S.1 S.2.1 dX8_beginPiece_103 (by decide) ?_
        obtain ⟨_, h12, h⟩ := xb h
        obtain ⟨g14, h13, h⟩ := xb h
        refine xr_callV_v S w hA hN 9 rfl h12 (c_X8_put l D cy L g v0 x11 8 h13) (cwV 2 S.2.2.2.2 gX8_beginPiece_X8_put rfl rfl rfl (by decide +kernel) ⟨Nat.le_of_ble_eq_true rfl, Nat.le_of_ble_eq_true rfl⟩) rfl rfl hl.1 (Nat.le_of_ble_eq_true rfl) dX8_beginPiece_105 ⟨Nat.le_of_ble_eq_true rfl, Nat.le_of_ble_eq_true rfl⟩ (fun H locs w => ?_)
        exact ret _ _ _ _ _ (h.trans (congrArg some hrr)) w dX8_beginPiece_108
      · rw [if_neg c41] at h
        refine lv_aload_n S.1 S.2.1 dX8_beginPiece_44 rfl (lv_at hl 0 rfl) ?_
        refine lv_aload_n S.1 S.2.1 dX8_beginPiece_45 rfl (lv_at hl 0 rfl) ?_
        obtain ⟨x15, h16, h⟩ := xb h
        refine xr_getr S w 9 xi_X8_beginPiece_X8 rfl 32 (by decide) xl_X8_beginPiece_93 h16 dX8_beginPiece_46 ?_
        refine lv_iload_n S.1 S.2.1 dX8_beginPiece_49 rfl (lv_at hl 2 rfl) ?_
        obtain ⟨x17, h18, h⟩ := xb h
        refine xr_iald S w h18 dX8_beginPiece_50 ?_
        refine lv_i2l (v := (Int32.toInt64 x17)) S.1 S.2.1 dX8_beginPiece_51 rfl ?_
        refine lv_iconst (v := 1) S.1 S.2.1 dX8_beginPiece_52 (by decide) ?_
        obtain ⟨_, h19, h⟩ := xb h
        obtain ⟨g21, h20, h⟩ := xb h
        refine xr_callV_v S w hA hN 9 rfl h19 (c_X8_put l D cy L g v0 (Int32.toInt64 x17) 1 h20) (cwV 2 S.2.2.2.2 gX8_beginPiece_X8_put rfl rfl rfl (by decide +kernel) ⟨Nat.le_of_ble_eq_true rfl, Nat.le_of_ble_eq_true rfl⟩) rfl rfl hl.1 (Nat.le_of_ble_eq_true rfl) dX8_beginPiece_53 ⟨Nat.le_of_ble_eq_true rfl, Nat.le_of_ble_eq_true rfl⟩ (fun H locs w => ?_)
        refine lv_aload_n S.1 S.2.1 dX8_beginPiece_56 rfl (lv_at hl 0 rfl) ?_
        refine lv_aload_n S.1 S.2.1 dX8_beginPiece_57 rfl (lv_at hl 0 rfl) ?_
        obtain ⟨x22, h23, h⟩ := xb h
        refine xr_getr S w 9 xi_X8_beginPiece_X8 rfl 33 (by decide) xl_X8_beginPiece_96 h23 dX8_beginPiece_58 ?_
        refine lv_iload_n S.1 S.2.1 dX8_beginPiece_61 rfl (lv_at hl 2 rfl) ?_
        obtain ⟨x24, h25, h⟩ := xb h
        refine xr_iald S w h25 dX8_beginPiece_62 ?_
        refine lv_i2l (v := (Int32.toInt64 x24)) S.1 S.2.1 dX8_beginPiece_63 rfl ?_
        refine lv_iconst (v := 1) S.1 S.2.1 dX8_beginPiece_64 (by decide) ?_
        obtain ⟨_, h26, h⟩ := xb h
        obtain ⟨g28, h27, h⟩ := xb h
        refine xr_callV_v S w hA hN 9 rfl h26 (c_X8_put l D cy L g21 v0 (Int32.toInt64 x24) 1 h27) (cwV 2 S.2.2.2.2 gX8_beginPiece_X8_put rfl rfl rfl (by decide +kernel) ⟨Nat.le_of_ble_eq_true rfl, Nat.le_of_ble_eq_true rfl⟩) rfl rfl hl.1 (Nat.le_of_ble_eq_true rfl) dX8_beginPiece_65 ⟨Nat.le_of_ble_eq_true rfl, Nat.le_of_ble_eq_true rfl⟩ (fun H locs w => ?_)
        refine lv_aload_n S.1 S.2.1 dX8_beginPiece_68 rfl (lv_at hl 0 rfl) ?_
        refine lv_aload_n S.1 S.2.1 dX8_beginPiece_69 rfl (lv_at hl 0 rfl) ?_
        obtain ⟨x29, h30, h⟩ := xb h
        refine xr_getr S w 9 xi_X8_beginPiece_X8 rfl 34 (by decide) xl_X8_beginPiece_99 h30 dX8_beginPiece_70 ?_
        refine lv_iload_n S.1 S.2.1 dX8_beginPiece_73 rfl (lv_at hl 2 rfl) ?_
        obtain ⟨x31, h32, h⟩ := xb h
        refine xr_iald S w h32 dX8_beginPiece_74 ?_
        refine lv_i2l (v := (Int32.toInt64 x31)) S.1 S.2.1 dX8_beginPiece_75 rfl ?_
        refine lv_iconst (v := 4) S.1 S.2.1 dX8_beginPiece_76 (by decide) ?_
        obtain ⟨_, h33, h⟩ := xb h
        obtain ⟨g35, h34, h⟩ := xb h
        refine xr_callV_v S w hA hN 9 rfl h33 (c_X8_put l D cy L g28 v0 (Int32.toInt64 x31) 4 h34) (cwV 2 S.2.2.2.2 gX8_beginPiece_X8_put rfl rfl rfl (by decide +kernel) ⟨Nat.le_of_ble_eq_true rfl, Nat.le_of_ble_eq_true rfl⟩) rfl rfl hl.1 (Nat.le_of_ble_eq_true rfl) dX8_beginPiece_77 ⟨Nat.le_of_ble_eq_true rfl, Nat.le_of_ble_eq_true rfl⟩ (fun H locs w => ?_)
        refine lv_iinc (v := (v3 + 1)) (lv' := [(3, .int (v3 + 1)), (0, .ref v0), (2, .int v2)]) S.1 S.2.1 dX8_beginPiece_80 hl (k := 2) rfl rfl (by decide) rfl (fun ls hl => ?_)
        refine lv_goto (tgt := 36) S.1 S.2.1 dX8_beginPiece_83 (by decide) ?_
        exact ih g35 v0 v2 (v3 + 1) h _ _ _ w (lv_sub hl [1, 2, 0] rfl)
  rw [f_X8_beginPiece] at h
  refine lv_aload_n S.1 S.2.1 dX8_beginPiece_0 rfl (lv_at hl 0 rfl) ?_
  obtain ⟨x36, h37, h⟩ := xb h
  refine xr_getr S w 9 xi_X8_beginPiece_X8 rfl 29 (by decide) xl_X8_beginPiece_85 h37 dX8_beginPiece_1 ?_
  refine lv_aload_n S.1 S.2.1 dX8_beginPiece_4 rfl (lv_at hl 0 rfl) ?_
  obtain ⟨x38, h39, h⟩ := xb h
  refine xr_geti S w 9 xi_X8_beginPiece_X8 rfl 28 (by decide) xl_X8_beginPiece_114 h39 dX8_beginPiece_5 ?_
  refine lv_iconst (v := 0) S.1 S.2.1 dX8_beginPiece_8 (by decide) ?_
  obtain ⟨g40, h41, h⟩ := xb h
  refine xr_iast S w h41 dX8_beginPiece_9 (fun H locs w => ?_)
  refine lv_aload_n S.1 S.2.1 dX8_beginPiece_10 rfl (lv_at hl 0 rfl) ?_
  refine lv_iload_n S.1 S.2.1 dX8_beginPiece_11 rfl (lv_at hl 1 rfl) ?_
  refine lv_i2l (v := (Int32.toInt64 a1)) S.1 S.2.1 dX8_beginPiece_12 rfl ?_
  refine lv_iconst (v := 1) S.1 S.2.1 dX8_beginPiece_13 (by decide) ?_
  obtain ⟨_, h42, h⟩ := xb h
  obtain ⟨g44, h43, h⟩ := xb h
  refine xr_callV_v S w hA hN 9 rfl h42 (c_X8_put l D cy L g40 a0 (Int32.toInt64 a1) 1 h43) (cwV 2 S.2.2.2.2 gX8_beginPiece_X8_put rfl rfl rfl (by decide +kernel) ⟨Nat.le_of_ble_eq_true rfl, Nat.le_of_ble_eq_true rfl⟩) rfl rfl hl.1 (Nat.le_of_ble_eq_true rfl) dX8_beginPiece_14 ⟨Nat.le_of_ble_eq_true rfl, Nat.le_of_ble_eq_true rfl⟩ (fun H locs w => ?_)
  refine lv_aload_n S.1 S.2.1 dX8_beginPiece_17 rfl (lv_at hl 0 rfl) ?_
  refine lv_iload_n S.1 S.2.1 dX8_beginPiece_18 rfl (lv_at hl 2 rfl) ?_
  refine lv_i2l (v := (Int32.toInt64 a2)) S.1 S.2.1 dX8_beginPiece_19 rfl ?_
  refine lv_iconst (v := 1) S.1 S.2.1 dX8_beginPiece_20 (by decide) ?_
  obtain ⟨_, h45, h⟩ := xb h
  obtain ⟨g47, h46, h⟩ := xb h
  refine xr_callV_v S w hA hN 9 rfl h45 (c_X8_put l D cy L g44 a0 (Int32.toInt64 a2) 1 h46) (cwV 2 S.2.2.2.2 gX8_beginPiece_X8_put rfl rfl rfl (by decide +kernel) ⟨Nat.le_of_ble_eq_true rfl, Nat.le_of_ble_eq_true rfl⟩) rfl rfl hl.1 (Nat.le_of_ble_eq_true rfl) dX8_beginPiece_21 ⟨Nat.le_of_ble_eq_true rfl, Nat.le_of_ble_eq_true rfl⟩ (fun H locs w => ?_)
  refine lv_aload_n S.1 S.2.1 dX8_beginPiece_24 rfl (lv_at hl 0 rfl) ?_
  refine lv_aload_n S.1 S.2.1 dX8_beginPiece_25 rfl (lv_at hl 0 rfl) ?_
  obtain ⟨x48, h49, h⟩ := xb h
  refine xr_geti S w 9 xi_X8_beginPiece_X8 rfl 31 (by decide) xl_X8_beginPiece_180 h49 dX8_beginPiece_26 ?_
  refine lv_i2l (v := (Int32.toInt64 x48)) S.1 S.2.1 dX8_beginPiece_29 rfl ?_
  refine lv_iconst (v := 2) S.1 S.2.1 dX8_beginPiece_30 (by decide) ?_
  obtain ⟨_, h50, h⟩ := xb h
  obtain ⟨g52, h51, h⟩ := xb h
  refine xr_callV_v S w hA hN 9 rfl h50 (c_X8_put l D cy L g47 a0 (Int32.toInt64 x48) 2 h51) (cwV 2 S.2.2.2.2 gX8_beginPiece_X8_put rfl rfl rfl (by decide +kernel) ⟨Nat.le_of_ble_eq_true rfl, Nat.le_of_ble_eq_true rfl⟩) rfl rfl hl.1 (Nat.le_of_ble_eq_true rfl) dX8_beginPiece_31 ⟨Nat.le_of_ble_eq_true rfl, Nat.le_of_ble_eq_true rfl⟩ (fun H locs w => ?_)
  refine lv_iconst (v := 0) S.1 S.2.1 dX8_beginPiece_34 (by decide) ?_
  refine lv_istore_n (lv' := [(3, .int 0), (0, .ref a0), (1, .int a1), (2, .int a2)]) S.1 S.2.1 dX8_beginPiece_35 rfl hl (by decide) rfl (fun ls hl => ?_)
  exact hb36 xFU g52 a0 a2 0 h _ _ _ w (lv_sub hl [1, 3, 0] rfl)
theorem xi_X8_said_X8 : ∀ w ∈ wsX80, w ∈ wsX8_said := by decide +kernel
theorem xl_X8_said_36 : Cond.fieldLink RX8 36 (TX8 9).1 (TX8 9).2.1 (TX8 9).2.2.1 ∈ wsX8_said := by decide +kernel
def f_X8_said (g : xG) (a0 : Nat) (a1 : Int32) (a2 : Int32) (a3 : Int32) : Option (Int32 × xG) :=
  (xg_r g 9 a0 9).bind fun x1 =>
  (xs_i 1 g x1 ((6 * a1) + a2) a3).bind fun g3 =>
  some (a3, g3)
set_option maxHeartbeats 4000000 in
set_option maxRecDepth 100000 in
theorem c_X8_said (l : Launch) (D : va_G) (cy : Nat → ClassId) (L : List Nat) (g : xG) (a0 : Nat) (a1 : Int32) (a2 : Int32) (a3 : Int32) {r1 : Int32} {g1 : xG} (h : f_X8_said g a0 a1 a2 a3 = some (r1, g1)) : xMi l yX8_said wsX8_said ({ frames := 0, cells := 0, slots := 0, locals := 0 }) D cy L g [.ref a0, .int a1, .int a2, .int a3] r1 g1 := by
  refine xm_i (cc := cX8_said) (maxL := 4) RX8 rfl rfl rfl (by decide +kernel) rfl (Nat.le_of_ble_eq_true rfl) ?_
  intro p e s m args below meth c Q A S w hA hN ret ls hl
  have hl : lv_has ls 4 [(0, .ref a0), (1, .int a1), (2, .int a2), (3, .int a3)] := hl
  rw [f_X8_said] at h
  refine lv_aload_n S.1 S.2.1 dX8_said_0 rfl (lv_at hl 0 rfl) ?_
  obtain ⟨x1, h2, h⟩ := xb h
  refine xr_getr S w 9 xi_X8_said_X8 rfl 9 (by decide) xl_X8_said_36 h2 dX8_said_1 ?_
  refine lv_bipush (v := 6) S.1 S.2.1 dX8_said_4 (by decide) ?_
  refine lv_iload_n S.1 S.2.1 dX8_said_6 rfl (lv_at hl 1 rfl) ?_
  refine lv_imul S.1 S.2.1 dX8_said_7 ?_
  refine lv_iload_n S.1 S.2.1 dX8_said_8 rfl (lv_at hl 2 rfl) ?_
  refine lv_iadd S.1 S.2.1 dX8_said_9 ?_
  refine lv_iload_n S.1 S.2.1 dX8_said_10 rfl (lv_at hl 3 rfl) ?_
  obtain ⟨g3, h4, h⟩ := xb h
  refine xr_iast S w h4 dX8_said_11 (fun H locs w => ?_)
  refine lv_iload_n S.1 S.2.1 dX8_said_12 rfl (lv_at hl 3 rfl) ?_
  exact ret _ _ _ _ _ _ h w dX8_said_13
theorem xi_X8_audit_X8 : ∀ w ∈ wsX80, w ∈ wsX8_audit := by decide +kernel
theorem xl_X8_audit_102 : Cond.fieldLink RX8 102 (TX8 0).1 (TX8 0).2.1 (TX8 0).2.2.1 ∈ wsX8_audit := by decide +kernel
theorem xl_X8_audit_36 : Cond.fieldLink RX8 36 (TX8 9).1 (TX8 9).2.1 (TX8 9).2.2.1 ∈ wsX8_audit := by decide +kernel
theorem xl_X8_audit_32 : Cond.fieldLink RX8 32 (TX8 8).1 (TX8 8).2.1 (TX8 8).2.2.1 ∈ wsX8_audit := by decide +kernel
theorem xl_X8_audit_20 : Cond.fieldLink RX8 20 (TX8 4).1 (TX8 4).2.1 (TX8 4).2.2.1 ∈ wsX8_audit := by decide +kernel
theorem xl_X8_audit_114 : Cond.fieldLink RX8 114 (TX8 28).1 (TX8 28).2.1 (TX8 28).2.2.1 ∈ wsX8_audit := by decide +kernel
theorem xl_X8_audit_76 : Cond.fieldLink RX8 76 (TX8 25).1 (TX8 25).2.1 (TX8 25).2.2.1 ∈ wsX8_audit := by decide +kernel
theorem xl_X8_audit_79 : Cond.fieldLink RX8 79 (TX8 26).1 (TX8 26).2.1 (TX8 26).2.2.1 ∈ wsX8_audit := by decide +kernel
theorem xl_X8_audit_7 : Cond.fieldLink RX8 7 (TX8 1).1 (TX8 1).2.1 (TX8 1).2.2.1 ∈ wsX8_audit := by decide +kernel
def f_X8_audit_69 (g : xG) (v0 : Nat) (v1 : Int32) (v2 : Int32) (s0 : Nat) (s1 : Int32) : Option (Int32 × xG) :=
  (xp_i g 9 s0 0 s1).bind fun g1 =>
  (xg_i g1 9 v0 0).bind fun x3 =>
  if x3 ≤ 0 then
    (xg_r g1 9 v0 9).bind fun x5 =>
    (xa_i 1 g1 x5 ((6 * v1) + v2)).bind fun x7 =>
    if x7 = 2 then
      some (2, g1)
    else
      (xg_r g1 9 v0 8).bind fun x9 =>
      (xa_i 3 g1 x9 v2).bind fun x11 =>
      if x11 = 0 then
        (xk g1 9 v0).bind fun _ =>
        (f_X8_look g1 v0 v2).bind fun g15 =>
        (xk g15 9 v0).bind fun _ =>
        (f_X8_fork g15 v0 v1 v2).bind fun x18 =>
        (xk g15 9 v0).bind fun _ =>
        (f_X8_firstWrong g15 v0 v2).bind fun x21 =>
        if x18 < 0 then
          if x21 ≤ 0 then
            (xk g15 9 v0).bind fun _ =>
            (f_X8_isBehind g15 v0 v1 v2).bind fun x24 =>
            if x24 = 0 then
              (xg_r g15 9 v0 4).bind fun x25 =>
              (xa_i 1 g15 x25 v2).bind fun x27 =>
              if x27 ≤ 0 then
                (xk g15 9 v0).bind fun _ =>
                x2 (f_X8_said g15 v0 v1 v2 0) fun x31 g32 =>
                some (x31, g32)
              else
                (xg_r g15 9 v0 4).bind fun x33 =>
                (xa_i 1 g15 x33 v2).bind fun x35 =>
                (xg_r g15 9 v0 4).bind fun x37 =>
                (xa_i 1 g15 x37 v2).bind fun x39 =>
                (xk g15 9 v0).bind fun _ =>
                (f_X8_headOf g15 v0 v2 x39).bind fun x43 =>
                (xk g15 9 v0).bind fun _ =>
                x2 (f_X8_keep g15 v0 v1 v2 x35 x43 0) fun x46 g47 =>
                if x46 = 0 then
                  (xk g47 9 v0).bind fun _ =>
                  x2 (f_X8_said g47 v0 v1 v2 0) fun x50 g51 =>
                  some (x50, g51)
                else
                  (xk g47 9 v0).bind fun _ =>
                  x2 (f_X8_said g47 v0 v1 v2 0) fun x54 g55 =>
                  some (x54, g55)
            else
              (xk g15 9 v0).bind fun _ =>
              x2 (f_X8_said g15 v0 v1 v2 1) fun x58 g59 =>
              some (x58, g59)
          else
            (xk g15 9 v0).bind fun _ =>
            (f_X8_beginPiece g15 v0 2 v2).bind fun g62 =>
            (xk g62 9 v0).bind fun _ =>
            (f_X8_put g62 v0 (Int32.toInt64 x21) 2).bind fun g65 =>
            (xg_i g65 9 v0 28).bind fun x66 =>
            (xp_i g65 9 v0 28 (x66 + 1)).bind fun g68 =>
            (xk g68 9 v0).bind fun _ =>
            x2 (f_X8_said g68 v0 v1 v2 2) fun x72 g73 =>
            some (x72, g73)
        else
          (xk g15 9 v0).bind fun _ =>
          (f_X8_beginPiece g15 v0 1 v2).bind fun g76 =>
          (xg_r g76 9 v0 25).bind fun x77 =>
          (xa_i 1 g76 x77 x18).bind fun x79 =>
          (xk g76 9 v0).bind fun _ =>
          (f_X8_put g76 v0 (Int32.toInt64 x79) 2).bind fun g83 =>
          (xg_r g83 9 v0 26).bind fun x84 =>
          (xa_l g83 x84 x18).bind fun x86 =>
          (xk g83 9 v0).bind fun _ =>
          (f_X8_put g83 v0 x86 8).bind fun g90 =>
          (xg_r g90 9 v0 25).bind fun x91 =>
          (xa_i 1 g90 x91 x18).bind fun x93 =>
          (xg_r g90 9 v0 26).bind fun x95 =>
          (xa_l g90 x95 x18).bind fun x97 =>
          (f_X8_signature v2 x93 x97).bind fun x100 =>
          (xk g90 9 v0).bind fun _ =>
          (f_X8_put g90 v0 x100 8).bind fun g103 =>
          (xg_i g103 9 v0 28).bind fun x104 =>
          (xp_i g103 9 v0 28 (x104 + 1)).bind fun g106 =>
          (xk g106 9 v0).bind fun _ =>
          x2 (f_X8_said g106 v0 v1 v2 2) fun x110 g111 =>
          some (x110, g111)
      else
        (xk g1 9 v0).bind fun _ =>
        x2 (f_X8_said g1 v0 v1 v2 1) fun x114 g115 =>
        some (x114, g115)
  else
    some (0, g1)
def f_X8_audit_45 (g : xG) (v0 : Nat) (v1 : Int32) (v2 : Int32) (s0 : Int32) : Option (Int32 × xG) :=
  if s0 = 0 then
    f_X8_audit_69 g v0 v1 v2 v0 1
  else
    (xg_i g 9 v0 28).bind fun x116 =>
    if x116 = 40 then
      f_X8_audit_69 g v0 v1 v2 v0 2
    else
      f_X8_audit_69 g v0 v1 v2 v0 0
def f_X8_audit_44 (g : xG) (v0 : Nat) (v1 : Int32) (v2 : Int32) : Option (Int32 × xG) :=
  f_X8_audit_45 g v0 v1 v2 0
def f_X8_audit_40 (g : xG) (v0 : Nat) (v1 : Int32) (v2 : Int32) : Option (Int32 × xG) :=
  f_X8_audit_45 g v0 v1 v2 1
def f_X8_audit (g : xG) (a0 : Nat) (a1 : Int32) (a2 : Int32) : Option (Int32 × xG) :=
  (xk g 9 a0).bind fun _ =>
  (f_X8_no g a0 a1).bind fun x120 =>
  if x120 = 0 then
    (xk g 9 a0).bind fun _ =>
    (f_X8_no g a0 a2).bind fun x123 =>
    if x123 = 0 then
      (xg_i g 9 a0 1).bind fun x124 =>
      (xnz x124).bind fun _ =>
      if ((a2 + 1) - (a2 + 1) / x124 * x124) = a1 then
        f_X8_audit_40 g a0 a1 a2
      else
        (xg_i g 9 a0 1).bind fun x127 =>
        (xnz x127).bind fun _ =>
        if ((a2 + 2) - (a2 + 2) / x127 * x127) = a1 then
          f_X8_audit_40 g a0 a1 a2
        else
          f_X8_audit_44 g a0 a1 a2
    else
      f_X8_audit_44 g a0 a1 a2
  else
    f_X8_audit_44 g a0 a1 a2
set_option maxHeartbeats 4000000 in
set_option maxRecDepth 100000 in
theorem c_X8_audit (l : Launch) (D : va_G) (cy : Nat → ClassId) (L : List Nat) (g : xG) (a0 : Nat) (a1 : Int32) (a2 : Int32) {r1 : Int32} {g1 : xG} (h : f_X8_audit g a0 a1 a2 = some (r1, g1)) : xMi l yX8_audit wsX8_audit ({ frames := 4, cells := 0, slots := 0, locals := 100 }) D cy L g [.ref a0, .int a1, .int a2] r1 g1 := by
  refine xm_i (cc := cX8_audit) (maxL := 7) RX8 rfl rfl rfl (by decide +kernel) rfl (Nat.le_of_ble_eq_true rfl) ?_
  intro p e s m args below meth c Q A S w hA hN ret ls hl
  have hl : lv_has ls 7 [(0, .ref a0), (1, .int a1), (2, .int a2)] := hl
  obtain ⟨rr, hrr⟩ : ∃ z, z = (r1, g1) := ⟨_, rfl⟩
  rw [← hrr] at h
  have hb69 : ∀ (g : xG) (v0 : Nat) (v1 : Int32) (v2 : Int32) (s0 : Nat) (s1 : Int32) , f_X8_audit_69 g v0 v1 v2 s0 s1 = some rr → ∀ (H : Heap) (locs : List Loc) (ls : Array Slot), xOK D cy A s.heap s L g H locs → lv_has ls 7 [(0, .ref v0), (1, .int v1), (2, .int v2)] → W p l e { frames := 4, cells := 0, slots := 0, locals := 100 } s m args below meth c H locs 0 0 Q (F0 m 69 ls [.int s1, .ref s0]) := by
    intro g v0 v1 v2 s0 s1 h H locs ls w hl
    rw [f_X8_audit_69] at h
    obtain ⟨g1, h2, h⟩ := xb h
    refine xr_puti S w 9 xi_X8_audit_X8 rfl tyX8 tyX8_ok nmX8 0 (by decide) xl_X8_audit_102 rfl (tyX8_ok 0 (by decide)) h2 dX8_audit_69 (fun H locs w => ?_)
    refine lv_aload_n S.1 S.2.1 dX8_audit_72 rfl (lv_at hl 0 rfl) ?_
    obtain ⟨x3, h4, h⟩ := xb h
    refine xr_geti S w 9 xi_X8_audit_X8 rfl 0 (by decide) xl_X8_audit_102 h4 dX8_audit_73 ?_
    refine lv_if_le (tgt := 81) S.1 S.2.1 dX8_audit_76 (by decide) (fun c76 => ?_) (fun c76 => ?_)
    · rw [if_pos c76] at h
      refine lv_aload_n S.1 S.2.1 dX8_audit_81 rfl (lv_at hl 0 rfl) ?_
      obtain ⟨x5, h6, h⟩ := xb h
      refine xr_getr S w 9 xi_X8_audit_X8 rfl 9 (by decide) xl_X8_audit_36 h6 dX8_audit_82 ?_
      refine lv_bipush (v := 6) S.1 S.2.1 dX8_audit_85 (by decide) ?_
      refine lv_iload_n S.1 S.2.1 dX8_audit_87 rfl (lv_at hl 1 rfl) ?_
      refine lv_imul S.1 S.2.1 dX8_audit_88 ?_
      refine lv_iload_n S.1 S.2.1 dX8_audit_89 rfl (lv_at hl 2 rfl) ?_
      refine lv_iadd S.1 S.2.1 dX8_audit_90 ?_
      obtain ⟨x7, h8, h⟩ := xb h
      refine xr_iald S w h8 dX8_audit_91 ?_
      refine lv_iconst (v := 2) S.1 S.2.1 dX8_audit_92 (by decide) ?_
      refine lv_icmp_ne (tgt := 98) S.1 S.2.1 dX8_audit_93 (by decide) (fun c93 => ?_) (fun c93 => ?_)
      · rw [if_neg c93] at h
        refine lv_aload_n S.1 S.2.1 dX8_audit_98 rfl (lv_at hl 0 rfl) ?_
        obtain ⟨x9, h10, h⟩ := xb h
        refine xr_getr S w 9 xi_X8_audit_X8 rfl 8 (by decide) xl_X8_audit_32 h10 dX8_audit_99 ?_
        refine lv_iload_n S.1 S.2.1 dX8_audit_102 rfl (lv_at hl 2 rfl) ?_
        obtain ⟨x11, h12, h⟩ := xb h
        refine xr_zald S w h12 dX8_audit_103 ?_
        refine lv_if_eq (tgt := 115) S.1 S.2.1 dX8_audit_104 (by decide) (fun c104 => ?_) (fun c104 => ?_)
        · rw [if_pos c104] at h
          refine lv_aload_n S.1 S.2.1 dX8_audit_115 rfl (lv_at hl 0 rfl) ?_
          refine lv_iload_n S.1 S.2.1 dX8_audit_116 rfl (lv_at hl 2 rfl) ?_
          obtain ⟨_, h13, h⟩ := xb h
          obtain ⟨g15, h14, h⟩ := xb h
          refine xr_callV_v S w hA hN 9 rfl h13 (c_X8_look l D cy L g1 v0 v2 h14) (cwV 1 S.2.2.2.2 gX8_audit_X8_look rfl rfl rfl (by decide +kernel) ⟨Nat.le_of_ble_eq_true rfl, Nat.le_of_ble_eq_true rfl⟩) rfl rfl hl.1 (Nat.le_of_ble_eq_true rfl) dX8_audit_117 ⟨Nat.le_of_ble_eq_true rfl, Nat.le_of_ble_eq_true rfl⟩ (fun H locs w => ?_)
          refine lv_aload_n S.1 S.2.1 dX8_audit_120 rfl (lv_at hl 0 rfl) ?_
          refine lv_iload_n S.1 S.2.1 dX8_audit_121 rfl (lv_at hl 1 rfl) ?_
          refine lv_iload_n S.1 S.2.1 dX8_audit_122 rfl (lv_at hl 2 rfl) ?_
          obtain ⟨_, h16, h⟩ := xb h
          obtain ⟨x18, h17, h⟩ := xb h
          refine xr_callV_i S w hA hN 9 rfl h16 (c_X8_fork l D cy L g15 v0 v1 v2 h17) (cwV 2 S.2.2.2.2 gX8_audit_X8_fork rfl rfl rfl (by decide +kernel) ⟨Nat.le_of_ble_eq_true rfl, Nat.le_of_ble_eq_true rfl⟩) rfl rfl hl.1 (Nat.le_of_ble_eq_true rfl) dX8_audit_123 ⟨Nat.le_of_ble_eq_true rfl, Nat.le_of_ble_eq_true rfl⟩ (fun H locs w => ?_)
          refine lv_istore (lv' := [(4, .int x18), (0, .ref v0), (1, .int v1), (2, .int v2)]) S.1 S.2.1 dX8_audit_126 hl (by decide) rfl (fun ls hl => ?_)
          refine lv_aload_n S.1 S.2.1 dX8_audit_128 rfl (lv_at hl 1 rfl) ?_
          refine lv_iload_n S.1 S.2.1 dX8_audit_129 rfl (lv_at hl 3 rfl) ?_
          obtain ⟨_, h19, h⟩ := xb h
          obtain ⟨x21, h20, h⟩ := xb h
          refine xr_callV_i S w hA hN 9 rfl h19 (c_X8_firstWrong l D cy L g15 v0 v2 h20) (cwV 1 S.2.2.2.2 gX8_audit_X8_firstWrong rfl rfl rfl (by decide +kernel) ⟨Nat.le_of_ble_eq_true rfl, Nat.le_of_ble_eq_true rfl⟩) rfl rfl hl.1 (Nat.le_of_ble_eq_true rfl) dX8_audit_130 ⟨Nat.le_of_ble_eq_true rfl, Nat.le_of_ble_eq_true rfl⟩ (fun H locs w => ?_)
          refine lv_istore (lv' := [(5, .int x21), (4, .int x18), (0, .ref v0), (1, .int v1), (2, .int v2)]) S.1 S.2.1 dX8_audit_133 hl (by decide) rfl (fun ls hl => ?_)
          refine lv_iload S.1 S.2.1 dX8_audit_135 (lv_at hl 1 rfl) ?_
          refine lv_if_lt (tgt := 214) S.1 S.2.1 dX8_audit_137 (by decide) (fun c137 => ?_) (fun c137 => ?_)
          · rw [if_pos c137] at h
            refine lv_iload S.1 S.2.1 dX8_audit_214 (lv_at hl 0 rfl) ?_
            refine lv_if_le (tgt := 251) S.1 S.2.1 dX8_audit_216 (by decide) (fun c216 => ?_) (fun c216 => ?_)
            · rw [if_pos c216] at h
              refine lv_aload_n S.1 S.2.1 dX8_audit_251 rfl (lv_at hl 2 rfl) ?_
              refine lv_iload_n S.1 S.2.1 dX8_audit_252 rfl (lv_at hl 3 rfl) ?_
              refine lv_iload_n S.1 S.2.1 dX8_audit_253 rfl (lv_at hl 4 rfl) ?_
              obtain ⟨_, h22, h⟩ := xb h
              obtain ⟨x24, h23, h⟩ := xb h
              refine xr_callV_i S w hA hN 9 rfl h22 (c_X8_isBehind l D cy L g15 v0 v1 v2 h23) (cwV 2 S.2.2.2.2 gX8_audit_X8_isBehind rfl rfl rfl (by decide +kernel) ⟨Nat.le_of_ble_eq_true rfl, Nat.le_of_ble_eq_true rfl⟩) rfl rfl hl.1 (Nat.le_of_ble_eq_true rfl) dX8_audit_254 ⟨Nat.le_of_ble_eq_true rfl, Nat.le_of_ble_eq_true rfl⟩ (fun H locs w => ?_)
              refine lv_if_eq (tgt := 268) S.1 S.2.1 dX8_audit_257 (by decide) (fun c257 => ?_) (fun c257 => ?_)
              · rw [if_pos c257] at h
                refine lv_aload_n S.1 S.2.1 dX8_audit_268 rfl (lv_at hl 2 rfl) ?_
                obtain ⟨x25, h26, h⟩ := xb h
                refine xr_getr S w 9 xi_X8_audit_X8 rfl 4 (by decide) xl_X8_audit_20 h26 dX8_audit_269 ?_
                refine lv_iload_n S.1 S.2.1 dX8_audit_272 rfl (lv_at hl 4 rfl) ?_
                obtain ⟨x27, h28, h⟩ := xb h
                refine xr_iald S w h28 dX8_audit_273 ?_
                refine lv_if_le (tgt := 308) S.1 S.2.1 dX8_audit_274 (by decide) (fun c274 => ?_) (fun c274 => ?_)
                · rw [if_pos c274] at h
                  refine lv_iconst (v := 0) S.1 S.2.1 dX8_audit_308 (by decide) ?_
                  refine lv_istore (lv' := [(6, .int 0), (5, .int x21), (4, .int x18), (0, .ref v0), (1, .int v1), (2, .int v2)]) S.1 S.2.1 dX8_audit_309 hl (by decide) rfl (fun ls hl => ?_)
                  refine lv_aload_n S.1 S.2.1 dX8_audit_311 rfl (lv_at hl 3 rfl) ?_
                  refine lv_iload_n S.1 S.2.1 dX8_audit_312 rfl (lv_at hl 4 rfl) ?_
                  refine lv_iload_n S.1 S.2.1 dX8_audit_313 rfl (lv_at hl 5 rfl) ?_
                  refine lv_iconst (v := 0) S.1 S.2.1 dX8_audit_314 (by decide) ?_
                  obtain ⟨_, h29, h⟩ := xb h
                  obtain ⟨x31, g32, h30, h⟩ := x2b h
                  refine xr_callV_i S w hA hN 9 rfl h29 (c_X8_said l D cy L g15 v0 v1 v2 0 h30) (cwV 3 S.2.2.2.2 gX8_audit_X8_said rfl rfl rfl (by decide +kernel) ⟨Nat.le_of_ble_eq_true rfl, Nat.le_of_ble_eq_true rfl⟩) rfl rfl hl.1 (Nat.le_of_ble_eq_true rfl) dX8_audit_315 ⟨Nat.le_of_ble_eq_true rfl, Nat.le_of_ble_eq_true rfl⟩ (fun H locs w => ?_)
                  exact ret _ _ _ _ _ _ (h.trans (congrArg some hrr)) w dX8_audit_318
                · rw [if_neg c274] at h
                  refine lv_aload_n S.1 S.2.1 dX8_audit_277 rfl (lv_at hl 2 rfl) ?_
                  refine lv_iload_n S.1 S.2.1 dX8_audit_278 rfl (lv_at hl 3 rfl) ?_
                  refine lv_iload_n S.1 S.2.1 dX8_audit_279 rfl (lv_at hl 4 rfl) ?_
                  refine lv_aload_n S.1 S.2.1 dX8_audit_280 rfl (lv_at hl 2 rfl) ?_
                  obtain ⟨x33, h34, h⟩ := xb h
                  refine xr_getr S w 9 xi_X8_audit_X8 rfl 4 (by decide) xl_X8_audit_20 h34 dX8_audit_281 ?_
                  refine lv_iload_n S.1 S.2.1 dX8_audit_284 rfl (lv_at hl 4 rfl) ?_
                  obtain ⟨x35, h36, h⟩ := xb h
                  refine xr_iald S w h36 dX8_audit_285 ?_
                  refine lv_aload_n S.1 S.2.1 dX8_audit_286 rfl (lv_at hl 2 rfl) ?_
                  refine lv_iload_n S.1 S.2.1 dX8_audit_287 rfl (lv_at hl 4 rfl) ?_
                  refine lv_aload_n S.1 S.2.1 dX8_audit_288 rfl (lv_at hl 2 rfl) ?_
                  obtain ⟨x37, h38, h⟩ := xb h
                  refine xr_getr S w 9 xi_X8_audit_X8 rfl 4 (by decide) xl_X8_audit_20 h38 dX8_audit_289 ?_
                  refine lv_iload_n S.1 S.2.1 dX8_audit_292 rfl (lv_at hl 4 rfl) ?_
                  obtain ⟨x39, h40, h⟩ := xb h
                  refine xr_iald S w h40 dX8_audit_293 ?_
                  obtain ⟨_, h41, h⟩ := xb h
                  obtain ⟨x43, h42, h⟩ := xb h
                  refine xr_callV_l S w hA hN 9 rfl h41 (c_X8_headOf l D cy L g15 v0 v2 x39 h42) (cwV 2 S.2.2.2.2 gX8_audit_X8_headOf rfl rfl rfl (by decide +kernel) ⟨Nat.le_of_ble_eq_true rfl, Nat.le_of_ble_eq_true rfl⟩) rfl rfl hl.1 (Nat.le_of_ble_eq_true rfl) dX8_audit_294 ⟨Nat.le_of_ble_eq_true rfl, Nat.le_of_ble_eq_true rfl⟩ (fun H locs w => ?_)
                  refine lv_iconst (v := 0) S.1 S.2.1 dX8_audit_297 (by decide) ?_
                  obtain ⟨_, h44, h⟩ := xb h
                  obtain ⟨x46, g47, h45, h⟩ := x2b h
                  refine xr_callV_i S w hA hN 9 rfl h44 (c_X8_keep l D cy L g15 v0 v1 v2 x35 x43 0 h45) (cwV 5 S.2.2.2.2 gX8_audit_X8_keep rfl rfl rfl (by decide +kernel) ⟨Nat.le_of_ble_eq_true rfl, Nat.le_of_ble_eq_true rfl⟩) rfl rfl hl.1 (Nat.le_of_ble_eq_true rfl) dX8_audit_298 ⟨Nat.le_of_ble_eq_true rfl, Nat.le_of_ble_eq_true rfl⟩ (fun H locs w => ?_)
                  refine lv_if_eq (tgt := 308) S.1 S.2.1 dX8_audit_301 (by decide) (fun c301 => ?_) (fun c301 => ?_)
                  · rw [if_pos c301] at h
                    refine lv_iconst (v := 0) S.1 S.2.1 dX8_audit_308 (by decide) ?_
                    refine lv_istore (lv' := [(6, .int 0), (5, .int x21), (4, .int x18), (0, .ref v0), (1, .int v1), (2, .int v2)]) S.1 S.2.1 dX8_audit_309 hl (by decide) rfl (fun ls hl => ?_)
                    refine lv_aload_n S.1 S.2.1 dX8_audit_311 rfl (lv_at hl 3 rfl) ?_
                    refine lv_iload_n S.1 S.2.1 dX8_audit_312 rfl (lv_at hl 4 rfl) ?_
                    refine lv_iload_n S.1 S.2.1 dX8_audit_313 rfl (lv_at hl 5 rfl) ?_
                    refine lv_iconst (v := 0) S.1 S.2.1 dX8_audit_314 (by decide) ?_
                    obtain ⟨_, h48, h⟩ := xb h
                    obtain ⟨x50, g51, h49, h⟩ := x2b h
                    refine xr_callV_i S w hA hN 9 rfl h48 (c_X8_said l D cy L g47 v0 v1 v2 0 h49) (cwV 3 S.2.2.2.2 gX8_audit_X8_said rfl rfl rfl (by decide +kernel) ⟨Nat.le_of_ble_eq_true rfl, Nat.le_of_ble_eq_true rfl⟩) rfl rfl hl.1 (Nat.le_of_ble_eq_true rfl) dX8_audit_315 ⟨Nat.le_of_ble_eq_true rfl, Nat.le_of_ble_eq_true rfl⟩ (fun H locs w => ?_)
                    exact ret _ _ _ _ _ _ (h.trans (congrArg some hrr)) w dX8_audit_318
                  · rw [if_neg c301] at h
                    refine lv_iconst (v := 1) S.1 S.2.1 dX8_audit_304 (by decide) ?_
                    refine lv_goto (tgt := 309) S.1 S.2.1 dX8_audit_305 (by decide) ?_
                    refine lv_istore (lv' := [(6, .int 1), (5, .int x21), (4, .int x18), (0, .ref v0), (1, .int v1), (2, .int v2)]) S.1 S.2.1 dX8_audit_309 hl (by decide) rfl (fun ls hl => ?_)
                    refine lv_aload_n S.1 S.2.1 dX8_audit_311 rfl (lv_at hl 3 rfl) ?_
                    refine lv_iload_n S.1 S.2.1 dX8_audit_312 rfl (lv_at hl 4 rfl) ?_
                    refine lv_iload_n S.1 S.2.1 dX8_audit_313 rfl (lv_at hl 5 rfl) ?_
                    refine lv_iconst (v := 0) S.1 S.2.1 dX8_audit_314 (by decide) ?_
                    obtain ⟨_, h52, h⟩ := xb h
                    obtain ⟨x54, g55, h53, h⟩ := x2b h
                    refine xr_callV_i S w hA hN 9 rfl h52 (c_X8_said l D cy L g47 v0 v1 v2 0 h53) (cwV 3 S.2.2.2.2 gX8_audit_X8_said rfl rfl rfl (by decide +kernel) ⟨Nat.le_of_ble_eq_true rfl, Nat.le_of_ble_eq_true rfl⟩) rfl rfl hl.1 (Nat.le_of_ble_eq_true rfl) dX8_audit_315 ⟨Nat.le_of_ble_eq_true rfl, Nat.le_of_ble_eq_true rfl⟩ (fun H locs w => ?_)
                    exact ret _ _ _ _ _ _ (h.trans (congrArg some hrr)) w dX8_audit_318
              · rw [if_neg c257] at h
                refine lv_aload_n S.1 S.2.1 dX8_audit_260 rfl (lv_at hl 2 rfl) ?_
                refine lv_iload_n S.1 S.2.1 dX8_audit_261 rfl (lv_at hl 3 rfl) ?_
                refine lv_iload_n S.1 S.2.1 dX8_audit_262 rfl (lv_at hl 4 rfl) ?_
                refine lv_iconst (v := 1) S.1 S.2.1 dX8_audit_263 (by decide) ?_
                obtain ⟨_, h56, h⟩ := xb h
                obtain ⟨x58, g59, h57, h⟩ := x2b h
                refine xr_callV_i S w hA hN 9 rfl h56 (c_X8_said l D cy L g15 v0 v1 v2 1 h57) (cwV 3 S.2.2.2.2 gX8_audit_X8_said rfl rfl rfl (by decide +kernel) ⟨Nat.le_of_ble_eq_true rfl, Nat.le_of_ble_eq_true rfl⟩) rfl rfl hl.1 (Nat.le_of_ble_eq_true rfl) dX8_audit_264 ⟨Nat.le_of_ble_eq_true rfl, Nat.le_of_ble_eq_true rfl⟩ (fun H locs w => ?_)
                exact ret _ _ _ _ _ _ (h.trans (congrArg some hrr)) w dX8_audit_267
            · rw [if_neg c216] at h
              refine lv_aload_n S.1 S.2.1 dX8_audit_219 rfl (lv_at hl 2 rfl) ?_
              refine lv_iconst (v := 2) S.1 S.2.1 dX8_audit_220 (by decide) ?_
              refine lv_iload_n S.1 S.2.1 dX8_audit_221 rfl (lv_at hl 4 rfl) ?_
              obtain ⟨_, h60, h⟩ := xb h
              obtain ⟨g62, h61, h⟩ := xb h
              refine xr_callV_v S w hA hN 9 rfl h60 (c_X8_beginPiece l D cy L g15 v0 2 v2 h61) (cwV 2 S.2.2.2.2 gX8_audit_X8_beginPiece rfl rfl rfl (by decide +kernel) ⟨Nat.le_of_ble_eq_true rfl, Nat.le_of_ble_eq_true rfl⟩) rfl rfl hl.1 (Nat.le_of_ble_eq_true rfl) dX8_audit_222 ⟨Nat.le_of_ble_eq_true rfl, Nat.le_of_ble_eq_true rfl⟩ (fun H locs w => ?_)
              refine lv_aload_n S.1 S.2.1 dX8_audit_225 rfl (lv_at hl 2 rfl) ?_
              refine lv_iload S.1 S.2.1 dX8_audit_226 (lv_at hl 0 rfl) ?_
              refine lv_i2l (v := (Int32.toInt64 x21)) S.1 S.2.1 dX8_audit_228 rfl ?_
              refine lv_iconst (v := 2) S.1 S.2.1 dX8_audit_229 (by decide) ?_
              obtain ⟨_, h63, h⟩ := xb h
              obtain ⟨g65, h64, h⟩ := xb h
              refine xr_callV_v S w hA hN 9 rfl h63 (c_X8_put l D cy L g62 v0 (Int32.toInt64 x21) 2 h64) (cwV 2 S.2.2.2.2 gX8_audit_X8_put rfl rfl rfl (by decide +kernel) ⟨Nat.le_of_ble_eq_true rfl, Nat.le_of_ble_eq_true rfl⟩) rfl rfl hl.1 (Nat.le_of_ble_eq_true rfl) dX8_audit_230 ⟨Nat.le_of_ble_eq_true rfl, Nat.le_of_ble_eq_true rfl⟩ (fun H locs w => ?_)
              refine lv_aload_n S.1 S.2.1 dX8_audit_233 rfl (lv_at hl 2 rfl) ?_
              refine lv_dup S.1 S.2.1 dX8_audit_234 rfl ?_
              obtain ⟨x66, h67, h⟩ := xb h
              refine xr_geti S w 9 xi_X8_audit_X8 rfl 28 (by decide) xl_X8_audit_114 h67 dX8_audit_235 ?_
              refine lv_iconst (v := 1) S.1 S.2.1 dX8_audit_238 (by decide) ?_
              refine lv_iadd S.1 S.2.1 dX8_audit_239 ?_
              obtain ⟨g68, h69, h⟩ := xb h
              refine xr_puti S w 9 xi_X8_audit_X8 rfl tyX8 tyX8_ok nmX8 28 (by decide) xl_X8_audit_114 rfl (tyX8_ok 28 (by decide)) h69 dX8_audit_240 (fun H locs w => ?_)
              refine lv_aload_n S.1 S.2.1 dX8_audit_243 rfl (lv_at hl 2 rfl) ?_
              refine lv_iload_n S.1 S.2.1 dX8_audit_244 rfl (lv_at hl 3 rfl) ?_
              refine lv_iload_n S.1 S.2.1 dX8_audit_245 rfl (lv_at hl 4 rfl) ?_
              refine lv_iconst (v := 2) S.1 S.2.1 dX8_audit_246 (by decide) ?_
              obtain ⟨_, h70, h⟩ := xb h
              obtain ⟨x72, g73, h71, h⟩ := x2b h
              refine xr_callV_i S w hA hN 9 rfl h70 (c_X8_said l D cy L g68 v0 v1 v2 2 h71) (cwV 3 S.2.2.2.2 gX8_audit_X8_said rfl rfl rfl (by decide +kernel) ⟨Nat.le_of_ble_eq_true rfl, Nat.le_of_ble_eq_true rfl⟩) rfl rfl hl.1 (Nat.le_of_ble_eq_true rfl) dX8_audit_247 ⟨Nat.le_of_ble_eq_true rfl, Nat.le_of_ble_eq_true rfl⟩ (fun H locs w => ?_)
              exact ret _ _ _ _ _ _ (h.trans (congrArg some hrr)) w dX8_audit_250
          · rw [if_neg c137] at h
            refine lv_aload_n S.1 S.2.1 dX8_audit_140 rfl (lv_at hl 2 rfl) ?_
            refine lv_iconst (v := 1) S.1 S.2.1 dX8_audit_141 (by decide) ?_
            refine lv_iload_n S.1 S.2.1 dX8_audit_142 rfl (lv_at hl 4 rfl) ?_
            obtain ⟨_, h74, h⟩ := xb h
            obtain ⟨g76, h75, h⟩ := xb h
            refine xr_callV_v S w hA hN 9 rfl h74 (c_X8_beginPiece l D cy L g15 v0 1 v2 h75) (cwV 2 S.2.2.2.2 gX8_audit_X8_beginPiece rfl rfl rfl (by decide +kernel) ⟨Nat.le_of_ble_eq_true rfl, Nat.le_of_ble_eq_true rfl⟩) rfl rfl hl.1 (Nat.le_of_ble_eq_true rfl) dX8_audit_143 ⟨Nat.le_of_ble_eq_true rfl, Nat.le_of_ble_eq_true rfl⟩ (fun H locs w => ?_)
            refine lv_aload_n S.1 S.2.1 dX8_audit_146 rfl (lv_at hl 2 rfl) ?_
            refine lv_aload_n S.1 S.2.1 dX8_audit_147 rfl (lv_at hl 2 rfl) ?_
            obtain ⟨x77, h78, h⟩ := xb h
            refine xr_getr S w 9 xi_X8_audit_X8 rfl 25 (by decide) xl_X8_audit_76 h78 dX8_audit_148 ?_
            refine lv_iload S.1 S.2.1 dX8_audit_151 (lv_at hl 1 rfl) ?_
            obtain ⟨x79, h80, h⟩ := xb h
            refine xr_iald S w h80 dX8_audit_153 ?_
            refine lv_i2l (v := (Int32.toInt64 x79)) S.1 S.2.1 dX8_audit_154 rfl ?_
            refine lv_iconst (v := 2) S.1 S.2.1 dX8_audit_155 (by decide) ?_
            obtain ⟨_, h81, h⟩ := xb h
            obtain ⟨g83, h82, h⟩ := xb h
            refine xr_callV_v S w hA hN 9 rfl h81 (c_X8_put l D cy L g76 v0 (Int32.toInt64 x79) 2 h82) (cwV 2 S.2.2.2.2 gX8_audit_X8_put rfl rfl rfl (by decide +kernel) ⟨Nat.le_of_ble_eq_true rfl, Nat.le_of_ble_eq_true rfl⟩) rfl rfl hl.1 (Nat.le_of_ble_eq_true rfl) dX8_audit_156 ⟨Nat.le_of_ble_eq_true rfl, Nat.le_of_ble_eq_true rfl⟩ (fun H locs w => ?_)
            refine lv_aload_n S.1 S.2.1 dX8_audit_159 rfl (lv_at hl 2 rfl) ?_
            refine lv_aload_n S.1 S.2.1 dX8_audit_160 rfl (lv_at hl 2 rfl) ?_
            obtain ⟨x84, h85, h⟩ := xb h
            refine xr_getr S w 9 xi_X8_audit_X8 rfl 26 (by decide) xl_X8_audit_79 h85 dX8_audit_161 ?_
            refine lv_iload S.1 S.2.1 dX8_audit_164 (lv_at hl 1 rfl) ?_
            obtain ⟨x86, h87, h⟩ := xb h
            refine xr_lald S w h87 dX8_audit_166 ?_
            refine lv_bipush (v := 8) S.1 S.2.1 dX8_audit_167 (by decide) ?_
            obtain ⟨_, h88, h⟩ := xb h
            obtain ⟨g90, h89, h⟩ := xb h
            refine xr_callV_v S w hA hN 9 rfl h88 (c_X8_put l D cy L g83 v0 x86 8 h89) (cwV 2 S.2.2.2.2 gX8_audit_X8_put rfl rfl rfl (by decide +kernel) ⟨Nat.le_of_ble_eq_true rfl, Nat.le_of_ble_eq_true rfl⟩) rfl rfl hl.1 (Nat.le_of_ble_eq_true rfl) dX8_audit_169 ⟨Nat.le_of_ble_eq_true rfl, Nat.le_of_ble_eq_true rfl⟩ (fun H locs w => ?_)
            refine lv_aload_n S.1 S.2.1 dX8_audit_172 rfl (lv_at hl 2 rfl) ?_
            refine lv_iload_n S.1 S.2.1 dX8_audit_173 rfl (lv_at hl 4 rfl) ?_
            refine lv_aload_n S.1 S.2.1 dX8_audit_174 rfl (lv_at hl 2 rfl) ?_
            obtain ⟨x91, h92, h⟩ := xb h
            refine xr_getr S w 9 xi_X8_audit_X8 rfl 25 (by decide) xl_X8_audit_76 h92 dX8_audit_175 ?_
            refine lv_iload S.1 S.2.1 dX8_audit_178 (lv_at hl 1 rfl) ?_
            obtain ⟨x93, h94, h⟩ := xb h
            refine xr_iald S w h94 dX8_audit_180 ?_
            refine lv_aload_n S.1 S.2.1 dX8_audit_181 rfl (lv_at hl 2 rfl) ?_
            obtain ⟨x95, h96, h⟩ := xb h
            refine xr_getr S w 9 xi_X8_audit_X8 rfl 26 (by decide) xl_X8_audit_79 h96 dX8_audit_182 ?_
            refine lv_iload S.1 S.2.1 dX8_audit_185 (lv_at hl 1 rfl) ?_
            obtain ⟨x97, h98, h⟩ := xb h
            refine xr_lald S w h98 dX8_audit_187 ?_
            obtain ⟨x100, h99, h⟩ := xb h
            refine xr_callS_l S w hA hN (c_X8_signature l D cy L g90 v2 x93 x97 h99) (va_cwS 3 S.2.2.2.2 gX8_audit_X8_signature rfl rfl rfl (by decide +kernel) ⟨Nat.le_of_ble_eq_true rfl, Nat.le_of_ble_eq_true rfl⟩) rfl rfl hl.1 (Nat.le_of_ble_eq_true rfl) dX8_audit_188 ⟨Nat.le_of_ble_eq_true rfl, Nat.le_of_ble_eq_true rfl⟩ (fun H locs w => ?_)
            refine lv_bipush (v := 8) S.1 S.2.1 dX8_audit_191 (by decide) ?_
            obtain ⟨_, h101, h⟩ := xb h
            obtain ⟨g103, h102, h⟩ := xb h
            refine xr_callV_v S w hA hN 9 rfl h101 (c_X8_put l D cy L g90 v0 x100 8 h102) (cwV 2 S.2.2.2.2 gX8_audit_X8_put rfl rfl rfl (by decide +kernel) ⟨Nat.le_of_ble_eq_true rfl, Nat.le_of_ble_eq_true rfl⟩) rfl rfl hl.1 (Nat.le_of_ble_eq_true rfl) dX8_audit_193 ⟨Nat.le_of_ble_eq_true rfl, Nat.le_of_ble_eq_true rfl⟩ (fun H locs w => ?_)
            refine lv_aload_n S.1 S.2.1 dX8_audit_196 rfl (lv_at hl 2 rfl) ?_
            refine lv_dup S.1 S.2.1 dX8_audit_197 rfl ?_
            obtain ⟨x104, h105, h⟩ := xb h
            refine xr_geti S w 9 xi_X8_audit_X8 rfl 28 (by decide) xl_X8_audit_114 h105 dX8_audit_198 ?_
            refine lv_iconst (v := 1) S.1 S.2.1 dX8_audit_201 (by decide) ?_
            refine lv_iadd S.1 S.2.1 dX8_audit_202 ?_
            obtain ⟨g106, h107, h⟩ := xb h
            refine xr_puti S w 9 xi_X8_audit_X8 rfl tyX8 tyX8_ok nmX8 28 (by decide) xl_X8_audit_114 rfl (tyX8_ok 28 (by decide)) h107 dX8_audit_203 (fun H locs w => ?_)
            refine lv_aload_n S.1 S.2.1 dX8_audit_206 rfl (lv_at hl 2 rfl) ?_
            refine lv_iload_n S.1 S.2.1 dX8_audit_207 rfl (lv_at hl 3 rfl) ?_
            refine lv_iload_n S.1 S.2.1 dX8_audit_208 rfl (lv_at hl 4 rfl) ?_
            refine lv_iconst (v := 2) S.1 S.2.1 dX8_audit_209 (by decide) ?_
            obtain ⟨_, h108, h⟩ := xb h
            obtain ⟨x110, g111, h109, h⟩ := x2b h
            refine xr_callV_i S w hA hN 9 rfl h108 (c_X8_said l D cy L g106 v0 v1 v2 2 h109) (cwV 3 S.2.2.2.2 gX8_audit_X8_said rfl rfl rfl (by decide +kernel) ⟨Nat.le_of_ble_eq_true rfl, Nat.le_of_ble_eq_true rfl⟩) rfl rfl hl.1 (Nat.le_of_ble_eq_true rfl) dX8_audit_210 ⟨Nat.le_of_ble_eq_true rfl, Nat.le_of_ble_eq_true rfl⟩ (fun H locs w => ?_)
            exact ret _ _ _ _ _ _ (h.trans (congrArg some hrr)) w dX8_audit_213
        · rw [if_neg c104] at h
          refine lv_aload_n S.1 S.2.1 dX8_audit_107 rfl (lv_at hl 0 rfl) ?_
          refine lv_iload_n S.1 S.2.1 dX8_audit_108 rfl (lv_at hl 1 rfl) ?_
          refine lv_iload_n S.1 S.2.1 dX8_audit_109 rfl (lv_at hl 2 rfl) ?_
          refine lv_iconst (v := 1) S.1 S.2.1 dX8_audit_110 (by decide) ?_
          obtain ⟨_, h112, h⟩ := xb h
          obtain ⟨x114, g115, h113, h⟩ := x2b h
          refine xr_callV_i S w hA hN 9 rfl h112 (c_X8_said l D cy L g1 v0 v1 v2 1 h113) (cwV 3 S.2.2.2.2 gX8_audit_X8_said rfl rfl rfl (by decide +kernel) ⟨Nat.le_of_ble_eq_true rfl, Nat.le_of_ble_eq_true rfl⟩) rfl rfl hl.1 (Nat.le_of_ble_eq_true rfl) dX8_audit_111 ⟨Nat.le_of_ble_eq_true rfl, Nat.le_of_ble_eq_true rfl⟩ (fun H locs w => ?_)
          exact ret _ _ _ _ _ _ (h.trans (congrArg some hrr)) w dX8_audit_114
      · rw [if_pos c93] at h
        refine lv_iconst (v := 2) S.1 S.2.1 dX8_audit_96 (by decide) ?_
        exact ret _ _ _ _ _ _ (h.trans (congrArg some hrr)) w dX8_audit_97
    · rw [if_neg c76] at h
      refine lv_iconst (v := 0) S.1 S.2.1 dX8_audit_79 (by decide) ?_
      exact ret _ _ _ _ _ _ (h.trans (congrArg some hrr)) w dX8_audit_80
  have hb45 : ∀ (g : xG) (v0 : Nat) (v1 : Int32) (v2 : Int32) (s0 : Int32) , f_X8_audit_45 g v0 v1 v2 s0 = some rr → ∀ (H : Heap) (locs : List Loc) (ls : Array Slot), xOK D cy A s.heap s L g H locs → lv_has ls 7 [(0, .ref v0), (1, .int v1), (2, .int v2)] → W p l e { frames := 4, cells := 0, slots := 0, locals := 100 } s m args below meth c H locs 0 0 Q (F0 m 45 ls [.int s0]) := by
    intro g v0 v1 v2 s0 h H locs ls w hl
    rw [f_X8_audit_45] at h
    refine lv_istore_n (lv' := [(3, .int s0), (0, .ref v0), (1, .int v1), (2, .int v2)]) S.1 S.2.1 dX8_audit_45 rfl hl (by decide) rfl (fun ls hl => ?_)
    refine lv_aload_n S.1 S.2.1 dX8_audit_46 rfl (lv_at hl 1 rfl) ?_
    refine lv_iload_n S.1 S.2.1 dX8_audit_47 rfl (lv_at hl 0 rfl) ?_
    refine lv_if_ne (tgt := 55) S.1 S.2.1 dX8_audit_48 (by decide) (fun c48 => ?_) (fun c48 => ?_)
    · rw [if_neg c48] at h
      refine lv_aload_n S.1 S.2.1 dX8_audit_55 rfl (lv_at hl 1 rfl) ?_
      obtain ⟨x116, h117, h⟩ := xb h
      refine xr_geti S w 9 xi_X8_audit_X8 rfl 28 (by decide) xl_X8_audit_114 h117 dX8_audit_56 ?_
      refine lv_bipush (v := 40) S.1 S.2.1 dX8_audit_59 (by decide) ?_
      refine lv_icmp_ne (tgt := 68) S.1 S.2.1 dX8_audit_61 (by decide) (fun c61 => ?_) (fun c61 => ?_)
      · rw [if_neg c61] at h
        refine lv_iconst (v := 0) S.1 S.2.1 dX8_audit_68 (by decide) ?_
        exact hb69 g v0 v1 v2 v0 0 h _ _ _ w (lv_sub hl [1, 2, 3] rfl)
      · rw [if_pos c61] at h
        refine lv_iconst (v := 2) S.1 S.2.1 dX8_audit_64 (by decide) ?_
        refine lv_goto (tgt := 69) S.1 S.2.1 dX8_audit_65 (by decide) ?_
        exact hb69 g v0 v1 v2 v0 2 h _ _ _ w (lv_sub hl [1, 2, 3] rfl)
    · rw [if_pos c48] at h
      refine lv_iconst (v := 1) S.1 S.2.1 dX8_audit_51 (by decide) ?_
      refine lv_goto (tgt := 69) S.1 S.2.1 dX8_audit_52 (by decide) ?_
      exact hb69 g v0 v1 v2 v0 1 h _ _ _ w (lv_sub hl [1, 2, 3] rfl)
  have hb44 : ∀ (g : xG) (v0 : Nat) (v1 : Int32) (v2 : Int32) , f_X8_audit_44 g v0 v1 v2 = some rr → ∀ (H : Heap) (locs : List Loc) (ls : Array Slot), xOK D cy A s.heap s L g H locs → lv_has ls 7 [(0, .ref v0), (1, .int v1), (2, .int v2)] → W p l e { frames := 4, cells := 0, slots := 0, locals := 100 } s m args below meth c H locs 0 0 Q (F0 m 44 ls []) := by
    intro g v0 v1 v2 h H locs ls w hl
    rw [f_X8_audit_44] at h
    refine lv_iconst (v := 0) S.1 S.2.1 dX8_audit_44 (by decide) ?_
    exact hb45 g v0 v1 v2 0 h _ _ _ w hl
  have hb40 : ∀ (g : xG) (v0 : Nat) (v1 : Int32) (v2 : Int32) , f_X8_audit_40 g v0 v1 v2 = some rr → ∀ (H : Heap) (locs : List Loc) (ls : Array Slot), xOK D cy A s.heap s L g H locs → lv_has ls 7 [(0, .ref v0), (1, .int v1), (2, .int v2)] → W p l e { frames := 4, cells := 0, slots := 0, locals := 100 } s m args below meth c H locs 0 0 Q (F0 m 40 ls []) := by
    intro g v0 v1 v2 h H locs ls w hl
    rw [f_X8_audit_40] at h
    refine lv_iconst (v := 1) S.1 S.2.1 dX8_audit_40 (by decide) ?_
    refine lv_goto (tgt := 45) S.1 S.2.1 dX8_audit_41 (by decide) ?_
    exact hb45 g v0 v1 v2 1 h _ _ _ w hl
  rw [f_X8_audit] at h
  refine lv_aload_n S.1 S.2.1 dX8_audit_0 rfl (lv_at hl 0 rfl) ?_
  refine lv_iload_n S.1 S.2.1 dX8_audit_1 rfl (lv_at hl 1 rfl) ?_
  obtain ⟨_, h118, h⟩ := xb h
  obtain ⟨x120, h119, h⟩ := xb h
  refine xr_callV_i S w hA hN 9 rfl h118 (c_X8_no l D cy L g a0 a1 h119) (cwV 1 S.2.2.2.2 gX8_audit_X8_no rfl rfl rfl (by decide +kernel) ⟨Nat.le_of_ble_eq_true rfl, Nat.le_of_ble_eq_true rfl⟩) rfl rfl hl.1 (Nat.le_of_ble_eq_true rfl) dX8_audit_2 ⟨Nat.le_of_ble_eq_true rfl, Nat.le_of_ble_eq_true rfl⟩ (fun H locs w => ?_)
  refine lv_if_ne (tgt := 44) S.1 S.2.1 dX8_audit_5 (by decide) (fun c5 => ?_) (fun c5 => ?_)
  · rw [if_neg c5] at h
    exact hb44 g a0 a1 a2 h _ _ _ w hl
  · rw [if_pos c5] at h
    refine lv_aload_n S.1 S.2.1 dX8_audit_8 rfl (lv_at hl 0 rfl) ?_
    refine lv_iload_n S.1 S.2.1 dX8_audit_9 rfl (lv_at hl 2 rfl) ?_
    obtain ⟨_, h121, h⟩ := xb h
    obtain ⟨x123, h122, h⟩ := xb h
    refine xr_callV_i S w hA hN 9 rfl h121 (c_X8_no l D cy L g a0 a2 h122) (cwV 1 S.2.2.2.2 gX8_audit_X8_no rfl rfl rfl (by decide +kernel) ⟨Nat.le_of_ble_eq_true rfl, Nat.le_of_ble_eq_true rfl⟩) rfl rfl hl.1 (Nat.le_of_ble_eq_true rfl) dX8_audit_10 ⟨Nat.le_of_ble_eq_true rfl, Nat.le_of_ble_eq_true rfl⟩ (fun H locs w => ?_)
    refine lv_if_ne (tgt := 44) S.1 S.2.1 dX8_audit_13 (by decide) (fun c13 => ?_) (fun c13 => ?_)
    · rw [if_neg c13] at h
      exact hb44 g a0 a1 a2 h _ _ _ w hl
    · rw [if_pos c13] at h
      refine lv_iload_n S.1 S.2.1 dX8_audit_16 rfl (lv_at hl 2 rfl) ?_
      refine lv_iconst (v := 1) S.1 S.2.1 dX8_audit_17 (by decide) ?_
      refine lv_iadd S.1 S.2.1 dX8_audit_18 ?_
      refine lv_aload_n S.1 S.2.1 dX8_audit_19 rfl (lv_at hl 0 rfl) ?_
      obtain ⟨x124, h125, h⟩ := xb h
      refine xr_geti S w 9 xi_X8_audit_X8 rfl 1 (by decide) xl_X8_audit_7 h125 dX8_audit_20 ?_
      obtain ⟨_, h126, h⟩ := xb h
      refine lv_irem S.1 S.2.1 dX8_audit_23 (xnz_ok h126) ?_
      refine lv_iload_n S.1 S.2.1 dX8_audit_24 rfl (lv_at hl 1 rfl) ?_
      refine lv_icmp_eq (tgt := 40) S.1 S.2.1 dX8_audit_25 (by decide) (fun c25 => ?_) (fun c25 => ?_)
      · rw [if_pos c25] at h
        exact hb40 g a0 a1 a2 h _ _ _ w hl
      · rw [if_neg c25] at h
        refine lv_iload_n S.1 S.2.1 dX8_audit_28 rfl (lv_at hl 2 rfl) ?_
        refine lv_iconst (v := 2) S.1 S.2.1 dX8_audit_29 (by decide) ?_
        refine lv_iadd S.1 S.2.1 dX8_audit_30 ?_
        refine lv_aload_n S.1 S.2.1 dX8_audit_31 rfl (lv_at hl 0 rfl) ?_
        obtain ⟨x127, h128, h⟩ := xb h
        refine xr_geti S w 9 xi_X8_audit_X8 rfl 1 (by decide) xl_X8_audit_7 h128 dX8_audit_32 ?_
        obtain ⟨_, h129, h⟩ := xb h
        refine lv_irem S.1 S.2.1 dX8_audit_35 (xnz_ok h129) ?_
        refine lv_iload_n S.1 S.2.1 dX8_audit_36 rfl (lv_at hl 1 rfl) ?_
        refine lv_icmp_ne (tgt := 44) S.1 S.2.1 dX8_audit_37 (by decide) (fun c37 => ?_) (fun c37 => ?_)
        · rw [if_neg c37] at h
          exact hb44 g a0 a1 a2 h _ _ _ w hl
        · rw [if_pos c37] at h
          exact hb40 g a0 a1 a2 h _ _ _ w hl
theorem xi_X8_read_X8 : ∀ w ∈ wsX80, w ∈ wsX8_read := by decide +kernel
theorem xl_X8_read_89 : Cond.fieldLink RX8 89 (TX8 30).1 (TX8 30).2.1 (TX8 30).2.2.1 ∈ wsX8_read := by decide +kernel
def f_X8_read_6 : Nat → xG → Nat → Int32 → Int32 → Int32 → Int64 → Int32 → Option Int64
  | 0, _, _, _, _, _, _, _ => none
  | n9 + 1, g, v0, v1, v2, v3, v4, v6 =>
  if v3 ≤ v6 then
    some v4
  else
    (xg_r g 9 v0 30).bind fun x1 =>
    (xa_i 0 g x1 (((940 * v1) + v2) + v6)).bind fun x3 =>
    f_X8_read_6 n9 g v0 v1 v2 v3 ((xlshl v4 8) ||| (Int32.toInt64 (x3 &&& 255))) (v6 + 1)
def f_X8_read (g : xG) (a0 : Nat) (a1 : Int32) (a2 : Int32) (a3 : Int32) : Option Int64 :=
  f_X8_read_6 xFU g a0 a1 a2 a3 0 0
set_option maxHeartbeats 4000000 in
set_option maxRecDepth 100000 in
theorem c_X8_read (l : Launch) (D : va_G) (cy : Nat → ClassId) (L : List Nat) (g : xG) (a0 : Nat) (a1 : Int32) (a2 : Int32) (a3 : Int32) {r1 : Int64} (h : f_X8_read g a0 a1 a2 a3 = some r1) : xMl l yX8_read wsX8_read ({ frames := 0, cells := 0, slots := 0, locals := 0 }) D cy L g [.ref a0, .int a1, .int a2, .int a3] r1 g := by
  refine xm_l (cc := cX8_read) (maxL := 7) RX8 rfl rfl rfl (by decide +kernel) rfl (Nat.le_of_ble_eq_true rfl) ?_
  intro p e s m args below meth c Q A S w hA hN ret ls hl
  have hl : lv_has ls 7 [(0, .ref a0), (1, .int a1), (2, .int a2), (3, .int a3)] := hl
  obtain ⟨rr, hrr⟩ : ∃ z, z = r1 := ⟨_, rfl⟩
  rw [← hrr] at h
  have hb6 : ∀ (n9 : Nat), ∀ (v0 : Nat) (v1 : Int32) (v2 : Int32) (v3 : Int32) (v4 : Int64) (v6 : Int32) , f_X8_read_6 n9 g v0 v1 v2 v3 v4 v6 = some rr → ∀ (H : Heap) (locs : List Loc) (ls : Array Slot), xOK D cy A s.heap s L g H locs → lv_has ls 7 [(0, .ref v0), (1, .int v1), (2, .int v2), (3, .int v3), (4, .long v4), (6, .int v6)] → W p l e { frames := 0, cells := 0, slots := 0, locals := 0 } s m args below meth c H locs 0 0 Q (F0 m 6 ls []) := by
    intro n9
    induction n9 with
    | zero => intro v0 v1 v2 v3 v4 v6 h; cases h
    | succ n9 ih =>
      intro v0 v1 v2 v3 v4 v6 h H locs ls w hl
      rw [f_X8_read_6] at h
      refine lv_iload S.1 S.2.1 dX8_read_6 (lv_at hl 5 rfl) ?_
      refine lv_iload_n S.1 S.2.1 dX8_read_8 rfl (lv_at hl 3 rfl) ?_
      refine lv_icmp_ge (tgt := 46) S.1 S.2.1 dX8_read_9 (by decide) (fun c9 => ?_) (fun c9 => ?_)
      · rw [if_pos c9] at h
        refine lv_lload S.1 S.2.1 dX8_read_46 (lv_at hl 4 rfl) ?_
        exact ret _ _ _ _ _ _ (congrArg (fun z => some (z, g)) ((Option.some.inj h).trans hrr)) w dX8_read_48
      · rw [if_neg c9] at h
        refine lv_lload S.1 S.2.1 dX8_read_12 (lv_at hl 4 rfl) ?_
        refine lv_bipush (v := 8) S.1 S.2.1 dX8_read_14 (by decide) ?_
        refine lv_lshl (v := (xlshl v4 8)) S.1 S.2.1 dX8_read_16 rfl ?_
        refine lv_aload_n S.1 S.2.1 dX8_read_17 rfl (lv_at hl 0 rfl) ?_
        obtain ⟨x1, h2, h⟩ := xb h
        refine xr_getr S w 9 xi_X8_read_X8 rfl 30 (by decide) xl_X8_read_89 h2 dX8_read_18 ?_
        refine lv_sipush (v := 940) S.1 S.2.1 dX8_read_21 (by decide) ?_
        refine lv_iload_n S.1 S.2.1 dX8_read_24 rfl (lv_at hl 1 rfl) ?_
        refine lv_imul S.1 S.2.1 dX8_read_25 ?_
        refine lv_iload_n S.1 S.2.1 dX8_read_26 rfl (lv_at hl 2 rfl) ?_
        refine lv_iadd S.1 S.2.1 dX8_read_27 ?_
        refine lv_iload S.1 S.2.1 dX8_read_28 (lv_at hl 5 rfl) ?_
        refine lv_iadd S.1 S.2.1 dX8_read_30 ?_
        obtain ⟨x3, h4, h⟩ := xb h
        refine xr_bald S w h4 dX8_read_31 ?_
        refine lv_sipush (v := 255) S.1 S.2.1 dX8_read_32 (by decide) ?_
        refine lv_iand S.1 S.2.1 dX8_read_35 ?_
        refine lv_i2l (v := (Int32.toInt64 (x3 &&& 255))) S.1 S.2.1 dX8_read_36 rfl ?_
        refine lv_lor S.1 S.2.1 dX8_read_37 ?_
        refine lv_lstore (lv' := [(4, .long ((xlshl v4 8) ||| (Int32.toInt64 (x3 &&& 255)))), (0, .ref v0), (1, .int v1), (2, .int v2), (3, .int v3), (6, .int v6)]) S.1 S.2.1 dX8_read_38 hl (by decide) rfl (fun ls hl => ?_)
        refine lv_iinc (v := (v6 + 1)) (lv' := [(6, .int (v6 + 1)), (4, .long ((xlshl v4 8) ||| (Int32.toInt64 (x3 &&& 255)))), (0, .ref v0), (1, .int v1), (2, .int v2), (3, .int v3)]) S.1 S.2.1 dX8_read_40 hl (k := 5) rfl rfl (by decide) rfl (fun ls hl => ?_)
        refine lv_goto (tgt := 6) S.1 S.2.1 dX8_read_43 (by decide) ?_
        exact ih v0 v1 v2 v3 ((xlshl v4 8) ||| (Int32.toInt64 (x3 &&& 255))) (v6 + 1) h _ _ _ w (lv_sub hl [2, 3, 4, 5, 1, 0] rfl)
  rw [f_X8_read] at h
  refine lv_lconst (v := 0) S.1 S.2.1 dX8_read_0 (by decide) ?_
  refine lv_lstore (lv' := [(4, .long 0), (0, .ref a0), (1, .int a1), (2, .int a2), (3, .int a3)]) S.1 S.2.1 dX8_read_1 hl (by decide) rfl (fun ls hl => ?_)
  refine lv_iconst (v := 0) S.1 S.2.1 dX8_read_3 (by decide) ?_
  refine lv_istore (lv' := [(6, .int 0), (4, .long 0), (0, .ref a0), (1, .int a1), (2, .int a2), (3, .int a3)]) S.1 S.2.1 dX8_read_4 hl (by decide) rfl (fun ls hl => ?_)
  exact hb6 xFU a0 a1 a2 a3 0 0 h _ _ _ w (lv_sub hl [2, 3, 4, 5, 1, 0] rfl)
theorem xi_X8_isPiece_X8 : ∀ w ∈ wsX80, w ∈ wsX8_isPiece := by decide +kernel
theorem xl_X8_isPiece_114 : Cond.fieldLink RX8 114 (TX8 28).1 (TX8 28).2.1 (TX8 28).2.2.1 ∈ wsX8_isPiece := by decide +kernel
def f_X8_isPiece (g : xG) (a0 : Nat) (a1 : Int32) : Option Int32 :=
  if a1 < 0 then
    some 0
  else
    (xg_i g 9 a0 28).bind fun x1 =>
    if x1 ≤ a1 then
      some 0
    else
      some 1
set_option maxHeartbeats 4000000 in
set_option maxRecDepth 100000 in
theorem c_X8_isPiece (l : Launch) (D : va_G) (cy : Nat → ClassId) (L : List Nat) (g : xG) (a0 : Nat) (a1 : Int32) {r1 : Int32} (h : f_X8_isPiece g a0 a1 = some r1) : xMi l yX8_isPiece wsX8_isPiece ({ frames := 0, cells := 0, slots := 0, locals := 0 }) D cy L g [.ref a0, .int a1] r1 g := by
  refine xm_z (cc := cX8_isPiece) (maxL := 2) RX8 rfl rfl rfl (by decide +kernel) rfl (Nat.le_of_ble_eq_true rfl) ?_
  intro p e s m args below meth c Q A S w hA hN ret ls hl
  have hl : lv_has ls 2 [(0, .ref a0), (1, .int a1)] := hl
  rw [f_X8_isPiece] at h
  refine lv_iload_n S.1 S.2.1 dX8_isPiece_0 rfl (lv_at hl 1 rfl) ?_
  refine lv_if_lt (tgt := 16) S.1 S.2.1 dX8_isPiece_1 (by decide) (fun c1 => ?_) (fun c1 => ?_)
  · rw [if_pos c1] at h
    refine lv_iconst (v := 0) S.1 S.2.1 dX8_isPiece_16 (by decide) ?_
    exact ret _ _ _ _ 0 0 _ (by decide) (congrArg (fun z => some (z, g)) (Option.some.inj h)) w dX8_isPiece_17
  · rw [if_neg c1] at h
    refine lv_iload_n S.1 S.2.1 dX8_isPiece_4 rfl (lv_at hl 1 rfl) ?_
    refine lv_aload_n S.1 S.2.1 dX8_isPiece_5 rfl (lv_at hl 0 rfl) ?_
    obtain ⟨x1, h2, h⟩ := xb h
    refine xr_geti S w 9 xi_X8_isPiece_X8 rfl 28 (by decide) xl_X8_isPiece_114 h2 dX8_isPiece_6 ?_
    refine lv_icmp_ge (tgt := 16) S.1 S.2.1 dX8_isPiece_9 (by decide) (fun c9 => ?_) (fun c9 => ?_)
    · rw [if_pos c9] at h
      refine lv_iconst (v := 0) S.1 S.2.1 dX8_isPiece_16 (by decide) ?_
      exact ret _ _ _ _ 0 0 _ (by decide) (congrArg (fun z => some (z, g)) (Option.some.inj h)) w dX8_isPiece_17
    · rw [if_neg c9] at h
      refine lv_iconst (v := 1) S.1 S.2.1 dX8_isPiece_12 (by decide) ?_
      refine lv_goto (tgt := 17) S.1 S.2.1 dX8_isPiece_13 (by decide) ?_
      exact ret _ _ _ _ 1 1 _ (by decide) (congrArg (fun z => some (z, g)) (Option.some.inj h)) w dX8_isPiece_17
theorem xi_X8_doesHold_X8 : ∀ w ∈ wsX80, w ∈ wsX8_doesHold := by decide +kernel
theorem xl_X8_doesHold_93 : Cond.fieldLink RX8 93 (TX8 32).1 (TX8 32).2.1 (TX8 32).2.2.1 ∈ wsX8_doesHold := by decide +kernel
theorem xl_X8_doesHold_96 : Cond.fieldLink RX8 96 (TX8 33).1 (TX8 33).2.1 (TX8 33).2.2.1 ∈ wsX8_doesHold := by decide +kernel
theorem xl_X8_doesHold_99 : Cond.fieldLink RX8 99 (TX8 34).1 (TX8 34).2.1 (TX8 34).2.2.1 ∈ wsX8_doesHold := by decide +kernel
theorem xl_X8_doesHold_180 : Cond.fieldLink RX8 180 (TX8 31).1 (TX8 31).2.1 (TX8 31).2.2.1 ∈ wsX8_doesHold := by decide +kernel
theorem xl_X8_doesHold_7 : Cond.fieldLink RX8 7 (TX8 1).1 (TX8 1).2.1 (TX8 1).2.2.1 ∈ wsX8_doesHold := by decide +kernel
theorem xl_X8_doesHold_85 : Cond.fieldLink RX8 85 (TX8 29).1 (TX8 29).2.1 (TX8 29).2.2.1 ∈ wsX8_doesHold := by decide +kernel
def f_X8_doesHold_86 : Nat → xG → Nat → Int32 → Int32 → Int32 → Int32 → Int32 → Option (Int32 × xG)
  | 0, _, _, _, _, _, _, _ => none
  | n9 + 1, g, v0, v1, v2, v3, v4, v5 =>
  if v4 ≤ v5 then
    (xk g 9 v0).bind fun _ =>
    (f_X8_read g v0 v1 (4 + (6 * v4)) 8).bind fun x3 =>
    (xk g 9 v0).bind fun _ =>
    (f_X8_seenHead g v0 v4).bind fun x6 =>
    (f_X8_signature v3 v4 x6).bind fun x8 =>
    if x3 = x8 then
      (xk g 9 v0).bind fun _ =>
      (f_X8_read g v0 v1 ((4 + (6 * v4)) + 8) 2).bind fun x11 =>
      if v2 = 2 then
        (xk g 9 v0).bind fun _ =>
        (f_X8_firstWrong g v0 v3).bind fun x25 =>
        if x25 ≤ 0 then
          some (0, g)
        else
          if (Int64.toInt32 x11) = x25 then
            some (1, g)
          else
            some (0, g)
      else
        (xk g 9 v0).bind fun _ =>
        (f_X8_read g v0 v1 ((4 + (6 * v4)) + 10) 8).bind fun x14 =>
        if (Int64.toInt32 x11) < 1 then
          some (0, g)
        else
          if v4 < (Int64.toInt32 x11) then
            some (0, g)
          else
            (xk g 9 v0).bind fun _ =>
            (f_X8_read g v0 v1 ((4 + (6 * v4)) + 18) 8).bind fun x17 =>
            (f_X8_signature v3 (Int64.toInt32 x11) x14).bind fun x19 =>
            if x17 = x19 then
              (xk g 9 v0).bind fun _ =>
              (f_X8_seenHead g v0 (Int64.toInt32 x11)).bind fun x22 =>
              if x14 = x22 then
                some (0, g)
              else
                some (1, g)
            else
              some (0, g)
    else
      some (0, g)
  else
    (xg_r g 9 v0 32).bind fun x26 =>
    (xk g 9 v0).bind fun _ =>
    (f_X8_read g v0 v1 (4 + (6 * v5)) 1).bind fun x30 =>
    (xs_i 1 g x26 v5 (Int64.toInt32 x30)).bind fun g31 =>
    (xg_r g31 9 v0 33).bind fun x33 =>
    (xk g31 9 v0).bind fun _ =>
    (f_X8_read g31 v0 v1 (5 + (6 * v5)) 1).bind fun x37 =>
    (xs_i 1 g31 x33 v5 (Int64.toInt32 x37)).bind fun g38 =>
    (xg_r g38 9 v0 34).bind fun x40 =>
    (xk g38 9 v0).bind fun _ =>
    (f_X8_read g38 v0 v1 (6 + (6 * v5)) 4).bind fun x44 =>
    (xs_i 1 g38 x40 v5 (Int64.toInt32 x44)).bind fun g45 =>
    (xg_r g45 9 v0 32).bind fun x47 =>
    (xa_i 1 g45 x47 v5).bind fun x49 =>
    if x49 < 1 then
      some (0, g45)
    else
      (xg_r g45 9 v0 32).bind fun x51 =>
      (xa_i 1 g45 x51 v5).bind fun x53 =>
      if x53 ≤ 3 then
        f_X8_doesHold_86 n9 g45 v0 v1 v2 v3 v4 (v5 + 1)
      else
        some (0, g45)
def f_X8_doesHold_71 (g : xG) (v0 : Nat) (v1 : Int32) (v2 : Int32) (v3 : Int32) (v4 : Int32) (s0 : Int32) (s1 : Int32) (s2 : Int32) : Option (Int32 × xG) :=
  if s0 = (s1 + s2) then
    (xp_i g 9 v0 31 v4).bind fun g55 =>
    f_X8_doesHold_86 xFU g55 v0 v1 v2 v3 v4 0
  else
    some (0, g)
def f_X8_doesHold (g : xG) (a0 : Nat) (a1 : Int32) : Option (Int32 × xG) :=
  (xk g 9 a0).bind fun _ =>
  (f_X8_read g a0 a1 0 1).bind fun x59 =>
  (xk g 9 a0).bind fun _ =>
  (f_X8_read g a0 a1 1 1).bind fun x62 =>
  (xk g 9 a0).bind fun _ =>
  (f_X8_read g a0 a1 2 2).bind fun x65 =>
  if (Int64.toInt32 x59) < 1 then
    some (0, g)
  else
    if 2 < (Int64.toInt32 x59) then
      some (0, g)
    else
      (xg_i g 9 a0 1).bind fun x66 =>
      if x66 ≤ (Int64.toInt32 x62) then
        some (0, g)
      else
        (xg_r g 9 a0 29).bind fun x68 =>
        (xa_i 1 g x68 a1).bind fun x70 =>
        if (Int64.toInt32 x59) = 1 then
          f_X8_doesHold_71 g a0 a1 (Int64.toInt32 x59) (Int64.toInt32 x62) (Int64.toInt32 x65) x70 (12 + (6 * (Int64.toInt32 x65))) 18
        else
          f_X8_doesHold_71 g a0 a1 (Int64.toInt32 x59) (Int64.toInt32 x62) (Int64.toInt32 x65) x70 (12 + (6 * (Int64.toInt32 x65))) 2
set_option maxHeartbeats 4000000 in
set_option maxRecDepth 100000 in
theorem c_X8_doesHold (l : Launch) (D : va_G) (cy : Nat → ClassId) (L : List Nat) (g : xG) (a0 : Nat) (a1 : Int32) {r1 : Int32} {g1 : xG} (h : f_X8_doesHold g a0 a1 = some (r1, g1)) : xMi l yX8_doesHold wsX8_doesHold ({ frames := 3, cells := 0, slots := 0, locals := 73 }) D cy L g [.ref a0, .int a1] r1 g1 := by
  refine xm_z (cc := cX8_doesHold) (maxL := 9) RX8 rfl rfl rfl (by decide +kernel) rfl (Nat.le_of_ble_eq_true rfl) ?_
  intro p e s m args below meth c Q A S w hA hN ret ls hl
  have hl : lv_has ls 9 [(0, .ref a0), (1, .int a1)] := hl
  obtain ⟨rr, hrr⟩ : ∃ z, z = (r1, g1) := ⟨_, rfl⟩
  rw [← hrr] at h
  have hb86 : ∀ (n9 : Nat), ∀ (g : xG) (v0 : Nat) (v1 : Int32) (v2 : Int32) (v3 : Int32) (v4 : Int32) (v5 : Int32) , f_X8_doesHold_86 n9 g v0 v1 v2 v3 v4 v5 = some rr → ∀ (H : Heap) (locs : List Loc) (ls : Array Slot), xOK D cy A s.heap s L g H locs → lv_has ls 9 [(0, .ref v0), (1, .int v1), (2, .int v2), (3, .int v3), (4, .int v4), (5, .int v5)] → W p l e { frames := 3, cells := 0, slots := 0, locals := 73 } s m args below meth c H locs 0 0 Q (F0 m 86 ls []) := by
    intro n9
    induction n9 with
    | zero => intro g v0 v1 v2 v3 v4 v5 h; cases h
    | succ n9 ih =>
      intro g v0 v1 v2 v3 v4 v5 h H locs ls w hl
      rw [f_X8_doesHold_86] at h
      refine lv_iload S.1 S.2.1 dX8_doesHold_86 (lv_at hl 5 rfl) ?_
      refine lv_iload S.1 S.2.1 dX8_doesHold_88 (lv_at hl 4 rfl) ?_
      refine lv_icmp_ge (tgt := 187) S.1 S.2.1 dX8_doesHold_90 (by decide) (fun c90 => ?_) (fun c90 => ?_)
      · rw [if_pos c90] at h
        refine lv_iconst (v := 4) S.1 S.2.1 dX8_doesHold_187 (by decide) ?_
        refine lv_bipush (v := 6) S.1 S.2.1 dX8_doesHold_188 (by decide) ?_
        refine lv_iload S.1 S.2.1 dX8_doesHold_190 (lv_at hl 4 rfl) ?_
        refine lv_imul S.1 S.2.1 dX8_doesHold_192 ?_
        refine lv_iadd S.1 S.2.1 dX8_doesHold_193 ?_
        refine lv_istore (lv' := [(5, .int (4 + (6 * v4))), (0, .ref v0), (1, .int v1), (2, .int v2), (3, .int v3), (4, .int v4)]) S.1 S.2.1 dX8_doesHold_194 hl (by decide) rfl (fun ls hl => ?_)
        refine lv_aload_n S.1 S.2.1 dX8_doesHold_196 rfl (lv_at hl 1 rfl) ?_
        refine lv_iload_n S.1 S.2.1 dX8_doesHold_197 rfl (lv_at hl 2 rfl) ?_
        refine lv_iload S.1 S.2.1 dX8_doesHold_198 (lv_at hl 0 rfl) ?_
        refine lv_bipush (v := 8) S.1 S.2.1 dX8_doesHold_200 (by decide) ?_
        obtain ⟨_, h1, h⟩ := xb h
        obtain ⟨x3, h2, h⟩ := xb h
        refine xr_callV_l S w hA hN 9 rfl h1 (c_X8_read l D cy L g v0 v1 (4 + (6 * v4)) 8 h2) (cwV 3 S.2.2.2.2 gX8_doesHold_X8_read rfl rfl rfl (by decide +kernel) ⟨Nat.le_of_ble_eq_true rfl, Nat.le_of_ble_eq_true rfl⟩) rfl rfl hl.1 (Nat.le_of_ble_eq_true rfl) dX8_doesHold_202 ⟨Nat.le_of_ble_eq_true rfl, Nat.le_of_ble_eq_true rfl⟩ (fun H locs w => ?_)
        refine lv_iload_n S.1 S.2.1 dX8_doesHold_205 rfl (lv_at hl 4 rfl) ?_
        refine lv_iload S.1 S.2.1 dX8_doesHold_206 (lv_at hl 5 rfl) ?_
        refine lv_aload_n S.1 S.2.1 dX8_doesHold_208 rfl (lv_at hl 1 rfl) ?_
        refine lv_iload S.1 S.2.1 dX8_doesHold_209 (lv_at hl 5 rfl) ?_
        obtain ⟨_, h4, h⟩ := xb h
        obtain ⟨x6, h5, h⟩ := xb h
        refine xr_callV_l S w hA hN 9 rfl h4 (c_X8_seenHead l D cy L g v0 v4 h5) (cwV 1 S.2.2.2.2 gX8_doesHold_X8_seenHead rfl rfl rfl (by decide +kernel) ⟨Nat.le_of_ble_eq_true rfl, Nat.le_of_ble_eq_true rfl⟩) rfl rfl hl.1 (Nat.le_of_ble_eq_true rfl) dX8_doesHold_211 ⟨Nat.le_of_ble_eq_true rfl, Nat.le_of_ble_eq_true rfl⟩ (fun H locs w => ?_)
        obtain ⟨x8, h7, h⟩ := xb h
        refine xr_callS_l S w hA hN (c_X8_signature l D cy L g v3 v4 x6 h7) (va_cwS 3 S.2.2.2.2 gX8_doesHold_X8_signature rfl rfl rfl (by decide +kernel) ⟨Nat.le_of_ble_eq_true rfl, Nat.le_of_ble_eq_true rfl⟩) rfl rfl hl.1 (Nat.le_of_ble_eq_true rfl) dX8_doesHold_214 ⟨Nat.le_of_ble_eq_true rfl, Nat.le_of_ble_eq_true rfl⟩ (fun H locs w => ?_)
        refine xr_lceq (tgt := 223) S dX8_doesHold_217 dX8_doesHold_218 (by decide) (fun c217 => ?_) (fun c217 => ?_)
        · rw [if_pos c217] at h
          refine lv_aload_n S.1 S.2.1 dX8_doesHold_223 rfl (lv_at hl 1 rfl) ?_
          refine lv_iload_n S.1 S.2.1 dX8_doesHold_224 rfl (lv_at hl 2 rfl) ?_
          refine lv_iload S.1 S.2.1 dX8_doesHold_225 (lv_at hl 0 rfl) ?_
          refine lv_bipush (v := 8) S.1 S.2.1 dX8_doesHold_227 (by decide) ?_
          refine lv_iadd S.1 S.2.1 dX8_doesHold_229 ?_
          refine lv_iconst (v := 2) S.1 S.2.1 dX8_doesHold_230 (by decide) ?_
          obtain ⟨_, h9, h⟩ := xb h
          obtain ⟨x11, h10, h⟩ := xb h
          refine xr_callV_l S w hA hN 9 rfl h9 (c_X8_read l D cy L g v0 v1 ((4 + (6 * v4)) + 8) 2 h10) (cwV 3 S.2.2.2.2 gX8_doesHold_X8_read rfl rfl rfl (by decide +kernel) ⟨Nat.le_of_ble_eq_true rfl, Nat.le_of_ble_eq_true rfl⟩) rfl rfl hl.1 (Nat.le_of_ble_eq_true rfl) dX8_doesHold_231 ⟨Nat.le_of_ble_eq_true rfl, Nat.le_of_ble_eq_true rfl⟩ (fun H locs w => ?_)
          refine lv_l2i (v := (Int64.toInt32 x11)) S.1 S.2.1 dX8_doesHold_234 rfl ?_
          refine lv_istore (lv' := [(6, .int (Int64.toInt32 x11)), (5, .int (4 + (6 * v4))), (0, .ref v0), (1, .int v1), (2, .int v2), (3, .int v3), (4, .int v4)]) S.1 S.2.1 dX8_doesHold_235 hl (by decide) rfl (fun ls hl => ?_)
          refine lv_iload_n S.1 S.2.1 dX8_doesHold_237 rfl (lv_at hl 4 rfl) ?_
          refine lv_iconst (v := 2) S.1 S.2.1 dX8_doesHold_238 (by decide) ?_
          refine lv_icmp_ne (tgt := 267) S.1 S.2.1 dX8_doesHold_239 (by decide) (fun c239 => ?_) (fun c239 => ?_)
          · rw [if_neg c239] at h
            refine lv_aload_n S.1 S.2.1 dX8_doesHold_267 rfl (lv_at hl 2 rfl) ?_
            refine lv_iload_n S.1 S.2.1 dX8_doesHold_268 rfl (lv_at hl 3 rfl) ?_
            refine lv_iload S.1 S.2.1 dX8_doesHold_269 (lv_at hl 1 rfl) ?_
            refine lv_bipush (v := 10) S.1 S.2.1 dX8_doesHold_271 (by decide) ?_
            refine lv_iadd S.1 S.2.1 dX8_doesHold_273 ?_
            refine lv_bipush (v := 8) S.1 S.2.1 dX8_doesHold_274 (by decide) ?_
            obtain ⟨_, h12, h⟩ := xb h
            obtain ⟨x14, h13, h⟩ := xb h
            refine xr_callV_l S w hA hN 9 rfl h12 (c_X8_read l D cy L g v0 v1 ((4 + (6 * v4)) + 10) 8 h13) (cwV 3 S.2.2.2.2 gX8_doesHold_X8_read rfl rfl rfl (by decide +kernel) ⟨Nat.le_of_ble_eq_true rfl, Nat.le_of_ble_eq_true rfl⟩) rfl rfl hl.1 (Nat.le_of_ble_eq_true rfl) dX8_doesHold_276 ⟨Nat.le_of_ble_eq_true rfl, Nat.le_of_ble_eq_true rfl⟩ (fun H locs w => ?_)
            refine lv_lstore (lv' := [(7, .long x14), (6, .int (Int64.toInt32 x11)), (5, .int (4 + (6 * v4))), (0, .ref v0), (1, .int v1), (2, .int v2), (3, .int v3), (4, .int v4)]) S.1 S.2.1 dX8_doesHold_279 hl (by decide) rfl (fun ls hl => ?_)
            refine lv_iload S.1 S.2.1 dX8_doesHold_281 (lv_at hl 1 rfl) ?_
            refine lv_iconst (v := 1) S.1 S.2.1 dX8_doesHold_283 (by decide) ?_
            refine lv_icmp_lt (tgt := 334) S.1 S.2.1 dX8_doesHold_284 (by decide) (fun c284 => ?_) (fun c284 => ?_)
            · rw [if_pos c284] at h
              refine lv_iconst (v := 0) S.1 S.2.1 dX8_doesHold_334 (by decide) ?_
              exact ret _ _ _ _ 0 0 _ (by decide) (h.trans (congrArg some hrr)) w dX8_doesHold_335
            · rw [if_neg c284] at h
              refine lv_iload S.1 S.2.1 dX8_doesHold_287 (lv_at hl 1 rfl) ?_
              refine lv_iload S.1 S.2.1 dX8_doesHold_289 (lv_at hl 7 rfl) ?_
              refine lv_icmp_gt (tgt := 334) S.1 S.2.1 dX8_doesHold_291 (by decide) (fun c291 => ?_) (fun c291 => ?_)
              · rw [if_pos c291] at h
                refine lv_iconst (v := 0) S.1 S.2.1 dX8_doesHold_334 (by decide) ?_
                exact ret _ _ _ _ 0 0 _ (by decide) (h.trans (congrArg some hrr)) w dX8_doesHold_335
              · rw [if_neg c291] at h
                refine lv_aload_n S.1 S.2.1 dX8_doesHold_294 rfl (lv_at hl 3 rfl) ?_
                refine lv_iload_n S.1 S.2.1 dX8_doesHold_295 rfl (lv_at hl 4 rfl) ?_
                refine lv_iload S.1 S.2.1 dX8_doesHold_296 (lv_at hl 2 rfl) ?_
                refine lv_bipush (v := 18) S.1 S.2.1 dX8_doesHold_298 (by decide) ?_
                refine lv_iadd S.1 S.2.1 dX8_doesHold_300 ?_
                refine lv_bipush (v := 8) S.1 S.2.1 dX8_doesHold_301 (by decide) ?_
                obtain ⟨_, h15, h⟩ := xb h
                obtain ⟨x17, h16, h⟩ := xb h
                refine xr_callV_l S w hA hN 9 rfl h15 (c_X8_read l D cy L g v0 v1 ((4 + (6 * v4)) + 18) 8 h16) (cwV 3 S.2.2.2.2 gX8_doesHold_X8_read rfl rfl rfl (by decide +kernel) ⟨Nat.le_of_ble_eq_true rfl, Nat.le_of_ble_eq_true rfl⟩) rfl rfl hl.1 (Nat.le_of_ble_eq_true rfl) dX8_doesHold_303 ⟨Nat.le_of_ble_eq_true rfl, Nat.le_of_ble_eq_true rfl⟩ (fun H locs w => ?_)
                refine lv_iload_n S.1 S.2.1 dX8_doesHold_306 rfl (lv_at hl 6 rfl) ?_
                refine lv_iload S.1 S.2.1 dX8_doesHold_307 (lv_at hl 1 rfl) ?_
                refine lv_lload S.1 S.2.1 dX8_doesHold_309 (lv_at hl 0 rfl) ?_
                obtain ⟨x19, h18, h⟩ := xb h
                refine xr_callS_l S w hA hN (c_X8_signature l D cy L g v3 (Int64.toInt32 x11) x14 h18) (va_cwS 3 S.2.2.2.2 gX8_doesHold_X8_signature rfl rfl rfl (by decide +kernel) ⟨Nat.le_of_ble_eq_true rfl, Nat.le_of_ble_eq_true rfl⟩) rfl rfl hl.1 (Nat.le_of_ble_eq_true rfl) dX8_doesHold_311 ⟨Nat.le_of_ble_eq_true rfl, Nat.le_of_ble_eq_true rfl⟩ (fun H locs w => ?_)
                refine xr_lcne (tgt := 334) S dX8_doesHold_314 dX8_doesHold_315 (by decide) (fun c314 => ?_) (fun c314 => ?_)
                · rw [if_neg c314] at h
                  refine lv_iconst (v := 0) S.1 S.2.1 dX8_doesHold_334 (by decide) ?_
                  exact ret _ _ _ _ 0 0 _ (by decide) (h.trans (congrArg some hrr)) w dX8_doesHold_335
                · rw [if_pos c314] at h
                  refine lv_lload S.1 S.2.1 dX8_doesHold_318 (lv_at hl 0 rfl) ?_
                  refine lv_aload_n S.1 S.2.1 dX8_doesHold_320 rfl (lv_at hl 3 rfl) ?_
                  refine lv_iload S.1 S.2.1 dX8_doesHold_321 (lv_at hl 1 rfl) ?_
                  obtain ⟨_, h20, h⟩ := xb h
                  obtain ⟨x22, h21, h⟩ := xb h
                  refine xr_callV_l S w hA hN 9 rfl h20 (c_X8_seenHead l D cy L g v0 (Int64.toInt32 x11) h21) (cwV 1 S.2.2.2.2 gX8_doesHold_X8_seenHead rfl rfl rfl (by decide +kernel) ⟨Nat.le_of_ble_eq_true rfl, Nat.le_of_ble_eq_true rfl⟩) rfl rfl hl.1 (Nat.le_of_ble_eq_true rfl) dX8_doesHold_323 ⟨Nat.le_of_ble_eq_true rfl, Nat.le_of_ble_eq_true rfl⟩ (fun H locs w => ?_)
                  refine xr_lceq (tgt := 334) S dX8_doesHold_326 dX8_doesHold_327 (by decide) (fun c326 => ?_) (fun c326 => ?_)
                  · rw [if_pos c326] at h
                    refine lv_iconst (v := 0) S.1 S.2.1 dX8_doesHold_334 (by decide) ?_
                    exact ret _ _ _ _ 0 0 _ (by decide) (h.trans (congrArg some hrr)) w dX8_doesHold_335
                  · rw [if_neg c326] at h
                    refine lv_iconst (v := 1) S.1 S.2.1 dX8_doesHold_330 (by decide) ?_
                    refine lv_goto (tgt := 335) S.1 S.2.1 dX8_doesHold_331 (by decide) ?_
                    exact ret _ _ _ _ 1 1 _ (by decide) (h.trans (congrArg some hrr)) w dX8_doesHold_335
          · rw [if_pos c239] at h
            refine lv_aload_n S.1 S.2.1 dX8_doesHold_242 rfl (lv_at hl 2 rfl) ?_
            refine lv_iload_n S.1 S.2.1 dX8_doesHold_243 rfl (lv_at hl 5 rfl) ?_
            obtain ⟨_, h23, h⟩ := xb h
            obtain ⟨x25, h24, h⟩ := xb h
            refine xr_callV_i S w hA hN 9 rfl h23 (c_X8_firstWrong l D cy L g v0 v3 h24) (cwV 1 S.2.2.2.2 gX8_doesHold_X8_firstWrong rfl rfl rfl (by decide +kernel) ⟨Nat.le_of_ble_eq_true rfl, Nat.le_of_ble_eq_true rfl⟩) rfl rfl hl.1 (Nat.le_of_ble_eq_true rfl) dX8_doesHold_244 ⟨Nat.le_of_ble_eq_true rfl, Nat.le_of_ble_eq_true rfl⟩ (fun H locs w => ?_)
            refine lv_istore (lv' := [(7, .int x25), (6, .int (Int64.toInt32 x11)), (5, .int (4 + (6 * v4))), (0, .ref v0), (1, .int v1), (2, .int v2), (3, .int v3), (4, .int v4)]) S.1 S.2.1 dX8_doesHold_247 hl (by decide) rfl (fun ls hl => ?_)
            refine lv_iload S.1 S.2.1 dX8_doesHold_249 (lv_at hl 0 rfl) ?_
            refine lv_if_le (tgt := 265) S.1 S.2.1 dX8_doesHold_251 (by decide) (fun c251 => ?_) (fun c251 => ?_)
            · rw [if_pos c251] at h
              refine lv_iconst (v := 0) S.1 S.2.1 dX8_doesHold_265 (by decide) ?_
              exact ret _ _ _ _ 0 0 _ (by decide) (h.trans (congrArg some hrr)) w dX8_doesHold_266
            · rw [if_neg c251] at h
              refine lv_iload S.1 S.2.1 dX8_doesHold_254 (lv_at hl 1 rfl) ?_
              refine lv_iload S.1 S.2.1 dX8_doesHold_256 (lv_at hl 0 rfl) ?_
              refine lv_icmp_ne (tgt := 265) S.1 S.2.1 dX8_doesHold_258 (by decide) (fun c258 => ?_) (fun c258 => ?_)
              · rw [if_neg c258] at h
                refine lv_iconst (v := 0) S.1 S.2.1 dX8_doesHold_265 (by decide) ?_
                exact ret _ _ _ _ 0 0 _ (by decide) (h.trans (congrArg some hrr)) w dX8_doesHold_266
              · rw [if_pos c258] at h
                refine lv_iconst (v := 1) S.1 S.2.1 dX8_doesHold_261 (by decide) ?_
                refine lv_goto (tgt := 266) S.1 S.2.1 dX8_doesHold_262 (by decide) ?_
                exact ret _ _ _ _ 1 1 _ (by decide) (h.trans (congrArg some hrr)) w dX8_doesHold_266
        · rw [if_neg c217] at h
          refine lv_iconst (v := 0) S.1 S.2.1 dX8_doesHold_221 (by decide) ?_
          exact ret _ _ _ _ 0 0 _ (by decide) (h.trans (congrArg some hrr)) w dX8_doesHold_222
      · rw [if_neg c90] at h
        refine lv_aload_n S.1 S.2.1 dX8_doesHold_93 rfl (lv_at hl 0 rfl) ?_
        obtain ⟨x26, h27, h⟩ := xb h
        refine xr_getr S w 9 xi_X8_doesHold_X8 rfl 32 (by decide) xl_X8_doesHold_93 h27 dX8_doesHold_94 ?_
        refine lv_iload S.1 S.2.1 dX8_doesHold_97 (lv_at hl 5 rfl) ?_
        refine lv_aload_n S.1 S.2.1 dX8_doesHold_99 rfl (lv_at hl 0 rfl) ?_
        refine lv_iload_n S.1 S.2.1 dX8_doesHold_100 rfl (lv_at hl 1 rfl) ?_
        refine lv_iconst (v := 4) S.1 S.2.1 dX8_doesHold_101 (by decide) ?_
        refine lv_bipush (v := 6) S.1 S.2.1 dX8_doesHold_102 (by decide) ?_
        refine lv_iload S.1 S.2.1 dX8_doesHold_104 (lv_at hl 5 rfl) ?_
        refine lv_imul S.1 S.2.1 dX8_doesHold_106 ?_
        refine lv_iadd S.1 S.2.1 dX8_doesHold_107 ?_
        refine lv_iconst (v := 1) S.1 S.2.1 dX8_doesHold_108 (by decide) ?_
        obtain ⟨_, h28, h⟩ := xb h
        obtain ⟨x30, h29, h⟩ := xb h
        refine xr_callV_l S w hA hN 9 rfl h28 (c_X8_read l D cy L g v0 v1 (4 + (6 * v5)) 1 h29) (cwV 3 S.2.2.2.2 gX8_doesHold_X8_read rfl rfl rfl (by decide +kernel) ⟨Nat.le_of_ble_eq_true rfl, Nat.le_of_ble_eq_true rfl⟩) rfl rfl hl.1 (Nat.le_of_ble_eq_true rfl) dX8_doesHold_109 ⟨Nat.le_of_ble_eq_true rfl, Nat.le_of_ble_eq_true rfl⟩ (fun H locs w => ?_)
        refine lv_l2i (v := (Int64.toInt32 x30)) S.1 S.2.1 dX8_doesHold_112 rfl ?_
        obtain ⟨g31, h32, h⟩ := xb h
        refine xr_iast S w h32 dX8_doesHold_113 (fun H locs w => ?_)
        refine lv_aload_n S.1 S.2.1 dX8_doesHold_114 rfl (lv_at hl 0 rfl) ?_
        obtain ⟨x33, h34, h⟩ := xb h
        refine xr_getr S w 9 xi_X8_doesHold_X8 rfl 33 (by decide) xl_X8_doesHold_96 h34 dX8_doesHold_115 ?_
        refine lv_iload S.1 S.2.1 dX8_doesHold_118 (lv_at hl 5 rfl) ?_
        refine lv_aload_n S.1 S.2.1 dX8_doesHold_120 rfl (lv_at hl 0 rfl) ?_
        refine lv_iload_n S.1 S.2.1 dX8_doesHold_121 rfl (lv_at hl 1 rfl) ?_
        refine lv_iconst (v := 5) S.1 S.2.1 dX8_doesHold_122 (by decide) ?_
        refine lv_bipush (v := 6) S.1 S.2.1 dX8_doesHold_123 (by decide) ?_
        refine lv_iload S.1 S.2.1 dX8_doesHold_125 (lv_at hl 5 rfl) ?_
        refine lv_imul S.1 S.2.1 dX8_doesHold_127 ?_
        refine lv_iadd S.1 S.2.1 dX8_doesHold_128 ?_
        refine lv_iconst (v := 1) S.1 S.2.1 dX8_doesHold_129 (by decide) ?_
        obtain ⟨_, h35, h⟩ := xb h
        obtain ⟨x37, h36, h⟩ := xb h
        refine xr_callV_l S w hA hN 9 rfl h35 (c_X8_read l D cy L g31 v0 v1 (5 + (6 * v5)) 1 h36) (cwV 3 S.2.2.2.2 gX8_doesHold_X8_read rfl rfl rfl (by decide +kernel) ⟨Nat.le_of_ble_eq_true rfl, Nat.le_of_ble_eq_true rfl⟩) rfl rfl hl.1 (Nat.le_of_ble_eq_true rfl) dX8_doesHold_130 ⟨Nat.le_of_ble_eq_true rfl, Nat.le_of_ble_eq_true rfl⟩ (fun H locs w => ?_)
        refine lv_l2i (v := (Int64.toInt32 x37)) S.1 S.2.1 dX8_doesHold_133 rfl ?_
        obtain ⟨g38, h39, h⟩ := xb h
        refine xr_iast S w h39 dX8_doesHold_134 (fun H locs w => ?_)
        refine lv_aload_n S.1 S.2.1 dX8_doesHold_135 rfl (lv_at hl 0 rfl) ?_
        obtain ⟨x40, h41, h⟩ := xb h
        refine xr_getr S w 9 xi_X8_doesHold_X8 rfl 34 (by decide) xl_X8_doesHold_99 h41 dX8_doesHold_136 ?_
        refine lv_iload S.1 S.2.1 dX8_doesHold_139 (lv_at hl 5 rfl) ?_
        refine lv_aload_n S.1 S.2.1 dX8_doesHold_141 rfl (lv_at hl 0 rfl) ?_
        refine lv_iload_n S.1 S.2.1 dX8_doesHold_142 rfl (lv_at hl 1 rfl) ?_
        refine lv_bipush (v := 6) S.1 S.2.1 dX8_doesHold_143 (by decide) ?_
        refine lv_bipush (v := 6) S.1 S.2.1 dX8_doesHold_145 (by decide) ?_
        refine lv_iload S.1 S.2.1 dX8_doesHold_147 (lv_at hl 5 rfl) ?_
        refine lv_imul S.1 S.2.1 dX8_doesHold_149 ?_
        refine lv_iadd S.1 S.2.1 dX8_doesHold_150 ?_
        refine lv_iconst (v := 4) S.1 S.2.1 dX8_doesHold_151 (by decide) ?_
        obtain ⟨_, h42, h⟩ := xb h
        obtain ⟨x44, h43, h⟩ := xb h
        refine xr_callV_l S w hA hN 9 rfl h42 (c_X8_read l D cy L g38 v0 v1 (6 + (6 * v5)) 4 h43) (cwV 3 S.2.2.2.2 gX8_doesHold_X8_read rfl rfl rfl (by decide +kernel) ⟨Nat.le_of_ble_eq_true rfl, Nat.le_of_ble_eq_true rfl⟩) rfl rfl hl.1 (Nat.le_of_ble_eq_true rfl) dX8_doesHold_152 ⟨Nat.le_of_ble_eq_true rfl, Nat.le_of_ble_eq_true rfl⟩ (fun H locs w => ?_)
        refine lv_l2i (v := (Int64.toInt32 x44)) S.1 S.2.1 dX8_doesHold_155 rfl ?_
        obtain ⟨g45, h46, h⟩ := xb h
        refine xr_iast S w h46 dX8_doesHold_156 (fun H locs w => ?_)
        refine lv_aload_n S.1 S.2.1 dX8_doesHold_157 rfl (lv_at hl 0 rfl) ?_
        obtain ⟨x47, h48, h⟩ := xb h
        refine xr_getr S w 9 xi_X8_doesHold_X8 rfl 32 (by decide) xl_X8_doesHold_93 h48 dX8_doesHold_158 ?_
        refine lv_iload S.1 S.2.1 dX8_doesHold_161 (lv_at hl 5 rfl) ?_
        obtain ⟨x49, h50, h⟩ := xb h
        refine xr_iald S w h50 dX8_doesHold_163 ?_
        refine lv_iconst (v := 1) S.1 S.2.1 dX8_doesHold_164 (by decide) ?_
        refine lv_icmp_lt (tgt := 179) S.1 S.2.1 dX8_doesHold_165 (by decide) (fun c165 => ?_) (fun c165 => ?_)
        · rw [if_pos c165] at h
          refine lv_iconst (v := 0) S.1 S.2.1 dX8_doesHold_179 (by decide) ?_
          exact ret _ _ _ _ 0 0 _ (by decide) (h.trans (congrArg some hrr)) w dX8_doesHold_180
        · rw [if_neg c165] at h
          refine lv_aload_n S.1 S.2.1 dX8_doesHold_168 rfl (lv_at hl 0 rfl) ?_
          obtain ⟨x51, h52, h⟩ := xb h
          refine xr_getr S w 9 xi_X8_doesHold_X8 rfl 32 (by decide) xl_X8_doesHold_93 h52 dX8_doesHold_169 ?_
          refine lv_iload S.1 S.2.1 dX8_doesHold_172 (lv_at hl 5 rfl) ?_
          obtain ⟨x53, h54, h⟩ := xb h
          refine xr_iald S w h54 dX8_doesHold_174 ?_
          refine lv_iconst (v := 3) S.1 S.2.1 dX8_doesHold_175 (by decide) ?_
          refine lv_icmp_le (tgt := 181) S.1 S.2.1 dX8_doesHold_176 (by decide) (fun c176 => ?_) (fun c176 => ?_)
          · rw [if_pos c176] at h
            refine lv_iinc (v := (v5 + 1)) (lv' := [(5, .int (v5 + 1)), (0, .ref v0), (1, .int v1), (2, .int v2), (3, .int v3), (4, .int v4)]) S.1 S.2.1 dX8_doesHold_181 hl (k := 5) rfl rfl (by decide) rfl (fun ls hl => ?_)
            refine lv_goto (tgt := 86) S.1 S.2.1 dX8_doesHold_184 (by decide) ?_
            exact ih g45 v0 v1 v2 v3 v4 (v5 + 1) h _ _ _ w (lv_sub hl [1, 2, 3, 4, 5, 0] rfl)
          · rw [if_neg c176] at h
            refine lv_iconst (v := 0) S.1 S.2.1 dX8_doesHold_179 (by decide) ?_
            exact ret _ _ _ _ 0 0 _ (by decide) (h.trans (congrArg some hrr)) w dX8_doesHold_180
  have hb71 : ∀ (g : xG) (v0 : Nat) (v1 : Int32) (v2 : Int32) (v3 : Int32) (v4 : Int32) (s0 : Int32) (s1 : Int32) (s2 : Int32) , f_X8_doesHold_71 g v0 v1 v2 v3 v4 s0 s1 s2 = some rr → ∀ (H : Heap) (locs : List Loc) (ls : Array Slot), xOK D cy A s.heap s L g H locs → lv_has ls 9 [(0, .ref v0), (1, .int v1), (2, .int v2), (3, .int v3), (4, .int v4)] → W p l e { frames := 3, cells := 0, slots := 0, locals := 73 } s m args below meth c H locs 0 0 Q (F0 m 71 ls [.int s2, .int s1, .int s0]) := by
    intro g v0 v1 v2 v3 v4 s0 s1 s2 h H locs ls w hl
    rw [f_X8_doesHold_71] at h
    refine lv_iadd S.1 S.2.1 dX8_doesHold_71 ?_
    refine lv_icmp_eq (tgt := 77) S.1 S.2.1 dX8_doesHold_72 (by decide) (fun c72 => ?_) (fun c72 => ?_)
    · rw [if_pos c72] at h
      refine lv_aload_n S.1 S.2.1 dX8_doesHold_77 rfl (lv_at hl 0 rfl) ?_
      refine lv_iload S.1 S.2.1 dX8_doesHold_78 (lv_at hl 4 rfl) ?_
      obtain ⟨g55, h56, h⟩ := xb h
      refine xr_puti S w 9 xi_X8_doesHold_X8 rfl tyX8 tyX8_ok nmX8 31 (by decide) xl_X8_doesHold_180 rfl (tyX8_ok 31 (by decide)) h56 dX8_doesHold_80 (fun H locs w => ?_)
      refine lv_iconst (v := 0) S.1 S.2.1 dX8_doesHold_83 (by decide) ?_
      refine lv_istore (lv' := [(5, .int 0), (0, .ref v0), (1, .int v1), (2, .int v2), (3, .int v3), (4, .int v4)]) S.1 S.2.1 dX8_doesHold_84 hl (by decide) rfl (fun ls hl => ?_)
      exact hb86 xFU g55 v0 v1 v2 v3 v4 0 h _ _ _ w (lv_sub hl [1, 2, 3, 4, 5, 0] rfl)
    · rw [if_neg c72] at h
      refine lv_iconst (v := 0) S.1 S.2.1 dX8_doesHold_75 (by decide) ?_
      exact ret _ _ _ _ 0 0 _ (by decide) (h.trans (congrArg some hrr)) w dX8_doesHold_76
  rw [f_X8_doesHold] at h
  refine lv_aload_n S.1 S.2.1 dX8_doesHold_0 rfl (lv_at hl 0 rfl) ?_
  refine lv_iload_n S.1 S.2.1 dX8_doesHold_1 rfl (lv_at hl 1 rfl) ?_
  refine lv_iconst (v := 0) S.1 S.2.1 dX8_doesHold_2 (by decide) ?_
  refine lv_iconst (v := 1) S.1 S.2.1 dX8_doesHold_3 (by decide) ?_
  obtain ⟨_, h57, h⟩ := xb h
  obtain ⟨x59, h58, h⟩ := xb h
  refine xr_callV_l S w hA hN 9 rfl h57 (c_X8_read l D cy L g a0 a1 0 1 h58) (cwV 3 S.2.2.2.2 gX8_doesHold_X8_read rfl rfl rfl (by decide +kernel) ⟨Nat.le_of_ble_eq_true rfl, Nat.le_of_ble_eq_true rfl⟩) rfl rfl hl.1 (Nat.le_of_ble_eq_true rfl) dX8_doesHold_4 ⟨Nat.le_of_ble_eq_true rfl, Nat.le_of_ble_eq_true rfl⟩ (fun H locs w => ?_)
  refine lv_l2i (v := (Int64.toInt32 x59)) S.1 S.2.1 dX8_doesHold_7 rfl ?_
  refine lv_istore_n (lv' := [(2, .int (Int64.toInt32 x59)), (0, .ref a0), (1, .int a1)]) S.1 S.2.1 dX8_doesHold_8 rfl hl (by decide) rfl (fun ls hl => ?_)
  refine lv_aload_n S.1 S.2.1 dX8_doesHold_9 rfl (lv_at hl 1 rfl) ?_
  refine lv_iload_n S.1 S.2.1 dX8_doesHold_10 rfl (lv_at hl 2 rfl) ?_
  refine lv_iconst (v := 1) S.1 S.2.1 dX8_doesHold_11 (by decide) ?_
  refine lv_iconst (v := 1) S.1 S.2.1 dX8_doesHold_12 (by decide) ?_
  obtain ⟨_, h60, h⟩ := xb h
  obtain ⟨x62, h61, h⟩ := xb h
  refine xr_callV_l S w hA hN 9 rfl h60 (c_X8_read l D cy L g a0 a1 1 1 h61) (cwV 3 S.2.2.2.2 gX8_doesHold_X8_read rfl rfl rfl (by decide +kernel) ⟨Nat.le_of_ble_eq_true rfl, Nat.le_of_ble_eq_true rfl⟩) rfl rfl hl.1 (Nat.le_of_ble_eq_true rfl) dX8_doesHold_13 ⟨Nat.le_of_ble_eq_true rfl, Nat.le_of_ble_eq_true rfl⟩ (fun H locs w => ?_)
  refine lv_l2i (v := (Int64.toInt32 x62)) S.1 S.2.1 dX8_doesHold_16 rfl ?_
  refine lv_istore_n (lv' := [(3, .int (Int64.toInt32 x62)), (2, .int (Int64.toInt32 x59)), (0, .ref a0), (1, .int a1)]) S.1 S.2.1 dX8_doesHold_17 rfl hl (by decide) rfl (fun ls hl => ?_)
  refine lv_aload_n S.1 S.2.1 dX8_doesHold_18 rfl (lv_at hl 2 rfl) ?_
  refine lv_iload_n S.1 S.2.1 dX8_doesHold_19 rfl (lv_at hl 3 rfl) ?_
  refine lv_iconst (v := 2) S.1 S.2.1 dX8_doesHold_20 (by decide) ?_
  refine lv_iconst (v := 2) S.1 S.2.1 dX8_doesHold_21 (by decide) ?_
  obtain ⟨_, h63, h⟩ := xb h
  obtain ⟨x65, h64, h⟩ := xb h
  refine xr_callV_l S w hA hN 9 rfl h63 (c_X8_read l D cy L g a0 a1 2 2 h64) (cwV 3 S.2.2.2.2 gX8_doesHold_X8_read rfl rfl rfl (by decide +kernel) ⟨Nat.le_of_ble_eq_true rfl, Nat.le_of_ble_eq_true rfl⟩) rfl rfl hl.1 (Nat.le_of_ble_eq_true rfl) dX8_doesHold_22 ⟨Nat.le_of_ble_eq_true rfl, Nat.le_of_ble_eq_true rfl⟩ (fun H locs w => ?_)
  refine lv_l2i (v := (Int64.toInt32 x65)) S.1 S.2.1 dX8_doesHold_25 rfl ?_
  refine lv_istore (lv' := [(4, .int (Int64.toInt32 x65)), (3, .int (Int64.toInt32 x62)), (2, .int (Int64.toInt32 x59)), (0, .ref a0), (1, .int a1)]) S.1 S.2.1 dX8_doesHold_26 hl (by decide) rfl (fun ls hl => ?_)
  refine lv_iload_n S.1 S.2.1 dX8_doesHold_28 rfl (lv_at hl 2 rfl) ?_
  refine lv_iconst (v := 1) S.1 S.2.1 dX8_doesHold_29 (by decide) ?_
  refine lv_icmp_lt (tgt := 75) S.1 S.2.1 dX8_doesHold_30 (by decide) (fun c30 => ?_) (fun c30 => ?_)
  · rw [if_pos c30] at h
    refine lv_iconst (v := 0) S.1 S.2.1 dX8_doesHold_75 (by decide) ?_
    exact ret _ _ _ _ 0 0 _ (by decide) (h.trans (congrArg some hrr)) w dX8_doesHold_76
  · rw [if_neg c30] at h
    refine lv_iload_n S.1 S.2.1 dX8_doesHold_33 rfl (lv_at hl 2 rfl) ?_
    refine lv_iconst (v := 2) S.1 S.2.1 dX8_doesHold_34 (by decide) ?_
    refine lv_icmp_gt (tgt := 75) S.1 S.2.1 dX8_doesHold_35 (by decide) (fun c35 => ?_) (fun c35 => ?_)
    · rw [if_pos c35] at h
      refine lv_iconst (v := 0) S.1 S.2.1 dX8_doesHold_75 (by decide) ?_
      exact ret _ _ _ _ 0 0 _ (by decide) (h.trans (congrArg some hrr)) w dX8_doesHold_76
    · rw [if_neg c35] at h
      refine lv_iload_n S.1 S.2.1 dX8_doesHold_38 rfl (lv_at hl 1 rfl) ?_
      refine lv_aload_n S.1 S.2.1 dX8_doesHold_39 rfl (lv_at hl 3 rfl) ?_
      obtain ⟨x66, h67, h⟩ := xb h
      refine xr_geti S w 9 xi_X8_doesHold_X8 rfl 1 (by decide) xl_X8_doesHold_7 h67 dX8_doesHold_40 ?_
      refine lv_icmp_ge (tgt := 75) S.1 S.2.1 dX8_doesHold_43 (by decide) (fun c43 => ?_) (fun c43 => ?_)
      · rw [if_pos c43] at h
        refine lv_iconst (v := 0) S.1 S.2.1 dX8_doesHold_75 (by decide) ?_
        exact ret _ _ _ _ 0 0 _ (by decide) (h.trans (congrArg some hrr)) w dX8_doesHold_76
      · rw [if_neg c43] at h
        refine lv_aload_n S.1 S.2.1 dX8_doesHold_46 rfl (lv_at hl 3 rfl) ?_
        obtain ⟨x68, h69, h⟩ := xb h
        refine xr_getr S w 9 xi_X8_doesHold_X8 rfl 29 (by decide) xl_X8_doesHold_85 h69 dX8_doesHold_47 ?_
        refine lv_iload_n S.1 S.2.1 dX8_doesHold_50 rfl (lv_at hl 4 rfl) ?_
        obtain ⟨x70, h71, h⟩ := xb h
        refine xr_iald S w h71 dX8_doesHold_51 ?_
        refine lv_bipush (v := 12) S.1 S.2.1 dX8_doesHold_52 (by decide) ?_
        refine lv_bipush (v := 6) S.1 S.2.1 dX8_doesHold_54 (by decide) ?_
        refine lv_iload S.1 S.2.1 dX8_doesHold_56 (lv_at hl 0 rfl) ?_
        refine lv_imul S.1 S.2.1 dX8_doesHold_58 ?_
        refine lv_iadd S.1 S.2.1 dX8_doesHold_59 ?_
        refine lv_iload_n S.1 S.2.1 dX8_doesHold_60 rfl (lv_at hl 2 rfl) ?_
        refine lv_iconst (v := 1) S.1 S.2.1 dX8_doesHold_61 (by decide) ?_
        refine lv_icmp_ne (tgt := 70) S.1 S.2.1 dX8_doesHold_62 (by decide) (fun c62 => ?_) (fun c62 => ?_)
        · rw [if_neg c62] at h
          refine lv_iconst (v := 2) S.1 S.2.1 dX8_doesHold_70 (by decide) ?_
          exact hb71 g a0 a1 (Int64.toInt32 x59) (Int64.toInt32 x62) (Int64.toInt32 x65) x70 (12 + (6 * (Int64.toInt32 x65))) 2 h _ _ _ w (lv_sub hl [3, 4, 2, 1, 0] rfl)
        · rw [if_pos c62] at h
          refine lv_bipush (v := 18) S.1 S.2.1 dX8_doesHold_65 (by decide) ?_
          refine lv_goto (tgt := 71) S.1 S.2.1 dX8_doesHold_67 (by decide) ?_
          exact hb71 g a0 a1 (Int64.toInt32 x59) (Int64.toInt32 x62) (Int64.toInt32 x65) x70 (12 + (6 * (Int64.toInt32 x65))) 18 h _ _ _ w (lv_sub hl [3, 4, 2, 1, 0] rfl)
theorem xi_X8_holds_X8 : ∀ w ∈ wsX80, w ∈ wsX8_holds := by decide +kernel
theorem xl_X8_holds_102 : Cond.fieldLink RX8 102 (TX8 0).1 (TX8 0).2.1 (TX8 0).2.2.1 ∈ wsX8_holds := by decide +kernel
def f_X8_holds (g : xG) (a0 : Nat) (a1 : Int32) : Option (Int32 × xG) :=
  (xk g 9 a0).bind fun _ =>
  (f_X8_isPiece g a0 a1).bind fun x3 =>
  if x3 = 0 then
    (xp_i g 9 a0 0 1).bind fun g4 =>
    (xg_i g4 9 a0 0).bind fun x6 =>
    if x6 = 0 then
      (xk g4 9 a0).bind fun _ =>
      x2 (f_X8_doesHold g4 a0 a1) fun x10 g11 =>
      if x10 = 0 then
        some (0, g11)
      else
        some (1, g11)
    else
      some (0, g4)
  else
    (xp_i g 9 a0 0 0).bind fun g12 =>
    (xg_i g12 9 a0 0).bind fun x14 =>
    if x14 = 0 then
      (xk g12 9 a0).bind fun _ =>
      x2 (f_X8_doesHold g12 a0 a1) fun x18 g19 =>
      if x18 = 0 then
        some (0, g19)
      else
        some (1, g19)
    else
      some (0, g12)
set_option maxHeartbeats 4000000 in
set_option maxRecDepth 100000 in
theorem c_X8_holds (l : Launch) (D : va_G) (cy : Nat → ClassId) (L : List Nat) (g : xG) (a0 : Nat) (a1 : Int32) {r1 : Int32} {g1 : xG} (h : f_X8_holds g a0 a1 = some (r1, g1)) : xMi l yX8_holds wsX8_holds ({ frames := 4, cells := 0, slots := 0, locals := 101 }) D cy L g [.ref a0, .int a1] r1 g1 := by
  refine xm_z (cc := cX8_holds) (maxL := 2) RX8 rfl rfl rfl (by decide +kernel) rfl (Nat.le_of_ble_eq_true rfl) ?_
  intro p e s m args below meth c Q A S w hA hN ret ls hl
  have hl : lv_has ls 2 [(0, .ref a0), (1, .int a1)] := hl
  rw [f_X8_holds] at h
  refine lv_aload_n S.1 S.2.1 dX8_holds_0 rfl (lv_at hl 0 rfl) ?_
  refine lv_aload_n S.1 S.2.1 dX8_holds_1 rfl (lv_at hl 0 rfl) ?_
  refine lv_iload_n S.1 S.2.1 dX8_holds_2 rfl (lv_at hl 1 rfl) ?_
  obtain ⟨_, h1, h⟩ := xb h
  obtain ⟨x3, h2, h⟩ := xb h
  refine xr_callV_i S w hA hN 9 rfl h1 (c_X8_isPiece l D cy L g a0 a1 h2) (cwV 1 S.2.2.2.2 gX8_holds_X8_isPiece rfl rfl rfl (by decide +kernel) ⟨Nat.le_of_ble_eq_true rfl, Nat.le_of_ble_eq_true rfl⟩) rfl rfl hl.1 (Nat.le_of_ble_eq_true rfl) dX8_holds_3 ⟨Nat.le_of_ble_eq_true rfl, Nat.le_of_ble_eq_true rfl⟩ (fun H locs w => ?_)
  refine lv_if_eq (tgt := 13) S.1 S.2.1 dX8_holds_6 (by decide) (fun c6 => ?_) (fun c6 => ?_)
  · rw [if_pos c6] at h
    refine lv_iconst (v := 1) S.1 S.2.1 dX8_holds_13 (by decide) ?_
    obtain ⟨g4, h5, h⟩ := xb h
    refine xr_puti S w 9 xi_X8_holds_X8 rfl tyX8 tyX8_ok nmX8 0 (by decide) xl_X8_holds_102 rfl (tyX8_ok 0 (by decide)) h5 dX8_holds_14 (fun H locs w => ?_)
    refine lv_aload_n S.1 S.2.1 dX8_holds_17 rfl (lv_at hl 0 rfl) ?_
    obtain ⟨x6, h7, h⟩ := xb h
    refine xr_geti S w 9 xi_X8_holds_X8 rfl 0 (by decide) xl_X8_holds_102 h7 dX8_holds_18 ?_
    refine lv_if_ne (tgt := 36) S.1 S.2.1 dX8_holds_21 (by decide) (fun c21 => ?_) (fun c21 => ?_)
    · rw [if_neg c21] at h
      refine lv_iconst (v := 0) S.1 S.2.1 dX8_holds_36 (by decide) ?_
      exact ret _ _ _ _ 0 0 _ (by decide) h w dX8_holds_37
    · rw [if_pos c21] at h
      refine lv_aload_n S.1 S.2.1 dX8_holds_24 rfl (lv_at hl 0 rfl) ?_
      refine lv_iload_n S.1 S.2.1 dX8_holds_25 rfl (lv_at hl 1 rfl) ?_
      obtain ⟨_, h8, h⟩ := xb h
      obtain ⟨x10, g11, h9, h⟩ := x2b h
      refine xr_callV_i S w hA hN 9 rfl h8 (c_X8_doesHold l D cy L g4 a0 a1 h9) (cwV 1 S.2.2.2.2 gX8_holds_X8_doesHold rfl rfl rfl (by decide +kernel) ⟨Nat.le_of_ble_eq_true rfl, Nat.le_of_ble_eq_true rfl⟩) rfl rfl hl.1 (Nat.le_of_ble_eq_true rfl) dX8_holds_26 ⟨Nat.le_of_ble_eq_true rfl, Nat.le_of_ble_eq_true rfl⟩ (fun H locs w => ?_)
      refine lv_if_eq (tgt := 36) S.1 S.2.1 dX8_holds_29 (by decide) (fun c29 => ?_) (fun c29 => ?_)
      · rw [if_pos c29] at h
        refine lv_iconst (v := 0) S.1 S.2.1 dX8_holds_36 (by decide) ?_
        exact ret _ _ _ _ 0 0 _ (by decide) h w dX8_holds_37
      · rw [if_neg c29] at h
        refine lv_iconst (v := 1) S.1 S.2.1 dX8_holds_32 (by decide) ?_
        refine lv_goto (tgt := 37) S.1 S.2.1 dX8_holds_33 (by decide) ?_
        exact ret _ _ _ _ 1 1 _ (by decide) h w dX8_holds_37
  · rw [if_neg c6] at h
    refine lv_iconst (v := 0) S.1 S.2.1 dX8_holds_9 (by decide) ?_
    refine lv_goto (tgt := 14) S.1 S.2.1 dX8_holds_10 (by decide) ?_
    obtain ⟨g12, h13, h⟩ := xb h
    refine xr_puti S w 9 xi_X8_holds_X8 rfl tyX8 tyX8_ok nmX8 0 (by decide) xl_X8_holds_102 rfl (tyX8_ok 0 (by decide)) h13 dX8_holds_14 (fun H locs w => ?_)
    refine lv_aload_n S.1 S.2.1 dX8_holds_17 rfl (lv_at hl 0 rfl) ?_
    obtain ⟨x14, h15, h⟩ := xb h
    refine xr_geti S w 9 xi_X8_holds_X8 rfl 0 (by decide) xl_X8_holds_102 h15 dX8_holds_18 ?_
    refine lv_if_ne (tgt := 36) S.1 S.2.1 dX8_holds_21 (by decide) (fun c21 => ?_) (fun c21 => ?_)
    · rw [if_neg c21] at h
      refine lv_iconst (v := 0) S.1 S.2.1 dX8_holds_36 (by decide) ?_
      exact ret _ _ _ _ 0 0 _ (by decide) h w dX8_holds_37
    · rw [if_pos c21] at h
      refine lv_aload_n S.1 S.2.1 dX8_holds_24 rfl (lv_at hl 0 rfl) ?_
      refine lv_iload_n S.1 S.2.1 dX8_holds_25 rfl (lv_at hl 1 rfl) ?_
      obtain ⟨_, h16, h⟩ := xb h
      obtain ⟨x18, g19, h17, h⟩ := x2b h
      refine xr_callV_i S w hA hN 9 rfl h16 (c_X8_doesHold l D cy L g12 a0 a1 h17) (cwV 1 S.2.2.2.2 gX8_holds_X8_doesHold rfl rfl rfl (by decide +kernel) ⟨Nat.le_of_ble_eq_true rfl, Nat.le_of_ble_eq_true rfl⟩) rfl rfl hl.1 (Nat.le_of_ble_eq_true rfl) dX8_holds_26 ⟨Nat.le_of_ble_eq_true rfl, Nat.le_of_ble_eq_true rfl⟩ (fun H locs w => ?_)
      refine lv_if_eq (tgt := 36) S.1 S.2.1 dX8_holds_29 (by decide) (fun c29 => ?_) (fun c29 => ?_)
      · rw [if_pos c29] at h
        refine lv_iconst (v := 0) S.1 S.2.1 dX8_holds_36 (by decide) ?_
        exact ret _ _ _ _ 0 0 _ (by decide) h w dX8_holds_37
      · rw [if_neg c29] at h
        refine lv_iconst (v := 1) S.1 S.2.1 dX8_holds_32 (by decide) ?_
        refine lv_goto (tgt := 37) S.1 S.2.1 dX8_holds_33 (by decide) ?_
        exact ret _ _ _ _ 1 1 _ (by decide) h w dX8_holds_37
theorem xi_X8_judge_X8 : ∀ w ∈ wsX80, w ∈ wsX8_judge := by decide +kernel
theorem xl_X8_judge_102 : Cond.fieldLink RX8 102 (TX8 0).1 (TX8 0).2.1 (TX8 0).2.2.1 ∈ wsX8_judge := by decide +kernel
theorem xl_X8_judge_36 : Cond.fieldLink RX8 36 (TX8 9).1 (TX8 9).2.1 (TX8 9).2.2.1 ∈ wsX8_judge := by decide +kernel
def f_X8_judge (g : xG) (a0 : Nat) (a1 : Int32) (a2 : Int32) : Option (Int32 × xG) :=
  (xk g 9 a0).bind fun _ =>
  (f_X8_no g a0 a1).bind fun x3 =>
  if x3 = 0 then
    (xk g 9 a0).bind fun _ =>
    (f_X8_isPiece g a0 a2).bind fun x21 =>
    if x21 = 0 then
      (xp_i g 9 a0 0 1).bind fun g37 =>
      (xg_i g37 9 a0 0).bind fun x39 =>
      if 0 < x39 then
        some (0, g37)
      else
        (xk g37 9 a0).bind fun _ =>
        x2 (f_X8_doesHold g37 a0 a2) fun x43 g44 =>
        if x43 = 0 then
          some (0, g44)
        else
          (xg_r g44 9 a0 9).bind fun x45 =>
          (xk g44 9 a0).bind fun _ =>
          (f_X8_read g44 a0 a2 1 1).bind fun x49 =>
          (xs_i 1 g44 x45 ((6 * a1) + (Int64.toInt32 x49)) 2).bind fun g50 =>
          some (1, g50)
    else
      (xp_i g 9 a0 0 0).bind fun g22 =>
      (xg_i g22 9 a0 0).bind fun x24 =>
      if 0 < x24 then
        some (0, g22)
      else
        (xk g22 9 a0).bind fun _ =>
        x2 (f_X8_doesHold g22 a0 a2) fun x28 g29 =>
        if x28 = 0 then
          some (0, g29)
        else
          (xg_r g29 9 a0 9).bind fun x30 =>
          (xk g29 9 a0).bind fun _ =>
          (f_X8_read g29 a0 a2 1 1).bind fun x34 =>
          (xs_i 1 g29 x30 ((6 * a1) + (Int64.toInt32 x34)) 2).bind fun g35 =>
          some (1, g35)
  else
    (xp_i g 9 a0 0 1).bind fun g4 =>
    (xg_i g4 9 a0 0).bind fun x6 =>
    if 0 < x6 then
      some (0, g4)
    else
      (xk g4 9 a0).bind fun _ =>
      x2 (f_X8_doesHold g4 a0 a2) fun x10 g11 =>
      if x10 = 0 then
        some (0, g11)
      else
        (xg_r g11 9 a0 9).bind fun x12 =>
        (xk g11 9 a0).bind fun _ =>
        (f_X8_read g11 a0 a2 1 1).bind fun x16 =>
        (xs_i 1 g11 x12 ((6 * a1) + (Int64.toInt32 x16)) 2).bind fun g17 =>
        some (1, g17)
set_option maxHeartbeats 4000000 in
set_option maxRecDepth 100000 in
theorem c_X8_judge (l : Launch) (D : va_G) (cy : Nat → ClassId) (L : List Nat) (g : xG) (a0 : Nat) (a1 : Int32) (a2 : Int32) {r1 : Int32} {g1 : xG} (h : f_X8_judge g a0 a1 a2 = some (r1, g1)) : xMi l yX8_judge wsX8_judge ({ frames := 4, cells := 0, slots := 0, locals := 101 }) D cy L g [.ref a0, .int a1, .int a2] r1 g1 := by
  refine xm_z (cc := cX8_judge) (maxL := 3) RX8 rfl rfl rfl (by decide +kernel) rfl (Nat.le_of_ble_eq_true rfl) ?_
  intro p e s m args below meth c Q A S w hA hN ret ls hl
  have hl : lv_has ls 3 [(0, .ref a0), (1, .int a1), (2, .int a2)] := hl
  rw [f_X8_judge] at h
  refine lv_aload_n S.1 S.2.1 dX8_judge_0 rfl (lv_at hl 0 rfl) ?_
  refine lv_aload_n S.1 S.2.1 dX8_judge_1 rfl (lv_at hl 0 rfl) ?_
  refine lv_iload_n S.1 S.2.1 dX8_judge_2 rfl (lv_at hl 1 rfl) ?_
  obtain ⟨_, h1, h⟩ := xb h
  obtain ⟨x3, h2, h⟩ := xb h
  refine xr_callV_i S w hA hN 9 rfl h1 (c_X8_no l D cy L g a0 a1 h2) (cwV 1 S.2.2.2.2 gX8_judge_X8_no rfl rfl rfl (by decide +kernel) ⟨Nat.le_of_ble_eq_true rfl, Nat.le_of_ble_eq_true rfl⟩) rfl rfl hl.1 (Nat.le_of_ble_eq_true rfl) dX8_judge_3 ⟨Nat.le_of_ble_eq_true rfl, Nat.le_of_ble_eq_true rfl⟩ (fun H locs w => ?_)
  refine lv_if_ne (tgt := 17) S.1 S.2.1 dX8_judge_6 (by decide) (fun c6 => ?_) (fun c6 => ?_)
  · rw [if_neg c6] at h
    refine lv_iconst (v := 1) S.1 S.2.1 dX8_judge_17 (by decide) ?_
    refine lv_goto (tgt := 22) S.1 S.2.1 dX8_judge_18 (by decide) ?_
    obtain ⟨g4, h5, h⟩ := xb h
    refine xr_puti S w 9 xi_X8_judge_X8 rfl tyX8 tyX8_ok nmX8 0 (by decide) xl_X8_judge_102 rfl (tyX8_ok 0 (by decide)) h5 dX8_judge_22 (fun H locs w => ?_)
    refine lv_aload_n S.1 S.2.1 dX8_judge_25 rfl (lv_at hl 0 rfl) ?_
    obtain ⟨x6, h7, h⟩ := xb h
    refine xr_geti S w 9 xi_X8_judge_X8 rfl 0 (by decide) xl_X8_judge_102 h7 dX8_judge_26 ?_
    refine lv_if_gt (tgt := 40) S.1 S.2.1 dX8_judge_29 (by decide) (fun c29 => ?_) (fun c29 => ?_)
    · rw [if_pos c29] at h
      refine lv_iconst (v := 0) S.1 S.2.1 dX8_judge_40 (by decide) ?_
      exact ret _ _ _ _ 0 0 _ (by decide) h w dX8_judge_41
    · rw [if_neg c29] at h
      refine lv_aload_n S.1 S.2.1 dX8_judge_32 rfl (lv_at hl 0 rfl) ?_
      refine lv_iload_n S.1 S.2.1 dX8_judge_33 rfl (lv_at hl 2 rfl) ?_
      obtain ⟨_, h8, h⟩ := xb h
      obtain ⟨x10, g11, h9, h⟩ := x2b h
      refine xr_callV_i S w hA hN 9 rfl h8 (c_X8_doesHold l D cy L g4 a0 a2 h9) (cwV 1 S.2.2.2.2 gX8_judge_X8_doesHold rfl rfl rfl (by decide +kernel) ⟨Nat.le_of_ble_eq_true rfl, Nat.le_of_ble_eq_true rfl⟩) rfl rfl hl.1 (Nat.le_of_ble_eq_true rfl) dX8_judge_34 ⟨Nat.le_of_ble_eq_true rfl, Nat.le_of_ble_eq_true rfl⟩ (fun H locs w => ?_)
      refine lv_if_ne (tgt := 42) S.1 S.2.1 dX8_judge_37 (by decide) (fun c37 => ?_) (fun c37 => ?_)
      · rw [if_neg c37] at h
        refine lv_aload_n S.1 S.2.1 dX8_judge_42 rfl (lv_at hl 0 rfl) ?_
        obtain ⟨x12, h13, h⟩ := xb h
        refine xr_getr S w 9 xi_X8_judge_X8 rfl 9 (by decide) xl_X8_judge_36 h13 dX8_judge_43 ?_
        refine lv_bipush (v := 6) S.1 S.2.1 dX8_judge_46 (by decide) ?_
        refine lv_iload_n S.1 S.2.1 dX8_judge_48 rfl (lv_at hl 1 rfl) ?_
        refine lv_imul S.1 S.2.1 dX8_judge_49 ?_
        refine lv_aload_n S.1 S.2.1 dX8_judge_50 rfl (lv_at hl 0 rfl) ?_
        refine lv_iload_n S.1 S.2.1 dX8_judge_51 rfl (lv_at hl 2 rfl) ?_
        refine lv_iconst (v := 1) S.1 S.2.1 dX8_judge_52 (by decide) ?_
        refine lv_iconst (v := 1) S.1 S.2.1 dX8_judge_53 (by decide) ?_
        obtain ⟨_, h14, h⟩ := xb h
        obtain ⟨x16, h15, h⟩ := xb h
        refine xr_callV_l S w hA hN 9 rfl h14 (c_X8_read l D cy L g11 a0 a2 1 1 h15) (cwV 3 S.2.2.2.2 gX8_judge_X8_read rfl rfl rfl (by decide +kernel) ⟨Nat.le_of_ble_eq_true rfl, Nat.le_of_ble_eq_true rfl⟩) rfl rfl hl.1 (Nat.le_of_ble_eq_true rfl) dX8_judge_54 ⟨Nat.le_of_ble_eq_true rfl, Nat.le_of_ble_eq_true rfl⟩ (fun H locs w => ?_)
        refine lv_l2i (v := (Int64.toInt32 x16)) S.1 S.2.1 dX8_judge_57 rfl ?_
        refine lv_iadd S.1 S.2.1 dX8_judge_58 ?_
        refine lv_iconst (v := 2) S.1 S.2.1 dX8_judge_59 (by decide) ?_
        obtain ⟨g17, h18, h⟩ := xb h
        refine xr_iast S w h18 dX8_judge_60 (fun H locs w => ?_)
        refine lv_iconst (v := 1) S.1 S.2.1 dX8_judge_61 (by decide) ?_
        exact ret _ _ _ _ 1 1 _ (by decide) h w dX8_judge_62
      · rw [if_pos c37] at h
        refine lv_iconst (v := 0) S.1 S.2.1 dX8_judge_40 (by decide) ?_
        exact ret _ _ _ _ 0 0 _ (by decide) h w dX8_judge_41
  · rw [if_pos c6] at h
    refine lv_aload_n S.1 S.2.1 dX8_judge_9 rfl (lv_at hl 0 rfl) ?_
    refine lv_iload_n S.1 S.2.1 dX8_judge_10 rfl (lv_at hl 2 rfl) ?_
    obtain ⟨_, h19, h⟩ := xb h
    obtain ⟨x21, h20, h⟩ := xb h
    refine xr_callV_i S w hA hN 9 rfl h19 (c_X8_isPiece l D cy L g a0 a2 h20) (cwV 1 S.2.2.2.2 gX8_judge_X8_isPiece rfl rfl rfl (by decide +kernel) ⟨Nat.le_of_ble_eq_true rfl, Nat.le_of_ble_eq_true rfl⟩) rfl rfl hl.1 (Nat.le_of_ble_eq_true rfl) dX8_judge_11 ⟨Nat.le_of_ble_eq_true rfl, Nat.le_of_ble_eq_true rfl⟩ (fun H locs w => ?_)
    refine lv_if_ne (tgt := 21) S.1 S.2.1 dX8_judge_14 (by decide) (fun c14 => ?_) (fun c14 => ?_)
    · rw [if_neg c14] at h
      refine lv_iconst (v := 0) S.1 S.2.1 dX8_judge_21 (by decide) ?_
      obtain ⟨g22, h23, h⟩ := xb h
      refine xr_puti S w 9 xi_X8_judge_X8 rfl tyX8 tyX8_ok nmX8 0 (by decide) xl_X8_judge_102 rfl (tyX8_ok 0 (by decide)) h23 dX8_judge_22 (fun H locs w => ?_)
      refine lv_aload_n S.1 S.2.1 dX8_judge_25 rfl (lv_at hl 0 rfl) ?_
      obtain ⟨x24, h25, h⟩ := xb h
      refine xr_geti S w 9 xi_X8_judge_X8 rfl 0 (by decide) xl_X8_judge_102 h25 dX8_judge_26 ?_
      refine lv_if_gt (tgt := 40) S.1 S.2.1 dX8_judge_29 (by decide) (fun c29 => ?_) (fun c29 => ?_)
      · rw [if_pos c29] at h
        refine lv_iconst (v := 0) S.1 S.2.1 dX8_judge_40 (by decide) ?_
        exact ret _ _ _ _ 0 0 _ (by decide) h w dX8_judge_41
      · rw [if_neg c29] at h
        refine lv_aload_n S.1 S.2.1 dX8_judge_32 rfl (lv_at hl 0 rfl) ?_
        refine lv_iload_n S.1 S.2.1 dX8_judge_33 rfl (lv_at hl 2 rfl) ?_
        obtain ⟨_, h26, h⟩ := xb h
        obtain ⟨x28, g29, h27, h⟩ := x2b h
        refine xr_callV_i S w hA hN 9 rfl h26 (c_X8_doesHold l D cy L g22 a0 a2 h27) (cwV 1 S.2.2.2.2 gX8_judge_X8_doesHold rfl rfl rfl (by decide +kernel) ⟨Nat.le_of_ble_eq_true rfl, Nat.le_of_ble_eq_true rfl⟩) rfl rfl hl.1 (Nat.le_of_ble_eq_true rfl) dX8_judge_34 ⟨Nat.le_of_ble_eq_true rfl, Nat.le_of_ble_eq_true rfl⟩ (fun H locs w => ?_)
        refine lv_if_ne (tgt := 42) S.1 S.2.1 dX8_judge_37 (by decide) (fun c37 => ?_) (fun c37 => ?_)
        · rw [if_neg c37] at h
          refine lv_aload_n S.1 S.2.1 dX8_judge_42 rfl (lv_at hl 0 rfl) ?_
          obtain ⟨x30, h31, h⟩ := xb h
          refine xr_getr S w 9 xi_X8_judge_X8 rfl 9 (by decide) xl_X8_judge_36 h31 dX8_judge_43 ?_
          refine lv_bipush (v := 6) S.1 S.2.1 dX8_judge_46 (by decide) ?_
          refine lv_iload_n S.1 S.2.1 dX8_judge_48 rfl (lv_at hl 1 rfl) ?_
          refine lv_imul S.1 S.2.1 dX8_judge_49 ?_
          refine lv_aload_n S.1 S.2.1 dX8_judge_50 rfl (lv_at hl 0 rfl) ?_
          refine lv_iload_n S.1 S.2.1 dX8_judge_51 rfl (lv_at hl 2 rfl) ?_
          refine lv_iconst (v := 1) S.1 S.2.1 dX8_judge_52 (by decide) ?_
          refine lv_iconst (v := 1) S.1 S.2.1 dX8_judge_53 (by decide) ?_
          obtain ⟨_, h32, h⟩ := xb h
          obtain ⟨x34, h33, h⟩ := xb h
          refine xr_callV_l S w hA hN 9 rfl h32 (c_X8_read l D cy L g29 a0 a2 1 1 h33) (cwV 3 S.2.2.2.2 gX8_judge_X8_read rfl rfl rfl (by decide +kernel) ⟨Nat.le_of_ble_eq_true rfl, Nat.le_of_ble_eq_true rfl⟩) rfl rfl hl.1 (Nat.le_of_ble_eq_true rfl) dX8_judge_54 ⟨Nat.le_of_ble_eq_true rfl, Nat.le_of_ble_eq_true rfl⟩ (fun H locs w => ?_)
          refine lv_l2i (v := (Int64.toInt32 x34)) S.1 S.2.1 dX8_judge_57 rfl ?_
          refine lv_iadd S.1 S.2.1 dX8_judge_58 ?_
          refine lv_iconst (v := 2) S.1 S.2.1 dX8_judge_59 (by decide) ?_
          obtain ⟨g35, h36, h⟩ := xb h
          refine xr_iast S w h36 dX8_judge_60 (fun H locs w => ?_)
          refine lv_iconst (v := 1) S.1 S.2.1 dX8_judge_61 (by decide) ?_
          exact ret _ _ _ _ 1 1 _ (by decide) h w dX8_judge_62
        · rw [if_pos c37] at h
          refine lv_iconst (v := 0) S.1 S.2.1 dX8_judge_40 (by decide) ?_
          exact ret _ _ _ _ 0 0 _ (by decide) h w dX8_judge_41
    · rw [if_pos c14] at h
      refine lv_iconst (v := 1) S.1 S.2.1 dX8_judge_17 (by decide) ?_
      refine lv_goto (tgt := 22) S.1 S.2.1 dX8_judge_18 (by decide) ?_
      obtain ⟨g37, h38, h⟩ := xb h
      refine xr_puti S w 9 xi_X8_judge_X8 rfl tyX8 tyX8_ok nmX8 0 (by decide) xl_X8_judge_102 rfl (tyX8_ok 0 (by decide)) h38 dX8_judge_22 (fun H locs w => ?_)
      refine lv_aload_n S.1 S.2.1 dX8_judge_25 rfl (lv_at hl 0 rfl) ?_
      obtain ⟨x39, h40, h⟩ := xb h
      refine xr_geti S w 9 xi_X8_judge_X8 rfl 0 (by decide) xl_X8_judge_102 h40 dX8_judge_26 ?_
      refine lv_if_gt (tgt := 40) S.1 S.2.1 dX8_judge_29 (by decide) (fun c29 => ?_) (fun c29 => ?_)
      · rw [if_pos c29] at h
        refine lv_iconst (v := 0) S.1 S.2.1 dX8_judge_40 (by decide) ?_
        exact ret _ _ _ _ 0 0 _ (by decide) h w dX8_judge_41
      · rw [if_neg c29] at h
        refine lv_aload_n S.1 S.2.1 dX8_judge_32 rfl (lv_at hl 0 rfl) ?_
        refine lv_iload_n S.1 S.2.1 dX8_judge_33 rfl (lv_at hl 2 rfl) ?_
        obtain ⟨_, h41, h⟩ := xb h
        obtain ⟨x43, g44, h42, h⟩ := x2b h
        refine xr_callV_i S w hA hN 9 rfl h41 (c_X8_doesHold l D cy L g37 a0 a2 h42) (cwV 1 S.2.2.2.2 gX8_judge_X8_doesHold rfl rfl rfl (by decide +kernel) ⟨Nat.le_of_ble_eq_true rfl, Nat.le_of_ble_eq_true rfl⟩) rfl rfl hl.1 (Nat.le_of_ble_eq_true rfl) dX8_judge_34 ⟨Nat.le_of_ble_eq_true rfl, Nat.le_of_ble_eq_true rfl⟩ (fun H locs w => ?_)
        refine lv_if_ne (tgt := 42) S.1 S.2.1 dX8_judge_37 (by decide) (fun c37 => ?_) (fun c37 => ?_)
        · rw [if_neg c37] at h
          refine lv_aload_n S.1 S.2.1 dX8_judge_42 rfl (lv_at hl 0 rfl) ?_
          obtain ⟨x45, h46, h⟩ := xb h
          refine xr_getr S w 9 xi_X8_judge_X8 rfl 9 (by decide) xl_X8_judge_36 h46 dX8_judge_43 ?_
          refine lv_bipush (v := 6) S.1 S.2.1 dX8_judge_46 (by decide) ?_
          refine lv_iload_n S.1 S.2.1 dX8_judge_48 rfl (lv_at hl 1 rfl) ?_
          refine lv_imul S.1 S.2.1 dX8_judge_49 ?_
          refine lv_aload_n S.1 S.2.1 dX8_judge_50 rfl (lv_at hl 0 rfl) ?_
          refine lv_iload_n S.1 S.2.1 dX8_judge_51 rfl (lv_at hl 2 rfl) ?_
          refine lv_iconst (v := 1) S.1 S.2.1 dX8_judge_52 (by decide) ?_
          refine lv_iconst (v := 1) S.1 S.2.1 dX8_judge_53 (by decide) ?_
          obtain ⟨_, h47, h⟩ := xb h
          obtain ⟨x49, h48, h⟩ := xb h
          refine xr_callV_l S w hA hN 9 rfl h47 (c_X8_read l D cy L g44 a0 a2 1 1 h48) (cwV 3 S.2.2.2.2 gX8_judge_X8_read rfl rfl rfl (by decide +kernel) ⟨Nat.le_of_ble_eq_true rfl, Nat.le_of_ble_eq_true rfl⟩) rfl rfl hl.1 (Nat.le_of_ble_eq_true rfl) dX8_judge_54 ⟨Nat.le_of_ble_eq_true rfl, Nat.le_of_ble_eq_true rfl⟩ (fun H locs w => ?_)
          refine lv_l2i (v := (Int64.toInt32 x49)) S.1 S.2.1 dX8_judge_57 rfl ?_
          refine lv_iadd S.1 S.2.1 dX8_judge_58 ?_
          refine lv_iconst (v := 2) S.1 S.2.1 dX8_judge_59 (by decide) ?_
          obtain ⟨g50, h51, h⟩ := xb h
          refine xr_iast S w h51 dX8_judge_60 (fun H locs w => ?_)
          refine lv_iconst (v := 1) S.1 S.2.1 dX8_judge_61 (by decide) ?_
          exact ret _ _ _ _ 1 1 _ (by decide) h w dX8_judge_62
        · rw [if_pos c37] at h
          refine lv_iconst (v := 0) S.1 S.2.1 dX8_judge_40 (by decide) ?_
          exact ret _ _ _ _ 0 0 _ (by decide) h w dX8_judge_41
theorem xi_X8_byteOf_X8 : ∀ w ∈ wsX80, w ∈ wsX8_byteOf := by decide +kernel
theorem xl_X8_byteOf_102 : Cond.fieldLink RX8 102 (TX8 0).1 (TX8 0).2.1 (TX8 0).2.2.1 ∈ wsX8_byteOf := by decide +kernel
theorem xl_X8_byteOf_85 : Cond.fieldLink RX8 85 (TX8 29).1 (TX8 29).2.1 (TX8 29).2.2.1 ∈ wsX8_byteOf := by decide +kernel
theorem xl_X8_byteOf_89 : Cond.fieldLink RX8 89 (TX8 30).1 (TX8 30).2.1 (TX8 30).2.2.1 ∈ wsX8_byteOf := by decide +kernel
def f_X8_byteOf_14 (g : xG) (v0 : Nat) (v1 : Int32) (v2 : Int32) (s0 : Nat) (s1 : Int32) : Option (Int32 × xG) :=
  (xp_i g 9 s0 0 s1).bind fun g1 =>
  (xg_i g1 9 v0 0).bind fun x3 =>
  if x3 ≤ 0 then
    if v2 < 0 then
      some ((-1), g1)
    else
      (xg_r g1 9 v0 29).bind fun x5 =>
      (xa_i 1 g1 x5 v1).bind fun x7 =>
      if v2 < x7 then
        (xg_r g1 9 v0 30).bind fun x9 =>
        (xa_i 0 g1 x9 ((940 * v1) + v2)).bind fun x11 =>
        some ((x11 &&& 255), g1)
      else
        some ((-1), g1)
  else
    some (0, g1)
def f_X8_byteOf (g : xG) (a0 : Nat) (a1 : Int32) (a2 : Int32) : Option (Int32 × xG) :=
  (xk g 9 a0).bind fun _ =>
  (f_X8_isPiece g a0 a1).bind fun x15 =>
  if x15 = 0 then
    f_X8_byteOf_14 g a0 a1 a2 a0 1
  else
    f_X8_byteOf_14 g a0 a1 a2 a0 0
set_option maxHeartbeats 4000000 in
set_option maxRecDepth 100000 in
theorem c_X8_byteOf (l : Launch) (D : va_G) (cy : Nat → ClassId) (L : List Nat) (g : xG) (a0 : Nat) (a1 : Int32) (a2 : Int32) {r1 : Int32} {g1 : xG} (h : f_X8_byteOf g a0 a1 a2 = some (r1, g1)) : xMi l yX8_byteOf wsX8_byteOf ({ frames := 1, cells := 0, slots := 0, locals := 21 }) D cy L g [.ref a0, .int a1, .int a2] r1 g1 := by
  refine xm_i (cc := cX8_byteOf) (maxL := 3) RX8 rfl rfl rfl (by decide +kernel) rfl (Nat.le_of_ble_eq_true rfl) ?_
  intro p e s m args below meth c Q A S w hA hN ret ls hl
  have hl : lv_has ls 3 [(0, .ref a0), (1, .int a1), (2, .int a2)] := hl
  obtain ⟨rr, hrr⟩ : ∃ z, z = (r1, g1) := ⟨_, rfl⟩
  rw [← hrr] at h
  have hb14 : ∀ (g : xG) (v0 : Nat) (v1 : Int32) (v2 : Int32) (s0 : Nat) (s1 : Int32) , f_X8_byteOf_14 g v0 v1 v2 s0 s1 = some rr → ∀ (H : Heap) (locs : List Loc) (ls : Array Slot), xOK D cy A s.heap s L g H locs → lv_has ls 3 [(0, .ref v0), (1, .int v1), (2, .int v2)] → W p l e { frames := 1, cells := 0, slots := 0, locals := 21 } s m args below meth c H locs 0 0 Q (F0 m 14 ls [.int s1, .ref s0]) := by
    intro g v0 v1 v2 s0 s1 h H locs ls w hl
    rw [f_X8_byteOf_14] at h
    obtain ⟨g1, h2, h⟩ := xb h
    refine xr_puti S w 9 xi_X8_byteOf_X8 rfl tyX8 tyX8_ok nmX8 0 (by decide) xl_X8_byteOf_102 rfl (tyX8_ok 0 (by decide)) h2 dX8_byteOf_14 (fun H locs w => ?_)
    refine lv_aload_n S.1 S.2.1 dX8_byteOf_17 rfl (lv_at hl 0 rfl) ?_
    obtain ⟨x3, h4, h⟩ := xb h
    refine xr_geti S w 9 xi_X8_byteOf_X8 rfl 0 (by decide) xl_X8_byteOf_102 h4 dX8_byteOf_18 ?_
    refine lv_if_le (tgt := 26) S.1 S.2.1 dX8_byteOf_21 (by decide) (fun c21 => ?_) (fun c21 => ?_)
    · rw [if_pos c21] at h
      refine lv_iload_n S.1 S.2.1 dX8_byteOf_26 rfl (lv_at hl 2 rfl) ?_
      refine lv_if_lt (tgt := 40) S.1 S.2.1 dX8_byteOf_27 (by decide) (fun c27 => ?_) (fun c27 => ?_)
      · rw [if_pos c27] at h
        refine lv_iconst (v := (-1)) S.1 S.2.1 dX8_byteOf_40 (by decide) ?_
        refine lv_goto (tgt := 60) S.1 S.2.1 dX8_byteOf_41 (by decide) ?_
        exact ret _ _ _ _ _ _ (h.trans (congrArg some hrr)) w dX8_byteOf_60
      · rw [if_neg c27] at h
        refine lv_iload_n S.1 S.2.1 dX8_byteOf_30 rfl (lv_at hl 2 rfl) ?_
        refine lv_aload_n S.1 S.2.1 dX8_byteOf_31 rfl (lv_at hl 0 rfl) ?_
        obtain ⟨x5, h6, h⟩ := xb h
        refine xr_getr S w 9 xi_X8_byteOf_X8 rfl 29 (by decide) xl_X8_byteOf_85 h6 dX8_byteOf_32 ?_
        refine lv_iload_n S.1 S.2.1 dX8_byteOf_35 rfl (lv_at hl 1 rfl) ?_
        obtain ⟨x7, h8, h⟩ := xb h
        refine xr_iald S w h8 dX8_byteOf_36 ?_
        refine lv_icmp_lt (tgt := 44) S.1 S.2.1 dX8_byteOf_37 (by decide) (fun c37 => ?_) (fun c37 => ?_)
        · rw [if_pos c37] at h
          refine lv_aload_n S.1 S.2.1 dX8_byteOf_44 rfl (lv_at hl 0 rfl) ?_
          obtain ⟨x9, h10, h⟩ := xb h
          refine xr_getr S w 9 xi_X8_byteOf_X8 rfl 30 (by decide) xl_X8_byteOf_89 h10 dX8_byteOf_45 ?_
          refine lv_sipush (v := 940) S.1 S.2.1 dX8_byteOf_48 (by decide) ?_
          refine lv_iload_n S.1 S.2.1 dX8_byteOf_51 rfl (lv_at hl 1 rfl) ?_
          refine lv_imul S.1 S.2.1 dX8_byteOf_52 ?_
          refine lv_iload_n S.1 S.2.1 dX8_byteOf_53 rfl (lv_at hl 2 rfl) ?_
          refine lv_iadd S.1 S.2.1 dX8_byteOf_54 ?_
          obtain ⟨x11, h12, h⟩ := xb h
          refine xr_bald S w h12 dX8_byteOf_55 ?_
          refine lv_sipush (v := 255) S.1 S.2.1 dX8_byteOf_56 (by decide) ?_
          refine lv_iand S.1 S.2.1 dX8_byteOf_59 ?_
          exact ret _ _ _ _ _ _ (h.trans (congrArg some hrr)) w dX8_byteOf_60
        · rw [if_neg c37] at h
          refine lv_iconst (v := (-1)) S.1 S.2.1 dX8_byteOf_40 (by decide) ?_
          refine lv_goto (tgt := 60) S.1 S.2.1 dX8_byteOf_41 (by decide) ?_
          exact ret _ _ _ _ _ _ (h.trans (congrArg some hrr)) w dX8_byteOf_60
    · rw [if_neg c21] at h
      refine lv_iconst (v := 0) S.1 S.2.1 dX8_byteOf_24 (by decide) ?_
      exact ret _ _ _ _ _ _ (h.trans (congrArg some hrr)) w dX8_byteOf_25
  rw [f_X8_byteOf] at h
  refine lv_aload_n S.1 S.2.1 dX8_byteOf_0 rfl (lv_at hl 0 rfl) ?_
  refine lv_aload_n S.1 S.2.1 dX8_byteOf_1 rfl (lv_at hl 0 rfl) ?_
  refine lv_iload_n S.1 S.2.1 dX8_byteOf_2 rfl (lv_at hl 1 rfl) ?_
  obtain ⟨_, h13, h⟩ := xb h
  obtain ⟨x15, h14, h⟩ := xb h
  refine xr_callV_i S w hA hN 9 rfl h13 (c_X8_isPiece l D cy L g a0 a1 h14) (cwV 1 S.2.2.2.2 gX8_byteOf_X8_isPiece rfl rfl rfl (by decide +kernel) ⟨Nat.le_of_ble_eq_true rfl, Nat.le_of_ble_eq_true rfl⟩) rfl rfl hl.1 (Nat.le_of_ble_eq_true rfl) dX8_byteOf_3 ⟨Nat.le_of_ble_eq_true rfl, Nat.le_of_ble_eq_true rfl⟩ (fun H locs w => ?_)
  refine lv_if_ne (tgt := 13) S.1 S.2.1 dX8_byteOf_6 (by decide) (fun c6 => ?_) (fun c6 => ?_)
  · rw [if_neg c6] at h
    refine lv_iconst (v := 0) S.1 S.2.1 dX8_byteOf_13 (by decide) ?_
    exact hb14 g a0 a1 a2 a0 0 h _ _ _ w hl
  · rw [if_pos c6] at h
    refine lv_iconst (v := 1) S.1 S.2.1 dX8_byteOf_9 (by decide) ?_
    refine lv_goto (tgt := 14) S.1 S.2.1 dX8_byteOf_10 (by decide) ?_
    exact hb14 g a0 a1 a2 a0 1 h _ _ _ w hl
theorem xi_X8_smudge_X8 : ∀ w ∈ wsX80, w ∈ wsX8_smudge := by decide +kernel
theorem xl_X8_smudge_102 : Cond.fieldLink RX8 102 (TX8 0).1 (TX8 0).2.1 (TX8 0).2.2.1 ∈ wsX8_smudge := by decide +kernel
theorem xl_X8_smudge_89 : Cond.fieldLink RX8 89 (TX8 30).1 (TX8 30).2.1 (TX8 30).2.2.1 ∈ wsX8_smudge := by decide +kernel
theorem xl_X8_smudge_85 : Cond.fieldLink RX8 85 (TX8 29).1 (TX8 29).2.1 (TX8 29).2.2.1 ∈ wsX8_smudge := by decide +kernel
def f_X8_smudge_24 (g : xG) (v0 : Nat) (v1 : Int32) (v2 : Int32) (v3 : Int32) (s0 : Nat) : Option (Int32 × xG) :=
  (xp_i g 9 s0 0 1).bind fun g1 =>
  (xg_i g1 9 v0 0).bind fun x3 =>
  if x3 ≤ 0 then
    (xg_r g1 9 v0 30).bind fun x5 =>
    (xa_i 0 g1 x5 ((940 * v1) + v2)).bind fun x7 =>
    (xg_r g1 9 v0 30).bind fun x9 =>
    (xs_i 0 g1 x9 ((940 * v1) + v2) (Int8.toInt32 (Int32.toInt8 v3))).bind fun g11 =>
    some ((x7 &&& 255), g11)
  else
    some (0, g1)
def f_X8_smudge (g : xG) (a0 : Nat) (a1 : Int32) (a2 : Int32) (a3 : Int32) : Option (Int32 × xG) :=
  (xk g 9 a0).bind fun _ =>
  (f_X8_isPiece g a0 a1).bind fun x15 =>
  if x15 = 0 then
    f_X8_smudge_24 g a0 a1 a2 a3 a0
  else
    if a2 < 0 then
      f_X8_smudge_24 g a0 a1 a2 a3 a0
    else
      if a3 < 0 then
        f_X8_smudge_24 g a0 a1 a2 a3 a0
      else
        if a3 ≤ 255 then
          (xg_r g 9 a0 29).bind fun x16 =>
          (xa_i 1 g x16 a1).bind fun x18 =>
          if a2 < x18 then
            (xp_i g 9 a0 0 0).bind fun g20 =>
            (xg_i g20 9 a0 0).bind fun x22 =>
            if x22 ≤ 0 then
              (xg_r g20 9 a0 30).bind fun x24 =>
              (xa_i 0 g20 x24 ((940 * a1) + a2)).bind fun x26 =>
              (xg_r g20 9 a0 30).bind fun x28 =>
              (xs_i 0 g20 x28 ((940 * a1) + a2) (Int8.toInt32 (Int32.toInt8 a3))).bind fun g30 =>
              some ((x26 &&& 255), g30)
            else
              some (0, g20)
          else
            (xp_i g 9 a0 0 1).bind fun g32 =>
            (xg_i g32 9 a0 0).bind fun x34 =>
            if x34 ≤ 0 then
              (xg_r g32 9 a0 30).bind fun x36 =>
              (xa_i 0 g32 x36 ((940 * a1) + a2)).bind fun x38 =>
              (xg_r g32 9 a0 30).bind fun x40 =>
              (xs_i 0 g32 x40 ((940 * a1) + a2) (Int8.toInt32 (Int32.toInt8 a3))).bind fun g42 =>
              some ((x38 &&& 255), g42)
            else
              some (0, g32)
        else
          f_X8_smudge_24 g a0 a1 a2 a3 a0
set_option maxHeartbeats 4000000 in
set_option maxRecDepth 100000 in
theorem c_X8_smudge (l : Launch) (D : va_G) (cy : Nat → ClassId) (L : List Nat) (g : xG) (a0 : Nat) (a1 : Int32) (a2 : Int32) (a3 : Int32) {r1 : Int32} {g1 : xG} (h : f_X8_smudge g a0 a1 a2 a3 = some (r1, g1)) : xMi l yX8_smudge wsX8_smudge ({ frames := 1, cells := 0, slots := 0, locals := 21 }) D cy L g [.ref a0, .int a1, .int a2, .int a3] r1 g1 := by
  refine xm_i (cc := cX8_smudge) (maxL := 5) RX8 rfl rfl rfl (by decide +kernel) rfl (Nat.le_of_ble_eq_true rfl) ?_
  intro p e s m args below meth c Q A S w hA hN ret ls hl
  have hl : lv_has ls 5 [(0, .ref a0), (1, .int a1), (2, .int a2), (3, .int a3)] := hl
  obtain ⟨rr, hrr⟩ : ∃ z, z = (r1, g1) := ⟨_, rfl⟩
  rw [← hrr] at h
  have hb24 : ∀ (g : xG) (v0 : Nat) (v1 : Int32) (v2 : Int32) (v3 : Int32) (s0 : Nat) , f_X8_smudge_24 g v0 v1 v2 v3 s0 = some rr → ∀ (H : Heap) (locs : List Loc) (ls : Array Slot), xOK D cy A s.heap s L g H locs → lv_has ls 5 [(0, .ref v0), (1, .int v1), (2, .int v2), (3, .int v3)] → W p l e { frames := 1, cells := 0, slots := 0, locals := 21 } s m args below meth c H locs 0 0 Q (F0 m 24 ls [.ref s0]) := by
    intro g v0 v1 v2 v3 s0 h H locs ls w hl
    rw [f_X8_smudge_24] at h
    refine lv_iconst (v := 1) S.1 S.2.1 dX8_smudge_24 (by decide) ?_
    refine lv_goto (tgt := 43) S.1 S.2.1 dX8_smudge_25 (by decide) ?_
    obtain ⟨g1, h2, h⟩ := xb h
    refine xr_puti S w 9 xi_X8_smudge_X8 rfl tyX8 tyX8_ok nmX8 0 (by decide) xl_X8_smudge_102 rfl (tyX8_ok 0 (by decide)) h2 dX8_smudge_43 (fun H locs w => ?_)
    refine lv_aload_n S.1 S.2.1 dX8_smudge_46 rfl (lv_at hl 0 rfl) ?_
    obtain ⟨x3, h4, h⟩ := xb h
    refine xr_geti S w 9 xi_X8_smudge_X8 rfl 0 (by decide) xl_X8_smudge_102 h4 dX8_smudge_47 ?_
    refine lv_if_le (tgt := 55) S.1 S.2.1 dX8_smudge_50 (by decide) (fun c50 => ?_) (fun c50 => ?_)
    · rw [if_pos c50] at h
      refine lv_aload_n S.1 S.2.1 dX8_smudge_55 rfl (lv_at hl 0 rfl) ?_
      obtain ⟨x5, h6, h⟩ := xb h
      refine xr_getr S w 9 xi_X8_smudge_X8 rfl 30 (by decide) xl_X8_smudge_89 h6 dX8_smudge_56 ?_
      refine lv_sipush (v := 940) S.1 S.2.1 dX8_smudge_59 (by decide) ?_
      refine lv_iload_n S.1 S.2.1 dX8_smudge_62 rfl (lv_at hl 1 rfl) ?_
      refine lv_imul S.1 S.2.1 dX8_smudge_63 ?_
      refine lv_iload_n S.1 S.2.1 dX8_smudge_64 rfl (lv_at hl 2 rfl) ?_
      refine lv_iadd S.1 S.2.1 dX8_smudge_65 ?_
      obtain ⟨x7, h8, h⟩ := xb h
      refine xr_bald S w h8 dX8_smudge_66 ?_
      refine lv_sipush (v := 255) S.1 S.2.1 dX8_smudge_67 (by decide) ?_
      refine lv_iand S.1 S.2.1 dX8_smudge_70 ?_
      refine lv_istore (lv' := [(4, .int (x7 &&& 255)), (0, .ref v0), (1, .int v1), (2, .int v2), (3, .int v3)]) S.1 S.2.1 dX8_smudge_71 hl (by decide) rfl (fun ls hl => ?_)
      refine lv_aload_n S.1 S.2.1 dX8_smudge_73 rfl (lv_at hl 1 rfl) ?_
      obtain ⟨x9, h10, h⟩ := xb h
      refine xr_getr S w 9 xi_X8_smudge_X8 rfl 30 (by decide) xl_X8_smudge_89 h10 dX8_smudge_74 ?_
      refine lv_sipush (v := 940) S.1 S.2.1 dX8_smudge_77 (by decide) ?_
      refine lv_iload_n S.1 S.2.1 dX8_smudge_80 rfl (lv_at hl 2 rfl) ?_
      refine lv_imul S.1 S.2.1 dX8_smudge_81 ?_
      refine lv_iload_n S.1 S.2.1 dX8_smudge_82 rfl (lv_at hl 3 rfl) ?_
      refine lv_iadd S.1 S.2.1 dX8_smudge_83 ?_
      refine lv_iload_n S.1 S.2.1 dX8_smudge_84 rfl (lv_at hl 4 rfl) ?_
      refine lv_i2b (v := (Int8.toInt32 (Int32.toInt8 v3))) S.1 S.2.1 dX8_smudge_85 rfl ?_
      obtain ⟨g11, h12, h⟩ := xb h
      refine xr_bast S w h12 dX8_smudge_86 (fun H locs w => ?_)
      refine lv_iload S.1 S.2.1 dX8_smudge_87 (lv_at hl 0 rfl) ?_
      exact ret _ _ _ _ _ _ (h.trans (congrArg some hrr)) w dX8_smudge_89
    · rw [if_neg c50] at h
      refine lv_iconst (v := 0) S.1 S.2.1 dX8_smudge_53 (by decide) ?_
      exact ret _ _ _ _ _ _ (h.trans (congrArg some hrr)) w dX8_smudge_54
  rw [f_X8_smudge] at h
  refine lv_aload_n S.1 S.2.1 dX8_smudge_0 rfl (lv_at hl 0 rfl) ?_
  refine lv_aload_n S.1 S.2.1 dX8_smudge_1 rfl (lv_at hl 0 rfl) ?_
  refine lv_iload_n S.1 S.2.1 dX8_smudge_2 rfl (lv_at hl 1 rfl) ?_
  obtain ⟨_, h13, h⟩ := xb h
  obtain ⟨x15, h14, h⟩ := xb h
  refine xr_callV_i S w hA hN 9 rfl h13 (c_X8_isPiece l D cy L g a0 a1 h14) (cwV 1 S.2.2.2.2 gX8_smudge_X8_isPiece rfl rfl rfl (by decide +kernel) ⟨Nat.le_of_ble_eq_true rfl, Nat.le_of_ble_eq_true rfl⟩) rfl rfl hl.1 (Nat.le_of_ble_eq_true rfl) dX8_smudge_3 ⟨Nat.le_of_ble_eq_true rfl, Nat.le_of_ble_eq_true rfl⟩ (fun H locs w => ?_)
  refine lv_if_eq (tgt := 24) S.1 S.2.1 dX8_smudge_6 (by decide) (fun c6 => ?_) (fun c6 => ?_)
  · rw [if_pos c6] at h
    exact hb24 g a0 a1 a2 a3 a0 h _ _ _ w hl
  · rw [if_neg c6] at h
    refine lv_iload_n S.1 S.2.1 dX8_smudge_9 rfl (lv_at hl 2 rfl) ?_
    refine lv_if_lt (tgt := 24) S.1 S.2.1 dX8_smudge_10 (by decide) (fun c10 => ?_) (fun c10 => ?_)
    · rw [if_pos c10] at h
      exact hb24 g a0 a1 a2 a3 a0 h _ _ _ w hl
    · rw [if_neg c10] at h
      refine lv_iload_n S.1 S.2.1 dX8_smudge_13 rfl (lv_at hl 3 rfl) ?_
      refine lv_if_lt (tgt := 24) S.1 S.2.1 dX8_smudge_14 (by decide) (fun c14 => ?_) (fun c14 => ?_)
      · rw [if_pos c14] at h
        exact hb24 g a0 a1 a2 a3 a0 h _ _ _ w hl
      · rw [if_neg c14] at h
        refine lv_iload_n S.1 S.2.1 dX8_smudge_17 rfl (lv_at hl 3 rfl) ?_
        refine lv_sipush (v := 255) S.1 S.2.1 dX8_smudge_18 (by decide) ?_
        refine lv_icmp_le (tgt := 28) S.1 S.2.1 dX8_smudge_21 (by decide) (fun c21 => ?_) (fun c21 => ?_)
        · rw [if_pos c21] at h
          refine lv_iload_n S.1 S.2.1 dX8_smudge_28 rfl (lv_at hl 2 rfl) ?_
          refine lv_aload_n S.1 S.2.1 dX8_smudge_29 rfl (lv_at hl 0 rfl) ?_
          obtain ⟨x16, h17, h⟩ := xb h
          refine xr_getr S w 9 xi_X8_smudge_X8 rfl 29 (by decide) xl_X8_smudge_85 h17 dX8_smudge_30 ?_
          refine lv_iload_n S.1 S.2.1 dX8_smudge_33 rfl (lv_at hl 1 rfl) ?_
          obtain ⟨x18, h19, h⟩ := xb h
          refine xr_iald S w h19 dX8_smudge_34 ?_
          refine lv_icmp_lt (tgt := 42) S.1 S.2.1 dX8_smudge_35 (by decide) (fun c35 => ?_) (fun c35 => ?_)
          · rw [if_pos c35] at h
            refine lv_iconst (v := 0) S.1 S.2.1 dX8_smudge_42 (by decide) ?_
            obtain ⟨g20, h21, h⟩ := xb h
            refine xr_puti S w 9 xi_X8_smudge_X8 rfl tyX8 tyX8_ok nmX8 0 (by decide) xl_X8_smudge_102 rfl (tyX8_ok 0 (by decide)) h21 dX8_smudge_43 (fun H locs w => ?_)
            refine lv_aload_n S.1 S.2.1 dX8_smudge_46 rfl (lv_at hl 0 rfl) ?_
            obtain ⟨x22, h23, h⟩ := xb h
            refine xr_geti S w 9 xi_X8_smudge_X8 rfl 0 (by decide) xl_X8_smudge_102 h23 dX8_smudge_47 ?_
            refine lv_if_le (tgt := 55) S.1 S.2.1 dX8_smudge_50 (by decide) (fun c50 => ?_) (fun c50 => ?_)
            · rw [if_pos c50] at h
              refine lv_aload_n S.1 S.2.1 dX8_smudge_55 rfl (lv_at hl 0 rfl) ?_
              obtain ⟨x24, h25, h⟩ := xb h
              refine xr_getr S w 9 xi_X8_smudge_X8 rfl 30 (by decide) xl_X8_smudge_89 h25 dX8_smudge_56 ?_
              refine lv_sipush (v := 940) S.1 S.2.1 dX8_smudge_59 (by decide) ?_
              refine lv_iload_n S.1 S.2.1 dX8_smudge_62 rfl (lv_at hl 1 rfl) ?_
              refine lv_imul S.1 S.2.1 dX8_smudge_63 ?_
              refine lv_iload_n S.1 S.2.1 dX8_smudge_64 rfl (lv_at hl 2 rfl) ?_
              refine lv_iadd S.1 S.2.1 dX8_smudge_65 ?_
              obtain ⟨x26, h27, h⟩ := xb h
              refine xr_bald S w h27 dX8_smudge_66 ?_
              refine lv_sipush (v := 255) S.1 S.2.1 dX8_smudge_67 (by decide) ?_
              refine lv_iand S.1 S.2.1 dX8_smudge_70 ?_
              refine lv_istore (lv' := [(4, .int (x26 &&& 255)), (0, .ref a0), (1, .int a1), (2, .int a2), (3, .int a3)]) S.1 S.2.1 dX8_smudge_71 hl (by decide) rfl (fun ls hl => ?_)
              refine lv_aload_n S.1 S.2.1 dX8_smudge_73 rfl (lv_at hl 1 rfl) ?_
              obtain ⟨x28, h29, h⟩ := xb h
              refine xr_getr S w 9 xi_X8_smudge_X8 rfl 30 (by decide) xl_X8_smudge_89 h29 dX8_smudge_74 ?_
              refine lv_sipush (v := 940) S.1 S.2.1 dX8_smudge_77 (by decide) ?_
              refine lv_iload_n S.1 S.2.1 dX8_smudge_80 rfl (lv_at hl 2 rfl) ?_
              refine lv_imul S.1 S.2.1 dX8_smudge_81 ?_
              refine lv_iload_n S.1 S.2.1 dX8_smudge_82 rfl (lv_at hl 3 rfl) ?_
              refine lv_iadd S.1 S.2.1 dX8_smudge_83 ?_
              refine lv_iload_n S.1 S.2.1 dX8_smudge_84 rfl (lv_at hl 4 rfl) ?_
              refine lv_i2b (v := (Int8.toInt32 (Int32.toInt8 a3))) S.1 S.2.1 dX8_smudge_85 rfl ?_
              obtain ⟨g30, h31, h⟩ := xb h
              refine xr_bast S w h31 dX8_smudge_86 (fun H locs w => ?_)
              refine lv_iload S.1 S.2.1 dX8_smudge_87 (lv_at hl 0 rfl) ?_
              exact ret _ _ _ _ _ _ (h.trans (congrArg some hrr)) w dX8_smudge_89
            · rw [if_neg c50] at h
              refine lv_iconst (v := 0) S.1 S.2.1 dX8_smudge_53 (by decide) ?_
              exact ret _ _ _ _ _ _ (h.trans (congrArg some hrr)) w dX8_smudge_54
          · rw [if_neg c35] at h
            refine lv_iconst (v := 1) S.1 S.2.1 dX8_smudge_38 (by decide) ?_
            refine lv_goto (tgt := 43) S.1 S.2.1 dX8_smudge_39 (by decide) ?_
            obtain ⟨g32, h33, h⟩ := xb h
            refine xr_puti S w 9 xi_X8_smudge_X8 rfl tyX8 tyX8_ok nmX8 0 (by decide) xl_X8_smudge_102 rfl (tyX8_ok 0 (by decide)) h33 dX8_smudge_43 (fun H locs w => ?_)
            refine lv_aload_n S.1 S.2.1 dX8_smudge_46 rfl (lv_at hl 0 rfl) ?_
            obtain ⟨x34, h35, h⟩ := xb h
            refine xr_geti S w 9 xi_X8_smudge_X8 rfl 0 (by decide) xl_X8_smudge_102 h35 dX8_smudge_47 ?_
            refine lv_if_le (tgt := 55) S.1 S.2.1 dX8_smudge_50 (by decide) (fun c50 => ?_) (fun c50 => ?_)
            · rw [if_pos c50] at h
              refine lv_aload_n S.1 S.2.1 dX8_smudge_55 rfl (lv_at hl 0 rfl) ?_
              obtain ⟨x36, h37, h⟩ := xb h
              refine xr_getr S w 9 xi_X8_smudge_X8 rfl 30 (by decide) xl_X8_smudge_89 h37 dX8_smudge_56 ?_
              refine lv_sipush (v := 940) S.1 S.2.1 dX8_smudge_59 (by decide) ?_
              refine lv_iload_n S.1 S.2.1 dX8_smudge_62 rfl (lv_at hl 1 rfl) ?_
              refine lv_imul S.1 S.2.1 dX8_smudge_63 ?_
              refine lv_iload_n S.1 S.2.1 dX8_smudge_64 rfl (lv_at hl 2 rfl) ?_
              refine lv_iadd S.1 S.2.1 dX8_smudge_65 ?_
              obtain ⟨x38, h39, h⟩ := xb h
              refine xr_bald S w h39 dX8_smudge_66 ?_
              refine lv_sipush (v := 255) S.1 S.2.1 dX8_smudge_67 (by decide) ?_
              refine lv_iand S.1 S.2.1 dX8_smudge_70 ?_
              refine lv_istore (lv' := [(4, .int (x38 &&& 255)), (0, .ref a0), (1, .int a1), (2, .int a2), (3, .int a3)]) S.1 S.2.1 dX8_smudge_71 hl (by decide) rfl (fun ls hl => ?_)
              refine lv_aload_n S.1 S.2.1 dX8_smudge_73 rfl (lv_at hl 1 rfl) ?_
              obtain ⟨x40, h41, h⟩ := xb h
              refine xr_getr S w 9 xi_X8_smudge_X8 rfl 30 (by decide) xl_X8_smudge_89 h41 dX8_smudge_74 ?_
              refine lv_sipush (v := 940) S.1 S.2.1 dX8_smudge_77 (by decide) ?_
              refine lv_iload_n S.1 S.2.1 dX8_smudge_80 rfl (lv_at hl 2 rfl) ?_
              refine lv_imul S.1 S.2.1 dX8_smudge_81 ?_
              refine lv_iload_n S.1 S.2.1 dX8_smudge_82 rfl (lv_at hl 3 rfl) ?_
              refine lv_iadd S.1 S.2.1 dX8_smudge_83 ?_
              refine lv_iload_n S.1 S.2.1 dX8_smudge_84 rfl (lv_at hl 4 rfl) ?_
              refine lv_i2b (v := (Int8.toInt32 (Int32.toInt8 a3))) S.1 S.2.1 dX8_smudge_85 rfl ?_
              obtain ⟨g42, h43, h⟩ := xb h
              refine xr_bast S w h43 dX8_smudge_86 (fun H locs w => ?_)
              refine lv_iload S.1 S.2.1 dX8_smudge_87 (lv_at hl 0 rfl) ?_
              exact ret _ _ _ _ _ _ (h.trans (congrArg some hrr)) w dX8_smudge_89
            · rw [if_neg c50] at h
              refine lv_iconst (v := 0) S.1 S.2.1 dX8_smudge_53 (by decide) ?_
              exact ret _ _ _ _ _ _ (h.trans (congrArg some hrr)) w dX8_smudge_54
        · rw [if_neg c21] at h
          exact hb24 g a0 a1 a2 a3 a0 h _ _ _ w hl
theorem xi_X8_verdict_X8 : ∀ w ∈ wsX80, w ∈ wsX8_verdict := by decide +kernel
theorem xl_X8_verdict_102 : Cond.fieldLink RX8 102 (TX8 0).1 (TX8 0).2.1 (TX8 0).2.2.1 ∈ wsX8_verdict := by decide +kernel
theorem xl_X8_verdict_36 : Cond.fieldLink RX8 36 (TX8 9).1 (TX8 9).2.1 (TX8 9).2.2.1 ∈ wsX8_verdict := by decide +kernel
def f_X8_verdict (g : xG) (a0 : Nat) (a1 : Int32) (a2 : Int32) : Option (Int32 × xG) :=
  (xk g 9 a0).bind fun _ =>
  (f_X8_no g a0 a1).bind fun x3 =>
  if x3 = 0 then
    (xk g 9 a0).bind fun _ =>
    (f_X8_no g a0 a2).bind fun x14 =>
    if x14 = 0 then
      if a1 = a2 then
        (xp_i g 9 a0 0 1).bind fun g31 =>
        (xg_i g31 9 a0 0).bind fun x33 =>
        if x33 ≤ 0 then
          (xg_r g31 9 a0 9).bind fun x35 =>
          (xa_i 1 g31 x35 ((6 * a1) + a2)).bind fun x37 =>
          some (x37, g31)
        else
          some (0, g31)
      else
        (xp_i g 9 a0 0 0).bind fun g23 =>
        (xg_i g23 9 a0 0).bind fun x25 =>
        if x25 ≤ 0 then
          (xg_r g23 9 a0 9).bind fun x27 =>
          (xa_i 1 g23 x27 ((6 * a1) + a2)).bind fun x29 =>
          some (x29, g23)
        else
          some (0, g23)
    else
      (xp_i g 9 a0 0 1).bind fun g15 =>
      (xg_i g15 9 a0 0).bind fun x17 =>
      if x17 ≤ 0 then
        (xg_r g15 9 a0 9).bind fun x19 =>
        (xa_i 1 g15 x19 ((6 * a1) + a2)).bind fun x21 =>
        some (x21, g15)
      else
        some (0, g15)
  else
    (xp_i g 9 a0 0 1).bind fun g4 =>
    (xg_i g4 9 a0 0).bind fun x6 =>
    if x6 ≤ 0 then
      (xg_r g4 9 a0 9).bind fun x8 =>
      (xa_i 1 g4 x8 ((6 * a1) + a2)).bind fun x10 =>
      some (x10, g4)
    else
      some (0, g4)
set_option maxHeartbeats 4000000 in
set_option maxRecDepth 100000 in
theorem c_X8_verdict (l : Launch) (D : va_G) (cy : Nat → ClassId) (L : List Nat) (g : xG) (a0 : Nat) (a1 : Int32) (a2 : Int32) {r1 : Int32} {g1 : xG} (h : f_X8_verdict g a0 a1 a2 = some (r1, g1)) : xMi l yX8_verdict wsX8_verdict ({ frames := 1, cells := 0, slots := 0, locals := 21 }) D cy L g [.ref a0, .int a1, .int a2] r1 g1 := by
  refine xm_i (cc := cX8_verdict) (maxL := 3) RX8 rfl rfl rfl (by decide +kernel) rfl (Nat.le_of_ble_eq_true rfl) ?_
  intro p e s m args below meth c Q A S w hA hN ret ls hl
  have hl : lv_has ls 3 [(0, .ref a0), (1, .int a1), (2, .int a2)] := hl
  rw [f_X8_verdict] at h
  refine lv_aload_n S.1 S.2.1 dX8_verdict_0 rfl (lv_at hl 0 rfl) ?_
  refine lv_aload_n S.1 S.2.1 dX8_verdict_1 rfl (lv_at hl 0 rfl) ?_
  refine lv_iload_n S.1 S.2.1 dX8_verdict_2 rfl (lv_at hl 1 rfl) ?_
  obtain ⟨_, h1, h⟩ := xb h
  obtain ⟨x3, h2, h⟩ := xb h
  refine xr_callV_i S w hA hN 9 rfl h1 (c_X8_no l D cy L g a0 a1 h2) (cwV 1 S.2.2.2.2 gX8_verdict_X8_no rfl rfl rfl (by decide +kernel) ⟨Nat.le_of_ble_eq_true rfl, Nat.le_of_ble_eq_true rfl⟩) rfl rfl hl.1 (Nat.le_of_ble_eq_true rfl) dX8_verdict_3 ⟨Nat.le_of_ble_eq_true rfl, Nat.le_of_ble_eq_true rfl⟩ (fun H locs w => ?_)
  refine lv_if_ne (tgt := 22) S.1 S.2.1 dX8_verdict_6 (by decide) (fun c6 => ?_) (fun c6 => ?_)
  · rw [if_neg c6] at h
    refine lv_iconst (v := 1) S.1 S.2.1 dX8_verdict_22 (by decide) ?_
    refine lv_goto (tgt := 27) S.1 S.2.1 dX8_verdict_23 (by decide) ?_
    obtain ⟨g4, h5, h⟩ := xb h
    refine xr_puti S w 9 xi_X8_verdict_X8 rfl tyX8 tyX8_ok nmX8 0 (by decide) xl_X8_verdict_102 rfl (tyX8_ok 0 (by decide)) h5 dX8_verdict_27 (fun H locs w => ?_)
    refine lv_aload_n S.1 S.2.1 dX8_verdict_30 rfl (lv_at hl 0 rfl) ?_
    obtain ⟨x6, h7, h⟩ := xb h
    refine xr_geti S w 9 xi_X8_verdict_X8 rfl 0 (by decide) xl_X8_verdict_102 h7 dX8_verdict_31 ?_
    refine lv_if_le (tgt := 41) S.1 S.2.1 dX8_verdict_34 (by decide) (fun c34 => ?_) (fun c34 => ?_)
    · rw [if_pos c34] at h
      refine lv_aload_n S.1 S.2.1 dX8_verdict_41 rfl (lv_at hl 0 rfl) ?_
      obtain ⟨x8, h9, h⟩ := xb h
      refine xr_getr S w 9 xi_X8_verdict_X8 rfl 9 (by decide) xl_X8_verdict_36 h9 dX8_verdict_42 ?_
      refine lv_bipush (v := 6) S.1 S.2.1 dX8_verdict_45 (by decide) ?_
      refine lv_iload_n S.1 S.2.1 dX8_verdict_47 rfl (lv_at hl 1 rfl) ?_
      refine lv_imul S.1 S.2.1 dX8_verdict_48 ?_
      refine lv_iload_n S.1 S.2.1 dX8_verdict_49 rfl (lv_at hl 2 rfl) ?_
      refine lv_iadd S.1 S.2.1 dX8_verdict_50 ?_
      obtain ⟨x10, h11, h⟩ := xb h
      refine xr_iald S w h11 dX8_verdict_51 ?_
      exact ret _ _ _ _ _ _ h w dX8_verdict_52
    · rw [if_neg c34] at h
      refine lv_iconst (v := 0) S.1 S.2.1 dX8_verdict_37 (by decide) ?_
      refine lv_goto (tgt := 52) S.1 S.2.1 dX8_verdict_38 (by decide) ?_
      exact ret _ _ _ _ _ _ h w dX8_verdict_52
  · rw [if_pos c6] at h
    refine lv_aload_n S.1 S.2.1 dX8_verdict_9 rfl (lv_at hl 0 rfl) ?_
    refine lv_iload_n S.1 S.2.1 dX8_verdict_10 rfl (lv_at hl 2 rfl) ?_
    obtain ⟨_, h12, h⟩ := xb h
    obtain ⟨x14, h13, h⟩ := xb h
    refine xr_callV_i S w hA hN 9 rfl h12 (c_X8_no l D cy L g a0 a2 h13) (cwV 1 S.2.2.2.2 gX8_verdict_X8_no rfl rfl rfl (by decide +kernel) ⟨Nat.le_of_ble_eq_true rfl, Nat.le_of_ble_eq_true rfl⟩) rfl rfl hl.1 (Nat.le_of_ble_eq_true rfl) dX8_verdict_11 ⟨Nat.le_of_ble_eq_true rfl, Nat.le_of_ble_eq_true rfl⟩ (fun H locs w => ?_)
    refine lv_if_ne (tgt := 22) S.1 S.2.1 dX8_verdict_14 (by decide) (fun c14 => ?_) (fun c14 => ?_)
    · rw [if_neg c14] at h
      refine lv_iconst (v := 1) S.1 S.2.1 dX8_verdict_22 (by decide) ?_
      refine lv_goto (tgt := 27) S.1 S.2.1 dX8_verdict_23 (by decide) ?_
      obtain ⟨g15, h16, h⟩ := xb h
      refine xr_puti S w 9 xi_X8_verdict_X8 rfl tyX8 tyX8_ok nmX8 0 (by decide) xl_X8_verdict_102 rfl (tyX8_ok 0 (by decide)) h16 dX8_verdict_27 (fun H locs w => ?_)
      refine lv_aload_n S.1 S.2.1 dX8_verdict_30 rfl (lv_at hl 0 rfl) ?_
      obtain ⟨x17, h18, h⟩ := xb h
      refine xr_geti S w 9 xi_X8_verdict_X8 rfl 0 (by decide) xl_X8_verdict_102 h18 dX8_verdict_31 ?_
      refine lv_if_le (tgt := 41) S.1 S.2.1 dX8_verdict_34 (by decide) (fun c34 => ?_) (fun c34 => ?_)
      · rw [if_pos c34] at h
        refine lv_aload_n S.1 S.2.1 dX8_verdict_41 rfl (lv_at hl 0 rfl) ?_
        obtain ⟨x19, h20, h⟩ := xb h
        refine xr_getr S w 9 xi_X8_verdict_X8 rfl 9 (by decide) xl_X8_verdict_36 h20 dX8_verdict_42 ?_
        refine lv_bipush (v := 6) S.1 S.2.1 dX8_verdict_45 (by decide) ?_
        refine lv_iload_n S.1 S.2.1 dX8_verdict_47 rfl (lv_at hl 1 rfl) ?_
        refine lv_imul S.1 S.2.1 dX8_verdict_48 ?_
        refine lv_iload_n S.1 S.2.1 dX8_verdict_49 rfl (lv_at hl 2 rfl) ?_
        refine lv_iadd S.1 S.2.1 dX8_verdict_50 ?_
        obtain ⟨x21, h22, h⟩ := xb h
        refine xr_iald S w h22 dX8_verdict_51 ?_
        exact ret _ _ _ _ _ _ h w dX8_verdict_52
      · rw [if_neg c34] at h
        refine lv_iconst (v := 0) S.1 S.2.1 dX8_verdict_37 (by decide) ?_
        refine lv_goto (tgt := 52) S.1 S.2.1 dX8_verdict_38 (by decide) ?_
        exact ret _ _ _ _ _ _ h w dX8_verdict_52
    · rw [if_pos c14] at h
      refine lv_iload_n S.1 S.2.1 dX8_verdict_17 rfl (lv_at hl 1 rfl) ?_
      refine lv_iload_n S.1 S.2.1 dX8_verdict_18 rfl (lv_at hl 2 rfl) ?_
      refine lv_icmp_ne (tgt := 26) S.1 S.2.1 dX8_verdict_19 (by decide) (fun c19 => ?_) (fun c19 => ?_)
      · rw [if_neg c19] at h
        refine lv_iconst (v := 0) S.1 S.2.1 dX8_verdict_26 (by decide) ?_
        obtain ⟨g23, h24, h⟩ := xb h
        refine xr_puti S w 9 xi_X8_verdict_X8 rfl tyX8 tyX8_ok nmX8 0 (by decide) xl_X8_verdict_102 rfl (tyX8_ok 0 (by decide)) h24 dX8_verdict_27 (fun H locs w => ?_)
        refine lv_aload_n S.1 S.2.1 dX8_verdict_30 rfl (lv_at hl 0 rfl) ?_
        obtain ⟨x25, h26, h⟩ := xb h
        refine xr_geti S w 9 xi_X8_verdict_X8 rfl 0 (by decide) xl_X8_verdict_102 h26 dX8_verdict_31 ?_
        refine lv_if_le (tgt := 41) S.1 S.2.1 dX8_verdict_34 (by decide) (fun c34 => ?_) (fun c34 => ?_)
        · rw [if_pos c34] at h
          refine lv_aload_n S.1 S.2.1 dX8_verdict_41 rfl (lv_at hl 0 rfl) ?_
          obtain ⟨x27, h28, h⟩ := xb h
          refine xr_getr S w 9 xi_X8_verdict_X8 rfl 9 (by decide) xl_X8_verdict_36 h28 dX8_verdict_42 ?_
          refine lv_bipush (v := 6) S.1 S.2.1 dX8_verdict_45 (by decide) ?_
          refine lv_iload_n S.1 S.2.1 dX8_verdict_47 rfl (lv_at hl 1 rfl) ?_
          refine lv_imul S.1 S.2.1 dX8_verdict_48 ?_
          refine lv_iload_n S.1 S.2.1 dX8_verdict_49 rfl (lv_at hl 2 rfl) ?_
          refine lv_iadd S.1 S.2.1 dX8_verdict_50 ?_
          obtain ⟨x29, h30, h⟩ := xb h
          refine xr_iald S w h30 dX8_verdict_51 ?_
          exact ret _ _ _ _ _ _ h w dX8_verdict_52
        · rw [if_neg c34] at h
          refine lv_iconst (v := 0) S.1 S.2.1 dX8_verdict_37 (by decide) ?_
          refine lv_goto (tgt := 52) S.1 S.2.1 dX8_verdict_38 (by decide) ?_
          exact ret _ _ _ _ _ _ h w dX8_verdict_52
      · rw [if_pos c19] at h
        refine lv_iconst (v := 1) S.1 S.2.1 dX8_verdict_22 (by decide) ?_
        refine lv_goto (tgt := 27) S.1 S.2.1 dX8_verdict_23 (by decide) ?_
        obtain ⟨g31, h32, h⟩ := xb h
        refine xr_puti S w 9 xi_X8_verdict_X8 rfl tyX8 tyX8_ok nmX8 0 (by decide) xl_X8_verdict_102 rfl (tyX8_ok 0 (by decide)) h32 dX8_verdict_27 (fun H locs w => ?_)
        refine lv_aload_n S.1 S.2.1 dX8_verdict_30 rfl (lv_at hl 0 rfl) ?_
        obtain ⟨x33, h34, h⟩ := xb h
        refine xr_geti S w 9 xi_X8_verdict_X8 rfl 0 (by decide) xl_X8_verdict_102 h34 dX8_verdict_31 ?_
        refine lv_if_le (tgt := 41) S.1 S.2.1 dX8_verdict_34 (by decide) (fun c34 => ?_) (fun c34 => ?_)
        · rw [if_pos c34] at h
          refine lv_aload_n S.1 S.2.1 dX8_verdict_41 rfl (lv_at hl 0 rfl) ?_
          obtain ⟨x35, h36, h⟩ := xb h
          refine xr_getr S w 9 xi_X8_verdict_X8 rfl 9 (by decide) xl_X8_verdict_36 h36 dX8_verdict_42 ?_
          refine lv_bipush (v := 6) S.1 S.2.1 dX8_verdict_45 (by decide) ?_
          refine lv_iload_n S.1 S.2.1 dX8_verdict_47 rfl (lv_at hl 1 rfl) ?_
          refine lv_imul S.1 S.2.1 dX8_verdict_48 ?_
          refine lv_iload_n S.1 S.2.1 dX8_verdict_49 rfl (lv_at hl 2 rfl) ?_
          refine lv_iadd S.1 S.2.1 dX8_verdict_50 ?_
          obtain ⟨x37, h38, h⟩ := xb h
          refine xr_iald S w h38 dX8_verdict_51 ?_
          exact ret _ _ _ _ _ _ h w dX8_verdict_52
        · rw [if_neg c34] at h
          refine lv_iconst (v := 0) S.1 S.2.1 dX8_verdict_37 (by decide) ?_
          refine lv_goto (tgt := 52) S.1 S.2.1 dX8_verdict_38 (by decide) ?_
          exact ret _ _ _ _ _ _ h w dX8_verdict_52
theorem xi_X8_entry_X8 : ∀ w ∈ wsX80, w ∈ wsX8_entry := by decide +kernel
theorem xl_X8_entry_102 : Cond.fieldLink RX8 102 (TX8 0).1 (TX8 0).2.1 (TX8 0).2.2.1 ∈ wsX8_entry := by decide +kernel
theorem xl_X8_entry_29 : Cond.fieldLink RX8 29 (TX8 7).1 (TX8 7).2.1 (TX8 7).2.2.1 ∈ wsX8_entry := by decide +kernel
theorem xl_X8_entry_26 : Cond.fieldLink RX8 26 (TX8 6).1 (TX8 6).2.1 (TX8 6).2.2.1 ∈ wsX8_entry := by decide +kernel
theorem xl_X8_entry_23 : Cond.fieldLink RX8 23 (TX8 5).1 (TX8 5).2.1 (TX8 5).2.2.1 ∈ wsX8_entry := by decide +kernel
theorem xl_X8_entry_20 : Cond.fieldLink RX8 20 (TX8 4).1 (TX8 4).2.1 (TX8 4).2.2.1 ∈ wsX8_entry := by decide +kernel
def f_X8_entry_42 (g : xG) (v0 : Nat) (v1 : Int32) (v2 : Int32) (v3 : Int32) (s0 : Nat) (s1 : Int32) : Option (Int32 × xG) :=
  (xp_i g 9 s0 0 s1).bind fun g1 =>
  (xg_i g1 9 v0 0).bind fun x3 =>
  if x3 ≤ 0 then
    if v3 = 0 then
      (xg_r g1 9 v0 5).bind fun x13 =>
      (xa_i 1 g1 x13 (((151 * v1) + v2) - 1)).bind fun x15 =>
      some (x15, g1)
    else
      if v3 = 1 then
        (xg_r g1 9 v0 6).bind fun x9 =>
        (xa_i 1 g1 x9 (((151 * v1) + v2) - 1)).bind fun x11 =>
        some (x11, g1)
      else
        (xg_r g1 9 v0 7).bind fun x5 =>
        (xa_i 1 g1 x5 (((151 * v1) + v2) - 1)).bind fun x7 =>
        some (x7, g1)
  else
    some (0, g1)
def f_X8_entry_23 (g : xG) (v0 : Nat) (v1 : Int32) (v2 : Int32) (v3 : Int32) (s0 : Nat) : Option (Int32 × xG) :=
  f_X8_entry_42 g v0 v1 v2 v3 s0 1
def f_X8_entry (g : xG) (a0 : Nat) (a1 : Int32) (a2 : Int32) (a3 : Int32) : Option (Int32 × xG) :=
  (xk g 9 a0).bind fun _ =>
  (f_X8_no g a0 a1).bind fun x19 =>
  if x19 = 0 then
    if a2 < 1 then
      f_X8_entry_23 g a0 a1 a2 a3 a0
    else
      if a3 < 0 then
        f_X8_entry_23 g a0 a1 a2 a3 a0
      else
        if a3 ≤ 2 then
          (xg_r g 9 a0 4).bind fun x20 =>
          (xa_i 1 g x20 a1).bind fun x22 =>
          if a2 ≤ x22 then
            f_X8_entry_42 g a0 a1 a2 a3 a0 0
          else
            f_X8_entry_42 g a0 a1 a2 a3 a0 1
        else
          f_X8_entry_23 g a0 a1 a2 a3 a0
  else
    f_X8_entry_23 g a0 a1 a2 a3 a0
set_option maxHeartbeats 4000000 in
set_option maxRecDepth 100000 in
theorem c_X8_entry (l : Launch) (D : va_G) (cy : Nat → ClassId) (L : List Nat) (g : xG) (a0 : Nat) (a1 : Int32) (a2 : Int32) (a3 : Int32) {r1 : Int32} {g1 : xG} (h : f_X8_entry g a0 a1 a2 a3 = some (r1, g1)) : xMi l yX8_entry wsX8_entry ({ frames := 1, cells := 0, slots := 0, locals := 21 }) D cy L g [.ref a0, .int a1, .int a2, .int a3] r1 g1 := by
  refine xm_i (cc := cX8_entry) (maxL := 5) RX8 rfl rfl rfl (by decide +kernel) rfl (Nat.le_of_ble_eq_true rfl) ?_
  intro p e s m args below meth c Q A S w hA hN ret ls hl
  have hl : lv_has ls 5 [(0, .ref a0), (1, .int a1), (2, .int a2), (3, .int a3)] := hl
  obtain ⟨rr, hrr⟩ : ∃ z, z = (r1, g1) := ⟨_, rfl⟩
  rw [← hrr] at h
  have hb42 : ∀ (g : xG) (v0 : Nat) (v1 : Int32) (v2 : Int32) (v3 : Int32) (s0 : Nat) (s1 : Int32) , f_X8_entry_42 g v0 v1 v2 v3 s0 s1 = some rr → ∀ (H : Heap) (locs : List Loc) (ls : Array Slot), xOK D cy A s.heap s L g H locs → lv_has ls 5 [(0, .ref v0), (1, .int v1), (2, .int v2), (3, .int v3)] → W p l e { frames := 1, cells := 0, slots := 0, locals := 21 } s m args below meth c H locs 0 0 Q (F0 m 42 ls [.int s1, .ref s0]) := by
    intro g v0 v1 v2 v3 s0 s1 h H locs ls w hl
    rw [f_X8_entry_42] at h
    obtain ⟨g1, h2, h⟩ := xb h
    refine xr_puti S w 9 xi_X8_entry_X8 rfl tyX8 tyX8_ok nmX8 0 (by decide) xl_X8_entry_102 rfl (tyX8_ok 0 (by decide)) h2 dX8_entry_42 (fun H locs w => ?_)
    refine lv_aload_n S.1 S.2.1 dX8_entry_45 rfl (lv_at hl 0 rfl) ?_
    obtain ⟨x3, h4, h⟩ := xb h
    refine xr_geti S w 9 xi_X8_entry_X8 rfl 0 (by decide) xl_X8_entry_102 h4 dX8_entry_46 ?_
    refine lv_if_le (tgt := 54) S.1 S.2.1 dX8_entry_49 (by decide) (fun c49 => ?_) (fun c49 => ?_)
    · rw [if_pos c49] at h
      refine lv_sipush (v := 151) S.1 S.2.1 dX8_entry_54 (by decide) ?_
      refine lv_iload_n S.1 S.2.1 dX8_entry_57 rfl (lv_at hl 1 rfl) ?_
      refine lv_imul S.1 S.2.1 dX8_entry_58 ?_
      refine lv_iload_n S.1 S.2.1 dX8_entry_59 rfl (lv_at hl 2 rfl) ?_
      refine lv_iadd S.1 S.2.1 dX8_entry_60 ?_
      refine lv_iconst (v := 1) S.1 S.2.1 dX8_entry_61 (by decide) ?_
      refine lv_isub S.1 S.2.1 dX8_entry_62 ?_
      refine lv_istore (lv' := [(4, .int (((151 * v1) + v2) - 1)), (0, .ref v0), (1, .int v1), (2, .int v2), (3, .int v3)]) S.1 S.2.1 dX8_entry_63 hl (by decide) rfl (fun ls hl => ?_)
      refine lv_iload_n S.1 S.2.1 dX8_entry_65 rfl (lv_at hl 4 rfl) ?_
      refine lv_if_ne (tgt := 79) S.1 S.2.1 dX8_entry_66 (by decide) (fun c66 => ?_) (fun c66 => ?_)
      · rw [if_neg c66] at h
        refine lv_iload_n S.1 S.2.1 dX8_entry_79 rfl (lv_at hl 4 rfl) ?_
        refine lv_iconst (v := 1) S.1 S.2.1 dX8_entry_80 (by decide) ?_
        refine lv_icmp_ne (tgt := 94) S.1 S.2.1 dX8_entry_81 (by decide) (fun c81 => ?_) (fun c81 => ?_)
        · rw [if_neg c81] at h
          refine lv_aload_n S.1 S.2.1 dX8_entry_94 rfl (lv_at hl 1 rfl) ?_
          obtain ⟨x5, h6, h⟩ := xb h
          refine xr_getr S w 9 xi_X8_entry_X8 rfl 7 (by decide) xl_X8_entry_29 h6 dX8_entry_95 ?_
          refine lv_iload S.1 S.2.1 dX8_entry_98 (lv_at hl 0 rfl) ?_
          obtain ⟨x7, h8, h⟩ := xb h
          refine xr_iald S w h8 dX8_entry_100 ?_
          exact ret _ _ _ _ _ _ (h.trans (congrArg some hrr)) w dX8_entry_101
        · rw [if_pos c81] at h
          refine lv_aload_n S.1 S.2.1 dX8_entry_84 rfl (lv_at hl 1 rfl) ?_
          obtain ⟨x9, h10, h⟩ := xb h
          refine xr_getr S w 9 xi_X8_entry_X8 rfl 6 (by decide) xl_X8_entry_26 h10 dX8_entry_85 ?_
          refine lv_iload S.1 S.2.1 dX8_entry_88 (lv_at hl 0 rfl) ?_
          obtain ⟨x11, h12, h⟩ := xb h
          refine xr_iald S w h12 dX8_entry_90 ?_
          refine lv_goto (tgt := 101) S.1 S.2.1 dX8_entry_91 (by decide) ?_
          exact ret _ _ _ _ _ _ (h.trans (congrArg some hrr)) w dX8_entry_101
      · rw [if_pos c66] at h
        refine lv_aload_n S.1 S.2.1 dX8_entry_69 rfl (lv_at hl 1 rfl) ?_
        obtain ⟨x13, h14, h⟩ := xb h
        refine xr_getr S w 9 xi_X8_entry_X8 rfl 5 (by decide) xl_X8_entry_23 h14 dX8_entry_70 ?_
        refine lv_iload S.1 S.2.1 dX8_entry_73 (lv_at hl 0 rfl) ?_
        obtain ⟨x15, h16, h⟩ := xb h
        refine xr_iald S w h16 dX8_entry_75 ?_
        refine lv_goto (tgt := 101) S.1 S.2.1 dX8_entry_76 (by decide) ?_
        exact ret _ _ _ _ _ _ (h.trans (congrArg some hrr)) w dX8_entry_101
    · rw [if_neg c49] at h
      refine lv_iconst (v := 0) S.1 S.2.1 dX8_entry_52 (by decide) ?_
      exact ret _ _ _ _ _ _ (h.trans (congrArg some hrr)) w dX8_entry_53
  have hb23 : ∀ (g : xG) (v0 : Nat) (v1 : Int32) (v2 : Int32) (v3 : Int32) (s0 : Nat) , f_X8_entry_23 g v0 v1 v2 v3 s0 = some rr → ∀ (H : Heap) (locs : List Loc) (ls : Array Slot), xOK D cy A s.heap s L g H locs → lv_has ls 5 [(0, .ref v0), (1, .int v1), (2, .int v2), (3, .int v3)] → W p l e { frames := 1, cells := 0, slots := 0, locals := 21 } s m args below meth c H locs 0 0 Q (F0 m 23 ls [.ref s0]) := by
    intro g v0 v1 v2 v3 s0 h H locs ls w hl
    rw [f_X8_entry_23] at h
    refine lv_iconst (v := 1) S.1 S.2.1 dX8_entry_23 (by decide) ?_
    refine lv_goto (tgt := 42) S.1 S.2.1 dX8_entry_24 (by decide) ?_
    exact hb42 g v0 v1 v2 v3 s0 1 h _ _ _ w hl
  rw [f_X8_entry] at h
  refine lv_aload_n S.1 S.2.1 dX8_entry_0 rfl (lv_at hl 0 rfl) ?_
  refine lv_aload_n S.1 S.2.1 dX8_entry_1 rfl (lv_at hl 0 rfl) ?_
  refine lv_iload_n S.1 S.2.1 dX8_entry_2 rfl (lv_at hl 1 rfl) ?_
  obtain ⟨_, h17, h⟩ := xb h
  obtain ⟨x19, h18, h⟩ := xb h
  refine xr_callV_i S w hA hN 9 rfl h17 (c_X8_no l D cy L g a0 a1 h18) (cwV 1 S.2.2.2.2 gX8_entry_X8_no rfl rfl rfl (by decide +kernel) ⟨Nat.le_of_ble_eq_true rfl, Nat.le_of_ble_eq_true rfl⟩) rfl rfl hl.1 (Nat.le_of_ble_eq_true rfl) dX8_entry_3 ⟨Nat.le_of_ble_eq_true rfl, Nat.le_of_ble_eq_true rfl⟩ (fun H locs w => ?_)
  refine lv_if_ne (tgt := 23) S.1 S.2.1 dX8_entry_6 (by decide) (fun c6 => ?_) (fun c6 => ?_)
  · rw [if_neg c6] at h
    exact hb23 g a0 a1 a2 a3 a0 h _ _ _ w hl
  · rw [if_pos c6] at h
    refine lv_iload_n S.1 S.2.1 dX8_entry_9 rfl (lv_at hl 2 rfl) ?_
    refine lv_iconst (v := 1) S.1 S.2.1 dX8_entry_10 (by decide) ?_
    refine lv_icmp_lt (tgt := 23) S.1 S.2.1 dX8_entry_11 (by decide) (fun c11 => ?_) (fun c11 => ?_)
    · rw [if_pos c11] at h
      exact hb23 g a0 a1 a2 a3 a0 h _ _ _ w hl
    · rw [if_neg c11] at h
      refine lv_iload_n S.1 S.2.1 dX8_entry_14 rfl (lv_at hl 3 rfl) ?_
      refine lv_if_lt (tgt := 23) S.1 S.2.1 dX8_entry_15 (by decide) (fun c15 => ?_) (fun c15 => ?_)
      · rw [if_pos c15] at h
        exact hb23 g a0 a1 a2 a3 a0 h _ _ _ w hl
      · rw [if_neg c15] at h
        refine lv_iload_n S.1 S.2.1 dX8_entry_18 rfl (lv_at hl 3 rfl) ?_
        refine lv_iconst (v := 2) S.1 S.2.1 dX8_entry_19 (by decide) ?_
        refine lv_icmp_le (tgt := 27) S.1 S.2.1 dX8_entry_20 (by decide) (fun c20 => ?_) (fun c20 => ?_)
        · rw [if_pos c20] at h
          refine lv_iload_n S.1 S.2.1 dX8_entry_27 rfl (lv_at hl 2 rfl) ?_
          refine lv_aload_n S.1 S.2.1 dX8_entry_28 rfl (lv_at hl 0 rfl) ?_
          obtain ⟨x20, h21, h⟩ := xb h
          refine xr_getr S w 9 xi_X8_entry_X8 rfl 4 (by decide) xl_X8_entry_20 h21 dX8_entry_29 ?_
          refine lv_iload_n S.1 S.2.1 dX8_entry_32 rfl (lv_at hl 1 rfl) ?_
          obtain ⟨x22, h23, h⟩ := xb h
          refine xr_iald S w h23 dX8_entry_33 ?_
          refine lv_icmp_le (tgt := 41) S.1 S.2.1 dX8_entry_34 (by decide) (fun c34 => ?_) (fun c34 => ?_)
          · rw [if_pos c34] at h
            refine lv_iconst (v := 0) S.1 S.2.1 dX8_entry_41 (by decide) ?_
            exact hb42 g a0 a1 a2 a3 a0 0 h _ _ _ w hl
          · rw [if_neg c34] at h
            refine lv_iconst (v := 1) S.1 S.2.1 dX8_entry_37 (by decide) ?_
            refine lv_goto (tgt := 42) S.1 S.2.1 dX8_entry_38 (by decide) ?_
            exact hb42 g a0 a1 a2 a3 a0 1 h _ _ _ w hl
        · rw [if_neg c20] at h
          exact hb23 g a0 a1 a2 a3 a0 h _ _ _ w hl
theorem xi_X8_head_X8 : ∀ w ∈ wsX80, w ∈ wsX8_head := by decide +kernel
theorem xl_X8_head_102 : Cond.fieldLink RX8 102 (TX8 0).1 (TX8 0).2.1 (TX8 0).2.2.1 ∈ wsX8_head := by decide +kernel
theorem xl_X8_head_20 : Cond.fieldLink RX8 20 (TX8 4).1 (TX8 4).2.1 (TX8 4).2.2.1 ∈ wsX8_head := by decide +kernel
def f_X8_head (g : xG) (a0 : Nat) (a1 : Int32) (a2 : Int32) : Option (Int64 × xG) :=
  (xk g 9 a0).bind fun _ =>
  (f_X8_no g a0 a1).bind fun x3 =>
  if x3 = 0 then
    if 0 ≤ a2 then
      (xg_r g 9 a0 4).bind fun x11 =>
      (xa_i 1 g x11 a1).bind fun x13 =>
      if a2 ≤ x13 then
        (xp_i g 9 a0 0 0).bind fun g15 =>
        (xg_i g15 9 a0 0).bind fun x17 =>
        if x17 ≤ 0 then
          (xk g15 9 a0).bind fun _ =>
          (f_X8_headOf g15 a0 a1 a2).bind fun x21 =>
          some (x21, g15)
        else
          some (0, g15)
      else
        (xp_i g 9 a0 0 1).bind fun g22 =>
        (xg_i g22 9 a0 0).bind fun x24 =>
        if x24 ≤ 0 then
          (xk g22 9 a0).bind fun _ =>
          (f_X8_headOf g22 a0 a1 a2).bind fun x28 =>
          some (x28, g22)
        else
          some (0, g22)
    else
      (xp_i g 9 a0 0 1).bind fun g29 =>
      (xg_i g29 9 a0 0).bind fun x31 =>
      if x31 ≤ 0 then
        (xk g29 9 a0).bind fun _ =>
        (f_X8_headOf g29 a0 a1 a2).bind fun x35 =>
        some (x35, g29)
      else
        some (0, g29)
  else
    (xp_i g 9 a0 0 1).bind fun g4 =>
    (xg_i g4 9 a0 0).bind fun x6 =>
    if x6 ≤ 0 then
      (xk g4 9 a0).bind fun _ =>
      (f_X8_headOf g4 a0 a1 a2).bind fun x10 =>
      some (x10, g4)
    else
      some (0, g4)
set_option maxHeartbeats 4000000 in
set_option maxRecDepth 100000 in
theorem c_X8_head (l : Launch) (D : va_G) (cy : Nat → ClassId) (L : List Nat) (g : xG) (a0 : Nat) (a1 : Int32) (a2 : Int32) {r1 : Int64} {g1 : xG} (h : f_X8_head g a0 a1 a2 = some (r1, g1)) : xMl l yX8_head wsX8_head ({ frames := 3, cells := 0, slots := 0, locals := 74 }) D cy L g [.ref a0, .int a1, .int a2] r1 g1 := by
  refine xm_l (cc := cX8_head) (maxL := 3) RX8 rfl rfl rfl (by decide +kernel) rfl (Nat.le_of_ble_eq_true rfl) ?_
  intro p e s m args below meth c Q A S w hA hN ret ls hl
  have hl : lv_has ls 3 [(0, .ref a0), (1, .int a1), (2, .int a2)] := hl
  rw [f_X8_head] at h
  refine lv_aload_n S.1 S.2.1 dX8_head_0 rfl (lv_at hl 0 rfl) ?_
  refine lv_aload_n S.1 S.2.1 dX8_head_1 rfl (lv_at hl 0 rfl) ?_
  refine lv_iload_n S.1 S.2.1 dX8_head_2 rfl (lv_at hl 1 rfl) ?_
  obtain ⟨_, h1, h⟩ := xb h
  obtain ⟨x3, h2, h⟩ := xb h
  refine xr_callV_i S w hA hN 9 rfl h1 (c_X8_no l D cy L g a0 a1 h2) (cwV 1 S.2.2.2.2 gX8_head_X8_no rfl rfl rfl (by decide +kernel) ⟨Nat.le_of_ble_eq_true rfl, Nat.le_of_ble_eq_true rfl⟩) rfl rfl hl.1 (Nat.le_of_ble_eq_true rfl) dX8_head_3 ⟨Nat.le_of_ble_eq_true rfl, Nat.le_of_ble_eq_true rfl⟩ (fun H locs w => ?_)
  refine lv_if_ne (tgt := 13) S.1 S.2.1 dX8_head_6 (by decide) (fun c6 => ?_) (fun c6 => ?_)
  · rw [if_neg c6] at h
    refine lv_iconst (v := 1) S.1 S.2.1 dX8_head_13 (by decide) ?_
    refine lv_goto (tgt := 32) S.1 S.2.1 dX8_head_14 (by decide) ?_
    obtain ⟨g4, h5, h⟩ := xb h
    refine xr_puti S w 9 xi_X8_head_X8 rfl tyX8 tyX8_ok nmX8 0 (by decide) xl_X8_head_102 rfl (tyX8_ok 0 (by decide)) h5 dX8_head_32 (fun H locs w => ?_)
    refine lv_aload_n S.1 S.2.1 dX8_head_35 rfl (lv_at hl 0 rfl) ?_
    obtain ⟨x6, h7, h⟩ := xb h
    refine xr_geti S w 9 xi_X8_head_X8 rfl 0 (by decide) xl_X8_head_102 h7 dX8_head_36 ?_
    refine lv_if_le (tgt := 46) S.1 S.2.1 dX8_head_39 (by decide) (fun c39 => ?_) (fun c39 => ?_)
    · rw [if_pos c39] at h
      refine lv_aload_n S.1 S.2.1 dX8_head_46 rfl (lv_at hl 0 rfl) ?_
      refine lv_iload_n S.1 S.2.1 dX8_head_47 rfl (lv_at hl 1 rfl) ?_
      refine lv_iload_n S.1 S.2.1 dX8_head_48 rfl (lv_at hl 2 rfl) ?_
      obtain ⟨_, h8, h⟩ := xb h
      obtain ⟨x10, h9, h⟩ := xb h
      refine xr_callV_l S w hA hN 9 rfl h8 (c_X8_headOf l D cy L g4 a0 a1 a2 h9) (cwV 2 S.2.2.2.2 gX8_head_X8_headOf rfl rfl rfl (by decide +kernel) ⟨Nat.le_of_ble_eq_true rfl, Nat.le_of_ble_eq_true rfl⟩) rfl rfl hl.1 (Nat.le_of_ble_eq_true rfl) dX8_head_49 ⟨Nat.le_of_ble_eq_true rfl, Nat.le_of_ble_eq_true rfl⟩ (fun H locs w => ?_)
      exact ret _ _ _ _ _ _ h w dX8_head_52
    · rw [if_neg c39] at h
      refine lv_lconst (v := 0) S.1 S.2.1 dX8_head_42 (by decide) ?_
      refine lv_goto (tgt := 52) S.1 S.2.1 dX8_head_43 (by decide) ?_
      exact ret _ _ _ _ _ _ h w dX8_head_52
  · rw [if_pos c6] at h
    refine lv_iload_n S.1 S.2.1 dX8_head_9 rfl (lv_at hl 2 rfl) ?_
    refine lv_if_ge (tgt := 17) S.1 S.2.1 dX8_head_10 (by decide) (fun c10 => ?_) (fun c10 => ?_)
    · rw [if_pos c10] at h
      refine lv_iload_n S.1 S.2.1 dX8_head_17 rfl (lv_at hl 2 rfl) ?_
      refine lv_aload_n S.1 S.2.1 dX8_head_18 rfl (lv_at hl 0 rfl) ?_
      obtain ⟨x11, h12, h⟩ := xb h
      refine xr_getr S w 9 xi_X8_head_X8 rfl 4 (by decide) xl_X8_head_20 h12 dX8_head_19 ?_
      refine lv_iload_n S.1 S.2.1 dX8_head_22 rfl (lv_at hl 1 rfl) ?_
      obtain ⟨x13, h14, h⟩ := xb h
      refine xr_iald S w h14 dX8_head_23 ?_
      refine lv_icmp_le (tgt := 31) S.1 S.2.1 dX8_head_24 (by decide) (fun c24 => ?_) (fun c24 => ?_)
      · rw [if_pos c24] at h
        refine lv_iconst (v := 0) S.1 S.2.1 dX8_head_31 (by decide) ?_
        obtain ⟨g15, h16, h⟩ := xb h
        refine xr_puti S w 9 xi_X8_head_X8 rfl tyX8 tyX8_ok nmX8 0 (by decide) xl_X8_head_102 rfl (tyX8_ok 0 (by decide)) h16 dX8_head_32 (fun H locs w => ?_)
        refine lv_aload_n S.1 S.2.1 dX8_head_35 rfl (lv_at hl 0 rfl) ?_
        obtain ⟨x17, h18, h⟩ := xb h
        refine xr_geti S w 9 xi_X8_head_X8 rfl 0 (by decide) xl_X8_head_102 h18 dX8_head_36 ?_
        refine lv_if_le (tgt := 46) S.1 S.2.1 dX8_head_39 (by decide) (fun c39 => ?_) (fun c39 => ?_)
        · rw [if_pos c39] at h
          refine lv_aload_n S.1 S.2.1 dX8_head_46 rfl (lv_at hl 0 rfl) ?_
          refine lv_iload_n S.1 S.2.1 dX8_head_47 rfl (lv_at hl 1 rfl) ?_
          refine lv_iload_n S.1 S.2.1 dX8_head_48 rfl (lv_at hl 2 rfl) ?_
          obtain ⟨_, h19, h⟩ := xb h
          obtain ⟨x21, h20, h⟩ := xb h
          refine xr_callV_l S w hA hN 9 rfl h19 (c_X8_headOf l D cy L g15 a0 a1 a2 h20) (cwV 2 S.2.2.2.2 gX8_head_X8_headOf rfl rfl rfl (by decide +kernel) ⟨Nat.le_of_ble_eq_true rfl, Nat.le_of_ble_eq_true rfl⟩) rfl rfl hl.1 (Nat.le_of_ble_eq_true rfl) dX8_head_49 ⟨Nat.le_of_ble_eq_true rfl, Nat.le_of_ble_eq_true rfl⟩ (fun H locs w => ?_)
          exact ret _ _ _ _ _ _ h w dX8_head_52
        · rw [if_neg c39] at h
          refine lv_lconst (v := 0) S.1 S.2.1 dX8_head_42 (by decide) ?_
          refine lv_goto (tgt := 52) S.1 S.2.1 dX8_head_43 (by decide) ?_
          exact ret _ _ _ _ _ _ h w dX8_head_52
      · rw [if_neg c24] at h
        refine lv_iconst (v := 1) S.1 S.2.1 dX8_head_27 (by decide) ?_
        refine lv_goto (tgt := 32) S.1 S.2.1 dX8_head_28 (by decide) ?_
        obtain ⟨g22, h23, h⟩ := xb h
        refine xr_puti S w 9 xi_X8_head_X8 rfl tyX8 tyX8_ok nmX8 0 (by decide) xl_X8_head_102 rfl (tyX8_ok 0 (by decide)) h23 dX8_head_32 (fun H locs w => ?_)
        refine lv_aload_n S.1 S.2.1 dX8_head_35 rfl (lv_at hl 0 rfl) ?_
        obtain ⟨x24, h25, h⟩ := xb h
        refine xr_geti S w 9 xi_X8_head_X8 rfl 0 (by decide) xl_X8_head_102 h25 dX8_head_36 ?_
        refine lv_if_le (tgt := 46) S.1 S.2.1 dX8_head_39 (by decide) (fun c39 => ?_) (fun c39 => ?_)
        · rw [if_pos c39] at h
          refine lv_aload_n S.1 S.2.1 dX8_head_46 rfl (lv_at hl 0 rfl) ?_
          refine lv_iload_n S.1 S.2.1 dX8_head_47 rfl (lv_at hl 1 rfl) ?_
          refine lv_iload_n S.1 S.2.1 dX8_head_48 rfl (lv_at hl 2 rfl) ?_
          obtain ⟨_, h26, h⟩ := xb h
          obtain ⟨x28, h27, h⟩ := xb h
          refine xr_callV_l S w hA hN 9 rfl h26 (c_X8_headOf l D cy L g22 a0 a1 a2 h27) (cwV 2 S.2.2.2.2 gX8_head_X8_headOf rfl rfl rfl (by decide +kernel) ⟨Nat.le_of_ble_eq_true rfl, Nat.le_of_ble_eq_true rfl⟩) rfl rfl hl.1 (Nat.le_of_ble_eq_true rfl) dX8_head_49 ⟨Nat.le_of_ble_eq_true rfl, Nat.le_of_ble_eq_true rfl⟩ (fun H locs w => ?_)
          exact ret _ _ _ _ _ _ h w dX8_head_52
        · rw [if_neg c39] at h
          refine lv_lconst (v := 0) S.1 S.2.1 dX8_head_42 (by decide) ?_
          refine lv_goto (tgt := 52) S.1 S.2.1 dX8_head_43 (by decide) ?_
          exact ret _ _ _ _ _ _ h w dX8_head_52
    · rw [if_neg c10] at h
      refine lv_iconst (v := 1) S.1 S.2.1 dX8_head_13 (by decide) ?_
      refine lv_goto (tgt := 32) S.1 S.2.1 dX8_head_14 (by decide) ?_
      obtain ⟨g29, h30, h⟩ := xb h
      refine xr_puti S w 9 xi_X8_head_X8 rfl tyX8 tyX8_ok nmX8 0 (by decide) xl_X8_head_102 rfl (tyX8_ok 0 (by decide)) h30 dX8_head_32 (fun H locs w => ?_)
      refine lv_aload_n S.1 S.2.1 dX8_head_35 rfl (lv_at hl 0 rfl) ?_
      obtain ⟨x31, h32, h⟩ := xb h
      refine xr_geti S w 9 xi_X8_head_X8 rfl 0 (by decide) xl_X8_head_102 h32 dX8_head_36 ?_
      refine lv_if_le (tgt := 46) S.1 S.2.1 dX8_head_39 (by decide) (fun c39 => ?_) (fun c39 => ?_)
      · rw [if_pos c39] at h
        refine lv_aload_n S.1 S.2.1 dX8_head_46 rfl (lv_at hl 0 rfl) ?_
        refine lv_iload_n S.1 S.2.1 dX8_head_47 rfl (lv_at hl 1 rfl) ?_
        refine lv_iload_n S.1 S.2.1 dX8_head_48 rfl (lv_at hl 2 rfl) ?_
        obtain ⟨_, h33, h⟩ := xb h
        obtain ⟨x35, h34, h⟩ := xb h
        refine xr_callV_l S w hA hN 9 rfl h33 (c_X8_headOf l D cy L g29 a0 a1 a2 h34) (cwV 2 S.2.2.2.2 gX8_head_X8_headOf rfl rfl rfl (by decide +kernel) ⟨Nat.le_of_ble_eq_true rfl, Nat.le_of_ble_eq_true rfl⟩) rfl rfl hl.1 (Nat.le_of_ble_eq_true rfl) dX8_head_49 ⟨Nat.le_of_ble_eq_true rfl, Nat.le_of_ble_eq_true rfl⟩ (fun H locs w => ?_)
        exact ret _ _ _ _ _ _ h w dX8_head_52
      · rw [if_neg c39] at h
        refine lv_lconst (v := 0) S.1 S.2.1 dX8_head_42 (by decide) ?_
        refine lv_goto (tgt := 52) S.1 S.2.1 dX8_head_43 (by decide) ?_
        exact ret _ _ _ _ _ _ h w dX8_head_52
theorem xi_X8_about_X8 : ∀ w ∈ wsX80, w ∈ wsX8_about := by decide +kernel
theorem xl_X8_about_111 : Cond.fieldLink RX8 111 (TX8 19).1 (TX8 19).2.1 (TX8 19).2.2.1 ∈ wsX8_about := by decide +kernel
theorem xl_X8_about_61 : Cond.fieldLink RX8 61 (TX8 20).1 (TX8 20).2.1 (TX8 20).2.2.1 ∈ wsX8_about := by decide +kernel
theorem xl_X8_about_102 : Cond.fieldLink RX8 102 (TX8 0).1 (TX8 0).2.1 (TX8 0).2.2.1 ∈ wsX8_about := by decide +kernel
theorem xl_X8_about_70 : Cond.fieldLink RX8 70 (TX8 23).1 (TX8 23).2.1 (TX8 23).2.2.1 ∈ wsX8_about := by decide +kernel
theorem xl_X8_about_17 : Cond.fieldLink RX8 17 (TX8 3).1 (TX8 3).2.1 (TX8 3).2.2.1 ∈ wsX8_about := by decide +kernel
theorem xl_X8_about_13 : Cond.fieldLink RX8 13 (TX8 2).1 (TX8 2).2.1 (TX8 2).2.2.1 ∈ wsX8_about := by decide +kernel
theorem xl_X8_about_20 : Cond.fieldLink RX8 20 (TX8 4).1 (TX8 4).2.1 (TX8 4).2.2.1 ∈ wsX8_about := by decide +kernel
def f_X8_about_87 : Nat → xG → Nat → Int32 → Int32 → Int32 → Option (Int32 × xG)
  | 0, _, _, _, _, _ => none
  | n9 + 1, g, v0, v1, v3, v4 =>
  (xg_i g 9 v0 19).bind fun x1 =>
  if x1 ≤ v4 then
    some (v3, g)
  else
    (xg_r g 9 v0 20).bind fun x3 =>
    (xa_i 1 g x3 v4).bind fun x5 =>
    if x5 = v1 then
      f_X8_about_87 n9 g v0 v1 (v3 + 1) (v4 + 1)
    else
      f_X8_about_87 n9 g v0 v1 v3 (v4 + 1)
def f_X8_about_23 (g : xG) (v0 : Nat) (v1 : Int32) (v2 : Int32) (s0 : Nat) (s1 : Int32) : Option (Int32 × xG) :=
  (xp_i g 9 s0 0 s1).bind fun g7 =>
  (xg_i g7 9 v0 0).bind fun x9 =>
  if x9 ≤ 0 then
    if v2 = 0 then
      (xg_r g7 9 v0 4).bind fun x23 =>
      (xa_i 1 g7 x23 v1).bind fun x25 =>
      some (x25, g7)
    else
      if v2 = 1 then
        (xg_r g7 9 v0 2).bind fun x19 =>
        (xa_i 1 g7 x19 v1).bind fun x21 =>
        some (x21, g7)
      else
        if v2 = 2 then
          (xg_r g7 9 v0 3).bind fun x15 =>
          (xa_i 1 g7 x15 v1).bind fun x17 =>
          some (x17, g7)
        else
          if v2 = 3 then
            (xg_r g7 9 v0 23).bind fun x11 =>
            (xa_i 1 g7 x11 v1).bind fun x13 =>
            some (x13, g7)
          else
            f_X8_about_87 xFU g7 v0 v1 0 0
  else
    some (0, g7)
def f_X8_about_18 (g : xG) (v0 : Nat) (v1 : Int32) (v2 : Int32) (s0 : Nat) : Option (Int32 × xG) :=
  f_X8_about_23 g v0 v1 v2 s0 1
def f_X8_about (g : xG) (a0 : Nat) (a1 : Int32) (a2 : Int32) : Option (Int32 × xG) :=
  (xk g 9 a0).bind fun _ =>
  (f_X8_no g a0 a1).bind fun x29 =>
  if x29 = 0 then
    if a2 < 0 then
      f_X8_about_18 g a0 a1 a2 a0
    else
      if a2 ≤ 4 then
        f_X8_about_23 g a0 a1 a2 a0 0
      else
        f_X8_about_18 g a0 a1 a2 a0
  else
    f_X8_about_18 g a0 a1 a2 a0
set_option maxHeartbeats 4000000 in
set_option maxRecDepth 100000 in
theorem c_X8_about (l : Launch) (D : va_G) (cy : Nat → ClassId) (L : List Nat) (g : xG) (a0 : Nat) (a1 : Int32) (a2 : Int32) {r1 : Int32} {g1 : xG} (h : f_X8_about g a0 a1 a2 = some (r1, g1)) : xMi l yX8_about wsX8_about ({ frames := 1, cells := 0, slots := 0, locals := 21 }) D cy L g [.ref a0, .int a1, .int a2] r1 g1 := by
  refine xm_i (cc := cX8_about) (maxL := 5) RX8 rfl rfl rfl (by decide +kernel) rfl (Nat.le_of_ble_eq_true rfl) ?_
  intro p e s m args below meth c Q A S w hA hN ret ls hl
  have hl : lv_has ls 5 [(0, .ref a0), (1, .int a1), (2, .int a2)] := hl
  obtain ⟨rr, hrr⟩ : ∃ z, z = (r1, g1) := ⟨_, rfl⟩
  rw [← hrr] at h
  have hb87 : ∀ (n9 : Nat), ∀ (g : xG) (v0 : Nat) (v1 : Int32) (v3 : Int32) (v4 : Int32) , f_X8_about_87 n9 g v0 v1 v3 v4 = some rr → ∀ (H : Heap) (locs : List Loc) (ls : Array Slot), xOK D cy A s.heap s L g H locs → lv_has ls 5 [(0, .ref v0), (1, .int v1), (3, .int v3), (4, .int v4)] → W p l e { frames := 1, cells := 0, slots := 0, locals := 21 } s m args below meth c H locs 0 0 Q (F0 m 87 ls []) := by
    intro n9
    induction n9 with
    | zero => intro g v0 v1 v3 v4 h; cases h
    | succ n9 ih =>
      intro g v0 v1 v3 v4 h H locs ls w hl
      rw [f_X8_about_87] at h
      refine lv_iload S.1 S.2.1 dX8_about_87 (lv_at hl 3 rfl) ?_
      refine lv_aload_n S.1 S.2.1 dX8_about_89 rfl (lv_at hl 0 rfl) ?_
      obtain ⟨x1, h2, h⟩ := xb h
      refine xr_geti S w 9 xi_X8_about_X8 rfl 19 (by decide) xl_X8_about_111 h2 dX8_about_90 ?_
      refine lv_icmp_ge (tgt := 121) S.1 S.2.1 dX8_about_93 (by decide) (fun c93 => ?_) (fun c93 => ?_)
      · rw [if_pos c93] at h
        refine lv_iload_n S.1 S.2.1 dX8_about_121 rfl (lv_at hl 2 rfl) ?_
        exact ret _ _ _ _ _ _ (h.trans (congrArg some hrr)) w dX8_about_122
      · rw [if_neg c93] at h
        refine lv_aload_n S.1 S.2.1 dX8_about_96 rfl (lv_at hl 0 rfl) ?_
        obtain ⟨x3, h4, h⟩ := xb h
        refine xr_getr S w 9 xi_X8_about_X8 rfl 20 (by decide) xl_X8_about_61 h4 dX8_about_97 ?_
        refine lv_iload S.1 S.2.1 dX8_about_100 (lv_at hl 3 rfl) ?_
        obtain ⟨x5, h6, h⟩ := xb h
        refine xr_iald S w h6 dX8_about_102 ?_
        refine lv_iload_n S.1 S.2.1 dX8_about_103 rfl (lv_at hl 1 rfl) ?_
        refine lv_icmp_ne (tgt := 113) S.1 S.2.1 dX8_about_104 (by decide) (fun c104 => ?_) (fun c104 => ?_)
        · rw [if_neg c104] at h
          refine lv_iload_n S.1 S.2.1 dX8_about_113 rfl (lv_at hl 2 rfl) ?_
          refine lv_istore_n (lv' := [(3, .int v3), (0, .ref v0), (1, .int v1), (4, .int v4)]) S.1 S.2.1 dX8_about_114 rfl hl (by decide) rfl (fun ls hl => ?_)
          refine lv_iinc (v := (v4 + 1)) (lv' := [(4, .int (v4 + 1)), (3, .int v3), (0, .ref v0), (1, .int v1)]) S.1 S.2.1 dX8_about_115 hl (k := 3) rfl rfl (by decide) rfl (fun ls hl => ?_)
          refine lv_goto (tgt := 87) S.1 S.2.1 dX8_about_118 (by decide) ?_
          exact ih g v0 v1 v3 (v4 + 1) h _ _ _ w (lv_sub hl [2, 3, 1, 0] rfl)
        · rw [if_pos c104] at h
          refine lv_iload_n S.1 S.2.1 dX8_about_107 rfl (lv_at hl 2 rfl) ?_
          refine lv_iconst (v := 1) S.1 S.2.1 dX8_about_108 (by decide) ?_
          refine lv_iadd S.1 S.2.1 dX8_about_109 ?_
          refine lv_goto (tgt := 114) S.1 S.2.1 dX8_about_110 (by decide) ?_
          refine lv_istore_n (lv' := [(3, .int (v3 + 1)), (0, .ref v0), (1, .int v1), (4, .int v4)]) S.1 S.2.1 dX8_about_114 rfl hl (by decide) rfl (fun ls hl => ?_)
          refine lv_iinc (v := (v4 + 1)) (lv' := [(4, .int (v4 + 1)), (3, .int (v3 + 1)), (0, .ref v0), (1, .int v1)]) S.1 S.2.1 dX8_about_115 hl (k := 3) rfl rfl (by decide) rfl (fun ls hl => ?_)
          refine lv_goto (tgt := 87) S.1 S.2.1 dX8_about_118 (by decide) ?_
          exact ih g v0 v1 (v3 + 1) (v4 + 1) h _ _ _ w (lv_sub hl [2, 3, 1, 0] rfl)
  have hb23 : ∀ (g : xG) (v0 : Nat) (v1 : Int32) (v2 : Int32) (s0 : Nat) (s1 : Int32) , f_X8_about_23 g v0 v1 v2 s0 s1 = some rr → ∀ (H : Heap) (locs : List Loc) (ls : Array Slot), xOK D cy A s.heap s L g H locs → lv_has ls 5 [(0, .ref v0), (1, .int v1), (2, .int v2)] → W p l e { frames := 1, cells := 0, slots := 0, locals := 21 } s m args below meth c H locs 0 0 Q (F0 m 23 ls [.int s1, .ref s0]) := by
    intro g v0 v1 v2 s0 s1 h H locs ls w hl
    rw [f_X8_about_23] at h
    obtain ⟨g7, h8, h⟩ := xb h
    refine xr_puti S w 9 xi_X8_about_X8 rfl tyX8 tyX8_ok nmX8 0 (by decide) xl_X8_about_102 rfl (tyX8_ok 0 (by decide)) h8 dX8_about_23 (fun H locs w => ?_)
    refine lv_aload_n S.1 S.2.1 dX8_about_26 rfl (lv_at hl 0 rfl) ?_
    obtain ⟨x9, h10, h⟩ := xb h
    refine xr_geti S w 9 xi_X8_about_X8 rfl 0 (by decide) xl_X8_about_102 h10 dX8_about_27 ?_
    refine lv_if_le (tgt := 35) S.1 S.2.1 dX8_about_30 (by decide) (fun c30 => ?_) (fun c30 => ?_)
    · rw [if_pos c30] at h
      refine lv_iload_n S.1 S.2.1 dX8_about_35 rfl (lv_at hl 2 rfl) ?_
      refine lv_if_ne (tgt := 46) S.1 S.2.1 dX8_about_36 (by decide) (fun c36 => ?_) (fun c36 => ?_)
      · rw [if_neg c36] at h
        refine lv_iload_n S.1 S.2.1 dX8_about_46 rfl (lv_at hl 2 rfl) ?_
        refine lv_iconst (v := 1) S.1 S.2.1 dX8_about_47 (by decide) ?_
        refine lv_icmp_ne (tgt := 58) S.1 S.2.1 dX8_about_48 (by decide) (fun c48 => ?_) (fun c48 => ?_)
        · rw [if_neg c48] at h
          refine lv_iload_n S.1 S.2.1 dX8_about_58 rfl (lv_at hl 2 rfl) ?_
          refine lv_iconst (v := 2) S.1 S.2.1 dX8_about_59 (by decide) ?_
          refine lv_icmp_ne (tgt := 70) S.1 S.2.1 dX8_about_60 (by decide) (fun c60 => ?_) (fun c60 => ?_)
          · rw [if_neg c60] at h
            refine lv_iload_n S.1 S.2.1 dX8_about_70 rfl (lv_at hl 2 rfl) ?_
            refine lv_iconst (v := 3) S.1 S.2.1 dX8_about_71 (by decide) ?_
            refine lv_icmp_ne (tgt := 82) S.1 S.2.1 dX8_about_72 (by decide) (fun c72 => ?_) (fun c72 => ?_)
            · rw [if_neg c72] at h
              refine lv_iconst (v := 0) S.1 S.2.1 dX8_about_82 (by decide) ?_
              refine lv_istore_n (lv' := [(3, .int 0), (0, .ref v0), (1, .int v1), (2, .int v2)]) S.1 S.2.1 dX8_about_83 rfl hl (by decide) rfl (fun ls hl => ?_)
              refine lv_iconst (v := 0) S.1 S.2.1 dX8_about_84 (by decide) ?_
              refine lv_istore (lv' := [(4, .int 0), (3, .int 0), (0, .ref v0), (1, .int v1), (2, .int v2)]) S.1 S.2.1 dX8_about_85 hl (by decide) rfl (fun ls hl => ?_)
              exact hb87 xFU g7 v0 v1 0 0 h _ _ _ w (lv_sub hl [2, 3, 1, 0] rfl)
            · rw [if_pos c72] at h
              refine lv_aload_n S.1 S.2.1 dX8_about_75 rfl (lv_at hl 0 rfl) ?_
              obtain ⟨x11, h12, h⟩ := xb h
              refine xr_getr S w 9 xi_X8_about_X8 rfl 23 (by decide) xl_X8_about_70 h12 dX8_about_76 ?_
              refine lv_iload_n S.1 S.2.1 dX8_about_79 rfl (lv_at hl 1 rfl) ?_
              obtain ⟨x13, h14, h⟩ := xb h
              refine xr_iald S w h14 dX8_about_80 ?_
              exact ret _ _ _ _ _ _ (h.trans (congrArg some hrr)) w dX8_about_81
          · rw [if_pos c60] at h
            refine lv_aload_n S.1 S.2.1 dX8_about_63 rfl (lv_at hl 0 rfl) ?_
            obtain ⟨x15, h16, h⟩ := xb h
            refine xr_getr S w 9 xi_X8_about_X8 rfl 3 (by decide) xl_X8_about_17 h16 dX8_about_64 ?_
            refine lv_iload_n S.1 S.2.1 dX8_about_67 rfl (lv_at hl 1 rfl) ?_
            obtain ⟨x17, h18, h⟩ := xb h
            refine xr_iald S w h18 dX8_about_68 ?_
            exact ret _ _ _ _ _ _ (h.trans (congrArg some hrr)) w dX8_about_69
        · rw [if_pos c48] at h
          refine lv_aload_n S.1 S.2.1 dX8_about_51 rfl (lv_at hl 0 rfl) ?_
          obtain ⟨x19, h20, h⟩ := xb h
          refine xr_getr S w 9 xi_X8_about_X8 rfl 2 (by decide) xl_X8_about_13 h20 dX8_about_52 ?_
          refine lv_iload_n S.1 S.2.1 dX8_about_55 rfl (lv_at hl 1 rfl) ?_
          obtain ⟨x21, h22, h⟩ := xb h
          refine xr_iald S w h22 dX8_about_56 ?_
          exact ret _ _ _ _ _ _ (h.trans (congrArg some hrr)) w dX8_about_57
      · rw [if_pos c36] at h
        refine lv_aload_n S.1 S.2.1 dX8_about_39 rfl (lv_at hl 0 rfl) ?_
        obtain ⟨x23, h24, h⟩ := xb h
        refine xr_getr S w 9 xi_X8_about_X8 rfl 4 (by decide) xl_X8_about_20 h24 dX8_about_40 ?_
        refine lv_iload_n S.1 S.2.1 dX8_about_43 rfl (lv_at hl 1 rfl) ?_
        obtain ⟨x25, h26, h⟩ := xb h
        refine xr_iald S w h26 dX8_about_44 ?_
        exact ret _ _ _ _ _ _ (h.trans (congrArg some hrr)) w dX8_about_45
    · rw [if_neg c30] at h
      refine lv_iconst (v := 0) S.1 S.2.1 dX8_about_33 (by decide) ?_
      exact ret _ _ _ _ _ _ (h.trans (congrArg some hrr)) w dX8_about_34
  have hb18 : ∀ (g : xG) (v0 : Nat) (v1 : Int32) (v2 : Int32) (s0 : Nat) , f_X8_about_18 g v0 v1 v2 s0 = some rr → ∀ (H : Heap) (locs : List Loc) (ls : Array Slot), xOK D cy A s.heap s L g H locs → lv_has ls 5 [(0, .ref v0), (1, .int v1), (2, .int v2)] → W p l e { frames := 1, cells := 0, slots := 0, locals := 21 } s m args below meth c H locs 0 0 Q (F0 m 18 ls [.ref s0]) := by
    intro g v0 v1 v2 s0 h H locs ls w hl
    rw [f_X8_about_18] at h
    refine lv_iconst (v := 1) S.1 S.2.1 dX8_about_18 (by decide) ?_
    refine lv_goto (tgt := 23) S.1 S.2.1 dX8_about_19 (by decide) ?_
    exact hb23 g v0 v1 v2 s0 1 h _ _ _ w hl
  rw [f_X8_about] at h
  refine lv_aload_n S.1 S.2.1 dX8_about_0 rfl (lv_at hl 0 rfl) ?_
  refine lv_aload_n S.1 S.2.1 dX8_about_1 rfl (lv_at hl 0 rfl) ?_
  refine lv_iload_n S.1 S.2.1 dX8_about_2 rfl (lv_at hl 1 rfl) ?_
  obtain ⟨_, h27, h⟩ := xb h
  obtain ⟨x29, h28, h⟩ := xb h
  refine xr_callV_i S w hA hN 9 rfl h27 (c_X8_no l D cy L g a0 a1 h28) (cwV 1 S.2.2.2.2 gX8_about_X8_no rfl rfl rfl (by decide +kernel) ⟨Nat.le_of_ble_eq_true rfl, Nat.le_of_ble_eq_true rfl⟩) rfl rfl hl.1 (Nat.le_of_ble_eq_true rfl) dX8_about_3 ⟨Nat.le_of_ble_eq_true rfl, Nat.le_of_ble_eq_true rfl⟩ (fun H locs w => ?_)
  refine lv_if_ne (tgt := 18) S.1 S.2.1 dX8_about_6 (by decide) (fun c6 => ?_) (fun c6 => ?_)
  · rw [if_neg c6] at h
    exact hb18 g a0 a1 a2 a0 h _ _ _ w hl
  · rw [if_pos c6] at h
    refine lv_iload_n S.1 S.2.1 dX8_about_9 rfl (lv_at hl 2 rfl) ?_
    refine lv_if_lt (tgt := 18) S.1 S.2.1 dX8_about_10 (by decide) (fun c10 => ?_) (fun c10 => ?_)
    · rw [if_pos c10] at h
      exact hb18 g a0 a1 a2 a0 h _ _ _ w hl
    · rw [if_neg c10] at h
      refine lv_iload_n S.1 S.2.1 dX8_about_13 rfl (lv_at hl 2 rfl) ?_
      refine lv_iconst (v := 4) S.1 S.2.1 dX8_about_14 (by decide) ?_
      refine lv_icmp_le (tgt := 22) S.1 S.2.1 dX8_about_15 (by decide) (fun c15 => ?_) (fun c15 => ?_)
      · rw [if_pos c15] at h
        refine lv_iconst (v := 0) S.1 S.2.1 dX8_about_22 (by decide) ?_
        exact hb23 g a0 a1 a2 a0 0 h _ _ _ w hl
      · rw [if_neg c15] at h
        exact hb18 g a0 a1 a2 a0 h _ _ _ w hl
theorem xi_X8_total_X8 : ∀ w ∈ wsX80, w ∈ wsX8_total := by decide +kernel
theorem xl_X8_total_102 : Cond.fieldLink RX8 102 (TX8 0).1 (TX8 0).2.1 (TX8 0).2.2.1 ∈ wsX8_total := by decide +kernel
theorem xl_X8_total_7 : Cond.fieldLink RX8 7 (TX8 1).1 (TX8 1).2.1 (TX8 1).2.2.1 ∈ wsX8_total := by decide +kernel
theorem xl_X8_total_114 : Cond.fieldLink RX8 114 (TX8 28).1 (TX8 28).2.1 (TX8 28).2.2.1 ∈ wsX8_total := by decide +kernel
theorem xl_X8_total_108 : Cond.fieldLink RX8 108 (TX8 11).1 (TX8 11).2.1 (TX8 11).2.2.1 ∈ wsX8_total := by decide +kernel
theorem xl_X8_total_105 : Cond.fieldLink RX8 105 (TX8 10).1 (TX8 10).2.1 (TX8 10).2.2.1 ∈ wsX8_total := by decide +kernel
def f_X8_total_10 (g : xG) (v0 : Nat) (v1 : Int32) (s0 : Nat) : Option (Int32 × xG) :=
  (xp_i g 9 s0 0 1).bind fun g1 =>
  (xg_i g1 9 v0 0).bind fun x3 =>
  if x3 ≤ 0 then
    if v1 = 0 then
      (xg_i g1 9 v0 10).bind fun x11 =>
      some (x11, g1)
    else
      if v1 = 1 then
        (xg_i g1 9 v0 11).bind fun x9 =>
        some (x9, g1)
      else
        if v1 = 2 then
          (xg_i g1 9 v0 28).bind fun x7 =>
          some (x7, g1)
        else
          (xg_i g1 9 v0 1).bind fun x5 =>
          some (x5, g1)
  else
    some (0, g1)
def f_X8_total (g : xG) (a0 : Nat) (a1 : Int32) : Option (Int32 × xG) :=
  if a1 < 0 then
    f_X8_total_10 g a0 a1 a0
  else
    if a1 ≤ 3 then
      (xp_i g 9 a0 0 0).bind fun g13 =>
      (xg_i g13 9 a0 0).bind fun x15 =>
      if x15 ≤ 0 then
        if a1 = 0 then
          (xg_i g13 9 a0 10).bind fun x23 =>
          some (x23, g13)
        else
          if a1 = 1 then
            (xg_i g13 9 a0 11).bind fun x21 =>
            some (x21, g13)
          else
            if a1 = 2 then
              (xg_i g13 9 a0 28).bind fun x19 =>
              some (x19, g13)
            else
              (xg_i g13 9 a0 1).bind fun x17 =>
              some (x17, g13)
      else
        some (0, g13)
    else
      f_X8_total_10 g a0 a1 a0
set_option maxHeartbeats 4000000 in
set_option maxRecDepth 100000 in
theorem c_X8_total (l : Launch) (D : va_G) (cy : Nat → ClassId) (L : List Nat) (g : xG) (a0 : Nat) (a1 : Int32) {r1 : Int32} {g1 : xG} (h : f_X8_total g a0 a1 = some (r1, g1)) : xMi l yX8_total wsX8_total ({ frames := 0, cells := 0, slots := 0, locals := 0 }) D cy L g [.ref a0, .int a1] r1 g1 := by
  refine xm_i (cc := cX8_total) (maxL := 2) RX8 rfl rfl rfl (by decide +kernel) rfl (Nat.le_of_ble_eq_true rfl) ?_
  intro p e s m args below meth c Q A S w hA hN ret ls hl
  have hl : lv_has ls 2 [(0, .ref a0), (1, .int a1)] := hl
  obtain ⟨rr, hrr⟩ : ∃ z, z = (r1, g1) := ⟨_, rfl⟩
  rw [← hrr] at h
  have hb10 : ∀ (g : xG) (v0 : Nat) (v1 : Int32) (s0 : Nat) , f_X8_total_10 g v0 v1 s0 = some rr → ∀ (H : Heap) (locs : List Loc) (ls : Array Slot), xOK D cy A s.heap s L g H locs → lv_has ls 2 [(0, .ref v0), (1, .int v1)] → W p l e { frames := 0, cells := 0, slots := 0, locals := 0 } s m args below meth c H locs 0 0 Q (F0 m 10 ls [.ref s0]) := by
    intro g v0 v1 s0 h H locs ls w hl
    rw [f_X8_total_10] at h
    refine lv_iconst (v := 1) S.1 S.2.1 dX8_total_10 (by decide) ?_
    refine lv_goto (tgt := 15) S.1 S.2.1 dX8_total_11 (by decide) ?_
    obtain ⟨g1, h2, h⟩ := xb h
    refine xr_puti S w 9 xi_X8_total_X8 rfl tyX8 tyX8_ok nmX8 0 (by decide) xl_X8_total_102 rfl (tyX8_ok 0 (by decide)) h2 dX8_total_15 (fun H locs w => ?_)
    refine lv_aload_n S.1 S.2.1 dX8_total_18 rfl (lv_at hl 0 rfl) ?_
    obtain ⟨x3, h4, h⟩ := xb h
    refine xr_geti S w 9 xi_X8_total_X8 rfl 0 (by decide) xl_X8_total_102 h4 dX8_total_19 ?_
    refine lv_if_le (tgt := 27) S.1 S.2.1 dX8_total_22 (by decide) (fun c22 => ?_) (fun c22 => ?_)
    · rw [if_pos c22] at h
      refine lv_iload_n S.1 S.2.1 dX8_total_27 rfl (lv_at hl 1 rfl) ?_
      refine lv_if_ne (tgt := 38) S.1 S.2.1 dX8_total_28 (by decide) (fun c28 => ?_) (fun c28 => ?_)
      · rw [if_neg c28] at h
        refine lv_iload_n S.1 S.2.1 dX8_total_38 rfl (lv_at hl 1 rfl) ?_
        refine lv_iconst (v := 1) S.1 S.2.1 dX8_total_39 (by decide) ?_
        refine lv_icmp_ne (tgt := 50) S.1 S.2.1 dX8_total_40 (by decide) (fun c40 => ?_) (fun c40 => ?_)
        · rw [if_neg c40] at h
          refine lv_iload_n S.1 S.2.1 dX8_total_50 rfl (lv_at hl 1 rfl) ?_
          refine lv_iconst (v := 2) S.1 S.2.1 dX8_total_51 (by decide) ?_
          refine lv_icmp_ne (tgt := 62) S.1 S.2.1 dX8_total_52 (by decide) (fun c52 => ?_) (fun c52 => ?_)
          · rw [if_neg c52] at h
            refine lv_aload_n S.1 S.2.1 dX8_total_62 rfl (lv_at hl 0 rfl) ?_
            obtain ⟨x5, h6, h⟩ := xb h
            refine xr_geti S w 9 xi_X8_total_X8 rfl 1 (by decide) xl_X8_total_7 h6 dX8_total_63 ?_
            exact ret _ _ _ _ _ _ (h.trans (congrArg some hrr)) w dX8_total_66
          · rw [if_pos c52] at h
            refine lv_aload_n S.1 S.2.1 dX8_total_55 rfl (lv_at hl 0 rfl) ?_
            obtain ⟨x7, h8, h⟩ := xb h
            refine xr_geti S w 9 xi_X8_total_X8 rfl 28 (by decide) xl_X8_total_114 h8 dX8_total_56 ?_
            refine lv_goto (tgt := 66) S.1 S.2.1 dX8_total_59 (by decide) ?_
            exact ret _ _ _ _ _ _ (h.trans (congrArg some hrr)) w dX8_total_66
        · rw [if_pos c40] at h
          refine lv_aload_n S.1 S.2.1 dX8_total_43 rfl (lv_at hl 0 rfl) ?_
          obtain ⟨x9, h10, h⟩ := xb h
          refine xr_geti S w 9 xi_X8_total_X8 rfl 11 (by decide) xl_X8_total_108 h10 dX8_total_44 ?_
          refine lv_goto (tgt := 66) S.1 S.2.1 dX8_total_47 (by decide) ?_
          exact ret _ _ _ _ _ _ (h.trans (congrArg some hrr)) w dX8_total_66
      · rw [if_pos c28] at h
        refine lv_aload_n S.1 S.2.1 dX8_total_31 rfl (lv_at hl 0 rfl) ?_
        obtain ⟨x11, h12, h⟩ := xb h
        refine xr_geti S w 9 xi_X8_total_X8 rfl 10 (by decide) xl_X8_total_105 h12 dX8_total_32 ?_
        refine lv_goto (tgt := 66) S.1 S.2.1 dX8_total_35 (by decide) ?_
        exact ret _ _ _ _ _ _ (h.trans (congrArg some hrr)) w dX8_total_66
    · rw [if_neg c22] at h
      refine lv_iconst (v := 0) S.1 S.2.1 dX8_total_25 (by decide) ?_
      exact ret _ _ _ _ _ _ (h.trans (congrArg some hrr)) w dX8_total_26
  rw [f_X8_total] at h
  refine lv_aload_n S.1 S.2.1 dX8_total_0 rfl (lv_at hl 0 rfl) ?_
  refine lv_iload_n S.1 S.2.1 dX8_total_1 rfl (lv_at hl 1 rfl) ?_
  refine lv_if_lt (tgt := 10) S.1 S.2.1 dX8_total_2 (by decide) (fun c2 => ?_) (fun c2 => ?_)
  · rw [if_pos c2] at h
    exact hb10 g a0 a1 a0 h _ _ _ w hl
  · rw [if_neg c2] at h
    refine lv_iload_n S.1 S.2.1 dX8_total_5 rfl (lv_at hl 1 rfl) ?_
    refine lv_iconst (v := 3) S.1 S.2.1 dX8_total_6 (by decide) ?_
    refine lv_icmp_le (tgt := 14) S.1 S.2.1 dX8_total_7 (by decide) (fun c7 => ?_) (fun c7 => ?_)
    · rw [if_pos c7] at h
      refine lv_iconst (v := 0) S.1 S.2.1 dX8_total_14 (by decide) ?_
      obtain ⟨g13, h14, h⟩ := xb h
      refine xr_puti S w 9 xi_X8_total_X8 rfl tyX8 tyX8_ok nmX8 0 (by decide) xl_X8_total_102 rfl (tyX8_ok 0 (by decide)) h14 dX8_total_15 (fun H locs w => ?_)
      refine lv_aload_n S.1 S.2.1 dX8_total_18 rfl (lv_at hl 0 rfl) ?_
      obtain ⟨x15, h16, h⟩ := xb h
      refine xr_geti S w 9 xi_X8_total_X8 rfl 0 (by decide) xl_X8_total_102 h16 dX8_total_19 ?_
      refine lv_if_le (tgt := 27) S.1 S.2.1 dX8_total_22 (by decide) (fun c22 => ?_) (fun c22 => ?_)
      · rw [if_pos c22] at h
        refine lv_iload_n S.1 S.2.1 dX8_total_27 rfl (lv_at hl 1 rfl) ?_
        refine lv_if_ne (tgt := 38) S.1 S.2.1 dX8_total_28 (by decide) (fun c28 => ?_) (fun c28 => ?_)
        · rw [if_neg c28] at h
          refine lv_iload_n S.1 S.2.1 dX8_total_38 rfl (lv_at hl 1 rfl) ?_
          refine lv_iconst (v := 1) S.1 S.2.1 dX8_total_39 (by decide) ?_
          refine lv_icmp_ne (tgt := 50) S.1 S.2.1 dX8_total_40 (by decide) (fun c40 => ?_) (fun c40 => ?_)
          · rw [if_neg c40] at h
            refine lv_iload_n S.1 S.2.1 dX8_total_50 rfl (lv_at hl 1 rfl) ?_
            refine lv_iconst (v := 2) S.1 S.2.1 dX8_total_51 (by decide) ?_
            refine lv_icmp_ne (tgt := 62) S.1 S.2.1 dX8_total_52 (by decide) (fun c52 => ?_) (fun c52 => ?_)
            · rw [if_neg c52] at h
              refine lv_aload_n S.1 S.2.1 dX8_total_62 rfl (lv_at hl 0 rfl) ?_
              obtain ⟨x17, h18, h⟩ := xb h
              refine xr_geti S w 9 xi_X8_total_X8 rfl 1 (by decide) xl_X8_total_7 h18 dX8_total_63 ?_
              exact ret _ _ _ _ _ _ (h.trans (congrArg some hrr)) w dX8_total_66
            · rw [if_pos c52] at h
              refine lv_aload_n S.1 S.2.1 dX8_total_55 rfl (lv_at hl 0 rfl) ?_
              obtain ⟨x19, h20, h⟩ := xb h
              refine xr_geti S w 9 xi_X8_total_X8 rfl 28 (by decide) xl_X8_total_114 h20 dX8_total_56 ?_
              refine lv_goto (tgt := 66) S.1 S.2.1 dX8_total_59 (by decide) ?_
              exact ret _ _ _ _ _ _ (h.trans (congrArg some hrr)) w dX8_total_66
          · rw [if_pos c40] at h
            refine lv_aload_n S.1 S.2.1 dX8_total_43 rfl (lv_at hl 0 rfl) ?_
            obtain ⟨x21, h22, h⟩ := xb h
            refine xr_geti S w 9 xi_X8_total_X8 rfl 11 (by decide) xl_X8_total_108 h22 dX8_total_44 ?_
            refine lv_goto (tgt := 66) S.1 S.2.1 dX8_total_47 (by decide) ?_
            exact ret _ _ _ _ _ _ (h.trans (congrArg some hrr)) w dX8_total_66
        · rw [if_pos c28] at h
          refine lv_aload_n S.1 S.2.1 dX8_total_31 rfl (lv_at hl 0 rfl) ?_
          obtain ⟨x23, h24, h⟩ := xb h
          refine xr_geti S w 9 xi_X8_total_X8 rfl 10 (by decide) xl_X8_total_105 h24 dX8_total_32 ?_
          refine lv_goto (tgt := 66) S.1 S.2.1 dX8_total_35 (by decide) ?_
          exact ret _ _ _ _ _ _ (h.trans (congrArg some hrr)) w dX8_total_66
      · rw [if_neg c22] at h
        refine lv_iconst (v := 0) S.1 S.2.1 dX8_total_25 (by decide) ?_
        exact ret _ _ _ _ _ _ (h.trans (congrArg some hrr)) w dX8_total_26
    · rw [if_neg c7] at h
      exact hb10 g a0 a1 a0 h _ _ _ w hl
