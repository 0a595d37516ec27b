section LOOP
theorem xs_at {Ln c j : Nat} {xs : Nat → Int32} (hj : j < 4) (hl : 4 * c + 4 ≤ Ln) (hL : Ln ≤ 256) : xsc Ln xs (zI (4 * c) + zI j) = some (xs (4 * c + j)) := by
  unfold xsc
  rw [zI_add, zI_cl (by omega), if_pos ⟨zI_nn (by omega), by omega⟩]
theorem ln_le {Ln v : Nat} (hL : Ln ≤ 256) (hv : v ≤ 256) (h : ¬ (Int32.ofNat Ln) - 4 < zI v) : v + 4 ≤ Ln := by
  have e : Int32.ofNat Ln = zI Ln := rfl
  rw [e] at h
  by_cases q : 4 ≤ Ln
  · rw [L4, zI_sub q, zI_lt (by omega) (by omega)] at h
    omega
  · exfalso
    apply h
    have hn : zI Ln - 4 < 0 := by
      rcases (by omega : Ln = 0 ∨ Ln = 1 ∨ Ln = 2 ∨ Ln = 3) with rfl | rfl | rfl | rfl <;> decide
    have hp : (0 : Int32) ≤ zI v := zI_nn (by omega)
    exact Int32.lt_of_lt_of_le hn hp
set_option maxHeartbeats 16000000 in
theorem law_ok {t Ln : Nat} {xs : Nat → Int32} (hL : Ln ≤ 256) : ∀ (n c : Nat) (ad : Nat → Nat → Nat) (lp : Nat → Nat) (ps : Nat) (s : Sg) (code : Int32) (L : List Nat) (g : xG), 65 ≤ n + c → c ≤ 64 → LI ad lp t ps s code L g c → w_L_law_23 t Ln xs n L g (ad 1 0) (ad 60 0) (ad 99 0) (zI (4 * c)) := by
  intro n
  induction n with
  | zero =>
    intro c ad lp ps s code L g h1 h2 h
    omega
  | succ n IH =>
    intro c ad lp ps s code L g h1 h2 h
    rw [w_L_law_23]
    refine ite_e (fun _ => trivial) (fun q => ?_)
    have hl := ln_le hL (by omega) q
    have X0 : xsc Ln xs (zI (4 * c)) = some (xs (4 * c + 0)) := by
      rw [← xs_at (j := 0) (by decide) hl hL, zI_add]
      rfl
    have X1 : xsc Ln xs (zI (4 * c) + 1) = some (xs (4 * c + 1)) := xs_at (j := 1) (by decide) hl hL
    have X2 : xsc Ln xs (zI (4 * c) + 2) = some (xs (4 * c + 2)) := xs_at (j := 2) (by decide) hl hL
    have X3 : xsc Ln xs (zI (4 * c) + 3) = some (xs (4 * c + 3)) := xs_at (j := 3) (by decide) hl hL
    have hc : c < 600 := by omega
    have ih : ∀ (ad : Nat → Nat → Nat) (L : List Nat) (lp : Nat → Nat) (ps : Nat) (s : Sg) (code : Int32) (g : xG), LI ad lp t ps s code L g (c + 1) → w_L_law_23 t Ln xs n L g (ad 1 0) (ad 60 0) (ad 99 0) (zI (4 * c) + 4) := by
      intro ad L lp ps s code g q
      have hv : zI (4 * c) + 4 = zI (4 * (c + 1)) := by
        rw [L4, zI_add]
        exact congrArg zI (by omega)
      rw [hv]
      exact IH (c + 1) ad lp ps s code L g (by omega) (by omega) q
    clear IH
    refine ⟨_, X0, ?_⟩
    refine ite_e (fun _ => ?_) (fun _ => ?_)
    · exact ⟨_, X1, st_open h (xs (4 * c + 1)) (Q := fun g => w_L_law_23 t Ln xs n L g (ad 1 0) (ad 60 0) (ad 99 0) (zI (4 * c) + 4)) (ih ad L) (fun r g1 hr => ⟨_, X1, hr⟩)⟩
    refine ite_e (fun _ => ?_) (fun _ => ?_)
    · exact ⟨_, X1, _, X2, st_input h hc (xs (4 * c + 1)) (xs (4 * c + 2)) (Q := fun g => w_L_law_23 t Ln xs n L g (ad 1 0) (ad 60 0) (ad 99 0) (zI (4 * c) + 4)) (ih ad L) (fun r g1 hr => ⟨_, X1, _, X2, hr⟩)⟩
    refine ite_e (fun _ => ?_) (fun _ => ?_)
    · exact ⟨_, X1, st_deliver h hc (xs (4 * c + 1)) (Q := fun g => w_L_law_23 t Ln xs n L g (ad 1 0) (ad 60 0) (ad 99 0) (zI (4 * c) + 4)) (ih ad L) (fun r g1 hr => ⟨_, X1, hr⟩)⟩
    refine ite_e (fun _ => ?_) (fun _ => ?_)
    · exact ⟨_, X1, st_drop h hc (xs (4 * c + 1)) (Q := fun g => w_L_law_23 t Ln xs n L g (ad 1 0) (ad 60 0) (ad 99 0) (zI (4 * c) + 4)) (ih ad L) (fun r g1 hr => ⟨_, X1, hr⟩)⟩
    refine ite_e (fun _ => ?_) (fun _ => ?_)
    · exact ⟨_, X1, st_copy h hc (xs (4 * c + 1)) (Q := fun g => w_L_law_23 t Ln xs n L g (ad 1 0) (ad 60 0) (ad 99 0) (zI (4 * c) + 4)) (ih ad L) (fun r g1 hr => ⟨_, X1, hr⟩)⟩
    refine ite_e (fun _ => ?_) (fun _ => ?_)
    · exact ⟨_, X1, _, X2, st_spoil h hc (xs (4 * c + 1)) (xs (4 * c + 2)) (Q := fun g => w_L_law_23 t Ln xs n L g (ad 1 0) (ad 60 0) (ad 99 0) (zI (4 * c) + 4)) (ih ad L) (fun r g1 hr => ⟨_, X1, _, X2, hr⟩)⟩
    refine ite_e (fun _ => ?_) (fun _ => ?_)
    · exact ⟨_, X1, st_forward h hc (xs (4 * c + 1)) (Q := fun g => w_L_law_23 t Ln xs n L g (ad 1 0) (ad 60 0) (ad 99 0) (zI (4 * c) + 4)) (ih ad L) (fun r g1 hr => ⟨_, X1, hr⟩)⟩
    refine ite_e (fun _ => ?_) (fun _ => ?_)
    · exact ⟨_, X1, _, X2, _, X3, st_lie h hc (xs (4 * c + 1)) (xs (4 * c + 2)) (xs (4 * c + 3)) (Q := fun g => w_L_law_23 t Ln xs n L g (ad 1 0) (ad 60 0) (ad 99 0) (zI (4 * c) + 4)) (ih ad L) (fun r g1 hr => ⟨_, X1, _, X2, _, X3, hr⟩)⟩
    refine ite_e (fun _ => ?_) (fun _ => ?_)
    · exact ⟨_, X1, _, X2, _, X3, st_bend h hc (xs (4 * c + 1)) (xs (4 * c + 2)) (xs (4 * c + 3)) (Q := fun g => w_L_law_23 t Ln xs n L g (ad 1 0) (ad 60 0) (ad 99 0) (zI (4 * c) + 4)) (ih ad L) (fun r g1 hr => ⟨_, X1, _, X2, _, X3, hr⟩)⟩
    refine ite_e (fun _ => ?_) (fun _ => ?_)
    · exact ⟨_, X1, _, X2, st_cut h hc (xs (4 * c + 1)) (xs (4 * c + 2)) (Q := fun g => w_L_law_23 t Ln xs n L g (ad 1 0) (ad 60 0) (ad 99 0) (zI (4 * c) + 4)) (ih ad L) (fun r g1 hr => ⟨_, X1, _, X2, hr⟩)⟩
    refine ite_e (fun _ => ?_) (fun _ => ?_)
    · refine ⟨_, X1, _, X2, ite_e (fun q => ?_) (fun q => ?_)⟩
      · exact st_hide h hc (xs (4 * c + 1)) false (Q := fun g => w_L_law_23 t Ln xs n L g (ad 1 0) (ad 60 0) (ad 99 0) (zI (4 * c) + 4)) (ih ad L) (fun r g1 hr => ⟨_, X1, _, X2, (if_pos q).mpr hr⟩)
      · exact st_hide h hc (xs (4 * c + 1)) true (Q := fun g => w_L_law_23 t Ln xs n L g (ad 1 0) (ad 60 0) (ad 99 0) (zI (4 * c) + 4)) (ih ad L) (fun r g1 hr => ⟨_, X1, _, X2, (if_neg q).mpr hr⟩)
    refine ite_e (fun _ => ?_) (fun _ => ?_)
    · refine ⟨_, X1, _, X2, st_audit h hc (xs (4 * c + 1)) (xs (4 * c + 2)) (Q := fun L g => w_L_law_23 t Ln xs n L g (ad 1 0) (ad 60 0) (ad 99 0) (zI (4 * c) + 4)) (fun ad1 lp ps s code L g a b d q => ?_) (fun r L1 g1 hr => ⟨_, X1, _, X2, hr⟩)⟩
      show w_L_law_23 t Ln xs n L g (ad 1 0) (ad 60 0) (ad 99 0) (zI (4 * c) + 4)
      rw [← a, ← b, ← d]
      exact ih ad1 L lp ps s code g q
    refine ite_e (fun _ => ?_) (fun _ => ?_)
    · exact ⟨_, X1, _, X2, st_judge h hc (xs (4 * c + 1)) (xs (4 * c + 2)) (Q := fun g => w_L_law_23 t Ln xs n L g (ad 1 0) (ad 60 0) (ad 99 0) (zI (4 * c) + 4)) (ih ad L) (fun r g1 hr => ⟨_, X1, _, X2, hr⟩)⟩
    refine ite_e (fun _ => ?_) (fun _ => ?_)
    · exact ⟨_, X1, st_holds h hc (xs (4 * c + 1)) (Q := fun g => w_L_law_23 t Ln xs n L g (ad 1 0) (ad 60 0) (ad 99 0) (zI (4 * c) + 4)) (ih ad L) (fun r g1 hr => ⟨_, X1, hr⟩)⟩
    refine ite_e (fun _ => ?_) (fun _ => ?_)
    · exact ⟨_, X1, _, X2, st_byteOf h hc (xs (4 * c + 1)) (xs (4 * c + 2)) (Q := fun g => w_L_law_23 t Ln xs n L g (ad 1 0) (ad 60 0) (ad 99 0) (zI (4 * c) + 4)) (ih ad L) (fun r g1 hr => ⟨_, X1, _, X2, hr⟩)⟩
    refine ite_e (fun _ => ?_) (fun _ => ?_)
    · exact ⟨_, X1, _, X2, _, X3, st_smudge h hc (xs (4 * c + 1)) (xs (4 * c + 2)) (xs (4 * c + 3)) (Q := fun g => w_L_law_23 t Ln xs n L g (ad 1 0) (ad 60 0) (ad 99 0) (zI (4 * c) + 4)) (ih ad L) (fun r g1 hr => ⟨_, X1, _, X2, _, X3, hr⟩)⟩
    refine ite_e (fun _ => ?_) (fun _ => ?_)
    · exact ⟨_, X1, _, X2, st_verdict h hc (xs (4 * c + 1)) (xs (4 * c + 2)) (Q := fun g => w_L_law_23 t Ln xs n L g (ad 1 0) (ad 60 0) (ad 99 0) (zI (4 * c) + 4)) (ih ad L) (fun r g1 hr => ⟨_, X1, _, X2, hr⟩)⟩
    refine ite_e (fun _ => ?_) (fun _ => ?_)
    · exact ⟨_, X1, _, X2, _, X3, st_entry h hc (xs (4 * c + 1)) (xs (4 * c + 2)) (xs (4 * c + 3)) (Q := fun g => w_L_law_23 t Ln xs n L g (ad 1 0) (ad 60 0) (ad 99 0) (zI (4 * c) + 4)) (ih ad L) (fun r g1 hr => ⟨_, X1, _, X2, _, X3, hr⟩)⟩
    refine ite_e (fun _ => ?_) (fun _ => ?_)
    · exact ⟨_, X1, _, X2, st_head h hc (xs (4 * c + 1)) (xs (4 * c + 2)) (Q := fun g => w_L_law_23 t Ln xs n L g (ad 1 0) (ad 60 0) (ad 99 0) (zI (4 * c) + 4)) (ih ad L) (fun r g1 hr => ⟨_, X1, _, X2, hr⟩)⟩
    refine ite_e (fun _ => ?_) (fun _ => ?_)
    · exact ⟨_, X1, _, X2, st_about h hc (xs (4 * c + 1)) (xs (4 * c + 2)) (Q := fun g => w_L_law_23 t Ln xs n L g (ad 1 0) (ad 60 0) (ad 99 0) (zI (4 * c) + 4)) (ih ad L) (fun r g1 hr => ⟨_, X1, _, X2, hr⟩)⟩
    refine ite_e (fun _ => ?_) (fun _ => ?_)
    · exact ⟨_, X1, st_total h hc (xs (4 * c + 1)) (Q := fun g => w_L_law_23 t Ln xs n L g (ad 1 0) (ad 60 0) (ad 99 0) (zI (4 * c) + 4)) (ih ad L) (fun r g1 hr => ⟨_, X1, hr⟩)⟩
    exact ih ad L lp ps s code g ⟨h.1, h.2.1, h.2.2.1, h.2.2.2.1, h.2.2.2.2.1, h.2.2.2.2.2.up⟩
end LOOP
