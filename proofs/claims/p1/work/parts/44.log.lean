/-! PURE PART: the class's logs. -/
section LOG
variable {ad : Nat → Nat → Nat} {g : xG} {i : Nat} {l : List E3}
theorem two_ok (h : LogR ad g i l) : f_X2_hasTwoPlaces g (ad 12 i) = some (b2 (decide (l.length ≤ 148))) := by
  obtain ⟨hl0, fk, fw, fv, fh, ⟨h0, h1, h2, h3, h4⟩, -⟩ := h
  unfold f_X2_hasTwoPlaces
  rw [r_gi h0 rfl]
  show (if 150 < zI l.length + 2 then some 0 else some 1) = _
  rw [L150, L2, zI_add]
  by_cases h : l.length ≤ 148
  · rw [if_neg (by rw [zI_lt (by omega) (by omega)]; omega), decide_eq_true h]
    rfl
  · rw [if_pos (by rw [zI_lt (by omega) (by omega)]; omega), decide_eq_false h]
    rfl
theorem app_ok (hI : Inj ad) (h : LogR ad g i l) (hl : l.length < 150) (k : Int32) (w : Nat) (v : Int32) :
    Ev (f_X2_append g (ad 12 i) k (zI w) v) (fun g1 => LogR ad g1 i (l ++ [(k, w, v)]) ∧ Md ad [12, 16, 17, 18, 19] i [] g g1) := by
  obtain ⟨hl0, fk, fw, fv, fh, ⟨h0, h1, h2, h3, h4⟩, hk, hw, hv, hh⟩ := h
  have ne1 : ∀ {s i s' i' : Nat}, s ≠ s' → ad s i ≠ ad s' i' := hI.n1
  have ne2 : ∀ {s i i' : Nat}, i ≠ i' → ad s i ≠ ad s i' := hI.n2
  unfold f_X2_append
  repeat (first
      | ((with_reducible apply E_gi); ((repeat (first | (with_reducible refine (va_up_self _ _ _).trans ?_) | ((with_reducible refine (va_up_ne _ _ ?_).trans ?_); (first | exact ne1 (by decide) | exact ne2 (by omega))))); first | (with_reducible assumption) | exact rfl); exact rfl)
      | ((with_reducible apply E_gl); ((repeat (first | (with_reducible refine (va_up_self _ _ _).trans ?_) | ((with_reducible refine (va_up_ne _ _ ?_).trans ?_); (first | exact ne1 (by decide) | exact ne2 (by omega))))); first | (with_reducible assumption) | exact rfl); exact rfl)
      | ((with_reducible apply E_gr); ((repeat (first | (with_reducible refine (va_up_self _ _ _).trans ?_) | ((with_reducible refine (va_up_ne _ _ ?_).trans ?_); (first | exact ne1 (by decide) | exact ne2 (by omega))))); first | (with_reducible assumption) | exact rfl); exact rfl)
      | ((with_reducible apply E_k); ((repeat (first | (with_reducible refine (va_up_self _ _ _).trans ?_) | ((with_reducible refine (va_up_ne _ _ ?_).trans ?_); (first | exact ne1 (by decide) | exact ne2 (by omega))))); first | (with_reducible assumption) | exact rfl))
      | ((with_reducible apply E_ai); ((repeat (first | (with_reducible refine (va_up_self _ _ _).trans ?_) | ((with_reducible refine (va_up_ne _ _ ?_).trans ?_); (first | exact ne1 (by decide) | exact ne2 (by omega))))); first | (with_reducible assumption) | exact rfl); (first | (with_reducible rfl) | (simp (disch := omega) only [zI_add, zI_mul, zI_sub, L0, L1, L2, L3, L4, L5, L6, L7, L8, L10, L12, L18, L31, L36, L40, L127, L148, L150, L151, L200, L255, L300, L600, L906, L930, L940]; with_reducible rfl)); omega; exact (by decide))
      | ((with_reducible apply E_al); ((repeat (first | (with_reducible refine (va_up_self _ _ _).trans ?_) | ((with_reducible refine (va_up_ne _ _ ?_).trans ?_); (first | exact ne1 (by decide) | exact ne2 (by omega))))); first | (with_reducible assumption) | exact rfl); (first | (with_reducible rfl) | (simp (disch := omega) only [zI_add, zI_mul, zI_sub, L0, L1, L2, L3, L4, L5, L6, L7, L8, L10, L12, L18, L31, L36, L40, L127, L148, L150, L151, L200, L255, L300, L600, L906, L930, L940]; with_reducible rfl)); omega; exact (by decide))
      | ((with_reducible apply E_si1); ((repeat (first | (with_reducible refine (va_up_self _ _ _).trans ?_) | ((with_reducible refine (va_up_ne _ _ ?_).trans ?_); (first | exact ne1 (by decide) | exact ne2 (by omega))))); first | (with_reducible assumption) | exact rfl); (first | (with_reducible rfl) | (simp (disch := omega) only [zI_add, zI_mul, zI_sub, L0, L1, L2, L3, L4, L5, L6, L7, L8, L10, L12, L18, L31, L36, L40, L127, L148, L150, L151, L200, L255, L300, L600, L906, L930, L940]; with_reducible rfl)); omega; exact (by decide))
      | ((with_reducible apply E_sl); ((repeat (first | (with_reducible refine (va_up_self _ _ _).trans ?_) | ((with_reducible refine (va_up_ne _ _ ?_).trans ?_); (first | exact ne1 (by decide) | exact ne2 (by omega))))); first | (with_reducible assumption) | exact rfl); (first | (with_reducible rfl) | (simp (disch := omega) only [zI_add, zI_mul, zI_sub, L0, L1, L2, L3, L4, L5, L6, L7, L8, L10, L12, L18, L31, L36, L40, L127, L148, L150, L151, L200, L255, L300, L600, L906, L930, L940]; with_reducible rfl)); omega; exact (by decide))
      | ((with_reducible apply E_pi); ((repeat (first | (with_reducible refine (va_up_self _ _ _).trans ?_) | ((with_reducible refine (va_up_ne _ _ ?_).trans ?_); (first | exact ne1 (by decide) | exact ne2 (by omega))))); first | (with_reducible assumption) | exact rfl); exact Nat.le_of_ble_eq_true rfl; exact rfl)
      | ((with_reducible apply E_pl); ((repeat (first | (with_reducible refine (va_up_self _ _ _).trans ?_) | ((with_reducible refine (va_up_ne _ _ ?_).trans ?_); (first | exact ne1 (by decide) | exact ne2 (by omega))))); first | (with_reducible assumption) | exact rfl); exact Nat.le_of_ble_eq_true rfl; exact rfl)
      | ((with_reducible apply E_pr); ((repeat (first | (with_reducible refine (va_up_self _ _ _).trans ?_) | ((with_reducible refine (va_up_ne _ _ ?_).trans ?_); (first | exact ne1 (by decide) | exact ne2 (by omega))))); first | (with_reducible assumption) | exact rfl); exact Nat.le_of_ble_eq_true rfl; exact rfl)
      | ((with_reducible apply E_pz); (first | exact Or.inl rfl | exact Or.inr rfl | exact b2_01 _ | assumption); ((repeat (first | (with_reducible refine (va_up_self _ _ _).trans ?_) | ((with_reducible refine (va_up_ne _ _ ?_).trans ?_); (first | exact ne1 (by decide) | exact ne2 (by omega))))); first | (with_reducible assumption) | exact rfl); exact Nat.le_of_ble_eq_true rfl; exact rfl)
      | ((with_reducible apply E_si); ((repeat (first | (with_reducible refine (va_up_self _ _ _).trans ?_) | ((with_reducible refine (va_up_ne _ _ ?_).trans ?_); (first | exact ne1 (by decide) | exact ne2 (by omega))))); first | (with_reducible assumption) | exact rfl); (first | (with_reducible rfl) | (simp (disch := omega) only [zI_add, zI_mul, zI_sub, L0, L1, L2, L3, L4, L5, L6, L7, L8, L10, L12, L18, L31, L36, L40, L127, L148, L150, L151, L200, L255, L300, L600, L906, L930, L940]; with_reducible rfl)); omega; exact (by decide))
      | ((with_reducible apply E_ar); ((repeat (first | (with_reducible refine (va_up_self _ _ _).trans ?_) | ((with_reducible refine (va_up_ne _ _ ?_).trans ?_); (first | exact ne1 (by decide) | exact ne2 (by omega))))); first | (with_reducible assumption) | exact rfl); (first | (with_reducible rfl) | (simp (disch := omega) only [zI_add, zI_mul, zI_sub, L0, L1, L2, L3, L4, L5, L6, L7, L8, L10, L12, L18, L31, L36, L40, L127, L148, L150, L151, L200, L255, L300, L600, L906, L930, L940]; with_reducible rfl)); omega; exact (by decide); (first | assumption | exact rfl))
      | ((with_reducible apply E_sr); ((repeat (first | (with_reducible refine (va_up_self _ _ _).trans ?_) | ((with_reducible refine (va_up_ne _ _ ?_).trans ?_); (first | exact ne1 (by decide) | exact ne2 (by omega))))); first | (with_reducible assumption) | exact rfl); ((repeat (first | (with_reducible refine (va_up_self _ _ _).trans ?_) | ((with_reducible refine (va_up_ne _ _ ?_).trans ?_); (first | exact ne1 (by decide) | exact ne2 (by omega))))); first | (with_reducible assumption) | exact rfl); (first | (with_reducible rfl) | (simp (disch := omega) only [zI_add, zI_mul, zI_sub, L0, L1, L2, L3, L4, L5, L6, L7, L8, L10, L12, L18, L31, L36, L40, L127, L148, L150, L151, L200, L255, L300, L600, L906, L930, L940]; with_reducible rfl)); omega; exact (by decide))
      | ((with_reducible apply E_n); ((repeat (first | (with_reducible refine (va_up_self _ _ _).trans ?_) | ((with_reducible refine (va_up_ne _ _ ?_).trans ?_); (first | exact ne1 (by decide) | exact ne2 (by omega))))); first | (with_reducible assumption) | exact rfl))
      | ((with_reducible apply E_z); (first | exact Or.inl rfl | exact Or.inr rfl | exact b2_01 _ | assumption))
      | with_reducible refine Ev.b (f_hb _ _ _ _) ?_
      | with_reducible refine Ev.b (f_sg _ _ _) ?_
      | with_reducible refine Ev.b (f_hb8 _ _ _ _) ?_
      | with_reducible refine Ev.b (f_sg8 _ _ _) ?_)
  refine Ev.f (by rw [L150, zI_le (by omega) (by omega)]; omega) ?_
  repeat (first
      | ((with_reducible apply E_gi); ((repeat (first | (with_reducible refine (va_up_self _ _ _).trans ?_) | ((with_reducible refine (va_up_ne _ _ ?_).trans ?_); (first | exact ne1 (by decide) | exact ne2 (by omega))))); first | (with_reducible assumption) | exact rfl); exact rfl)
      | ((with_reducible apply E_gl); ((repeat (first | (with_reducible refine (va_up_self _ _ _).trans ?_) | ((with_reducible refine (va_up_ne _ _ ?_).trans ?_); (first | exact ne1 (by decide) | exact ne2 (by omega))))); first | (with_reducible assumption) | exact rfl); exact rfl)
      | ((with_reducible apply E_gr); ((repeat (first | (with_reducible refine (va_up_self _ _ _).trans ?_) | ((with_reducible refine (va_up_ne _ _ ?_).trans ?_); (first | exact ne1 (by decide) | exact ne2 (by omega))))); first | (with_reducible assumption) | exact rfl); exact rfl)
      | ((with_reducible apply E_k); ((repeat (first | (with_reducible refine (va_up_self _ _ _).trans ?_) | ((with_reducible refine (va_up_ne _ _ ?_).trans ?_); (first | exact ne1 (by decide) | exact ne2 (by omega))))); first | (with_reducible assumption) | exact rfl))
      | ((with_reducible apply E_ai); ((repeat (first | (with_reducible refine (va_up_self _ _ _).trans ?_) | ((with_reducible refine (va_up_ne _ _ ?_).trans ?_); (first | exact ne1 (by decide) | exact ne2 (by omega))))); first | (with_reducible assumption) | exact rfl); (first | (with_reducible rfl) | (simp (disch := omega) only [zI_add, zI_mul, zI_sub, L0, L1, L2, L3, L4, L5, L6, L7, L8, L10, L12, L18, L31, L36, L40, L127, L148, L150, L151, L200, L255, L300, L600, L906, L930, L940]; with_reducible rfl)); omega; exact (by decide))
      | ((with_reducible apply E_al); ((repeat (first | (with_reducible refine (va_up_self _ _ _).trans ?_) | ((with_reducible refine (va_up_ne _ _ ?_).trans ?_); (first | exact ne1 (by decide) | exact ne2 (by omega))))); first | (with_reducible assumption) | exact rfl); (first | (with_reducible rfl) | (simp (disch := omega) only [zI_add, zI_mul, zI_sub, L0, L1, L2, L3, L4, L5, L6, L7, L8, L10, L12, L18, L31, L36, L40, L127, L148, L150, L151, L200, L255, L300, L600, L906, L930, L940]; with_reducible rfl)); omega; exact (by decide))
      | ((with_reducible apply E_si1); ((repeat (first | (with_reducible refine (va_up_self _ _ _).trans ?_) | ((with_reducible refine (va_up_ne _ _ ?_).trans ?_); (first | exact ne1 (by decide) | exact ne2 (by omega))))); first | (with_reducible assumption) | exact rfl); (first | (with_reducible rfl) | (simp (disch := omega) only [zI_add, zI_mul, zI_sub, L0, L1, L2, L3, L4, L5, L6, L7, L8, L10, L12, L18, L31, L36, L40, L127, L148, L150, L151, L200, L255, L300, L600, L906, L930, L940]; with_reducible rfl)); omega; exact (by decide))
      | ((with_reducible apply E_sl); ((repeat (first | (with_reducible refine (va_up_self _ _ _).trans ?_) | ((with_reducible refine (va_up_ne _ _ ?_).trans ?_); (first | exact ne1 (by decide) | exact ne2 (by omega))))); first | (with_reducible assumption) | exact rfl); (first | (with_reducible rfl) | (simp (disch := omega) only [zI_add, zI_mul, zI_sub, L0, L1, L2, L3, L4, L5, L6, L7, L8, L10, L12, L18, L31, L36, L40, L127, L148, L150, L151, L200, L255, L300, L600, L906, L930, L940]; with_reducible rfl)); omega; exact (by decide))
      | ((with_reducible apply E_pi); ((repeat (first | (with_reducible refine (va_up_self _ _ _).trans ?_) | ((with_reducible refine (va_up_ne _ _ ?_).trans ?_); (first | exact ne1 (by decide) | exact ne2 (by omega))))); first | (with_reducible assumption) | exact rfl); exact Nat.le_of_ble_eq_true rfl; exact rfl)
      | ((with_reducible apply E_pl); ((repeat (first | (with_reducible refine (va_up_self _ _ _).trans ?_) | ((with_reducible refine (va_up_ne _ _ ?_).trans ?_); (first | exact ne1 (by decide) | exact ne2 (by omega))))); first | (with_reducible assumption) | exact rfl); exact Nat.le_of_ble_eq_true rfl; exact rfl)
      | ((with_reducible apply E_pr); ((repeat (first | (with_reducible refine (va_up_self _ _ _).trans ?_) | ((with_reducible refine (va_up_ne _ _ ?_).trans ?_); (first | exact ne1 (by decide) | exact ne2 (by omega))))); first | (with_reducible assumption) | exact rfl); exact Nat.le_of_ble_eq_true rfl; exact rfl)
      | ((with_reducible apply E_pz); (first | exact Or.inl rfl | exact Or.inr rfl | exact b2_01 _ | assumption); ((repeat (first | (with_reducible refine (va_up_self _ _ _).trans ?_) | ((with_reducible refine (va_up_ne _ _ ?_).trans ?_); (first | exact ne1 (by decide) | exact ne2 (by omega))))); first | (with_reducible assumption) | exact rfl); exact Nat.le_of_ble_eq_true rfl; exact rfl)
      | ((with_reducible apply E_si); ((repeat (first | (with_reducible refine (va_up_self _ _ _).trans ?_) | ((with_reducible refine (va_up_ne _ _ ?_).trans ?_); (first | exact ne1 (by decide) | exact ne2 (by omega))))); first | (with_reducible assumption) | exact rfl); (first | (with_reducible rfl) | (simp (disch := omega) only [zI_add, zI_mul, zI_sub, L0, L1, L2, L3, L4, L5, L6, L7, L8, L10, L12, L18, L31, L36, L40, L127, L148, L150, L151, L200, L255, L300, L600, L906, L930, L940]; with_reducible rfl)); omega; exact (by decide))
      | ((with_reducible apply E_ar); ((repeat (first | (with_reducible refine (va_up_self _ _ _).trans ?_) | ((with_reducible refine (va_up_ne _ _ ?_).trans ?_); (first | exact ne1 (by decide) | exact ne2 (by omega))))); first | (with_reducible assumption) | exact rfl); (first | (with_reducible rfl) | (simp (disch := omega) only [zI_add, zI_mul, zI_sub, L0, L1, L2, L3, L4, L5, L6, L7, L8, L10, L12, L18, L31, L36, L40, L127, L148, L150, L151, L200, L255, L300, L600, L906, L930, L940]; with_reducible rfl)); omega; exact (by decide); (first | assumption | exact rfl))
      | ((with_reducible apply E_sr); ((repeat (first | (with_reducible refine (va_up_self _ _ _).trans ?_) | ((with_reducible refine (va_up_ne _ _ ?_).trans ?_); (first | exact ne1 (by decide) | exact ne2 (by omega))))); first | (with_reducible assumption) | exact rfl); ((repeat (first | (with_reducible refine (va_up_self _ _ _).trans ?_) | ((with_reducible refine (va_up_ne _ _ ?_).trans ?_); (first | exact ne1 (by decide) | exact ne2 (by omega))))); first | (with_reducible assumption) | exact rfl); (first | (with_reducible rfl) | (simp (disch := omega) only [zI_add, zI_mul, zI_sub, L0, L1, L2, L3, L4, L5, L6, L7, L8, L10, L12, L18, L31, L36, L40, L127, L148, L150, L151, L200, L255, L300, L600, L906, L930, L940]; with_reducible rfl)); omega; exact (by decide))
      | ((with_reducible apply E_n); ((repeat (first | (with_reducible refine (va_up_self _ _ _).trans ?_) | ((with_reducible refine (va_up_ne _ _ ?_).trans ?_); (first | exact ne1 (by decide) | exact ne2 (by omega))))); first | (with_reducible assumption) | exact rfl))
      | ((with_reducible apply E_z); (first | exact Or.inl rfl | exact Or.inr rfl | exact b2_01 _ | assumption))
      | with_reducible refine Ev.b (f_hb _ _ _ _) ?_
      | with_reducible refine Ev.b (f_sg _ _ _) ?_
      | with_reducible refine Ev.b (f_hb8 _ _ _ _) ?_
      | with_reducible refine Ev.b (f_sg8 _ _ _) ?_)
  refine Ev.s ⟨⟨by rw [len_snoc]; omega, upd fk (l.length + 1) k, upd fw (l.length + 1) (zI w), upd fv (l.length + 1) v, vp_updL fh (l.length + 1) (hb (fh (l.length + 1 - 1)) k (zI w) v), ⟨?_, ?_, ?_, ?_, ?_⟩, pf_snoc (p := fun e : E3 => e.1) (Nat.add_comm _ _) hk, pf_snoc (p := fun e : E3 => zI e.2.1) (Nat.add_comm _ _) hw, pf_snoc (p := fun e : E3 => e.2.2) (Nat.add_comm _ _) hv, ?_⟩, ?_⟩
  · rw [len_snoc, ← zI_add]
    ((repeat (first | (with_reducible refine (va_up_self _ _ _).trans ?_) | ((with_reducible refine (va_up_ne _ _ ?_).trans ?_); (first | exact ne1 (by decide) | exact ne2 (by omega))))); first | (with_reducible assumption) | exact rfl)
  · ((repeat (first | (with_reducible refine (va_up_self _ _ _).trans ?_) | ((with_reducible refine (va_up_ne _ _ ?_).trans ?_); (first | exact ne1 (by decide) | exact ne2 (by omega))))); first | (with_reducible assumption) | exact rfl)
  · ((repeat (first | (with_reducible refine (va_up_self _ _ _).trans ?_) | ((with_reducible refine (va_up_ne _ _ ?_).trans ?_); (first | exact ne1 (by decide) | exact ne2 (by omega))))); first | (with_reducible assumption) | exact rfl)
  · ((repeat (first | (with_reducible refine (va_up_self _ _ _).trans ?_) | ((with_reducible refine (va_up_ne _ _ ?_).trans ?_); (first | exact ne1 (by decide) | exact ne2 (by omega))))); first | (with_reducible assumption) | exact rfl)
  · ((repeat (first | (with_reducible refine (va_up_self _ _ _).trans ?_) | ((with_reducible refine (va_up_ne _ _ ?_).trans ?_); (first | exact ne1 (by decide) | exact ne2 (by omega))))); first | (with_reducible assumption) | exact rfl)
  · intro k0 hk0
    rw [len_snoc] at hk0
    by_cases hq : k0 ≤ l.length
    · rw [updL_ne _ _ (by omega), hh k0 hq, List.take_append_of_le_length hq]
    · have hq2 : k0 = l.length + 1 := by omega
      subst hq2
      rw [updL_self, Nat.add_sub_cancel, hh _ (Nat.le_refl _), List.take_length, ← len_snoc l (k, w, v), List.take_length, hd_snoc]
  · exact ((((((Md.rf).w1 hI (by decide)).w1 hI (by decide)).w1 hI (by decide)).w1 hI (by decide)).w1 hI (by decide))
def bendL (l : List E3) (j : Nat) (v : Int32) : List E3 := l.set j ((en l j).1, (en l j).2.1, v)
theorem len_bend (l : List E3) (j : Nat) (v : Int32) : (bendL l j v).length = l.length := by simp [bendL]
theorem en_bend {l : List E3} {j k : Nat} {v : Int32} (hj : j < l.length) : en (bendL l j v) k = if k = j then ((en l j).1, (en l j).2.1, v) else en l k := by
  unfold bendL
  by_cases h : k = j
  · subst h
    simp [en, List.getD_eq_getElem?_getD, hj]
  · rw [if_neg h]
    simp [en, List.getD_eq_getElem?_getD, List.getElem?_set_ne (Ne.symm h)]
theorem take_bend {l : List E3} {j k : Nat} {v : Int32} (h : k ≤ j) : (bendL l j v).take k = l.take k := by
  unfold bendL
  rw [List.take_set_of_le h]
theorem rew_loop (hI : Inj ad) {fk fw fv : Nat → Int32} (hl : l.length ≤ 150) (hk : ∀ k, k < l.length → fk (1 + k) = (en l k).1) (hw : ∀ k, k < l.length → fw (1 + k) = zI (en l k).2.1) (hv : ∀ k, k < l.length → fv (1 + k) = (en l k).2.2) :
    ∀ (n j : Nat) (g : xG) (fh : Nat → Int64), LogE ad g i l.length fk fw fv fh → (∀ m, m < j → fh m = hd (l.take m)) → 1 ≤ j → j ≤ l.length + 1 → l.length + 1 < n + j →
    Ev (f_X2_rewrite_9 n g (ad 12 i) (zI j)) (fun g1 => LogR ad g1 i l ∧ Md ad [12, 16, 17, 18, 19] i [] g g1) := by
  have ne1 : ∀ {s i s' i' : Nat}, s ≠ s' → ad s i ≠ ad s' i' := hI.n1
  have ne2 : ∀ {s i i' : Nat}, i ≠ i' → ad s i ≠ ad s i' := hI.n2
  intro n
  induction n with
  | zero => intro j g fh _ _ _ h1 h2; omega
  | succ n ih =>
    intro j g fh h hh h1 h2 h3
    obtain ⟨e0, e1, e2, e3, e4⟩ := id h
    rw [f_X2_rewrite_9]
    repeat (first
        | ((with_reducible apply E_gi); ((repeat (first | (with_reducible refine (va_up_self _ _ _).trans ?_) | ((with_reducible refine (va_up_ne _ _ ?_).trans ?_); (first | exact ne1 (by decide) | exact ne2 (by omega))))); first | (with_reducible assumption) | exact rfl); exact rfl)
        | ((with_reducible apply E_gl); ((repeat (first | (with_reducible refine (va_up_self _ _ _).trans ?_) | ((with_reducible refine (va_up_ne _ _ ?_).trans ?_); (first | exact ne1 (by decide) | exact ne2 (by omega))))); first | (with_reducible assumption) | exact rfl); exact rfl)
        | ((with_reducible apply E_gr); ((repeat (first | (with_reducible refine (va_up_self _ _ _).trans ?_) | ((with_reducible refine (va_up_ne _ _ ?_).trans ?_); (first | exact ne1 (by decide) | exact ne2 (by omega))))); first | (with_reducible assumption) | exact rfl); exact rfl)
        | ((with_reducible apply E_k); ((repeat (first | (with_reducible refine (va_up_self _ _ _).trans ?_) | ((with_reducible refine (va_up_ne _ _ ?_).trans ?_); (first | exact ne1 (by decide) | exact ne2 (by omega))))); first | (with_reducible assumption) | exact rfl))
        | ((with_reducible apply E_ai); ((repeat (first | (with_reducible refine (va_up_self _ _ _).trans ?_) | ((with_reducible refine (va_up_ne _ _ ?_).trans ?_); (first | exact ne1 (by decide) | exact ne2 (by omega))))); first | (with_reducible assumption) | exact rfl); (first | (with_reducible rfl) | (simp (disch := omega) only [zI_add, zI_mul, zI_sub, L0, L1, L2, L3, L4, L5, L6, L7, L8, L10, L12, L18, L31, L36, L40, L127, L148, L150, L151, L200, L255, L300, L600, L906, L930, L940]; with_reducible rfl)); omega; exact (by decide))
        | ((with_reducible apply E_al); ((repeat (first | (with_reducible refine (va_up_self _ _ _).trans ?_) | ((with_reducible refine (va_up_ne _ _ ?_).trans ?_); (first | exact ne1 (by decide) | exact ne2 (by omega))))); first | (with_reducible assumption) | exact rfl); (first | (with_reducible rfl) | (simp (disch := omega) only [zI_add, zI_mul, zI_sub, L0, L1, L2, L3, L4, L5, L6, L7, L8, L10, L12, L18, L31, L36, L40, L127, L148, L150, L151, L200, L255, L300, L600, L906, L930, L940]; with_reducible rfl)); omega; exact (by decide))
        | ((with_reducible apply E_si1); ((repeat (first | (with_reducible refine (va_up_self _ _ _).trans ?_) | ((with_reducible refine (va_up_ne _ _ ?_).trans ?_); (first | exact ne1 (by decide) | exact ne2 (by omega))))); first | (with_reducible assumption) | exact rfl); (first | (with_reducible rfl) | (simp (disch := omega) only [zI_add, zI_mul, zI_sub, L0, L1, L2, L3, L4, L5, L6, L7, L8, L10, L12, L18, L31, L36, L40, L127, L148, L150, L151, L200, L255, L300, L600, L906, L930, L940]; with_reducible rfl)); omega; exact (by decide))
        | ((with_reducible apply E_sl); ((repeat (first | (with_reducible refine (va_up_self _ _ _).trans ?_) | ((with_reducible refine (va_up_ne _ _ ?_).trans ?_); (first | exact ne1 (by decide) | exact ne2 (by omega))))); first | (with_reducible assumption) | exact rfl); (first | (with_reducible rfl) | (simp (disch := omega) only [zI_add, zI_mul, zI_sub, L0, L1, L2, L3, L4, L5, L6, L7, L8, L10, L12, L18, L31, L36, L40, L127, L148, L150, L151, L200, L255, L300, L600, L906, L930, L940]; with_reducible rfl)); omega; exact (by decide))
        | ((with_reducible apply E_pi); ((repeat (first | (with_reducible refine (va_up_self _ _ _).trans ?_) | ((with_reducible refine (va_up_ne _ _ ?_).trans ?_); (first | exact ne1 (by decide) | exact ne2 (by omega))))); first | (with_reducible assumption) | exact rfl); exact Nat.le_of_ble_eq_true rfl; exact rfl)
        | ((with_reducible apply E_pl); ((repeat (first | (with_reducible refine (va_up_self _ _ _).trans ?_) | ((with_reducible refine (va_up_ne _ _ ?_).trans ?_); (first | exact ne1 (by decide) | exact ne2 (by omega))))); first | (with_reducible assumption) | exact rfl); exact Nat.le_of_ble_eq_true rfl; exact rfl)
        | ((with_reducible apply E_pr); ((repeat (first | (with_reducible refine (va_up_self _ _ _).trans ?_) | ((with_reducible refine (va_up_ne _ _ ?_).trans ?_); (first | exact ne1 (by decide) | exact ne2 (by omega))))); first | (with_reducible assumption) | exact rfl); exact Nat.le_of_ble_eq_true rfl; exact rfl)
        | ((with_reducible apply E_pz); (first | exact Or.inl rfl | exact Or.inr rfl | exact b2_01 _ | assumption); ((repeat (first | (with_reducible refine (va_up_self _ _ _).trans ?_) | ((with_reducible refine (va_up_ne _ _ ?_).trans ?_); (first | exact ne1 (by decide) | exact ne2 (by omega))))); first | (with_reducible assumption) | exact rfl); exact Nat.le_of_ble_eq_true rfl; exact rfl)
        | ((with_reducible apply E_si); ((repeat (first | (with_reducible refine (va_up_self _ _ _).trans ?_) | ((with_reducible refine (va_up_ne _ _ ?_).trans ?_); (first | exact ne1 (by decide) | exact ne2 (by omega))))); first | (with_reducible assumption) | exact rfl); (first | (with_reducible rfl) | (simp (disch := omega) only [zI_add, zI_mul, zI_sub, L0, L1, L2, L3, L4, L5, L6, L7, L8, L10, L12, L18, L31, L36, L40, L127, L148, L150, L151, L200, L255, L300, L600, L906, L930, L940]; with_reducible rfl)); omega; exact (by decide))
        | ((with_reducible apply E_ar); ((repeat (first | (with_reducible refine (va_up_self _ _ _).trans ?_) | ((with_reducible refine (va_up_ne _ _ ?_).trans ?_); (first | exact ne1 (by decide) | exact ne2 (by omega))))); first | (with_reducible assumption) | exact rfl); (first | (with_reducible rfl) | (simp (disch := omega) only [zI_add, zI_mul, zI_sub, L0, L1, L2, L3, L4, L5, L6, L7, L8, L10, L12, L18, L31, L36, L40, L127, L148, L150, L151, L200, L255, L300, L600, L906, L930, L940]; with_reducible rfl)); omega; exact (by decide); (first | assumption | exact rfl))
        | ((with_reducible apply E_sr); ((repeat (first | (with_reducible refine (va_up_self _ _ _).trans ?_) | ((with_reducible refine (va_up_ne _ _ ?_).trans ?_); (first | exact ne1 (by decide) | exact ne2 (by omega))))); first | (with_reducible assumption) | exact rfl); ((repeat (first | (with_reducible refine (va_up_self _ _ _).trans ?_) | ((with_reducible refine (va_up_ne _ _ ?_).trans ?_); (first | exact ne1 (by decide) | exact ne2 (by omega))))); first | (with_reducible assumption) | exact rfl); (first | (with_reducible rfl) | (simp (disch := omega) only [zI_add, zI_mul, zI_sub, L0, L1, L2, L3, L4, L5, L6, L7, L8, L10, L12, L18, L31, L36, L40, L127, L148, L150, L151, L200, L255, L300, L600, L906, L930, L940]; with_reducible rfl)); omega; exact (by decide))
        | ((with_reducible apply E_n); ((repeat (first | (with_reducible refine (va_up_self _ _ _).trans ?_) | ((with_reducible refine (va_up_ne _ _ ?_).trans ?_); (first | exact ne1 (by decide) | exact ne2 (by omega))))); first | (with_reducible assumption) | exact rfl))
        | ((with_reducible apply E_z); (first | exact Or.inl rfl | exact Or.inr rfl | exact b2_01 _ | assumption))
        | with_reducible refine Ev.b (f_hb _ _ _ _) ?_
        | with_reducible refine Ev.b (f_sg _ _ _) ?_
        | with_reducible refine Ev.b (f_hb8 _ _ _ _) ?_
        | with_reducible refine Ev.b (f_sg8 _ _ _) ?_)
    refine Ev.i (fun q => ?_) (fun q => ?_)
    · rw [zI_lt (by omega) (by omega)] at q
      exact Ev.s ⟨⟨hl, fk, fw, fv, fh, h, hk, hw, hv, fun m hm => hh m (by omega)⟩, Md.rf⟩
    · rw [zI_lt (by omega) (by omega)] at q
      repeat (first
          | ((with_reducible apply E_gi); ((repeat (first | (with_reducible refine (va_up_self _ _ _).trans ?_) | ((with_reducible refine (va_up_ne _ _ ?_).trans ?_); (first | exact ne1 (by decide) | exact ne2 (by omega))))); first | (with_reducible assumption) | exact rfl); exact rfl)
          | ((with_reducible apply E_gl); ((repeat (first | (with_reducible refine (va_up_self _ _ _).trans ?_) | ((with_reducible refine (va_up_ne _ _ ?_).trans ?_); (first | exact ne1 (by decide) | exact ne2 (by omega))))); first | (with_reducible assumption) | exact rfl); exact rfl)
          | ((with_reducible apply E_gr); ((repeat (first | (with_reducible refine (va_up_self _ _ _).trans ?_) | ((with_reducible refine (va_up_ne _ _ ?_).trans ?_); (first | exact ne1 (by decide) | exact ne2 (by omega))))); first | (with_reducible assumption) | exact rfl); exact rfl)
          | ((with_reducible apply E_k); ((repeat (first | (with_reducible refine (va_up_self _ _ _).trans ?_) | ((with_reducible refine (va_up_ne _ _ ?_).trans ?_); (first | exact ne1 (by decide) | exact ne2 (by omega))))); first | (with_reducible assumption) | exact rfl))
          | ((with_reducible apply E_ai); ((repeat (first | (with_reducible refine (va_up_self _ _ _).trans ?_) | ((with_reducible refine (va_up_ne _ _ ?_).trans ?_); (first | exact ne1 (by decide) | exact ne2 (by omega))))); first | (with_reducible assumption) | exact rfl); (first | (with_reducible rfl) | (simp (disch := omega) only [zI_add, zI_mul, zI_sub, L0, L1, L2, L3, L4, L5, L6, L7, L8, L10, L12, L18, L31, L36, L40, L127, L148, L150, L151, L200, L255, L300, L600, L906, L930, L940]; with_reducible rfl)); omega; exact (by decide))
          | ((with_reducible apply E_al); ((repeat (first | (with_reducible refine (va_up_self _ _ _).trans ?_) | ((with_reducible refine (va_up_ne _ _ ?_).trans ?_); (first | exact ne1 (by decide) | exact ne2 (by omega))))); first | (with_reducible assumption) | exact rfl); (first | (with_reducible rfl) | (simp (disch := omega) only [zI_add, zI_mul, zI_sub, L0, L1, L2, L3, L4, L5, L6, L7, L8, L10, L12, L18, L31, L36, L40, L127, L148, L150, L151, L200, L255, L300, L600, L906, L930, L940]; with_reducible rfl)); omega; exact (by decide))
          | ((with_reducible apply E_si1); ((repeat (first | (with_reducible refine (va_up_self _ _ _).trans ?_) | ((with_reducible refine (va_up_ne _ _ ?_).trans ?_); (first | exact ne1 (by decide) | exact ne2 (by omega))))); first | (with_reducible assumption) | exact rfl); (first | (with_reducible rfl) | (simp (disch := omega) only [zI_add, zI_mul, zI_sub, L0, L1, L2, L3, L4, L5, L6, L7, L8, L10, L12, L18, L31, L36, L40, L127, L148, L150, L151, L200, L255, L300, L600, L906, L930, L940]; with_reducible rfl)); omega; exact (by decide))
          | ((with_reducible apply E_sl); ((repeat (first | (with_reducible refine (va_up_self _ _ _).trans ?_) | ((with_reducible refine (va_up_ne _ _ ?_).trans ?_); (first | exact ne1 (by decide) | exact ne2 (by omega))))); first | (with_reducible assumption) | exact rfl); (first | (with_reducible rfl) | (simp (disch := omega) only [zI_add, zI_mul, zI_sub, L0, L1, L2, L3, L4, L5, L6, L7, L8, L10, L12, L18, L31, L36, L40, L127, L148, L150, L151, L200, L255, L300, L600, L906, L930, L940]; with_reducible rfl)); omega; exact (by decide))
          | ((with_reducible apply E_pi); ((repeat (first | (with_reducible refine (va_up_self _ _ _).trans ?_) | ((with_reducible refine (va_up_ne _ _ ?_).trans ?_); (first | exact ne1 (by decide) | exact ne2 (by omega))))); first | (with_reducible assumption) | exact rfl); exact Nat.le_of_ble_eq_true rfl; exact rfl)
          | ((with_reducible apply E_pl); ((repeat (first | (with_reducible refine (va_up_self _ _ _).trans ?_) | ((with_reducible refine (va_up_ne _ _ ?_).trans ?_); (first | exact ne1 (by decide) | exact ne2 (by omega))))); first | (with_reducible assumption) | exact rfl); exact Nat.le_of_ble_eq_true rfl; exact rfl)
          | ((with_reducible apply E_pr); ((repeat (first | (with_reducible refine (va_up_self _ _ _).trans ?_) | ((with_reducible refine (va_up_ne _ _ ?_).trans ?_); (first | exact ne1 (by decide) | exact ne2 (by omega))))); first | (with_reducible assumption) | exact rfl); exact Nat.le_of_ble_eq_true rfl; exact rfl)
          | ((with_reducible apply E_pz); (first | exact Or.inl rfl | exact Or.inr rfl | exact b2_01 _ | assumption); ((repeat (first | (with_reducible refine (va_up_self _ _ _).trans ?_) | ((with_reducible refine (va_up_ne _ _ ?_).trans ?_); (first | exact ne1 (by decide) | exact ne2 (by omega))))); first | (with_reducible assumption) | exact rfl); exact Nat.le_of_ble_eq_true rfl; exact rfl)
          | ((with_reducible apply E_si); ((repeat (first | (with_reducible refine (va_up_self _ _ _).trans ?_) | ((with_reducible refine (va_up_ne _ _ ?_).trans ?_); (first | exact ne1 (by decide) | exact ne2 (by omega))))); first | (with_reducible assumption) | exact rfl); (first | (with_reducible rfl) | (simp (disch := omega) only [zI_add, zI_mul, zI_sub, L0, L1, L2, L3, L4, L5, L6, L7, L8, L10, L12, L18, L31, L36, L40, L127, L148, L150, L151, L200, L255, L300, L600, L906, L930, L940]; with_reducible rfl)); omega; exact (by decide))
          | ((with_reducible apply E_ar); ((repeat (first | (with_reducible refine (va_up_self _ _ _).trans ?_) | ((with_reducible refine (va_up_ne _ _ ?_).trans ?_); (first | exact ne1 (by decide) | exact ne2 (by omega))))); first | (with_reducible assumption) | exact rfl); (first | (with_reducible rfl) | (simp (disch := omega) only [zI_add, zI_mul, zI_sub, L0, L1, L2, L3, L4, L5, L6, L7, L8, L10, L12, L18, L31, L36, L40, L127, L148, L150, L151, L200, L255, L300, L600, L906, L930, L940]; with_reducible rfl)); omega; exact (by decide); (first | assumption | exact rfl))
          | ((with_reducible apply E_sr); ((repeat (first | (with_reducible refine (va_up_self _ _ _).trans ?_) | ((with_reducible refine (va_up_ne _ _ ?_).trans ?_); (first | exact ne1 (by decide) | exact ne2 (by omega))))); first | (with_reducible assumption) | exact rfl); ((repeat (first | (with_reducible refine (va_up_self _ _ _).trans ?_) | ((with_reducible refine (va_up_ne _ _ ?_).trans ?_); (first | exact ne1 (by decide) | exact ne2 (by omega))))); first | (with_reducible assumption) | exact rfl); (first | (with_reducible rfl) | (simp (disch := omega) only [zI_add, zI_mul, zI_sub, L0, L1, L2, L3, L4, L5, L6, L7, L8, L10, L12, L18, L31, L36, L40, L127, L148, L150, L151, L200, L255, L300, L600, L906, L930, L940]; with_reducible rfl)); omega; exact (by decide))
          | ((with_reducible apply E_n); ((repeat (first | (with_reducible refine (va_up_self _ _ _).trans ?_) | ((with_reducible refine (va_up_ne _ _ ?_).trans ?_); (first | exact ne1 (by decide) | exact ne2 (by omega))))); first | (with_reducible assumption) | exact rfl))
          | ((with_reducible apply E_z); (first | exact Or.inl rfl | exact Or.inr rfl | exact b2_01 _ | assumption))
          | with_reducible refine Ev.b (f_hb _ _ _ _) ?_
          | with_reducible refine Ev.b (f_sg _ _ _) ?_
          | with_reducible refine Ev.b (f_hb8 _ _ _ _) ?_
          | with_reducible refine Ev.b (f_sg8 _ _ _) ?_)
      show Ev (f_X2_rewrite_9 n _ (ad 12 i) (zI j + zI 1)) _
      rw [zI_add]
      refine (ih (j + 1) _ (vp_updL fh j (hb (fh (j - 1)) (fk j) (fw j) (fv j))) ⟨?_, ?_, ?_, ?_, ?_⟩ ?_ (by omega) (by omega) (by omega)).m (fun g1 r => ⟨r.1, ((Md.rf).w1 hI (by decide)).tr r.2⟩)
      · ((repeat (first | (with_reducible refine (va_up_self _ _ _).trans ?_) | ((with_reducible refine (va_up_ne _ _ ?_).trans ?_); (first | exact ne1 (by decide) | exact ne2 (by omega))))); first | (with_reducible assumption) | exact rfl)
      · ((repeat (first | (with_reducible refine (va_up_self _ _ _).trans ?_) | ((with_reducible refine (va_up_ne _ _ ?_).trans ?_); (first | exact ne1 (by decide) | exact ne2 (by omega))))); first | (with_reducible assumption) | exact rfl)
      · ((repeat (first | (with_reducible refine (va_up_self _ _ _).trans ?_) | ((with_reducible refine (va_up_ne _ _ ?_).trans ?_); (first | exact ne1 (by decide) | exact ne2 (by omega))))); first | (with_reducible assumption) | exact rfl)
      · ((repeat (first | (with_reducible refine (va_up_self _ _ _).trans ?_) | ((with_reducible refine (va_up_ne _ _ ?_).trans ?_); (first | exact ne1 (by decide) | exact ne2 (by omega))))); first | (with_reducible assumption) | exact rfl)
      · ((repeat (first | (with_reducible refine (va_up_self _ _ _).trans ?_) | ((with_reducible refine (va_up_ne _ _ ?_).trans ?_); (first | exact ne1 (by decide) | exact ne2 (by omega))))); first | (with_reducible assumption) | exact rfl)
      · intro m hm
        by_cases hq : m = j
        · subst hq
          obtain ⟨j, rfl⟩ : ∃ j', m = 1 + j' := ⟨m - 1, by omega⟩
          rw [updL_self, Nat.add_sub_cancel_left, hk j (by omega), hw j (by omega), hv j (by omega), hh j (by omega), Nat.add_comm 1 j, hd_take (by omega)]
        · rw [updL_ne _ _ hq]
          exact hh m (by omega)
theorem rew_ok (hI : Inj ad) (h : LogR ad g i l) {j : Nat} (hj : j < l.length) (v : Int32) :
    Ev (f_X2_rewrite g (ad 12 i) (zI (j + 1)) v) (fun g1 => LogR ad g1 i (bendL l j v) ∧ Md ad [12, 16, 17, 18, 19] i [] g g1) := by
  obtain ⟨hl0, fk, fw, fv, fh, ⟨h0, h1, h2, h3, h4⟩, hk, hw, hv, hh⟩ := h
  have ne1 : ∀ {s i s' i' : Nat}, s ≠ s' → ad s i ≠ ad s' i' := hI.n1
  have ne2 : ∀ {s i i' : Nat}, i ≠ i' → ad s i ≠ ad s i' := hI.n2
  unfold f_X2_rewrite
  repeat (first
      | ((with_reducible apply E_gi); ((repeat (first | (with_reducible refine (va_up_self _ _ _).trans ?_) | ((with_reducible refine (va_up_ne _ _ ?_).trans ?_); (first | exact ne1 (by decide) | exact ne2 (by omega))))); first | (with_reducible assumption) | exact rfl); exact rfl)
      | ((with_reducible apply E_gl); ((repeat (first | (with_reducible refine (va_up_self _ _ _).trans ?_) | ((with_reducible refine (va_up_ne _ _ ?_).trans ?_); (first | exact ne1 (by decide) | exact ne2 (by omega))))); first | (with_reducible assumption) | exact rfl); exact rfl)
      | ((with_reducible apply E_gr); ((repeat (first | (with_reducible refine (va_up_self _ _ _).trans ?_) | ((with_reducible refine (va_up_ne _ _ ?_).trans ?_); (first | exact ne1 (by decide) | exact ne2 (by omega))))); first | (with_reducible assumption) | exact rfl); exact rfl)
      | ((with_reducible apply E_k); ((repeat (first | (with_reducible refine (va_up_self _ _ _).trans ?_) | ((with_reducible refine (va_up_ne _ _ ?_).trans ?_); (first | exact ne1 (by decide) | exact ne2 (by omega))))); first | (with_reducible assumption) | exact rfl))
      | ((with_reducible apply E_ai); ((repeat (first | (with_reducible refine (va_up_self _ _ _).trans ?_) | ((with_reducible refine (va_up_ne _ _ ?_).trans ?_); (first | exact ne1 (by decide) | exact ne2 (by omega))))); first | (with_reducible assumption) | exact rfl); (first | (with_reducible rfl) | (simp (disch := omega) only [zI_add, zI_mul, zI_sub, L0, L1, L2, L3, L4, L5, L6, L7, L8, L10, L12, L18, L31, L36, L40, L127, L148, L150, L151, L200, L255, L300, L600, L906, L930, L940]; with_reducible rfl)); omega; exact (by decide))
      | ((with_reducible apply E_al); ((repeat (first | (with_reducible refine (va_up_self _ _ _).trans ?_) | ((with_reducible refine (va_up_ne _ _ ?_).trans ?_); (first | exact ne1 (by decide) | exact ne2 (by omega))))); first | (with_reducible assumption) | exact rfl); (first | (with_reducible rfl) | (simp (disch := omega) only [zI_add, zI_mul, zI_sub, L0, L1, L2, L3, L4, L5, L6, L7, L8, L10, L12, L18, L31, L36, L40, L127, L148, L150, L151, L200, L255, L300, L600, L906, L930, L940]; with_reducible rfl)); omega; exact (by decide))
      | ((with_reducible apply E_si1); ((repeat (first | (with_reducible refine (va_up_self _ _ _).trans ?_) | ((with_reducible refine (va_up_ne _ _ ?_).trans ?_); (first | exact ne1 (by decide) | exact ne2 (by omega))))); first | (with_reducible assumption) | exact rfl); (first | (with_reducible rfl) | (simp (disch := omega) only [zI_add, zI_mul, zI_sub, L0, L1, L2, L3, L4, L5, L6, L7, L8, L10, L12, L18, L31, L36, L40, L127, L148, L150, L151, L200, L255, L300, L600, L906, L930, L940]; with_reducible rfl)); omega; exact (by decide))
      | ((with_reducible apply E_sl); ((repeat (first | (with_reducible refine (va_up_self _ _ _).trans ?_) | ((with_reducible refine (va_up_ne _ _ ?_).trans ?_); (first | exact ne1 (by decide) | exact ne2 (by omega))))); first | (with_reducible assumption) | exact rfl); (first | (with_reducible rfl) | (simp (disch := omega) only [zI_add, zI_mul, zI_sub, L0, L1, L2, L3, L4, L5, L6, L7, L8, L10, L12, L18, L31, L36, L40, L127, L148, L150, L151, L200, L255, L300, L600, L906, L930, L940]; with_reducible rfl)); omega; exact (by decide))
      | ((with_reducible apply E_pi); ((repeat (first | (with_reducible refine (va_up_self _ _ _).trans ?_) | ((with_reducible refine (va_up_ne _ _ ?_).trans ?_); (first | exact ne1 (by decide) | exact ne2 (by omega))))); first | (with_reducible assumption) | exact rfl); exact Nat.le_of_ble_eq_true rfl; exact rfl)
      | ((with_reducible apply E_pl); ((repeat (first | (with_reducible refine (va_up_self _ _ _).trans ?_) | ((with_reducible refine (va_up_ne _ _ ?_).trans ?_); (first | exact ne1 (by decide) | exact ne2 (by omega))))); first | (with_reducible assumption) | exact rfl); exact Nat.le_of_ble_eq_true rfl; exact rfl)
      | ((with_reducible apply E_pr); ((repeat (first | (with_reducible refine (va_up_self _ _ _).trans ?_) | ((with_reducible refine (va_up_ne _ _ ?_).trans ?_); (first | exact ne1 (by decide) | exact ne2 (by omega))))); first | (with_reducible assumption) | exact rfl); exact Nat.le_of_ble_eq_true rfl; exact rfl)
      | ((with_reducible apply E_pz); (first | exact Or.inl rfl | exact Or.inr rfl | exact b2_01 _ | assumption); ((repeat (first | (with_reducible refine (va_up_self _ _ _).trans ?_) | ((with_reducible refine (va_up_ne _ _ ?_).trans ?_); (first | exact ne1 (by decide) | exact ne2 (by omega))))); first | (with_reducible assumption) | exact rfl); exact Nat.le_of_ble_eq_true rfl; exact rfl)
      | ((with_reducible apply E_si); ((repeat (first | (with_reducible refine (va_up_self _ _ _).trans ?_) | ((with_reducible refine (va_up_ne _ _ ?_).trans ?_); (first | exact ne1 (by decide) | exact ne2 (by omega))))); first | (with_reducible assumption) | exact rfl); (first | (with_reducible rfl) | (simp (disch := omega) only [zI_add, zI_mul, zI_sub, L0, L1, L2, L3, L4, L5, L6, L7, L8, L10, L12, L18, L31, L36, L40, L127, L148, L150, L151, L200, L255, L300, L600, L906, L930, L940]; with_reducible rfl)); omega; exact (by decide))
      | ((with_reducible apply E_ar); ((repeat (first | (with_reducible refine (va_up_self _ _ _).trans ?_) | ((with_reducible refine (va_up_ne _ _ ?_).trans ?_); (first | exact ne1 (by decide) | exact ne2 (by omega))))); first | (with_reducible assumption) | exact rfl); (first | (with_reducible rfl) | (simp (disch := omega) only [zI_add, zI_mul, zI_sub, L0, L1, L2, L3, L4, L5, L6, L7, L8, L10, L12, L18, L31, L36, L40, L127, L148, L150, L151, L200, L255, L300, L600, L906, L930, L940]; with_reducible rfl)); omega; exact (by decide); (first | assumption | exact rfl))
      | ((with_reducible apply E_sr); ((repeat (first | (with_reducible refine (va_up_self _ _ _).trans ?_) | ((with_reducible refine (va_up_ne _ _ ?_).trans ?_); (first | exact ne1 (by decide) | exact ne2 (by omega))))); first | (with_reducible assumption) | exact rfl); ((repeat (first | (with_reducible refine (va_up_self _ _ _).trans ?_) | ((with_reducible refine (va_up_ne _ _ ?_).trans ?_); (first | exact ne1 (by decide) | exact ne2 (by omega))))); first | (with_reducible assumption) | exact rfl); (first | (with_reducible rfl) | (simp (disch := omega) only [zI_add, zI_mul, zI_sub, L0, L1, L2, L3, L4, L5, L6, L7, L8, L10, L12, L18, L31, L36, L40, L127, L148, L150, L151, L200, L255, L300, L600, L906, L930, L940]; with_reducible rfl)); omega; exact (by decide))
      | ((with_reducible apply E_n); ((repeat (first | (with_reducible refine (va_up_self _ _ _).trans ?_) | ((with_reducible refine (va_up_ne _ _ ?_).trans ?_); (first | exact ne1 (by decide) | exact ne2 (by omega))))); first | (with_reducible assumption) | exact rfl))
      | ((with_reducible apply E_z); (first | exact Or.inl rfl | exact Or.inr rfl | exact b2_01 _ | assumption))
      | with_reducible refine Ev.b (f_hb _ _ _ _) ?_
      | with_reducible refine Ev.b (f_sg _ _ _) ?_
      | with_reducible refine Ev.b (f_hb8 _ _ _ _) ?_
      | with_reducible refine Ev.b (f_sg8 _ _ _) ?_)
  refine (rew_loop (l := bendL l j v) (fk := fk) (fw := fw) (fv := upd fv (j + 1) v) hI (by rw [len_bend]; exact hl0) ?_ ?_ ?_ xFU (j + 1) _ fh ⟨?_, ?_, ?_, ?_, ?_⟩ ?_ (by omega) (by rw [len_bend]; omega) (by rw [len_bend, xFU_eq]; omega)).m (fun g1 r => ⟨r.1, ((Md.rf).w1 hI (by decide)).tr r.2⟩)



  · intro k hk0
    rw [len_bend] at hk0
    rw [hk k hk0, en_bend hj]
    by_cases hq : k = j
    · subst hq
      rw [if_pos rfl]
    · rw [if_neg hq]
  · intro k hk0
    rw [len_bend] at hk0
    rw [hw k hk0, en_bend hj]
    by_cases hq : k = j
    · subst hq
      rw [if_pos rfl]
    · rw [if_neg hq]
  · intro k hk0
    rw [len_bend] at hk0
    rw [en_bend hj]
    by_cases hq : k = j
    · subst hq
      rw [if_pos rfl, Nat.add_comm 1 k, upd_self]
    · rw [if_neg hq, upd_ne _ _ (by omega)]
      exact hv k hk0
  · rw [len_bend]
    ((repeat (first | (with_reducible refine (va_up_self _ _ _).trans ?_) | ((with_reducible refine (va_up_ne _ _ ?_).trans ?_); (first | exact ne1 (by decide) | exact ne2 (by omega))))); first | (with_reducible assumption) | exact rfl)
  · ((repeat (first | (with_reducible refine (va_up_self _ _ _).trans ?_) | ((with_reducible refine (va_up_ne _ _ ?_).trans ?_); (first | exact ne1 (by decide) | exact ne2 (by omega))))); first | (with_reducible assumption) | exact rfl)
  · ((repeat (first | (with_reducible refine (va_up_self _ _ _).trans ?_) | ((with_reducible refine (va_up_ne _ _ ?_).trans ?_); (first | exact ne1 (by decide) | exact ne2 (by omega))))); first | (with_reducible assumption) | exact rfl)
  · ((repeat (first | (with_reducible refine (va_up_self _ _ _).trans ?_) | ((with_reducible refine (va_up_ne _ _ ?_).trans ?_); (first | exact ne1 (by decide) | exact ne2 (by omega))))); first | (with_reducible assumption) | exact rfl)
  · ((repeat (first | (with_reducible refine (va_up_self _ _ _).trans ?_) | ((with_reducible refine (va_up_ne _ _ ?_).trans ?_); (first | exact ne1 (by decide) | exact ne2 (by omega))))); first | (with_reducible assumption) | exact rfl)
  · intro m hm
    rw [take_bend (by omega)]
    exact hh m (by omega)
end LOG
