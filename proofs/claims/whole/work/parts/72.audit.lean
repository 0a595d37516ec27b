section AUD
variable {ad ad1 : Nat → Nat → Nat} {g g1 : xG} {lp : Nat → Nat} {t ps ps1 n : Nat} {s : Sg} {L : List Nat} {E : List (List Int32)}
theorem PoR.t2 {p : List M7} {se : Int32} (h : PoR ad g lp p se) (a : ∀ s j, Us 0 s j → ad1 s j = ad s j) (q : ∀ s j, Us 0 s j → s ∉ [1, 5, 41, 42, 43] → g1 (ad1 s j) = g (ad s j)) : PoR ad1 g1 lp p se := by
  obtain ⟨p0, p1, ⟨pf, p2, p3⟩, p4, p5, p6⟩ := h
  have a40 : ∀ j, j ≤ 200 → ad1 40 (lp j) = ad 40 (lp j) := fun j hj => a 40 _ (us_let (p4 j j hj hj rfl).2)
  have q40 : ∀ j, j ≤ 200 → g1 (ad1 40 (lp j)) = g (ad 40 (lp j)) := fun j hj => q 40 _ (us_let (p4 j j hj hj rfl).2) (by decide)
  refine ⟨p0, ?_, ⟨pf, ?_, fun j hj => ?_⟩, p4, fun j hj => ?_, fun j hj => ?_⟩
  · rw [q 3 0 (us_top (by decide)) (by decide), a 4 0 (us_top (by decide)), a40 200 (Nat.le_refl _)]
    exact p1
  · rw [q 4 0 (us_top (by decide)) (by decide)]
    exact p2
  · rw [a40 j (by omega)]
    exact p3 j hj
  · obtain ⟨k, f, t, v, n, h, x, e⟩ := p5 j hj
    exact ⟨k, f, t, v, n, h, x, (q40 j hj).trans e⟩
  · obtain ⟨e1, e2, e3, v, e4, e5⟩ := p6 j hj
    exact ⟨e1, e2, e3, v, (q40 j (by omega)).trans e4, e5⟩
theorem np_tail (hI : Inj ad) (hT : TopR ad g n E.length) (hPc : PcR ad g t ps E) (hlt : E.length < ps) {P : Nat → List Nat → xG → Prop}
    (cont : ∀ g1, TopR ad g1 n (E.length + 1) → PcR ad g1 t ps E → PieR ad g1 E.length [] → (∀ s j, s ≠ 1 → s ≠ 41 → g1 (ad s j) = g (ad s j)) → P (ad 41 E.length) L g1) :
    ∃ x28, (xg_r g 8 (ad 1 0) 3) = some x28 ∧ ∃ x30, (xg_i g 8 (ad 1 0) 4) = some x30 ∧ ∃ u9, (xk g 0 x28) = some u9 ∧ ∃ x34, (f_Jx4a65c_get_915e3 g x28 x30) = some x34 ∧ ∃ u9, (xk g 1 x34) = some u9 ∧ ∃ g36, (xp_i g 1 x34 0 0) = some g36 ∧ ∃ x38, (xg_i g36 8 (ad 1 0) 4) = some x38 ∧ ∃ g40, (xp_i g36 8 (ad 1 0) 4 (x38 + 1)) = some g40 ∧ P x34 L g40 := by
  have ne1 : ∀ {s i s' i' : Nat}, s ≠ s' → ad s i ≠ ad s' i' := hI.n1
  have ne2 : ∀ {s i i' : Nat}, i ≠ i' → ad s i ≠ ad s i' := hI.n2
  have hPc0 := hPc
  obtain ⟨a1, a2, ⟨mc, ed, a3, a4⟩, a5, a6⟩ := hPc
  obtain ⟨hT1, f, hT2, hT3⟩ := hT
  obtain ⟨bs, b1, fb, b2', b3, b4⟩ := a5 E.length hlt
  repeat (first
      | ((with_reducible apply W_gi); ((repeat (first | (with_reducible refine (va_up_self _ _ _).trans ?_) | ((with_reducible refine (va_up_ne _ _ ?_).trans ?_); (first | exact ne1 (by decide) | exact ne2 (by omega))))); first | (with_reducible assumption) | exact rfl | assumption); exact rfl)
      | ((with_reducible apply W_gl); ((repeat (first | (with_reducible refine (va_up_self _ _ _).trans ?_) | ((with_reducible refine (va_up_ne _ _ ?_).trans ?_); (first | exact ne1 (by decide) | exact ne2 (by omega))))); first | (with_reducible assumption) | exact rfl | assumption); exact rfl)
      | ((with_reducible apply W_gr); ((repeat (first | (with_reducible refine (va_up_self _ _ _).trans ?_) | ((with_reducible refine (va_up_ne _ _ ?_).trans ?_); (first | exact ne1 (by decide) | exact ne2 (by omega))))); first | (with_reducible assumption) | exact rfl | assumption); exact rfl)
      | ((with_reducible apply W_k); ((repeat (first | (with_reducible refine (va_up_self _ _ _).trans ?_) | ((with_reducible refine (va_up_ne _ _ ?_).trans ?_); (first | exact ne1 (by decide) | exact ne2 (by omega))))); first | (with_reducible assumption) | exact rfl | assumption))
      | ((with_reducible apply W_ai); ((repeat (first | (with_reducible refine (va_up_self _ _ _).trans ?_) | ((with_reducible refine (va_up_ne _ _ ?_).trans ?_); (first | exact ne1 (by decide) | exact ne2 (by omega))))); first | (with_reducible assumption) | exact rfl | assumption); (first | (with_reducible rfl) | (simp (disch := omega) only [zI_add, zI_mul, zI_sub, L0, L1, L2, L3, L4, L5, L6, L7, L8, L10, L12, L18, L31, L36, L40, L127, L148, L150, L151, L200, L255, L300, L600, L906, L930, L940]; with_reducible rfl)); omega; exact (by decide))
      | ((with_reducible apply W_al); ((repeat (first | (with_reducible refine (va_up_self _ _ _).trans ?_) | ((with_reducible refine (va_up_ne _ _ ?_).trans ?_); (first | exact ne1 (by decide) | exact ne2 (by omega))))); first | (with_reducible assumption) | exact rfl | assumption); (first | (with_reducible rfl) | (simp (disch := omega) only [zI_add, zI_mul, zI_sub, L0, L1, L2, L3, L4, L5, L6, L7, L8, L10, L12, L18, L31, L36, L40, L127, L148, L150, L151, L200, L255, L300, L600, L906, L930, L940]; with_reducible rfl)); omega; exact (by decide))
      | ((with_reducible apply W_si1); ((repeat (first | (with_reducible refine (va_up_self _ _ _).trans ?_) | ((with_reducible refine (va_up_ne _ _ ?_).trans ?_); (first | exact ne1 (by decide) | exact ne2 (by omega))))); first | (with_reducible assumption) | exact rfl | assumption); (first | (with_reducible rfl) | (simp (disch := omega) only [zI_add, zI_mul, zI_sub, L0, L1, L2, L3, L4, L5, L6, L7, L8, L10, L12, L18, L31, L36, L40, L127, L148, L150, L151, L200, L255, L300, L600, L906, L930, L940]; with_reducible rfl)); omega; exact (by decide))
      | ((with_reducible apply W_ar); ((repeat (first | (with_reducible refine (va_up_self _ _ _).trans ?_) | ((with_reducible refine (va_up_ne _ _ ?_).trans ?_); (first | exact ne1 (by decide) | exact ne2 (by omega))))); first | (with_reducible assumption) | exact rfl | assumption); (first | (with_reducible rfl) | (simp (disch := omega) only [zI_add, zI_mul, zI_sub, L0, L1, L2, L3, L4, L5, L6, L7, L8, L10, L12, L18, L31, L36, L40, L127, L148, L150, L151, L200, L255, L300, L600, L906, L930, L940]; with_reducible rfl)); omega; exact (by decide); (first | assumption | exact rfl))
      | ((with_reducible apply W_p); ((repeat (first | (with_reducible refine (va_up_self _ _ _).trans ?_) | ((with_reducible refine (va_up_ne _ _ ?_).trans ?_); (first | exact ne1 (by decide) | exact ne2 (by omega))))); first | (with_reducible assumption) | exact rfl | assumption); exact Nat.le_of_ble_eq_true rfl; simp only [List.set_cons_zero, List.set_cons_succ]; exact rfl)
      | ((with_reducible apply W_pi); ((repeat (first | (with_reducible refine (va_up_self _ _ _).trans ?_) | ((with_reducible refine (va_up_ne _ _ ?_).trans ?_); (first | exact ne1 (by decide) | exact ne2 (by omega))))); first | (with_reducible assumption) | exact rfl | assumption); exact Nat.le_of_ble_eq_true rfl; simp only [List.set_cons_zero, List.set_cons_succ]; exact rfl)
      | ((with_reducible apply W_pr); ((repeat (first | (with_reducible refine (va_up_self _ _ _).trans ?_) | ((with_reducible refine (va_up_ne _ _ ?_).trans ?_); (first | exact ne1 (by decide) | exact ne2 (by omega))))); first | (with_reducible assumption) | exact rfl | assumption); exact Nat.le_of_ble_eq_true rfl; simp only [List.set_cons_zero, List.set_cons_succ]; exact rfl)
      | ((with_reducible apply W_sr); ((repeat (first | (with_reducible refine (va_up_self _ _ _).trans ?_) | ((with_reducible refine (va_up_ne _ _ ?_).trans ?_); (first | exact ne1 (by decide) | exact ne2 (by omega))))); first | (with_reducible assumption) | exact rfl | assumption); ((repeat (first | (with_reducible refine (va_up_self _ _ _).trans ?_) | ((with_reducible refine (va_up_ne _ _ ?_).trans ?_); (first | exact ne1 (by decide) | exact ne2 (by omega))))); first | (with_reducible assumption) | exact rfl | assumption); (first | (with_reducible rfl) | (simp (disch := omega) only [zI_add, zI_mul, zI_sub, L0, L1, L2, L3, L4, L5, L6, L7, L8, L10, L12, L18, L31, L36, L40, L127, L148, L150, L151, L200, L255, L300, L600, L906, L930, L940]; with_reducible rfl)); omega; (first | exact (by decide) | omega)))
  refine ⟨_, get_ok (s := uE (s0 0) E) hPc0 hlt, ?_⟩
  repeat (first
      | ((with_reducible apply W_gi); ((repeat (first | (with_reducible refine (va_up_self _ _ _).trans ?_) | ((with_reducible refine (va_up_ne _ _ ?_).trans ?_); (first | exact ne1 (by decide) | exact ne2 (by omega))))); first | (with_reducible assumption) | exact rfl | assumption); exact rfl)
      | ((with_reducible apply W_gl); ((repeat (first | (with_reducible refine (va_up_self _ _ _).trans ?_) | ((with_reducible refine (va_up_ne _ _ ?_).trans ?_); (first | exact ne1 (by decide) | exact ne2 (by omega))))); first | (with_reducible assumption) | exact rfl | assumption); exact rfl)
      | ((with_reducible apply W_gr); ((repeat (first | (with_reducible refine (va_up_self _ _ _).trans ?_) | ((with_reducible refine (va_up_ne _ _ ?_).trans ?_); (first | exact ne1 (by decide) | exact ne2 (by omega))))); first | (with_reducible assumption) | exact rfl | assumption); exact rfl)
      | ((with_reducible apply W_k); ((repeat (first | (with_reducible refine (va_up_self _ _ _).trans ?_) | ((with_reducible refine (va_up_ne _ _ ?_).trans ?_); (first | exact ne1 (by decide) | exact ne2 (by omega))))); first | (with_reducible assumption) | exact rfl | assumption))
      | ((with_reducible apply W_ai); ((repeat (first | (with_reducible refine (va_up_self _ _ _).trans ?_) | ((with_reducible refine (va_up_ne _ _ ?_).trans ?_); (first | exact ne1 (by decide) | exact ne2 (by omega))))); first | (with_reducible assumption) | exact rfl | assumption); (first | (with_reducible rfl) | (simp (disch := omega) only [zI_add, zI_mul, zI_sub, L0, L1, L2, L3, L4, L5, L6, L7, L8, L10, L12, L18, L31, L36, L40, L127, L148, L150, L151, L200, L255, L300, L600, L906, L930, L940]; with_reducible rfl)); omega; exact (by decide))
      | ((with_reducible apply W_al); ((repeat (first | (with_reducible refine (va_up_self _ _ _).trans ?_) | ((with_reducible refine (va_up_ne _ _ ?_).trans ?_); (first | exact ne1 (by decide) | exact ne2 (by omega))))); first | (with_reducible assumption) | exact rfl | assumption); (first | (with_reducible rfl) | (simp (disch := omega) only [zI_add, zI_mul, zI_sub, L0, L1, L2, L3, L4, L5, L6, L7, L8, L10, L12, L18, L31, L36, L40, L127, L148, L150, L151, L200, L255, L300, L600, L906, L930, L940]; with_reducible rfl)); omega; exact (by decide))
      | ((with_reducible apply W_si1); ((repeat (first | (with_reducible refine (va_up_self _ _ _).trans ?_) | ((with_reducible refine (va_up_ne _ _ ?_).trans ?_); (first | exact ne1 (by decide) | exact ne2 (by omega))))); first | (with_reducible assumption) | exact rfl | assumption); (first | (with_reducible rfl) | (simp (disch := omega) only [zI_add, zI_mul, zI_sub, L0, L1, L2, L3, L4, L5, L6, L7, L8, L10, L12, L18, L31, L36, L40, L127, L148, L150, L151, L200, L255, L300, L600, L906, L930, L940]; with_reducible rfl)); omega; exact (by decide))
      | ((with_reducible apply W_ar); ((repeat (first | (with_reducible refine (va_up_self _ _ _).trans ?_) | ((with_reducible refine (va_up_ne _ _ ?_).trans ?_); (first | exact ne1 (by decide) | exact ne2 (by omega))))); first | (with_reducible assumption) | exact rfl | assumption); (first | (with_reducible rfl) | (simp (disch := omega) only [zI_add, zI_mul, zI_sub, L0, L1, L2, L3, L4, L5, L6, L7, L8, L10, L12, L18, L31, L36, L40, L127, L148, L150, L151, L200, L255, L300, L600, L906, L930, L940]; with_reducible rfl)); omega; exact (by decide); (first | assumption | exact rfl))
      | ((with_reducible apply W_p); ((repeat (first | (with_reducible refine (va_up_self _ _ _).trans ?_) | ((with_reducible refine (va_up_ne _ _ ?_).trans ?_); (first | exact ne1 (by decide) | exact ne2 (by omega))))); first | (with_reducible assumption) | exact rfl | assumption); exact Nat.le_of_ble_eq_true rfl; simp only [List.set_cons_zero, List.set_cons_succ]; exact rfl)
      | ((with_reducible apply W_pi); ((repeat (first | (with_reducible refine (va_up_self _ _ _).trans ?_) | ((with_reducible refine (va_up_ne _ _ ?_).trans ?_); (first | exact ne1 (by decide) | exact ne2 (by omega))))); first | (with_reducible assumption) | exact rfl | assumption); exact Nat.le_of_ble_eq_true rfl; simp only [List.set_cons_zero, List.set_cons_succ]; exact rfl)
      | ((with_reducible apply W_pr); ((repeat (first | (with_reducible refine (va_up_self _ _ _).trans ?_) | ((with_reducible refine (va_up_ne _ _ ?_).trans ?_); (first | exact ne1 (by decide) | exact ne2 (by omega))))); first | (with_reducible assumption) | exact rfl | assumption); exact Nat.le_of_ble_eq_true rfl; simp only [List.set_cons_zero, List.set_cons_succ]; exact rfl)
      | ((with_reducible apply W_sr); ((repeat (first | (with_reducible refine (va_up_self _ _ _).trans ?_) | ((with_reducible refine (va_up_ne _ _ ?_).trans ?_); (first | exact ne1 (by decide) | exact ne2 (by omega))))); first | (with_reducible assumption) | exact rfl | assumption); ((repeat (first | (with_reducible refine (va_up_self _ _ _).trans ?_) | ((with_reducible refine (va_up_ne _ _ ?_).trans ?_); (first | exact ne1 (by decide) | exact ne2 (by omega))))); first | (with_reducible assumption) | exact rfl | assumption); (first | (with_reducible rfl) | (simp (disch := omega) only [zI_add, zI_mul, zI_sub, L0, L1, L2, L3, L4, L5, L6, L7, L8, L10, L12, L18, L31, L36, L40, L127, L148, L150, L151, L200, L255, L300, L600, L906, L930, L940]; with_reducible rfl)); omega; (first | exact (by decide) | omega)))
  refine cont _ ⟨?_, f, ?_, hT3⟩ ⟨a1, a2, ⟨mc, ed, ?_, ?_⟩, fun j hj => ?_, fun j hj => ?_⟩ ⟨fb, ?_, ?_, fun k hk => absurd hk (Nat.not_lt_zero k)⟩ (fun s j z1 z2 => ?_)
  · rw [← zI_add]
    ((repeat (first | (with_reducible refine (va_up_self _ _ _).trans ?_) | ((with_reducible refine (va_up_ne _ _ ?_).trans ?_); (first | exact ne1 (by decide) | exact ne2 (by omega))))); first | (with_reducible assumption) | exact rfl | assumption)
  · ((repeat (first | (with_reducible refine (va_up_self _ _ _).trans ?_) | ((with_reducible refine (va_up_ne _ _ ?_).trans ?_); (first | exact ne1 (by decide) | exact ne2 (by omega))))); first | (with_reducible assumption) | exact rfl | assumption)
  · ((repeat (first | (with_reducible refine (va_up_self _ _ _).trans ?_) | ((with_reducible refine (va_up_ne _ _ ?_).trans ?_); (first | exact ne1 (by decide) | exact ne2 (by omega))))); first | (with_reducible assumption) | exact rfl | assumption)
  · rcases a4 with q | ⟨q1, q2, cap, f2, q3, q4⟩
    · exact Or.inl q
    · refine Or.inr ⟨q1, q2, cap, f2, ?_, q4⟩
      ((repeat (first | (with_reducible refine (va_up_self _ _ _).trans ?_) | ((with_reducible refine (va_up_ne _ _ ?_).trans ?_); (first | exact ne1 (by decide) | exact ne2 (by omega))))); first | (with_reducible assumption) | exact rfl | assumption)
  · by_cases hq : j = E.length
    · subst hq
      refine ⟨[], by decide, fb, ?_, ?_, fun k hk => absurd hk (Nat.not_lt_zero k)⟩
      · ((repeat (first | (with_reducible refine (va_up_self _ _ _).trans ?_) | ((with_reducible refine (va_up_ne _ _ ?_).trans ?_); (first | exact ne1 (by decide) | exact ne2 (by omega))))); first | (with_reducible assumption) | exact rfl | assumption)
      · ((repeat (first | (with_reducible refine (va_up_self _ _ _).trans ?_) | ((with_reducible refine (va_up_ne _ _ ?_).trans ?_); (first | exact ne1 (by decide) | exact ne2 (by omega))))); first | (with_reducible assumption) | exact rfl | assumption)
    · obtain ⟨bs2, d1, d2⟩ := a5 j hj
      refine ⟨bs2, d1, d2.fr (fun s m => ?_)⟩
      rw [va_up_ne _ _ (ne1 (fun z => absurd (z ▸ m) (by decide))), va_up_ne]
      exact fun z => hq (hI _ _ _ _ z).2
  · obtain ⟨d1, d2⟩ := a6 j hj
    refine ⟨d1, d2.fr (fun s m => ?_)⟩
    rw [va_up_ne _ _ (ne1 (fun z => absurd (z ▸ m) (by decide))), va_up_ne]
    intro z
    have := (hI _ _ _ _ z).2
    omega
  · ((repeat (first | (with_reducible refine (va_up_self _ _ _).trans ?_) | ((with_reducible refine (va_up_ne _ _ ?_).trans ?_); (first | exact ne1 (by decide) | exact ne2 (by omega))))); first | (with_reducible assumption) | exact rfl | assumption)
  · ((repeat (first | (with_reducible refine (va_up_self _ _ _).trans ?_) | ((with_reducible refine (va_up_ne _ _ ?_).trans ?_); (first | exact ne1 (by decide) | exact ne2 (by omega))))); first | (with_reducible assumption) | exact rfl | assumption)
  · rw [va_up_ne _ _ (ne1 z1), va_up_ne _ _ (ne1 z2)]
theorem us0 {s j : Nat} (h : Us 0 s j) : s ≠ 43 ∧ Us ps s j := by
  refine ⟨fun z => ?_, us_mono h (Nat.zero_le _)⟩
  subst z
  rcases h with z | z | z | z | z | z | z
  · exact absurd z.1 (by decide)
  · exact absurd z.1 (by decide)
  · exact absurd z.1 (by decide)
  · exact absurd z.1 (by decide)
  · exact absurd z.1 (by decide)
  · exact absurd z.2.2 (by decide)
  · exact absurd z.1 (by decide)
set_option maxHeartbeats 16000000 in
theorem np_ok (hI : Inj ad) (h : CI ad g lp t ps s) (hAL : AL ad ps L) (hE : (sE s).length < 40) {P : Nat → List Nat → xG → Prop}
    (cont : ∀ (ad1 : Nat → Nat → Nat) (ps1 : Nat) (L1 : List Nat) (g1 : xG), Inj ad1 → AL ad1 ps1 L1 → (∀ s j, Us ps s j → s ≠ 43 → ad1 s j = ad s j) → (sE s).length < ps1 → TopR ad1 g1 (sN s) ((sE s).length + 1) → PcR ad1 g1 t ps1 (sE s) → PieR ad1 g1 (sE s).length [] → (∀ s j, Us ps s j → s ∉ [1, 5, 41, 42, 43] → g1 (ad1 s j) = g (ad s j)) → P (ad1 41 (sE s).length) L1 g1) :
    w_X7_newPiece t P L g (ad 1 0) := by
  have ne1 : ∀ {s i s' i' : Nat}, s ≠ s' → ad s i ≠ ad s' i' := hI.n1
  have ne2 : ∀ {s i i' : Nat}, i ≠ i' → ad s i ≠ ad s i' := hI.n2
  obtain ⟨c0, c1, c2, c3, c4, c5, c6, c7, c8⟩ := id h
  have hT := c3.1
  obtain ⟨a1, a2, ⟨mc, ed, a3, a4⟩, a5, a6⟩ := id c6
  unfold w_X7_newPiece
  repeat (first
      | ((with_reducible apply W_gi); ((repeat (first | (with_reducible refine (va_up_self _ _ _).trans ?_) | ((with_reducible refine (va_up_ne _ _ ?_).trans ?_); (first | exact ne1 (by decide) | exact ne2 (by omega))))); first | (with_reducible assumption) | exact rfl | assumption); exact rfl)
      | ((with_reducible apply W_gl); ((repeat (first | (with_reducible refine (va_up_self _ _ _).trans ?_) | ((with_reducible refine (va_up_ne _ _ ?_).trans ?_); (first | exact ne1 (by decide) | exact ne2 (by omega))))); first | (with_reducible assumption) | exact rfl | assumption); exact rfl)
      | ((with_reducible apply W_gr); ((repeat (first | (with_reducible refine (va_up_self _ _ _).trans ?_) | ((with_reducible refine (va_up_ne _ _ ?_).trans ?_); (first | exact ne1 (by decide) | exact ne2 (by omega))))); first | (with_reducible assumption) | exact rfl | assumption); exact rfl)
      | ((with_reducible apply W_k); ((repeat (first | (with_reducible refine (va_up_self _ _ _).trans ?_) | ((with_reducible refine (va_up_ne _ _ ?_).trans ?_); (first | exact ne1 (by decide) | exact ne2 (by omega))))); first | (with_reducible assumption) | exact rfl | assumption))
      | ((with_reducible apply W_ai); ((repeat (first | (with_reducible refine (va_up_self _ _ _).trans ?_) | ((with_reducible refine (va_up_ne _ _ ?_).trans ?_); (first | exact ne1 (by decide) | exact ne2 (by omega))))); first | (with_reducible assumption) | exact rfl | assumption); (first | (with_reducible rfl) | (simp (disch := omega) only [zI_add, zI_mul, zI_sub, L0, L1, L2, L3, L4, L5, L6, L7, L8, L10, L12, L18, L31, L36, L40, L127, L148, L150, L151, L200, L255, L300, L600, L906, L930, L940]; with_reducible rfl)); omega; exact (by decide))
      | ((with_reducible apply W_al); ((repeat (first | (with_reducible refine (va_up_self _ _ _).trans ?_) | ((with_reducible refine (va_up_ne _ _ ?_).trans ?_); (first | exact ne1 (by decide) | exact ne2 (by omega))))); first | (with_reducible assumption) | exact rfl | assumption); (first | (with_reducible rfl) | (simp (disch := omega) only [zI_add, zI_mul, zI_sub, L0, L1, L2, L3, L4, L5, L6, L7, L8, L10, L12, L18, L31, L36, L40, L127, L148, L150, L151, L200, L255, L300, L600, L906, L930, L940]; with_reducible rfl)); omega; exact (by decide))
      | ((with_reducible apply W_si1); ((repeat (first | (with_reducible refine (va_up_self _ _ _).trans ?_) | ((with_reducible refine (va_up_ne _ _ ?_).trans ?_); (first | exact ne1 (by decide) | exact ne2 (by omega))))); first | (with_reducible assumption) | exact rfl | assumption); (first | (with_reducible rfl) | (simp (disch := omega) only [zI_add, zI_mul, zI_sub, L0, L1, L2, L3, L4, L5, L6, L7, L8, L10, L12, L18, L31, L36, L40, L127, L148, L150, L151, L200, L255, L300, L600, L906, L930, L940]; with_reducible rfl)); omega; exact (by decide))
      | ((with_reducible apply W_ar); ((repeat (first | (with_reducible refine (va_up_self _ _ _).trans ?_) | ((with_reducible refine (va_up_ne _ _ ?_).trans ?_); (first | exact ne1 (by decide) | exact ne2 (by omega))))); first | (with_reducible assumption) | exact rfl | assumption); (first | (with_reducible rfl) | (simp (disch := omega) only [zI_add, zI_mul, zI_sub, L0, L1, L2, L3, L4, L5, L6, L7, L8, L10, L12, L18, L31, L36, L40, L127, L148, L150, L151, L200, L255, L300, L600, L906, L930, L940]; with_reducible rfl)); omega; exact (by decide); (first | assumption | exact rfl))
      | ((with_reducible apply W_p); ((repeat (first | (with_reducible refine (va_up_self _ _ _).trans ?_) | ((with_reducible refine (va_up_ne _ _ ?_).trans ?_); (first | exact ne1 (by decide) | exact ne2 (by omega))))); first | (with_reducible assumption) | exact rfl | assumption); exact Nat.le_of_ble_eq_true rfl; simp only [List.set_cons_zero, List.set_cons_succ]; exact rfl)
      | ((with_reducible apply W_pi); ((repeat (first | (with_reducible refine (va_up_self _ _ _).trans ?_) | ((with_reducible refine (va_up_ne _ _ ?_).trans ?_); (first | exact ne1 (by decide) | exact ne2 (by omega))))); first | (with_reducible assumption) | exact rfl | assumption); exact Nat.le_of_ble_eq_true rfl; simp only [List.set_cons_zero, List.set_cons_succ]; exact rfl)
      | ((with_reducible apply W_pr); ((repeat (first | (with_reducible refine (va_up_self _ _ _).trans ?_) | ((with_reducible refine (va_up_ne _ _ ?_).trans ?_); (first | exact ne1 (by decide) | exact ne2 (by omega))))); first | (with_reducible assumption) | exact rfl | assumption); exact Nat.le_of_ble_eq_true rfl; simp only [List.set_cons_zero, List.set_cons_succ]; exact rfl)
      | ((with_reducible apply W_sr); ((repeat (first | (with_reducible refine (va_up_self _ _ _).trans ?_) | ((with_reducible refine (va_up_ne _ _ ?_).trans ?_); (first | exact ne1 (by decide) | exact ne2 (by omega))))); first | (with_reducible assumption) | exact rfl | assumption); ((repeat (first | (with_reducible refine (va_up_self _ _ _).trans ?_) | ((with_reducible refine (va_up_ne _ _ ?_).trans ?_); (first | exact ne1 (by decide) | exact ne2 (by omega))))); first | (with_reducible assumption) | exact rfl | assumption); (first | (with_reducible rfl) | (simp (disch := omega) only [zI_add, zI_mul, zI_sub, L0, L1, L2, L3, L4, L5, L6, L7, L8, L10, L12, L18, L31, L36, L40, L127, L148, L150, L151, L200, L255, L300, L600, L906, L930, L940]; with_reducible rfl)); omega; (first | exact (by decide) | omega)))
  refine ⟨zI ps, by unfold f_Jx4a65c_size_8abf5; rw [r_gi a3 rfl]; rfl, ?_⟩
  by_cases hev : (sE s).length = ps
  · rw [if_pos (by rw [hev])]
    repeat (first
        | ((with_reducible apply W_gi); ((repeat (first | (with_reducible refine (va_up_self _ _ _).trans ?_) | ((with_reducible refine (va_up_ne _ _ ?_).trans ?_); (first | exact ne1 (by decide) | exact ne2 (by omega))))); first | (with_reducible assumption) | exact rfl | assumption); exact rfl)
        | ((with_reducible apply W_gl); ((repeat (first | (with_reducible refine (va_up_self _ _ _).trans ?_) | ((with_reducible refine (va_up_ne _ _ ?_).trans ?_); (first | exact ne1 (by decide) | exact ne2 (by omega))))); first | (with_reducible assumption) | exact rfl | assumption); exact rfl)
        | ((with_reducible apply W_gr); ((repeat (first | (with_reducible refine (va_up_self _ _ _).trans ?_) | ((with_reducible refine (va_up_ne _ _ ?_).trans ?_); (first | exact ne1 (by decide) | exact ne2 (by omega))))); first | (with_reducible assumption) | exact rfl | assumption); exact rfl)
        | ((with_reducible apply W_k); ((repeat (first | (with_reducible refine (va_up_self _ _ _).trans ?_) | ((with_reducible refine (va_up_ne _ _ ?_).trans ?_); (first | exact ne1 (by decide) | exact ne2 (by omega))))); first | (with_reducible assumption) | exact rfl | assumption))
        | ((with_reducible apply W_ai); ((repeat (first | (with_reducible refine (va_up_self _ _ _).trans ?_) | ((with_reducible refine (va_up_ne _ _ ?_).trans ?_); (first | exact ne1 (by decide) | exact ne2 (by omega))))); first | (with_reducible assumption) | exact rfl | assumption); (first | (with_reducible rfl) | (simp (disch := omega) only [zI_add, zI_mul, zI_sub, L0, L1, L2, L3, L4, L5, L6, L7, L8, L10, L12, L18, L31, L36, L40, L127, L148, L150, L151, L200, L255, L300, L600, L906, L930, L940]; with_reducible rfl)); omega; exact (by decide))
        | ((with_reducible apply W_al); ((repeat (first | (with_reducible refine (va_up_self _ _ _).trans ?_) | ((with_reducible refine (va_up_ne _ _ ?_).trans ?_); (first | exact ne1 (by decide) | exact ne2 (by omega))))); first | (with_reducible assumption) | exact rfl | assumption); (first | (with_reducible rfl) | (simp (disch := omega) only [zI_add, zI_mul, zI_sub, L0, L1, L2, L3, L4, L5, L6, L7, L8, L10, L12, L18, L31, L36, L40, L127, L148, L150, L151, L200, L255, L300, L600, L906, L930, L940]; with_reducible rfl)); omega; exact (by decide))
        | ((with_reducible apply W_si1); ((repeat (first | (with_reducible refine (va_up_self _ _ _).trans ?_) | ((with_reducible refine (va_up_ne _ _ ?_).trans ?_); (first | exact ne1 (by decide) | exact ne2 (by omega))))); first | (with_reducible assumption) | exact rfl | assumption); (first | (with_reducible rfl) | (simp (disch := omega) only [zI_add, zI_mul, zI_sub, L0, L1, L2, L3, L4, L5, L6, L7, L8, L10, L12, L18, L31, L36, L40, L127, L148, L150, L151, L200, L255, L300, L600, L906, L930, L940]; with_reducible rfl)); omega; exact (by decide))
        | ((with_reducible apply W_ar); ((repeat (first | (with_reducible refine (va_up_self _ _ _).trans ?_) | ((with_reducible refine (va_up_ne _ _ ?_).trans ?_); (first | exact ne1 (by decide) | exact ne2 (by omega))))); first | (with_reducible assumption) | exact rfl | assumption); (first | (with_reducible rfl) | (simp (disch := omega) only [zI_add, zI_mul, zI_sub, L0, L1, L2, L3, L4, L5, L6, L7, L8, L10, L12, L18, L31, L36, L40, L127, L148, L150, L151, L200, L255, L300, L600, L906, L930, L940]; with_reducible rfl)); omega; exact (by decide); (first | assumption | exact rfl))
        | ((with_reducible apply W_p); ((repeat (first | (with_reducible refine (va_up_self _ _ _).trans ?_) | ((with_reducible refine (va_up_ne _ _ ?_).trans ?_); (first | exact ne1 (by decide) | exact ne2 (by omega))))); first | (with_reducible assumption) | exact rfl | assumption); exact Nat.le_of_ble_eq_true rfl; simp only [List.set_cons_zero, List.set_cons_succ]; exact rfl)
        | ((with_reducible apply W_pi); ((repeat (first | (with_reducible refine (va_up_self _ _ _).trans ?_) | ((with_reducible refine (va_up_ne _ _ ?_).trans ?_); (first | exact ne1 (by decide) | exact ne2 (by omega))))); first | (with_reducible assumption) | exact rfl | assumption); exact Nat.le_of_ble_eq_true rfl; simp only [List.set_cons_zero, List.set_cons_succ]; exact rfl)
        | ((with_reducible apply W_pr); ((repeat (first | (with_reducible refine (va_up_self _ _ _).trans ?_) | ((with_reducible refine (va_up_ne _ _ ?_).trans ?_); (first | exact ne1 (by decide) | exact ne2 (by omega))))); first | (with_reducible assumption) | exact rfl | assumption); exact Nat.le_of_ble_eq_true rfl; simp only [List.set_cons_zero, List.set_cons_succ]; exact rfl)
        | ((with_reducible apply W_sr); ((repeat (first | (with_reducible refine (va_up_self _ _ _).trans ?_) | ((with_reducible refine (va_up_ne _ _ ?_).trans ?_); (first | exact ne1 (by decide) | exact ne2 (by omega))))); first | (with_reducible assumption) | exact rfl | assumption); ((repeat (first | (with_reducible refine (va_up_self _ _ _).trans ?_) | ((with_reducible refine (va_up_ne _ _ ?_).trans ?_); (first | exact ne1 (by decide) | exact ne2 (by omega))))); first | (with_reducible assumption) | exact rfl | assumption); (first | (with_reducible rfl) | (simp (disch := omega) only [zI_add, zI_mul, zI_sub, L0, L1, L2, L3, L4, L5, L6, L7, L8, L10, L12, L18, L31, L36, L40, L127, L148, L150, L151, L200, L255, L300, L600, L906, L930, L940]; with_reducible rfl)); omega; (first | exact (by decide) | omega)))
    intro q24 L24 g24 h1 h2 h3
    subst h2
    subst h3
    unfold w_X0_init
    intro q1 L1 g1 h4 h5 h6
    subst h5
    subst h6
    obtain ⟨ada, hIa, hqa, haga⟩ := rn_ex hI (Us ps) us_n41 (q := q24) (fun s j z w => h1 (w ▸ hAL s j z))
    obtain ⟨ad1, hI1, hq1, hag1⟩ := rn_ex hIa (fun s j => Us ps s j ∨ s = 41 ∧ j = ps) (s0 := 42) (j0 := ps) (q := q1) (fun z => z.elim us_n42 (fun w => absurd w.1 (by decide))) (fun s j z w => by
      rcases z with z | ⟨rfl, rfl⟩
      · exact h4 (w ▸ (haga s j z) ▸ List.mem_append_left _ (hAL s j z))
      · exact h4 (w ▸ hqa ▸ List.mem_append_right _ (List.mem_singleton.mpr rfl)))
    have ag : ∀ s j, Us ps s j → ad1 s j = ad s j := fun s j z => (hag1 s j (Or.inl z)).trans (haga s j z)
    have e41 : ad1 41 ps = q24 := (hag1 41 ps (Or.inr ⟨rfl, rfl⟩)).trans hqa
    subst e41
    subst hq1
    have h' := h.rn ag
    obtain ⟨d0, d1, d2, d3, d4, d5, d6, d7, d8⟩ := id h'
    have hT1 := d3.1
    obtain ⟨b1, b2', ⟨mc1, ed1, b3, b4⟩, b5, b6⟩ := id d6
    have e5 : ad 5 0 = ad1 5 0 := (ag 5 0 (us_top (by decide))).symm
    have e1 : ad 1 0 = ad1 1 0 := (ag 1 0 (us_top (by decide))).symm
    rw [e5, e1]
    clear ne1 ne2
    have ne1 : ∀ {s i s' i' : Nat}, s ≠ s' → ad1 s i ≠ ad1 s' i' := hI1.n1
    have ne2 : ∀ {s i i' : Nat}, i ≠ i' → ad1 s i ≠ ad1 s i' := hI1.n2
    repeat (first
        | ((with_reducible apply W_gi); ((repeat (first | (with_reducible refine (va_up_self _ _ _).trans ?_) | ((with_reducible refine (va_up_ne _ _ ?_).trans ?_); (first | exact ne1 (by decide) | exact ne2 (by omega))))); first | (with_reducible assumption) | exact rfl | assumption); exact rfl)
        | ((with_reducible apply W_gl); ((repeat (first | (with_reducible refine (va_up_self _ _ _).trans ?_) | ((with_reducible refine (va_up_ne _ _ ?_).trans ?_); (first | exact ne1 (by decide) | exact ne2 (by omega))))); first | (with_reducible assumption) | exact rfl | assumption); exact rfl)
        | ((with_reducible apply W_gr); ((repeat (first | (with_reducible refine (va_up_self _ _ _).trans ?_) | ((with_reducible refine (va_up_ne _ _ ?_).trans ?_); (first | exact ne1 (by decide) | exact ne2 (by omega))))); first | (with_reducible assumption) | exact rfl | assumption); exact rfl)
        | ((with_reducible apply W_k); ((repeat (first | (with_reducible refine (va_up_self _ _ _).trans ?_) | ((with_reducible refine (va_up_ne _ _ ?_).trans ?_); (first | exact ne1 (by decide) | exact ne2 (by omega))))); first | (with_reducible assumption) | exact rfl | assumption))
        | ((with_reducible apply W_ai); ((repeat (first | (with_reducible refine (va_up_self _ _ _).trans ?_) | ((with_reducible refine (va_up_ne _ _ ?_).trans ?_); (first | exact ne1 (by decide) | exact ne2 (by omega))))); first | (with_reducible assumption) | exact rfl | assumption); (first | (with_reducible rfl) | (simp (disch := omega) only [zI_add, zI_mul, zI_sub, L0, L1, L2, L3, L4, L5, L6, L7, L8, L10, L12, L18, L31, L36, L40, L127, L148, L150, L151, L200, L255, L300, L600, L906, L930, L940]; with_reducible rfl)); omega; exact (by decide))
        | ((with_reducible apply W_al); ((repeat (first | (with_reducible refine (va_up_self _ _ _).trans ?_) | ((with_reducible refine (va_up_ne _ _ ?_).trans ?_); (first | exact ne1 (by decide) | exact ne2 (by omega))))); first | (with_reducible assumption) | exact rfl | assumption); (first | (with_reducible rfl) | (simp (disch := omega) only [zI_add, zI_mul, zI_sub, L0, L1, L2, L3, L4, L5, L6, L7, L8, L10, L12, L18, L31, L36, L40, L127, L148, L150, L151, L200, L255, L300, L600, L906, L930, L940]; with_reducible rfl)); omega; exact (by decide))
        | ((with_reducible apply W_si1); ((repeat (first | (with_reducible refine (va_up_self _ _ _).trans ?_) | ((with_reducible refine (va_up_ne _ _ ?_).trans ?_); (first | exact ne1 (by decide) | exact ne2 (by omega))))); first | (with_reducible assumption) | exact rfl | assumption); (first | (with_reducible rfl) | (simp (disch := omega) only [zI_add, zI_mul, zI_sub, L0, L1, L2, L3, L4, L5, L6, L7, L8, L10, L12, L18, L31, L36, L40, L127, L148, L150, L151, L200, L255, L300, L600, L906, L930, L940]; with_reducible rfl)); omega; exact (by decide))
        | ((with_reducible apply W_ar); ((repeat (first | (with_reducible refine (va_up_self _ _ _).trans ?_) | ((with_reducible refine (va_up_ne _ _ ?_).trans ?_); (first | exact ne1 (by decide) | exact ne2 (by omega))))); first | (with_reducible assumption) | exact rfl | assumption); (first | (with_reducible rfl) | (simp (disch := omega) only [zI_add, zI_mul, zI_sub, L0, L1, L2, L3, L4, L5, L6, L7, L8, L10, L12, L18, L31, L36, L40, L127, L148, L150, L151, L200, L255, L300, L600, L906, L930, L940]; with_reducible rfl)); omega; exact (by decide); (first | assumption | exact rfl))
        | ((with_reducible apply W_p); ((repeat (first | (with_reducible refine (va_up_self _ _ _).trans ?_) | ((with_reducible refine (va_up_ne _ _ ?_).trans ?_); (first | exact ne1 (by decide) | exact ne2 (by omega))))); first | (with_reducible assumption) | exact rfl | assumption); exact Nat.le_of_ble_eq_true rfl; simp only [List.set_cons_zero, List.set_cons_succ]; exact rfl)
        | ((with_reducible apply W_pi); ((repeat (first | (with_reducible refine (va_up_self _ _ _).trans ?_) | ((with_reducible refine (va_up_ne _ _ ?_).trans ?_); (first | exact ne1 (by decide) | exact ne2 (by omega))))); first | (with_reducible assumption) | exact rfl | assumption); exact Nat.le_of_ble_eq_true rfl; simp only [List.set_cons_zero, List.set_cons_succ]; exact rfl)
        | ((with_reducible apply W_pr); ((repeat (first | (with_reducible refine (va_up_self _ _ _).trans ?_) | ((with_reducible refine (va_up_ne _ _ ?_).trans ?_); (first | exact ne1 (by decide) | exact ne2 (by omega))))); first | (with_reducible assumption) | exact rfl | assumption); exact Nat.le_of_ble_eq_true rfl; simp only [List.set_cons_zero, List.set_cons_succ]; exact rfl)
        | ((with_reducible apply W_sr); ((repeat (first | (with_reducible refine (va_up_self _ _ _).trans ?_) | ((with_reducible refine (va_up_ne _ _ ?_).trans ?_); (first | exact ne1 (by decide) | exact ne2 (by omega))))); first | (with_reducible assumption) | exact rfl | assumption); ((repeat (first | (with_reducible refine (va_up_self _ _ _).trans ?_) | ((with_reducible refine (va_up_ne _ _ ?_).trans ?_); (first | exact ne1 (by decide) | exact ne2 (by omega))))); first | (with_reducible assumption) | exact rfl | assumption); (first | (with_reducible rfl) | (simp (disch := omega) only [zI_add, zI_mul, zI_sub, L0, L1, L2, L3, L4, L5, L6, L7, L8, L10, L12, L18, L31, L36, L40, L127, L148, L150, L151, L200, L255, L300, L600, L906, L930, L940]; with_reducible rfl)); omega; (first | exact (by decide) | omega)))
    have hA1 : ∀ s j, Un ps s j → ad1 s j ∈ (L ++ [ad1 41 ps]) ++ [ad1 42 ps] := by
      intro s j z
      rcases z with z | ⟨z | z, z2⟩
      · rw [ag s j z]
        exact List.mem_append_left _ (List.mem_append_left _ (hAL s j z))
      · subst z
        subst z2
        exact List.mem_append_left _ (List.mem_append_right _ (List.mem_singleton.mpr rfl))
      · subst z
        subst z2
        exact List.mem_append_right _ (List.mem_singleton.mpr rfl)
    have frG : ∀ s j, (s ≠ 41 ∨ j ≠ ps) → (s ≠ 42 ∨ j ≠ ps) → va_up (va_up (va_up g (ad1 41 ps) (.inr (1, [.int 0, .null]))) (ad1 42 ps) (.inl (0, 930, .inl (fun _ => 0)))) (ad1 41 ps) (.inr (1, [.int 0, .ref (ad1 42 ps)])) (ad1 s j) = g (ad1 s j) := by
      intro s j z1 z2
      have k1 : ad1 s j ≠ ad1 41 ps := fun w => by
        obtain ⟨w1, w2⟩ := hI1 _ _ _ _ w
        exact z1.elim (fun y => y w1) (fun y => y w2)
      have k2 : ad1 s j ≠ ad1 42 ps := fun w => by
        obtain ⟨w1, w2⟩ := hI1 _ _ _ _ w
        exact z2.elim (fun y => y w1) (fun y => y w2)
      rw [va_up_ne _ _ k1, va_up_ne _ _ k2, va_up_ne _ _ k1]
    have gob : va_up (va_up (va_up g (ad1 41 ps) (.inr (1, [.int 0, .null]))) (ad1 42 ps) (.inl (0, 930, .inl (fun _ => 0)))) (ad1 41 ps) (.inr (1, [.int 0, .ref (ad1 42 ps)])) (ad1 41 ps) = .inr (1, [.int 0, .ref (ad1 42 ps)]) := va_up_self _ _ _
    have gby : va_up (va_up (va_up g (ad1 41 ps) (.inr (1, [.int 0, .null]))) (ad1 42 ps) (.inl (0, 930, .inl (fun _ => 0)))) (ad1 41 ps) (.inr (1, [.int 0, .ref (ad1 42 ps)])) (ad1 42 ps) = .inl (0, 930, .inl (fun _ => 0)) := (va_up_ne _ _ (ne1 (by decide))).trans (va_up_self _ _ _)
    generalize va_up (va_up (va_up g (ad1 41 ps) (.inr (1, [.int 0, .null]))) (ad1 42 ps) (.inl (0, 930, .inl (fun _ => 0)))) (ad1 41 ps) (.inr (1, [.int 0, .ref (ad1 42 ps)])) = G at *
    refine add_ok hI1 (by omega) ⟨mc1, ed1, (frG 5 0 (Or.inl (by decide)) (Or.inl (by decide))).trans b3, ?_⟩ gob (fun j hj => ?_) hA1 (fun ad2 L2 g2 i1 i2 i3 i4 i5 => ?_)
    · rcases b4 with q | ⟨q1, q2, cap, f2, q3, q4⟩
      · exact Or.inl q
      · exact Or.inr ⟨q1, q2, cap, f2, (frG 43 0 (Or.inl (by decide)) (Or.inl (by decide))).trans q3, q4⟩
    · obtain ⟨bs, x1, fb, x2, -⟩ := b5 j hj
      exact ⟨_, (frG 41 j (Or.inr (by omega)) (Or.inl (by decide))).trans x2⟩
    · have u1 : ∀ {s}, s ∈ [1, 2, 3, 4, 5] → Un ps s 0 := fun z => Or.inl (us_top z)
      have n43 : ∀ {s j}, Us ps s j → s ≠ 43 → ad2 s j = ad s j := fun z w => (i2 _ _ w (Or.inl z)).trans (ag _ _ z)
      have e12 : ad1 1 0 = ad2 1 0 := (i2 1 0 (by decide) (u1 (by decide))).symm
      have hTop2 : TopR ad2 g2 (sN s) (sE s).length := by
        obtain ⟨x1, f, x2, x3⟩ := d3
        refine ⟨?_, f, ?_, fun i hi => ?_⟩
        · rw [i5 1 0 (by decide) (by decide) (u1 (by decide)), frG 1 0 (Or.inl (by decide)) (Or.inl (by decide)), i2 2 0 (by decide) (u1 (by decide)), i2 3 0 (by decide) (u1 (by decide)), i2 5 0 (by decide) (u1 (by decide)), i2 11 6 (by decide) (Or.inl (us_six (by decide))), i2 12 6 (by decide) (Or.inl (us_six (by decide)))]
          exact x1
        · rw [i5 2 0 (by decide) (by decide) (u1 (by decide)), frG 2 0 (Or.inl (by decide)) (Or.inl (by decide))]
          exact x2
        · rw [i2 10 i (by decide) (Or.inl (us_node (by decide) hi))]
          exact x3 i hi
      have hPie2 : ∀ j bs, j < ps → PieR ad1 g j bs → PieR ad2 g2 j bs := by
        intro j bs hj hp
        obtain ⟨fb, x1, x2, x3⟩ := hp
        have y1 : Un ps 41 j := Or.inl (us_pie (Or.inl rfl) hj)
        have y2 : Un ps 42 j := Or.inl (us_pie (Or.inr rfl) hj)
        refine ⟨fb, ?_, ?_, x3⟩
        · rw [i5 41 j (by decide) (by decide) y1, frG 41 j (Or.inr (by omega)) (Or.inl (by decide)), i2 42 j (by decide) y2]
          exact x1
        · rw [i5 42 j (by decide) (by decide) y2, frG 42 j (Or.inl (by decide)) (Or.inr (by omega))]
          exact x2
      have hPc2 : PcR ad2 g2 t (ps + 1) (sE s) := by
        refine ⟨by omega, by omega, i4, fun j hj => ?_, fun j hj => ?_⟩
        · by_cases hq : j = ps
          · subst hq
            refine ⟨[], by decide, fun _ => 0, ?_, ?_, fun k hk => absurd hk (Nat.not_lt_zero k)⟩
            · rw [i5 41 j (by decide) (by decide) (Or.inr ⟨Or.inl rfl, rfl⟩), gob, i2 42 j (by decide) (Or.inr ⟨Or.inr rfl, rfl⟩)]
              rfl
            · rw [i5 42 j (by decide) (by decide) (Or.inr ⟨Or.inr rfl, rfl⟩), gby]
          · obtain ⟨bs, x1, x2⟩ := b5 j (by omega)
            exact ⟨bs, x1, hPie2 j bs (by omega) x2⟩
        · obtain ⟨x1, x2⟩ := b6 j hj
          exact ⟨x1, hPie2 j _ (by omega) x2⟩
      rw [e12]
      refine np_tail i1 hTop2 hPc2 (by omega) (fun g3 k1 k2 k3 k4 => ?_)
      refine cont ad2 (ps + 1) L2 g3 i1 i3 (fun s j z w => n43 z w) (by omega) k1 k2 k3 (fun s j z w => ?_)
      have w1 : s ≠ 1 ∧ s ≠ 5 ∧ s ≠ 41 ∧ s ≠ 42 ∧ s ≠ 43 := by
        simp only [List.mem_cons, List.not_mem_nil, or_false, not_or] at w
        exact w
      rw [k4 s j w1.1 w1.2.2.1, i5 s j w1.2.2.2.2 w1.2.1 (Or.inl z), frG s j (Or.inl w1.2.2.1) (Or.inl w1.2.2.2.1), ag s j z]
  · rw [if_neg (fun z => hev ((zI_eq (by omega) (by omega)).mp z))]
    exact np_tail hI c3 c6 (by omega) (fun g1 k1 k2 k3 k4 => cont ad ps L g1 hI hAL (fun _ _ _ _ => rfl) (by omega) k1 k2 k3 (fun s j _ w => by
      simp only [List.mem_cons, List.not_mem_nil, or_false, not_or] at w
      exact k4 s j w.1 w.2.2.1))
theorem CI.piece {g3 : xG} {bs : List Int32} (h : CI ad g lp t ps s) (hI1 : Inj ad1) (ag : ∀ s j, Us ps s j → s ≠ 43 → ad1 s j = ad s j) (hT : TopR ad1 g1 (sN s) ((sE s).length + 1)) (hP : PcR ad1 g1 t ps1 (sE s)) (hlt : (sE s).length < ps1) (fr : ∀ s j, Us ps s j → s ∉ [1, 5, 41, 42, 43] → g1 (ad1 s j) = g (ad s j)) (M : Md ad1 [41, 42] (sE s).length [] g1 g3) (hN : PieR ad1 g3 (sE s).length bs) (hb : plen bs.length) : CI ad1 g3 lp t ps1 (uE s (sE s ++ [bs])) := by
  obtain ⟨c0, c1, c2, c3, c4, c5, c6, c7, c8⟩ := h
  have a0 : ∀ s j, Us 0 s j → ad1 s j = ad s j := fun s j z => ag s j (us0 z).2 (us0 (ps := 0) z).1
  have q0 : ∀ s j, Us 0 s j → s ∉ [1, 5, 41, 42, 43] → g3 (ad1 s j) = g (ad s j) := fun s j z w => by
    refine (M s j (fun y => ?_) (by simp)).trans (fr s j (us0 z).2 w)
    exact absurd (List.mem_cons_of_mem _ (List.mem_cons_of_mem _ (by revert y; simp; omega))) w
  have qq : ∀ X : List Nat, ∀ i, (∀ s ∈ X, Us 0 s i) → (∀ s ∈ X, s ∉ [1, 5, 41, 42, 43]) → ∀ s, s ∈ X → g3 (ad1 s i) = g (ad1 s i) := fun X i hX hX2 s z => by
    rw [q0 s i (hX s z) (hX2 s z), a0 s i (hX s z)]
  refine ⟨c0, c1, c2, ?_, fun i hi => ?_, c5.t2 a0 q0, ?_, ?_, ?_⟩
  · have hlen : (sE (uE s (sE s ++ [bs]))).length = (sE s).length + 1 := len_snoc _ _
    rw [hlen]
    exact hT.fr (Md.at M (by decide) (Or.inr (by decide)))
  · exact ((c4 i hi).rn (fun s z => a0 s i (us_node z hi))).fr (qq _ i (fun s z => us_node z hi) (by decide))
  · obtain ⟨b1, b2', ⟨mc, ed, b3, b4⟩, b5, b6⟩ := hP
    have hlen : (sE (uE s (sE s ++ [bs]))).length = (sE s).length + 1 := len_snoc _ _
    refine ⟨by rw [hlen]; omega, b2', ⟨mc, ed, (M 5 0 (fun z => absurd z (by decide)) (by decide)).trans b3, ?_⟩, fun j hj => ?_, fun j hj => ?_⟩
    · rcases b4 with q | ⟨q1, q2, cap, f2, q3, q4⟩
      · exact Or.inl q
      · exact Or.inr ⟨q1, q2, cap, f2, (M 43 0 (fun z => absurd z (by decide)) (by decide)).trans q3, q4⟩
    · by_cases hq : j = (sE s).length
      · subst hq
        exact ⟨bs, hb.2.1, hN⟩
      · obtain ⟨bs2, x1, x2⟩ := b5 j hj
        exact ⟨bs2, x1, x2.fr (Md.at M (by decide) (Or.inl hq))⟩
    · rw [hlen] at hj
      by_cases hq : j = (sE s).length
      · subst hq
        rw [show (sE (uE s (sE s ++ [bs]))).getD (sE s).length [] = bs from getD_snoc_eq]
        exact ⟨hb, hN⟩
      · rw [show (sE (uE s (sE s ++ [bs]))).getD j [] = (sE s).getD j [] from getD_snoc_lt (by omega)]
        obtain ⟨x1, x2⟩ := b6 j (by omega)
        exact ⟨x1, x2.fr (Md.at M (by decide) (Or.inl hq))⟩
  · obtain ⟨o, n, x, y, q, r, v, e⟩ := c7
    refine ⟨o, n, x, y, q, r, v, ?_⟩
    unfold MaR at e ⊢
    rw [q0 11 6 (us_six (by decide)) (by decide)]
    exact e
  · obtain ⟨l, e⟩ := c8
    exact ⟨l, (e.rn (fun s z => a0 s 6 (us_six ((by decide : ∀ s ∈ [12, 16, 17, 18, 19], s ∈ [11, 12, 16, 17, 18, 19]) s z)))).fr (qq _ 6 (fun s z => us_six ((by decide : ∀ s ∈ [12, 16, 17, 18, 19], s ∈ [11, 12, 16, 17, 18, 19]) s z)) (by decide))⟩
theorem op_fin (hI1 : Inj ad1) {s1 : Sg} (h1 : CI ad1 g1 lp t ps1 s1) {w i : Nat} (hw : w < 6) (hi : i < 6) (v : Int32) {Q : Int32 → xG → Prop}
    (c : ∀ g2, CI ad1 g2 lp t ps1 (said s1 w i v) → (∀ s j, s ≠ 14 → g2 (ad1 s j) = g1 (ad1 s j)) → Q v g2) : ∃ g34, (xs_i 1 g1 (ad1 14 w) (zI i) v) = some g34 ∧ ∃ x36, (xa_i 1 g34 (ad1 14 w) (zI i)) = some x36 ∧ Q x36 g34 := by
  have hI := hI1
  obtain ⟨d0, d1, d2, d3, d4, d5, d6, d7, d8⟩ := id h1
  obtain ⟨n1, n2, n3, n4, ⟨f5, n5, o5⟩, n6⟩ := d4 w hw
  refine ⟨_, r_si1 n5 rfl hi (by decide), _, r_ai (va_up_self _ _ _) rfl hi (by decide), ?_⟩
  rw [upd_self]
  refine c _ ?_ (fun s j z => va_up_ne _ _ (hI1.n1 z))
  refine CI.upd h1 (S := [14]) (i := w) (T := []) (by ((repeat (first | (with_reducible exact Md.rf) | (refine Md.w1 hI (by decide) ?_) | (refine Md.w2 hI (by decide) ?_))))) (by decide) (by decide) hw rfl rfl (fun j hj => by refine ⟨?_, ?_, ?_, ?_, ?_, ?_⟩ <;> (first | rfl | exact va_up_ne _ _ hj)) (Or.inl rfl) (d0 w hw) ?_ (d5.fr (by (refine Md.all (S := [14]) (i := w) (T := []) ?_ (by decide); (repeat (first | (with_reducible exact Md.rf) | (refine Md.w1 hI (by decide) ?_) | (refine Md.w2 hI (by decide) ?_))))))
  refine ⟨n1.fr (by (refine Md.at (S := [14]) (i := w) (T := []) ?_ (by decide) (by first | exact Or.inr (by decide) | exact Or.inl (by omega)); (repeat (first | (with_reducible exact Md.rf) | (refine Md.w1 hI (by decide) ?_) | (refine Md.w2 hI (by decide) ?_))))), n2.fr (by (refine Md.at (S := [14]) (i := w) (T := []) ?_ (by decide) (by first | exact Or.inr (by decide) | exact Or.inl (by omega)); (repeat (first | (with_reducible exact Md.rf) | (refine Md.w1 hI (by decide) ?_) | (refine Md.w2 hI (by decide) ?_))))), ?_, n4.fr (by (refine Md.at (S := [14]) (i := w) (T := []) ?_ (by decide) (by first | exact Or.inr (by decide) | exact Or.inl (by omega)); (repeat (first | (with_reducible exact Md.rf) | (refine Md.w1 hI (by decide) ?_) | (refine Md.w2 hI (by decide) ?_))))), ?_, n6.fr (by (refine Md.at (S := [14]) (i := w) (T := []) ?_ (by decide) (by first | exact Or.inr (by decide) | exact Or.inl (by omega)); (repeat (first | (with_reducible exact Md.rf) | (refine Md.w1 hI (by decide) ?_) | (refine Md.w2 hI (by decide) ?_)))))⟩
  · obtain ⟨q1, q2, q3, q4⟩ := n3
    exact ⟨q1, q2, q3, q4.fr (by (refine Md.at (S := [14]) (i := w) (T := []) ?_ (by decide) (by first | exact Or.inr (by decide) | exact Or.inl (by omega)); (repeat (first | (with_reducible exact Md.rf) | (refine Md.w1 hI (by decide) ?_) | (refine Md.w2 hI (by decide) ?_)))))⟩
  · refine ⟨_, va_up_self _ _ _, fun j hj => ?_⟩
    rw [show sO (said s1 w i v) w = va_up (sO s1 w) i v from va_up_self _ _ _]
    by_cases hq : j = i
    · rw [hq, upd_self, va_up_self]
    · rw [upd_ne _ _ hq, va_up_ne _ _ hq]
      exact o5 j hj
theorem wit_ok {ev : Nat} (hT : TopR ad g n ev) (hn : 3 ≤ n) (hn6 : n ≤ 6) {w i : Nat} (hw : w < 6) (hi : i < 6) : f_X7_isWitness g (ad 1 0) (zI w) (zI i) = some (b2 (decide (w = (i + 1) % n ∨ w = (i + 2) % n))) := by
  have ne1 := 0
  have ne2 := 0
  obtain ⟨hT, -⟩ := hT
  have hm1 : zI i + 1 - (zI i + 1) / zI n * zI n = zI ((i + 1) % n) := by
    rw [L1, zI_add, zI_mod (by omega) (by omega)]
  have hm2 : zI i + 2 - (zI i + 2) / zI n * zI n = zI ((i + 2) % n) := by
    rw [L2, zI_add, zI_mod (by omega) (by omega)]
  have hl1 : (i + 1) % n < n := Nat.mod_lt _ (by omega)
  have hl2 : (i + 2) % n < n := Nat.mod_lt _ (by omega)
  have hn0 : ¬ zI n = 0 := by
    rw [L0, zI_eq (by omega) (by omega)]
    omega
  have key : Ev (f_X7_isWitness g (ad 1 0) (zI w) (zI i)) (fun r => r = b2 (decide (w = (i + 1) % n ∨ w = (i + 2) % n))) := by
    unfold f_X7_isWitness
    repeat (first
        | ((with_reducible apply E_gi); ((repeat (first | (with_reducible refine (va_up_self _ _ _).trans ?_) | ((with_reducible refine (va_up_ne _ _ ?_).trans ?_); (first | exact ne1 (by decide) | exact ne2 (by omega))))); first | (with_reducible assumption) | exact rfl | assumption); exact rfl)
        | ((with_reducible apply E_gl); ((repeat (first | (with_reducible refine (va_up_self _ _ _).trans ?_) | ((with_reducible refine (va_up_ne _ _ ?_).trans ?_); (first | exact ne1 (by decide) | exact ne2 (by omega))))); first | (with_reducible assumption) | exact rfl | assumption); exact rfl)
        | ((with_reducible apply E_gr); ((repeat (first | (with_reducible refine (va_up_self _ _ _).trans ?_) | ((with_reducible refine (va_up_ne _ _ ?_).trans ?_); (first | exact ne1 (by decide) | exact ne2 (by omega))))); first | (with_reducible assumption) | exact rfl | assumption); exact rfl)
        | ((with_reducible apply E_k); ((repeat (first | (with_reducible refine (va_up_self _ _ _).trans ?_) | ((with_reducible refine (va_up_ne _ _ ?_).trans ?_); (first | exact ne1 (by decide) | exact ne2 (by omega))))); first | (with_reducible assumption) | exact rfl | assumption))
        | ((with_reducible apply E_ai); ((repeat (first | (with_reducible refine (va_up_self _ _ _).trans ?_) | ((with_reducible refine (va_up_ne _ _ ?_).trans ?_); (first | exact ne1 (by decide) | exact ne2 (by omega))))); first | (with_reducible assumption) | exact rfl | assumption); (first | (with_reducible rfl) | (simp (disch := omega) only [zI_add, zI_mul, zI_sub, L0, L1, L2, L3, L4, L5, L6, L7, L8, L10, L12, L18, L31, L36, L40, L127, L148, L150, L151, L200, L255, L300, L600, L906, L930, L940]; with_reducible rfl)); omega; exact (by decide))
        | ((with_reducible apply E_al); ((repeat (first | (with_reducible refine (va_up_self _ _ _).trans ?_) | ((with_reducible refine (va_up_ne _ _ ?_).trans ?_); (first | exact ne1 (by decide) | exact ne2 (by omega))))); first | (with_reducible assumption) | exact rfl | assumption); (first | (with_reducible rfl) | (simp (disch := omega) only [zI_add, zI_mul, zI_sub, L0, L1, L2, L3, L4, L5, L6, L7, L8, L10, L12, L18, L31, L36, L40, L127, L148, L150, L151, L200, L255, L300, L600, L906, L930, L940]; with_reducible rfl)); omega; exact (by decide))
        | ((with_reducible apply E_si1); ((repeat (first | (with_reducible refine (va_up_self _ _ _).trans ?_) | ((with_reducible refine (va_up_ne _ _ ?_).trans ?_); (first | exact ne1 (by decide) | exact ne2 (by omega))))); first | (with_reducible assumption) | exact rfl | assumption); (first | (with_reducible rfl) | (simp (disch := omega) only [zI_add, zI_mul, zI_sub, L0, L1, L2, L3, L4, L5, L6, L7, L8, L10, L12, L18, L31, L36, L40, L127, L148, L150, L151, L200, L255, L300, L600, L906, L930, L940]; with_reducible rfl)); omega; exact (by decide))
        | ((with_reducible apply E_sl); ((repeat (first | (with_reducible refine (va_up_self _ _ _).trans ?_) | ((with_reducible refine (va_up_ne _ _ ?_).trans ?_); (first | exact ne1 (by decide) | exact ne2 (by omega))))); first | (with_reducible assumption) | exact rfl | assumption); (first | (with_reducible rfl) | (simp (disch := omega) only [zI_add, zI_mul, zI_sub, L0, L1, L2, L3, L4, L5, L6, L7, L8, L10, L12, L18, L31, L36, L40, L127, L148, L150, L151, L200, L255, L300, L600, L906, L930, L940]; with_reducible rfl)); omega; exact (by decide))
        | ((with_reducible apply E_pi); ((repeat (first | (with_reducible refine (va_up_self _ _ _).trans ?_) | ((with_reducible refine (va_up_ne _ _ ?_).trans ?_); (first | exact ne1 (by decide) | exact ne2 (by omega))))); first | (with_reducible assumption) | exact rfl | assumption); exact Nat.le_of_ble_eq_true rfl; simp only [List.set_cons_zero, List.set_cons_succ]; exact rfl)
        | ((with_reducible apply E_pl); ((repeat (first | (with_reducible refine (va_up_self _ _ _).trans ?_) | ((with_reducible refine (va_up_ne _ _ ?_).trans ?_); (first | exact ne1 (by decide) | exact ne2 (by omega))))); first | (with_reducible assumption) | exact rfl | assumption); exact Nat.le_of_ble_eq_true rfl; simp only [List.set_cons_zero, List.set_cons_succ]; exact rfl)
        | ((with_reducible apply E_pr); ((repeat (first | (with_reducible refine (va_up_self _ _ _).trans ?_) | ((with_reducible refine (va_up_ne _ _ ?_).trans ?_); (first | exact ne1 (by decide) | exact ne2 (by omega))))); first | (with_reducible assumption) | exact rfl | assumption); exact Nat.le_of_ble_eq_true rfl; simp only [List.set_cons_zero, List.set_cons_succ]; exact rfl)
        | ((with_reducible apply E_pz); (first | exact Or.inl rfl | exact Or.inr rfl | exact b2_01 _ | assumption); ((repeat (first | (with_reducible refine (va_up_self _ _ _).trans ?_) | ((with_reducible refine (va_up_ne _ _ ?_).trans ?_); (first | exact ne1 (by decide) | exact ne2 (by omega))))); first | (with_reducible assumption) | exact rfl | assumption); exact Nat.le_of_ble_eq_true rfl; simp only [List.set_cons_zero, List.set_cons_succ]; exact rfl)
        | ((with_reducible apply E_si); ((repeat (first | (with_reducible refine (va_up_self _ _ _).trans ?_) | ((with_reducible refine (va_up_ne _ _ ?_).trans ?_); (first | exact ne1 (by decide) | exact ne2 (by omega))))); first | (with_reducible assumption) | exact rfl | assumption); (first | (with_reducible rfl) | (simp (disch := omega) only [zI_add, zI_mul, zI_sub, L0, L1, L2, L3, L4, L5, L6, L7, L8, L10, L12, L18, L31, L36, L40, L127, L148, L150, L151, L200, L255, L300, L600, L906, L930, L940]; with_reducible rfl)); omega; exact (by decide))
        | ((with_reducible apply E_ar); ((repeat (first | (with_reducible refine (va_up_self _ _ _).trans ?_) | ((with_reducible refine (va_up_ne _ _ ?_).trans ?_); (first | exact ne1 (by decide) | exact ne2 (by omega))))); first | (with_reducible assumption) | exact rfl | assumption); (first | (with_reducible rfl) | (simp (disch := omega) only [zI_add, zI_mul, zI_sub, L0, L1, L2, L3, L4, L5, L6, L7, L8, L10, L12, L18, L31, L36, L40, L127, L148, L150, L151, L200, L255, L300, L600, L906, L930, L940]; with_reducible rfl)); omega; exact (by decide); (first | assumption | exact rfl))
        | ((with_reducible apply E_sr); ((repeat (first | (with_reducible refine (va_up_self _ _ _).trans ?_) | ((with_reducible refine (va_up_ne _ _ ?_).trans ?_); (first | exact ne1 (by decide) | exact ne2 (by omega))))); first | (with_reducible assumption) | exact rfl | assumption); ((repeat (first | (with_reducible refine (va_up_self _ _ _).trans ?_) | ((with_reducible refine (va_up_ne _ _ ?_).trans ?_); (first | exact ne1 (by decide) | exact ne2 (by omega))))); first | (with_reducible assumption) | exact rfl | assumption); (first | (with_reducible rfl) | (simp (disch := omega) only [zI_add, zI_mul, zI_sub, L0, L1, L2, L3, L4, L5, L6, L7, L8, L10, L12, L18, L31, L36, L40, L127, L148, L150, L151, L200, L255, L300, L600, L906, L930, L940]; with_reducible rfl)); omega; exact (by decide))
        | ((with_reducible apply E_n); ((repeat (first | (with_reducible refine (va_up_self _ _ _).trans ?_) | ((with_reducible refine (va_up_ne _ _ ?_).trans ?_); (first | exact ne1 (by decide) | exact ne2 (by omega))))); first | (with_reducible assumption) | exact rfl | assumption))
        | ((with_reducible apply E_nz); (first | assumption | (simp (disch := omega) only [zI_add, zI_mul, zI_sub, L0, L1, L2, L3, L4, L5, L6, L7, L8, L10, L12, L18, L31, L36, L40, L127, L148, L150, L151, L200, L255, L300, L600, L906, L930, L940, zI_eq]; omega)))
        | ((with_reducible apply E_z); (first | exact Or.inl rfl | exact Or.inr rfl | exact b2_01 _ | assumption))
        | ((with_reducible apply E_room); ((repeat (first | (with_reducible refine (va_up_self _ _ _).trans ?_) | ((with_reducible refine (va_up_ne _ _ ?_).trans ?_); (first | exact ne1 (by decide) | exact ne2 (by omega))))); first | (with_reducible assumption) | exact rfl | assumption); exact rfl; omega)
        | ((with_reducible apply E_addl); ((repeat (first | (with_reducible refine (va_up_self _ _ _).trans ?_) | ((with_reducible refine (va_up_ne _ _ ?_).trans ?_); (first | exact ne1 (by decide) | exact ne2 (by omega))))); first | (with_reducible assumption) | exact rfl | assumption); exact rfl; ((repeat (first | (with_reducible refine (va_up_self _ _ _).trans ?_) | ((with_reducible refine (va_up_ne _ _ ?_).trans ?_); (first | exact ne1 (by decide) | exact ne2 (by omega))))); first | (with_reducible assumption) | exact rfl | assumption); exact ne1 (by decide); omega; (first | assumption | exact rfl))
        | ((with_reducible apply E_adr); ((repeat (first | (with_reducible refine (va_up_self _ _ _).trans ?_) | ((with_reducible refine (va_up_ne _ _ ?_).trans ?_); (first | exact ne1 (by decide) | exact ne2 (by omega))))); first | (with_reducible assumption) | exact rfl | assumption); exact rfl)
        | ((with_reducible apply E_seal); ((repeat (first | (with_reducible refine (va_up_self _ _ _).trans ?_) | ((with_reducible refine (va_up_ne _ _ ?_).trans ?_); (first | exact ne1 (by decide) | exact ne2 (by omega))))); first | (with_reducible assumption) | exact rfl | assumption); exact rfl)
        | with_reducible refine Ev.b (f_hb _ _ _ _) ?_
        | with_reducible refine Ev.b (f_sg _ _ _) ?_
        | with_reducible refine Ev.b (f_hb8 _ _ _ _) ?_
        | with_reducible refine Ev.b (f_sg8 _ _ _) ?_)
    rw [hm1]
    refine Ev.i (fun q => ?_) (fun q => ?_)
    · rw [zI_eq (by omega) (by omega)] at q
      rw [decide_eq_true (Or.inl q)]
      exact Ev.s rfl
    · rw [zI_eq (by omega) (by omega)] at q
      repeat (first
          | ((with_reducible apply E_gi); ((repeat (first | (with_reducible refine (va_up_self _ _ _).trans ?_) | ((with_reducible refine (va_up_ne _ _ ?_).trans ?_); (first | exact ne1 (by decide) | exact ne2 (by omega))))); first | (with_reducible assumption) | exact rfl | assumption); exact rfl)
          | ((with_reducible apply E_gl); ((repeat (first | (with_reducible refine (va_up_self _ _ _).trans ?_) | ((with_reducible refine (va_up_ne _ _ ?_).trans ?_); (first | exact ne1 (by decide) | exact ne2 (by omega))))); first | (with_reducible assumption) | exact rfl | assumption); exact rfl)
          | ((with_reducible apply E_gr); ((repeat (first | (with_reducible refine (va_up_self _ _ _).trans ?_) | ((with_reducible refine (va_up_ne _ _ ?_).trans ?_); (first | exact ne1 (by decide) | exact ne2 (by omega))))); first | (with_reducible assumption) | exact rfl | assumption); exact rfl)
          | ((with_reducible apply E_k); ((repeat (first | (with_reducible refine (va_up_self _ _ _).trans ?_) | ((with_reducible refine (va_up_ne _ _ ?_).trans ?_); (first | exact ne1 (by decide) | exact ne2 (by omega))))); first | (with_reducible assumption) | exact rfl | assumption))
          | ((with_reducible apply E_ai); ((repeat (first | (with_reducible refine (va_up_self _ _ _).trans ?_) | ((with_reducible refine (va_up_ne _ _ ?_).trans ?_); (first | exact ne1 (by decide) | exact ne2 (by omega))))); first | (with_reducible assumption) | exact rfl | assumption); (first | (with_reducible rfl) | (simp (disch := omega) only [zI_add, zI_mul, zI_sub, L0, L1, L2, L3, L4, L5, L6, L7, L8, L10, L12, L18, L31, L36, L40, L127, L148, L150, L151, L200, L255, L300, L600, L906, L930, L940]; with_reducible rfl)); omega; exact (by decide))
          | ((with_reducible apply E_al); ((repeat (first | (with_reducible refine (va_up_self _ _ _).trans ?_) | ((with_reducible refine (va_up_ne _ _ ?_).trans ?_); (first | exact ne1 (by decide) | exact ne2 (by omega))))); first | (with_reducible assumption) | exact rfl | assumption); (first | (with_reducible rfl) | (simp (disch := omega) only [zI_add, zI_mul, zI_sub, L0, L1, L2, L3, L4, L5, L6, L7, L8, L10, L12, L18, L31, L36, L40, L127, L148, L150, L151, L200, L255, L300, L600, L906, L930, L940]; with_reducible rfl)); omega; exact (by decide))
          | ((with_reducible apply E_si1); ((repeat (first | (with_reducible refine (va_up_self _ _ _).trans ?_) | ((with_reducible refine (va_up_ne _ _ ?_).trans ?_); (first | exact ne1 (by decide) | exact ne2 (by omega))))); first | (with_reducible assumption) | exact rfl | assumption); (first | (with_reducible rfl) | (simp (disch := omega) only [zI_add, zI_mul, zI_sub, L0, L1, L2, L3, L4, L5, L6, L7, L8, L10, L12, L18, L31, L36, L40, L127, L148, L150, L151, L200, L255, L300, L600, L906, L930, L940]; with_reducible rfl)); omega; exact (by decide))
          | ((with_reducible apply E_sl); ((repeat (first | (with_reducible refine (va_up_self _ _ _).trans ?_) | ((with_reducible refine (va_up_ne _ _ ?_).trans ?_); (first | exact ne1 (by decide) | exact ne2 (by omega))))); first | (with_reducible assumption) | exact rfl | assumption); (first | (with_reducible rfl) | (simp (disch := omega) only [zI_add, zI_mul, zI_sub, L0, L1, L2, L3, L4, L5, L6, L7, L8, L10, L12, L18, L31, L36, L40, L127, L148, L150, L151, L200, L255, L300, L600, L906, L930, L940]; with_reducible rfl)); omega; exact (by decide))
          | ((with_reducible apply E_pi); ((repeat (first | (with_reducible refine (va_up_self _ _ _).trans ?_) | ((with_reducible refine (va_up_ne _ _ ?_).trans ?_); (first | exact ne1 (by decide) | exact ne2 (by omega))))); first | (with_reducible assumption) | exact rfl | assumption); exact Nat.le_of_ble_eq_true rfl; simp only [List.set_cons_zero, List.set_cons_succ]; exact rfl)
          | ((with_reducible apply E_pl); ((repeat (first | (with_reducible refine (va_up_self _ _ _).trans ?_) | ((with_reducible refine (va_up_ne _ _ ?_).trans ?_); (first | exact ne1 (by decide) | exact ne2 (by omega))))); first | (with_reducible assumption) | exact rfl | assumption); exact Nat.le_of_ble_eq_true rfl; simp only [List.set_cons_zero, List.set_cons_succ]; exact rfl)
          | ((with_reducible apply E_pr); ((repeat (first | (with_reducible refine (va_up_self _ _ _).trans ?_) | ((with_reducible refine (va_up_ne _ _ ?_).trans ?_); (first | exact ne1 (by decide) | exact ne2 (by omega))))); first | (with_reducible assumption) | exact rfl | assumption); exact Nat.le_of_ble_eq_true rfl; simp only [List.set_cons_zero, List.set_cons_succ]; exact rfl)
          | ((with_reducible apply E_pz); (first | exact Or.inl rfl | exact Or.inr rfl | exact b2_01 _ | assumption); ((repeat (first | (with_reducible refine (va_up_self _ _ _).trans ?_) | ((with_reducible refine (va_up_ne _ _ ?_).trans ?_); (first | exact ne1 (by decide) | exact ne2 (by omega))))); first | (with_reducible assumption) | exact rfl | assumption); exact Nat.le_of_ble_eq_true rfl; simp only [List.set_cons_zero, List.set_cons_succ]; exact rfl)
          | ((with_reducible apply E_si); ((repeat (first | (with_reducible refine (va_up_self _ _ _).trans ?_) | ((with_reducible refine (va_up_ne _ _ ?_).trans ?_); (first | exact ne1 (by decide) | exact ne2 (by omega))))); first | (with_reducible assumption) | exact rfl | assumption); (first | (with_reducible rfl) | (simp (disch := omega) only [zI_add, zI_mul, zI_sub, L0, L1, L2, L3, L4, L5, L6, L7, L8, L10, L12, L18, L31, L36, L40, L127, L148, L150, L151, L200, L255, L300, L600, L906, L930, L940]; with_reducible rfl)); omega; exact (by decide))
          | ((with_reducible apply E_ar); ((repeat (first | (with_reducible refine (va_up_self _ _ _).trans ?_) | ((with_reducible refine (va_up_ne _ _ ?_).trans ?_); (first | exact ne1 (by decide) | exact ne2 (by omega))))); first | (with_reducible assumption) | exact rfl | assumption); (first | (with_reducible rfl) | (simp (disch := omega) only [zI_add, zI_mul, zI_sub, L0, L1, L2, L3, L4, L5, L6, L7, L8, L10, L12, L18, L31, L36, L40, L127, L148, L150, L151, L200, L255, L300, L600, L906, L930, L940]; with_reducible rfl)); omega; exact (by decide); (first | assumption | exact rfl))
          | ((with_reducible apply E_sr); ((repeat (first | (with_reducible refine (va_up_self _ _ _).trans ?_) | ((with_reducible refine (va_up_ne _ _ ?_).trans ?_); (first | exact ne1 (by decide) | exact ne2 (by omega))))); first | (with_reducible assumption) | exact rfl | assumption); ((repeat (first | (with_reducible refine (va_up_self _ _ _).trans ?_) | ((with_reducible refine (va_up_ne _ _ ?_).trans ?_); (first | exact ne1 (by decide) | exact ne2 (by omega))))); first | (with_reducible assumption) | exact rfl | assumption); (first | (with_reducible rfl) | (simp (disch := omega) only [zI_add, zI_mul, zI_sub, L0, L1, L2, L3, L4, L5, L6, L7, L8, L10, L12, L18, L31, L36, L40, L127, L148, L150, L151, L200, L255, L300, L600, L906, L930, L940]; with_reducible rfl)); omega; exact (by decide))
          | ((with_reducible apply E_n); ((repeat (first | (with_reducible refine (va_up_self _ _ _).trans ?_) | ((with_reducible refine (va_up_ne _ _ ?_).trans ?_); (first | exact ne1 (by decide) | exact ne2 (by omega))))); first | (with_reducible assumption) | exact rfl | assumption))
          | ((with_reducible apply E_nz); (first | assumption | (simp (disch := omega) only [zI_add, zI_mul, zI_sub, L0, L1, L2, L3, L4, L5, L6, L7, L8, L10, L12, L18, L31, L36, L40, L127, L148, L150, L151, L200, L255, L300, L600, L906, L930, L940, zI_eq]; omega)))
          | ((with_reducible apply E_z); (first | exact Or.inl rfl | exact Or.inr rfl | exact b2_01 _ | assumption))
          | ((with_reducible apply E_room); ((repeat (first | (with_reducible refine (va_up_self _ _ _).trans ?_) | ((with_reducible refine (va_up_ne _ _ ?_).trans ?_); (first | exact ne1 (by decide) | exact ne2 (by omega))))); first | (with_reducible assumption) | exact rfl | assumption); exact rfl; omega)
          | ((with_reducible apply E_addl); ((repeat (first | (with_reducible refine (va_up_self _ _ _).trans ?_) | ((with_reducible refine (va_up_ne _ _ ?_).trans ?_); (first | exact ne1 (by decide) | exact ne2 (by omega))))); first | (with_reducible assumption) | exact rfl | assumption); exact rfl; ((repeat (first | (with_reducible refine (va_up_self _ _ _).trans ?_) | ((with_reducible refine (va_up_ne _ _ ?_).trans ?_); (first | exact ne1 (by decide) | exact ne2 (by omega))))); first | (with_reducible assumption) | exact rfl | assumption); exact ne1 (by decide); omega; (first | assumption | exact rfl))
          | ((with_reducible apply E_adr); ((repeat (first | (with_reducible refine (va_up_self _ _ _).trans ?_) | ((with_reducible refine (va_up_ne _ _ ?_).trans ?_); (first | exact ne1 (by decide) | exact ne2 (by omega))))); first | (with_reducible assumption) | exact rfl | assumption); exact rfl)
          | ((with_reducible apply E_seal); ((repeat (first | (with_reducible refine (va_up_self _ _ _).trans ?_) | ((with_reducible refine (va_up_ne _ _ ?_).trans ?_); (first | exact ne1 (by decide) | exact ne2 (by omega))))); first | (with_reducible assumption) | exact rfl | assumption); exact rfl)
          | with_reducible refine Ev.b (f_hb _ _ _ _) ?_
          | with_reducible refine Ev.b (f_sg _ _ _) ?_
          | with_reducible refine Ev.b (f_hb8 _ _ _ _) ?_
          | with_reducible refine Ev.b (f_sg8 _ _ _) ?_)
      rw [hm2]
      refine Ev.i (fun q2 => ?_) (fun q2 => ?_)
      · rw [zI_eq (by omega) (by omega)] at q2
        rw [decide_eq_true (Or.inr q2)]
        exact Ev.s rfl
      · rw [zI_eq (by omega) (by omega)] at q2
        rw [decide_eq_false (fun z => z.elim q q2)]
        exact Ev.s rfl
  obtain ⟨r, y1, y2⟩ := key
  rw [y1, y2]
end AUD
