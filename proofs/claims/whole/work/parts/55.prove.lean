section PROVE
variable {ad : Nat → Nat → Nat} {g : xG} {lp : Nat → Nat} {t ps : Nat} {s : Sg} {n ev e : Nat} {bs : List Int32}
theorem byt_ok (h : PieR ad g e bs) (hb : bs.length ≤ 930) {k : Nat} (hk : k < bs.length) : f_X0_byteAt g (ad 41 e) (zI k) = some (zI (u8 (bf bs) k)) := by
  obtain ⟨f, h1, h2, h3⟩ := h
  unfold f_X0_byteAt
  rw [r_gr h1 rfl, Option.bind_some, r_ai h2 rfl (by omega) (by decide), Option.bind_some, h3 k hk, ← u8_zI]
  rfl
theorem num_loop (h : PieR ad g e bs) (hb : bs.length ≤ 930) {a m : Nat} (ham : a + m ≤ bs.length) : ∀ N j : Nat, j ≤ m → m < N + j → Ev (f_X0_numberAt_5 N g (ad 41 e) (zI a) (zI m) (rdn (bf bs) a j) (zI (a + j))) (fun r => r = rdn (bf bs) a m) := by
  intro N
  induction N with
  | zero => intro j h1 h2; omega
  | succ N ih =>
    intro j h1 h2
    rw [f_X0_numberAt_5]
    refine Ev.i (fun q => ?_) (fun q => ?_)
    · rw [zI_add, zI_le (by omega) (by omega)] at q
      have hj : j = m := by omega
      subst hj
      exact Ev.s rfl
    · rw [zI_add, zI_le (by omega) (by omega)] at q
      refine Ev.b (r_k h.choose_spec.1) ?_
      refine Ev.b (byt_ok h hb (by omega)) ?_
      rw [L1, zI_add, Nat.add_assoc]
      have hs : (xlshl (rdn (bf bs) a j) 8) ||| Int32.toInt64 (zI (u8 (bf bs) (a + j))) = rdn (bf bs) a (j + 1) := by
        rw [rdn, u8_zI]
      rw [show (xlshl (rdn (bf bs) a j) 8) ||| Int32.toInt64 (zI (u8 (bf bs) (a + j))) = rdn (bf bs) a (j + 1) from hs]
      exact ih (j + 1) (by omega) (by omega)
theorem num_ok (h : PieR ad g e bs) (hb : bs.length ≤ 930) {a m : Nat} (ham : a + m ≤ bs.length) : Ev (f_X0_numberAt g (ad 41 e) (zI a) (zI m)) (fun r => r = rdn (bf bs) a m) := by
  have := num_loop h hb ham xFU 0 (Nat.zero_le _) (by rw [xFU_eq]; omega)
  rw [Nat.add_zero] at this
  exact this
theorem num_eq (h : PieR ad g e bs) (hb : bs.length ≤ 930) {x y : Int32} {a m : Nat} (hx : x = zI a) (hy : y = zI m) (ham : a + m ≤ bs.length) : f_X0_numberAt g (ad 41 e) x y = some (rdn (bf bs) a m) := by
  subst hx
  subst hy
  obtain ⟨r, h1, h2⟩ := num_ok h hb ham
  rw [h1, h2]
theorem whole_ok (h : PieR ad g e bs) (hb : plen bs.length) : Ev (f_X0_isWhole g (ad 41 e)) (fun r => r = b2 (whole bs)) := by
  obtain ⟨hb1, hb2, -⟩ := hb
  have hk := r_k h.choose_spec.1
  have hl := h.choose_spec.1
  have h16 := u16_lt (bf bs) 2
  have hu0 := u8_lt (bf bs) 0
  have hn2 : f_X0_numberAt g (ad 41 e) 2 2 = some (zJ (u16 (bf bs) 2)) := by rw [← rd16]; exact num_eq h hb2 rfl rfl (by omega)
  have hb0 : f_X0_byteAt g (ad 41 e) 0 = some (zI (u8 (bf bs) 0)) := byt_ok h hb2 (k := 0) (by omega)
  have h28 : u8 (bf bs) 0 = 1 ∨ u8 (bf bs) 0 = 2 → Ev (f_X0_isWhole_28 g (ad 41 e)) (fun r => r = b2 (whole bs)) := by
    intro h12
    unfold f_X0_isWhole_28
    refine Ev.b hk (Ev.b hb0 ?_)
    have hw : whole bs = decide (bs.length = 12 + 6 * u16 (bf bs) 2 + if u8 (bf bs) 0 = 1 then 18 else 2) := by
      unfold whole
      rcases h12 with q | q <;> simp [q]
    rw [hw]
    refine Ev.i (fun q => ?_) (fun q => ?_)
    · rw [L1, zI_eq (by omega) (by omega)] at q
      refine Ev.b hk (Ev.b hn2 (Ev.b (r_gi hl rfl) ?_))
      have he : (((4 : Int32) + ((Int64.toInt32 (zJ (u16 (bf bs) 2))) * 6)) + 8) + 18 = zI (12 + 6 * u16 (bf bs) 2 + 18) := by
        rw [zJ_to, L4, L6, L8, L18, zI_mul, zI_add, zI_add, zI_add]
        congr 1
        omega
      rw [he, if_pos q]
      refine Ev.i (fun q2 => ?_) (fun q2 => ?_)
      · rw [zI_eq (by omega) (by omega)] at q2
        refine Ev.s ?_
        rw [decide_eq_true q2]
        rfl
      · rw [zI_eq (by omega) (by omega)] at q2
        refine Ev.s ?_
        rw [decide_eq_false q2]
        rfl
    · rw [L1, zI_eq (by omega) (by omega)] at q
      refine Ev.b hk (Ev.b hn2 (Ev.b (r_gi hl rfl) ?_))
      have he : (((4 : Int32) + ((Int64.toInt32 (zJ (u16 (bf bs) 2))) * 6)) + 8) + 2 = zI (12 + 6 * u16 (bf bs) 2 + 2) := by
        rw [zJ_to, L4, L6, L8, L2, zI_mul, zI_add, zI_add, zI_add]
        congr 1
        omega
      rw [he, if_neg q]
      refine Ev.i (fun q2 => ?_) (fun q2 => ?_)
      · rw [zI_eq (by omega) (by omega)] at q2
        refine Ev.s ?_
        rw [decide_eq_true q2]
        rfl
      · rw [zI_eq (by omega) (by omega)] at q2
        refine Ev.s ?_
        rw [decide_eq_false q2]
        rfl
  unfold f_X0_isWhole
  refine Ev.b (r_gi hl rfl) ?_
  refine Ev.f (by rw [L4, zI_lt (by omega) (by omega)]; omega) ?_
  refine Ev.b hk (Ev.b hb0 ?_)
  refine Ev.i (fun q => ?_) (fun q => ?_)
  · rw [L1, zI_eq (by omega) (by omega)] at q
    exact h28 (Or.inl q)
  · rw [L1, zI_eq (by omega) (by omega)] at q
    refine Ev.b hk (Ev.b hb0 ?_)
    refine Ev.i (fun q2 => ?_) (fun q2 => ?_)
    · rw [L2, zI_eq (by omega) (by omega)] at q2
      exact h28 (Or.inr q2)
    · rw [L2, zI_eq (by omega) (by omega)] at q2
      refine Ev.s ?_
      unfold whole
      simp [q, q2, b2]
theorem rdE_len {f : Nat → Int32} : ∀ (r j : Nat) (l : List E3), rdE f r j = some l → l.length = r ∧ ∀ e ∈ l, e.2.1 < 256
  | 0, j, l, h => by
    rw [rdE] at h
    cases h
    exact ⟨rfl, fun e he => (by cases he)⟩
  | r + 1, j, l, h => by
    rw [rdE] at h
    split at h
    · rw [Option.map_eq_some_iff] at h
      obtain ⟨l2, h1, h2⟩ := h
      obtain ⟨h3, h4⟩ := rdE_len r (j + 1) l2 h1
      subst h2
      refine ⟨by rw [List.length_cons, h3], fun e he => ?_⟩
      rcases List.mem_cons.mp he with rfl | he
      · exact u8_lt f _
      · exact h4 e he
    · cases h
theorem rde_loop (hI : Inj ad) {n ev c : Nat} (hb : bs.length ≤ 930) (hc : 12 + 6 * c ≤ bs.length) (hc2 : c ≤ 150) : ∀ (N j : Nat) (g : xG) (pre : List E3), TopR ad g n ev → PieR ad g e bs → LogR ad g 6 pre → pre.length = j → j ≤ c → c < N + j →
    Ev (f_X7_readEntries_21 N g (ad 1 0) (ad 41 e) (zI c) (zI (4 + 6 * j)) (zI (j + 1))) (fun r => Md ad [12, 16, 17, 18, 19] 6 [] g r.2 ∧ match rdE (bf bs) (c - j) j with
      | none => r.1 = 0 ∧ ∃ l, LogR ad r.2 6 l
      | some l => r.1 = 1 ∧ LogR ad r.2 6 (pre ++ l)) := by
  have ne1 : ∀ {s i s' i' : Nat}, s ≠ s' → ad s i ≠ ad s' i' := hI.n1
  have ne2 : ∀ {s i i' : Nat}, i ≠ i' → ad s i ≠ ad s i' := hI.n2
  intro N
  induction N with
  | zero => intro j g pre _ _ _ _ h1 h2; omega
  | succ N ih =>
    intro j g pre hT hP hL hpl h1 h2
    have hT0 := hT
    obtain ⟨hT, -⟩ := hT
    have hk := r_k hP.choose_spec.1
    have hu := u8_lt (bf bs) (4 + 6 * j)
    rw [f_X7_readEntries_21]
    refine Ev.i (fun q => ?_) (fun q => ?_)
    · rw [zI_lt (by omega) (by omega)] at q
      rw [show c - j = 0 by omega, rdE]
      refine Ev.s ⟨Md.rf, rfl, ?_⟩
      rw [List.append_nil]
      exact hL
    · rw [zI_lt (by omega) (by omega)] at q
      rw [show c - j = (c - (j + 1)) + 1 by omega, rdE]
      refine Ev.b hk (Ev.b (byt_ok hP hb (by omega)) ?_)
      refine Ev.i (fun q1 => ?_) (fun q1 => ?_)
      · rw [L1, zI_lt (by omega) (by omega)] at q1
        rw [if_neg (by omega)]
        exact Ev.s ⟨Md.rf, rfl, _, hL⟩
      · rw [L1, zI_lt (by omega) (by omega)] at q1
        refine Ev.i (fun q2 => ?_) (fun q2 => ?_)
        · rw [L3, zI_le (by omega) (by omega)] at q2
          rw [if_pos (by omega)]
          repeat (first
              | ((with_reducible apply E_gi); ((repeat (first | (with_reducible refine (va_up_self _ _ _).trans ?_) | ((with_reducible refine (va_up_ne _ _ ?_).trans ?_); (first | exact ne1 (by decide) | exact ne2 (by omega))))); first | (with_reducible assumption) | exact rfl | assumption); exact rfl)
              | ((with_reducible apply E_gl); ((repeat (first | (with_reducible refine (va_up_self _ _ _).trans ?_) | ((with_reducible refine (va_up_ne _ _ ?_).trans ?_); (first | exact ne1 (by decide) | exact ne2 (by omega))))); first | (with_reducible assumption) | exact rfl | assumption); exact rfl)
              | ((with_reducible apply E_gr); ((repeat (first | (with_reducible refine (va_up_self _ _ _).trans ?_) | ((with_reducible refine (va_up_ne _ _ ?_).trans ?_); (first | exact ne1 (by decide) | exact ne2 (by omega))))); first | (with_reducible assumption) | exact rfl | assumption); exact rfl)
              | ((with_reducible apply E_k); ((repeat (first | (with_reducible refine (va_up_self _ _ _).trans ?_) | ((with_reducible refine (va_up_ne _ _ ?_).trans ?_); (first | exact ne1 (by decide) | exact ne2 (by omega))))); first | (with_reducible assumption) | exact rfl | assumption))
              | ((with_reducible apply E_ai); ((repeat (first | (with_reducible refine (va_up_self _ _ _).trans ?_) | ((with_reducible refine (va_up_ne _ _ ?_).trans ?_); (first | exact ne1 (by decide) | exact ne2 (by omega))))); first | (with_reducible assumption) | exact rfl | assumption); (first | (with_reducible rfl) | (simp (disch := omega) only [zI_add, zI_mul, zI_sub, L0, L1, L2, L3, L4, L5, L6, L7, L8, L10, L12, L18, L31, L36, L40, L127, L148, L150, L151, L200, L255, L300, L600, L906, L930, L940]; with_reducible rfl)); omega; exact (by decide))
              | ((with_reducible apply E_al); ((repeat (first | (with_reducible refine (va_up_self _ _ _).trans ?_) | ((with_reducible refine (va_up_ne _ _ ?_).trans ?_); (first | exact ne1 (by decide) | exact ne2 (by omega))))); first | (with_reducible assumption) | exact rfl | assumption); (first | (with_reducible rfl) | (simp (disch := omega) only [zI_add, zI_mul, zI_sub, L0, L1, L2, L3, L4, L5, L6, L7, L8, L10, L12, L18, L31, L36, L40, L127, L148, L150, L151, L200, L255, L300, L600, L906, L930, L940]; with_reducible rfl)); omega; exact (by decide))
              | ((with_reducible apply E_si1); ((repeat (first | (with_reducible refine (va_up_self _ _ _).trans ?_) | ((with_reducible refine (va_up_ne _ _ ?_).trans ?_); (first | exact ne1 (by decide) | exact ne2 (by omega))))); first | (with_reducible assumption) | exact rfl | assumption); (first | (with_reducible rfl) | (simp (disch := omega) only [zI_add, zI_mul, zI_sub, L0, L1, L2, L3, L4, L5, L6, L7, L8, L10, L12, L18, L31, L36, L40, L127, L148, L150, L151, L200, L255, L300, L600, L906, L930, L940]; with_reducible rfl)); omega; exact (by decide))
              | ((with_reducible apply E_sl); ((repeat (first | (with_reducible refine (va_up_self _ _ _).trans ?_) | ((with_reducible refine (va_up_ne _ _ ?_).trans ?_); (first | exact ne1 (by decide) | exact ne2 (by omega))))); first | (with_reducible assumption) | exact rfl | assumption); (first | (with_reducible rfl) | (simp (disch := omega) only [zI_add, zI_mul, zI_sub, L0, L1, L2, L3, L4, L5, L6, L7, L8, L10, L12, L18, L31, L36, L40, L127, L148, L150, L151, L200, L255, L300, L600, L906, L930, L940]; with_reducible rfl)); omega; exact (by decide))
              | ((with_reducible apply E_pi); ((repeat (first | (with_reducible refine (va_up_self _ _ _).trans ?_) | ((with_reducible refine (va_up_ne _ _ ?_).trans ?_); (first | exact ne1 (by decide) | exact ne2 (by omega))))); first | (with_reducible assumption) | exact rfl | assumption); exact Nat.le_of_ble_eq_true rfl; simp only [List.set_cons_zero, List.set_cons_succ]; exact rfl)
              | ((with_reducible apply E_pl); ((repeat (first | (with_reducible refine (va_up_self _ _ _).trans ?_) | ((with_reducible refine (va_up_ne _ _ ?_).trans ?_); (first | exact ne1 (by decide) | exact ne2 (by omega))))); first | (with_reducible assumption) | exact rfl | assumption); exact Nat.le_of_ble_eq_true rfl; simp only [List.set_cons_zero, List.set_cons_succ]; exact rfl)
              | ((with_reducible apply E_pr); ((repeat (first | (with_reducible refine (va_up_self _ _ _).trans ?_) | ((with_reducible refine (va_up_ne _ _ ?_).trans ?_); (first | exact ne1 (by decide) | exact ne2 (by omega))))); first | (with_reducible assumption) | exact rfl | assumption); exact Nat.le_of_ble_eq_true rfl; simp only [List.set_cons_zero, List.set_cons_succ]; exact rfl)
              | ((with_reducible apply E_pz); (first | exact Or.inl rfl | exact Or.inr rfl | exact b2_01 _ | assumption); ((repeat (first | (with_reducible refine (va_up_self _ _ _).trans ?_) | ((with_reducible refine (va_up_ne _ _ ?_).trans ?_); (first | exact ne1 (by decide) | exact ne2 (by omega))))); first | (with_reducible assumption) | exact rfl | assumption); exact Nat.le_of_ble_eq_true rfl; simp only [List.set_cons_zero, List.set_cons_succ]; exact rfl)
              | ((with_reducible apply E_si); ((repeat (first | (with_reducible refine (va_up_self _ _ _).trans ?_) | ((with_reducible refine (va_up_ne _ _ ?_).trans ?_); (first | exact ne1 (by decide) | exact ne2 (by omega))))); first | (with_reducible assumption) | exact rfl | assumption); (first | (with_reducible rfl) | (simp (disch := omega) only [zI_add, zI_mul, zI_sub, L0, L1, L2, L3, L4, L5, L6, L7, L8, L10, L12, L18, L31, L36, L40, L127, L148, L150, L151, L200, L255, L300, L600, L906, L930, L940]; with_reducible rfl)); omega; exact (by decide))
              | ((with_reducible apply E_ar); ((repeat (first | (with_reducible refine (va_up_self _ _ _).trans ?_) | ((with_reducible refine (va_up_ne _ _ ?_).trans ?_); (first | exact ne1 (by decide) | exact ne2 (by omega))))); first | (with_reducible assumption) | exact rfl | assumption); (first | (with_reducible rfl) | (simp (disch := omega) only [zI_add, zI_mul, zI_sub, L0, L1, L2, L3, L4, L5, L6, L7, L8, L10, L12, L18, L31, L36, L40, L127, L148, L150, L151, L200, L255, L300, L600, L906, L930, L940]; with_reducible rfl)); omega; exact (by decide); (first | assumption | exact rfl))
              | ((with_reducible apply E_sr); ((repeat (first | (with_reducible refine (va_up_self _ _ _).trans ?_) | ((with_reducible refine (va_up_ne _ _ ?_).trans ?_); (first | exact ne1 (by decide) | exact ne2 (by omega))))); first | (with_reducible assumption) | exact rfl | assumption); ((repeat (first | (with_reducible refine (va_up_self _ _ _).trans ?_) | ((with_reducible refine (va_up_ne _ _ ?_).trans ?_); (first | exact ne1 (by decide) | exact ne2 (by omega))))); first | (with_reducible assumption) | exact rfl | assumption); (first | (with_reducible rfl) | (simp (disch := omega) only [zI_add, zI_mul, zI_sub, L0, L1, L2, L3, L4, L5, L6, L7, L8, L10, L12, L18, L31, L36, L40, L127, L148, L150, L151, L200, L255, L300, L600, L906, L930, L940]; with_reducible rfl)); omega; exact (by decide))
              | ((with_reducible apply E_n); ((repeat (first | (with_reducible refine (va_up_self _ _ _).trans ?_) | ((with_reducible refine (va_up_ne _ _ ?_).trans ?_); (first | exact ne1 (by decide) | exact ne2 (by omega))))); first | (with_reducible assumption) | exact rfl | assumption))
              | ((with_reducible apply E_nz); (first | assumption | (simp (disch := omega) only [zI_add, zI_mul, zI_sub, L0, L1, L2, L3, L4, L5, L6, L7, L8, L10, L12, L18, L31, L36, L40, L127, L148, L150, L151, L200, L255, L300, L600, L906, L930, L940, zI_eq]; omega)))
              | ((with_reducible apply E_z); (first | exact Or.inl rfl | exact Or.inr rfl | exact b2_01 _ | assumption))
              | ((with_reducible apply E_room); ((repeat (first | (with_reducible refine (va_up_self _ _ _).trans ?_) | ((with_reducible refine (va_up_ne _ _ ?_).trans ?_); (first | exact ne1 (by decide) | exact ne2 (by omega))))); first | (with_reducible assumption) | exact rfl | assumption); exact rfl; omega)
              | ((with_reducible apply E_addl); ((repeat (first | (with_reducible refine (va_up_self _ _ _).trans ?_) | ((with_reducible refine (va_up_ne _ _ ?_).trans ?_); (first | exact ne1 (by decide) | exact ne2 (by omega))))); first | (with_reducible assumption) | exact rfl | assumption); exact rfl; ((repeat (first | (with_reducible refine (va_up_self _ _ _).trans ?_) | ((with_reducible refine (va_up_ne _ _ ?_).trans ?_); (first | exact ne1 (by decide) | exact ne2 (by omega))))); first | (with_reducible assumption) | exact rfl | assumption); exact ne1 (by decide); omega; (first | assumption | exact rfl))
              | ((with_reducible apply E_adr); ((repeat (first | (with_reducible refine (va_up_self _ _ _).trans ?_) | ((with_reducible refine (va_up_ne _ _ ?_).trans ?_); (first | exact ne1 (by decide) | exact ne2 (by omega))))); first | (with_reducible assumption) | exact rfl | assumption); exact rfl)
              | ((with_reducible apply E_seal); ((repeat (first | (with_reducible refine (va_up_self _ _ _).trans ?_) | ((with_reducible refine (va_up_ne _ _ ?_).trans ?_); (first | exact ne1 (by decide) | exact ne2 (by omega))))); first | (with_reducible assumption) | exact rfl | assumption); exact rfl)
              | with_reducible refine Ev.b (f_hb _ _ _ _) ?_
              | with_reducible refine Ev.b (f_sg _ _ _) ?_
              | with_reducible refine Ev.b (f_hb8 _ _ _ _) ?_
              | with_reducible refine Ev.b (f_sg8 _ _ _) ?_)
          refine Ev.b hk ?_
          have hwho : f_X0_byteAt g (ad 41 e) (zI (4 + 6 * j) + 1) = some (zI (u8 (bf bs) (5 + 6 * j))) := by
            rw [L1, zI_add, show 4 + 6 * j + 1 = 5 + 6 * j by omega]
            exact byt_ok hP hb (by omega)
          refine Ev.b hwho (Ev.b hk ?_)
          refine Ev.b (num_eq hP hb (x := zI (4 + 6 * j) + 2) (y := 4) (a := 6 + 6 * j) (m := 4) (by rw [L2, zI_add, show 4 + 6 * j + 2 = 6 + 6 * j by omega]) rfl (by omega)) ?_
          obtain ⟨l0, fk, fw, fv, fh, ⟨e0, e1, e2, e3, e4⟩, w1, w2, w3, w4⟩ := id hL
          repeat (first
              | ((with_reducible apply E_gi); ((repeat (first | (with_reducible refine (va_up_self _ _ _).trans ?_) | ((with_reducible refine (va_up_ne _ _ ?_).trans ?_); (first | exact ne1 (by decide) | exact ne2 (by omega))))); first | (with_reducible assumption) | exact rfl | assumption); exact rfl)
              | ((with_reducible apply E_gl); ((repeat (first | (with_reducible refine (va_up_self _ _ _).trans ?_) | ((with_reducible refine (va_up_ne _ _ ?_).trans ?_); (first | exact ne1 (by decide) | exact ne2 (by omega))))); first | (with_reducible assumption) | exact rfl | assumption); exact rfl)
              | ((with_reducible apply E_gr); ((repeat (first | (with_reducible refine (va_up_self _ _ _).trans ?_) | ((with_reducible refine (va_up_ne _ _ ?_).trans ?_); (first | exact ne1 (by decide) | exact ne2 (by omega))))); first | (with_reducible assumption) | exact rfl | assumption); exact rfl)
              | ((with_reducible apply E_k); ((repeat (first | (with_reducible refine (va_up_self _ _ _).trans ?_) | ((with_reducible refine (va_up_ne _ _ ?_).trans ?_); (first | exact ne1 (by decide) | exact ne2 (by omega))))); first | (with_reducible assumption) | exact rfl | assumption))
              | ((with_reducible apply E_ai); ((repeat (first | (with_reducible refine (va_up_self _ _ _).trans ?_) | ((with_reducible refine (va_up_ne _ _ ?_).trans ?_); (first | exact ne1 (by decide) | exact ne2 (by omega))))); first | (with_reducible assumption) | exact rfl | assumption); (first | (with_reducible rfl) | (simp (disch := omega) only [zI_add, zI_mul, zI_sub, L0, L1, L2, L3, L4, L5, L6, L7, L8, L10, L12, L18, L31, L36, L40, L127, L148, L150, L151, L200, L255, L300, L600, L906, L930, L940]; with_reducible rfl)); omega; exact (by decide))
              | ((with_reducible apply E_al); ((repeat (first | (with_reducible refine (va_up_self _ _ _).trans ?_) | ((with_reducible refine (va_up_ne _ _ ?_).trans ?_); (first | exact ne1 (by decide) | exact ne2 (by omega))))); first | (with_reducible assumption) | exact rfl | assumption); (first | (with_reducible rfl) | (simp (disch := omega) only [zI_add, zI_mul, zI_sub, L0, L1, L2, L3, L4, L5, L6, L7, L8, L10, L12, L18, L31, L36, L40, L127, L148, L150, L151, L200, L255, L300, L600, L906, L930, L940]; with_reducible rfl)); omega; exact (by decide))
              | ((with_reducible apply E_si1); ((repeat (first | (with_reducible refine (va_up_self _ _ _).trans ?_) | ((with_reducible refine (va_up_ne _ _ ?_).trans ?_); (first | exact ne1 (by decide) | exact ne2 (by omega))))); first | (with_reducible assumption) | exact rfl | assumption); (first | (with_reducible rfl) | (simp (disch := omega) only [zI_add, zI_mul, zI_sub, L0, L1, L2, L3, L4, L5, L6, L7, L8, L10, L12, L18, L31, L36, L40, L127, L148, L150, L151, L200, L255, L300, L600, L906, L930, L940]; with_reducible rfl)); omega; exact (by decide))
              | ((with_reducible apply E_sl); ((repeat (first | (with_reducible refine (va_up_self _ _ _).trans ?_) | ((with_reducible refine (va_up_ne _ _ ?_).trans ?_); (first | exact ne1 (by decide) | exact ne2 (by omega))))); first | (with_reducible assumption) | exact rfl | assumption); (first | (with_reducible rfl) | (simp (disch := omega) only [zI_add, zI_mul, zI_sub, L0, L1, L2, L3, L4, L5, L6, L7, L8, L10, L12, L18, L31, L36, L40, L127, L148, L150, L151, L200, L255, L300, L600, L906, L930, L940]; with_reducible rfl)); omega; exact (by decide))
              | ((with_reducible apply E_pi); ((repeat (first | (with_reducible refine (va_up_self _ _ _).trans ?_) | ((with_reducible refine (va_up_ne _ _ ?_).trans ?_); (first | exact ne1 (by decide) | exact ne2 (by omega))))); first | (with_reducible assumption) | exact rfl | assumption); exact Nat.le_of_ble_eq_true rfl; simp only [List.set_cons_zero, List.set_cons_succ]; exact rfl)
              | ((with_reducible apply E_pl); ((repeat (first | (with_reducible refine (va_up_self _ _ _).trans ?_) | ((with_reducible refine (va_up_ne _ _ ?_).trans ?_); (first | exact ne1 (by decide) | exact ne2 (by omega))))); first | (with_reducible assumption) | exact rfl | assumption); exact Nat.le_of_ble_eq_true rfl; simp only [List.set_cons_zero, List.set_cons_succ]; exact rfl)
              | ((with_reducible apply E_pr); ((repeat (first | (with_reducible refine (va_up_self _ _ _).trans ?_) | ((with_reducible refine (va_up_ne _ _ ?_).trans ?_); (first | exact ne1 (by decide) | exact ne2 (by omega))))); first | (with_reducible assumption) | exact rfl | assumption); exact Nat.le_of_ble_eq_true rfl; simp only [List.set_cons_zero, List.set_cons_succ]; exact rfl)
              | ((with_reducible apply E_pz); (first | exact Or.inl rfl | exact Or.inr rfl | exact b2_01 _ | assumption); ((repeat (first | (with_reducible refine (va_up_self _ _ _).trans ?_) | ((with_reducible refine (va_up_ne _ _ ?_).trans ?_); (first | exact ne1 (by decide) | exact ne2 (by omega))))); first | (with_reducible assumption) | exact rfl | assumption); exact Nat.le_of_ble_eq_true rfl; simp only [List.set_cons_zero, List.set_cons_succ]; exact rfl)
              | ((with_reducible apply E_si); ((repeat (first | (with_reducible refine (va_up_self _ _ _).trans ?_) | ((with_reducible refine (va_up_ne _ _ ?_).trans ?_); (first | exact ne1 (by decide) | exact ne2 (by omega))))); first | (with_reducible assumption) | exact rfl | assumption); (first | (with_reducible rfl) | (simp (disch := omega) only [zI_add, zI_mul, zI_sub, L0, L1, L2, L3, L4, L5, L6, L7, L8, L10, L12, L18, L31, L36, L40, L127, L148, L150, L151, L200, L255, L300, L600, L906, L930, L940]; with_reducible rfl)); omega; exact (by decide))
              | ((with_reducible apply E_ar); ((repeat (first | (with_reducible refine (va_up_self _ _ _).trans ?_) | ((with_reducible refine (va_up_ne _ _ ?_).trans ?_); (first | exact ne1 (by decide) | exact ne2 (by omega))))); first | (with_reducible assumption) | exact rfl | assumption); (first | (with_reducible rfl) | (simp (disch := omega) only [zI_add, zI_mul, zI_sub, L0, L1, L2, L3, L4, L5, L6, L7, L8, L10, L12, L18, L31, L36, L40, L127, L148, L150, L151, L200, L255, L300, L600, L906, L930, L940]; with_reducible rfl)); omega; exact (by decide); (first | assumption | exact rfl))
              | ((with_reducible apply E_sr); ((repeat (first | (with_reducible refine (va_up_self _ _ _).trans ?_) | ((with_reducible refine (va_up_ne _ _ ?_).trans ?_); (first | exact ne1 (by decide) | exact ne2 (by omega))))); first | (with_reducible assumption) | exact rfl | assumption); ((repeat (first | (with_reducible refine (va_up_self _ _ _).trans ?_) | ((with_reducible refine (va_up_ne _ _ ?_).trans ?_); (first | exact ne1 (by decide) | exact ne2 (by omega))))); first | (with_reducible assumption) | exact rfl | assumption); (first | (with_reducible rfl) | (simp (disch := omega) only [zI_add, zI_mul, zI_sub, L0, L1, L2, L3, L4, L5, L6, L7, L8, L10, L12, L18, L31, L36, L40, L127, L148, L150, L151, L200, L255, L300, L600, L906, L930, L940]; with_reducible rfl)); omega; exact (by decide))
              | ((with_reducible apply E_n); ((repeat (first | (with_reducible refine (va_up_self _ _ _).trans ?_) | ((with_reducible refine (va_up_ne _ _ ?_).trans ?_); (first | exact ne1 (by decide) | exact ne2 (by omega))))); first | (with_reducible assumption) | exact rfl | assumption))
              | ((with_reducible apply E_nz); (first | assumption | (simp (disch := omega) only [zI_add, zI_mul, zI_sub, L0, L1, L2, L3, L4, L5, L6, L7, L8, L10, L12, L18, L31, L36, L40, L127, L148, L150, L151, L200, L255, L300, L600, L906, L930, L940, zI_eq]; omega)))
              | ((with_reducible apply E_z); (first | exact Or.inl rfl | exact Or.inr rfl | exact b2_01 _ | assumption))
              | ((with_reducible apply E_room); ((repeat (first | (with_reducible refine (va_up_self _ _ _).trans ?_) | ((with_reducible refine (va_up_ne _ _ ?_).trans ?_); (first | exact ne1 (by decide) | exact ne2 (by omega))))); first | (with_reducible assumption) | exact rfl | assumption); exact rfl; omega)
              | ((with_reducible apply E_addl); ((repeat (first | (with_reducible refine (va_up_self _ _ _).trans ?_) | ((with_reducible refine (va_up_ne _ _ ?_).trans ?_); (first | exact ne1 (by decide) | exact ne2 (by omega))))); first | (with_reducible assumption) | exact rfl | assumption); exact rfl; ((repeat (first | (with_reducible refine (va_up_self _ _ _).trans ?_) | ((with_reducible refine (va_up_ne _ _ ?_).trans ?_); (first | exact ne1 (by decide) | exact ne2 (by omega))))); first | (with_reducible assumption) | exact rfl | assumption); exact ne1 (by decide); omega; (first | assumption | exact rfl))
              | ((with_reducible apply E_adr); ((repeat (first | (with_reducible refine (va_up_self _ _ _).trans ?_) | ((with_reducible refine (va_up_ne _ _ ?_).trans ?_); (first | exact ne1 (by decide) | exact ne2 (by omega))))); first | (with_reducible assumption) | exact rfl | assumption); exact rfl)
              | ((with_reducible apply E_seal); ((repeat (first | (with_reducible refine (va_up_self _ _ _).trans ?_) | ((with_reducible refine (va_up_ne _ _ ?_).trans ?_); (first | exact ne1 (by decide) | exact ne2 (by omega))))); first | (with_reducible assumption) | exact rfl | assumption); exact rfl)
              | with_reducible refine Ev.b (f_hb _ _ _ _) ?_
              | with_reducible refine Ev.b (f_sg _ _ _) ?_
              | with_reducible refine Ev.b (f_hb8 _ _ _ _) ?_
              | with_reducible refine Ev.b (f_sg8 _ _ _) ?_)
          refine Ev.c (app_ok hI hL (by omega) _ (u8 (bf bs) (5 + 6 * j)) _) (fun g1 z => ?_)
          obtain ⟨z1, M1⟩ := z
          rw [L6, L1, zI_add, zI_add, show 4 + 6 * j + 6 = 4 + 6 * (j + 1) by omega]
          refine (ih (j + 1) g1 _ (hT0.fr (by (refine Md.at (S := [12,16,17,18,19]) (i := 6) (T := []) ?_ (by decide) (by first | exact Or.inr (by decide) | exact Or.inl (by omega)); (repeat (first | (with_reducible exact Md.rf) | (refine Md.w1 hI (by decide) ?_) | (refine Md.w2 hI (by decide) ?_) | (refine Md.tr ?_ (Md.up M1 (by decide) (by decide))) | (refine Md.tr ?_ (Md.up0 M1 (by decide)))))))) (hP.fr (Md.at M1 (by decide) (Or.inr (by decide)))) z1 (by rw [len_snoc, hpl]) (by omega) (by omega)).m (fun r y => ⟨M1.tr y.1, ?_⟩)
          have y2 := y.2
          revert y2
          cases rdE (bf bs) (c - (j + 1)) (j + 1) with
          | none => exact fun z => z
          | some l =>
            intro z
            refine ⟨z.1, ?_⟩
            have z2 := z.2
            rw [List.append_assoc, List.singleton_append] at z2
            exact z2
        · rw [L3, zI_le (by omega) (by omega)] at q2
          rw [if_neg (by omega)]
          exact Ev.s ⟨Md.rf, rfl, _, hL⟩
theorem LogR.zero (hI : Inj ad) {l : List E3} (h : LogR ad g 6 l) : LogR ad (va_up g (ad 12 6) (.inr (3, [.int 0, .ref (ad 16 6), .ref (ad 17 6), .ref (ad 18 6), .ref (ad 19 6)]))) 6 [] := by
  have ne1 : ∀ {s i s' i' : Nat}, s ≠ s' → ad s i ≠ ad s' i' := hI.n1
  have ne2 : ∀ {s i i' : Nat}, i ≠ i' → ad s i ≠ ad s i' := hI.n2
  obtain ⟨l0, fk, fw, fv, fh, ⟨e0, e1, e2, e3, e4⟩, w1, w2, w3, w4⟩ := h
  refine ⟨by decide, fk, fw, fv, fh, ⟨?_, ?_, ?_, ?_, ?_⟩, fun k hk => absurd hk (Nat.not_lt_zero k), fun k hk => absurd hk (Nat.not_lt_zero k), fun k hk => absurd hk (Nat.not_lt_zero k), fun k hk => ?_⟩
  · ((repeat (first | (with_reducible refine (va_up_self _ _ _).trans ?_) | ((with_reducible refine (va_up_ne _ _ ?_).trans ?_); (first | exact ne1 (by decide) | exact ne2 (by omega))))); first | (with_reducible assumption) | exact rfl | assumption)
  · ((repeat (first | (with_reducible refine (va_up_self _ _ _).trans ?_) | ((with_reducible refine (va_up_ne _ _ ?_).trans ?_); (first | exact ne1 (by decide) | exact ne2 (by omega))))); first | (with_reducible assumption) | exact rfl | assumption)
  · ((repeat (first | (with_reducible refine (va_up_self _ _ _).trans ?_) | ((with_reducible refine (va_up_ne _ _ ?_).trans ?_); (first | exact ne1 (by decide) | exact ne2 (by omega))))); first | (with_reducible assumption) | exact rfl | assumption)
  · ((repeat (first | (with_reducible refine (va_up_self _ _ _).trans ?_) | ((with_reducible refine (va_up_ne _ _ ?_).trans ?_); (first | exact ne1 (by decide) | exact ne2 (by omega))))); first | (with_reducible assumption) | exact rfl | assumption)
  · ((repeat (first | (with_reducible refine (va_up_self _ _ _).trans ?_) | ((with_reducible refine (va_up_ne _ _ ?_).trans ?_); (first | exact ne1 (by decide) | exact ne2 (by omega))))); first | (with_reducible assumption) | exact rfl | assumption)
  · have hk0 : k = 0 := Nat.le_zero.mp hk
    subst hk0
    exact (w4 0 (Nat.zero_le _)).trans rfl
theorem rde_ok (hI : Inj ad) {n ev : Nat} (hb : bs.length ≤ 930) (hc : 12 + 6 * u16 (bf bs) 2 ≤ bs.length) (hc2 : u16 (bf bs) 2 ≤ 150) (hT : TopR ad g n ev) (hP : PieR ad g e bs) (hL : ∃ l, LogR ad g 6 l) :
    Ev (f_X7_readEntries g (ad 1 0) (ad 41 e)) (fun r => Md ad [12, 16, 17, 18, 19] 6 [] g r.2 ∧ match rdE (bf bs) (u16 (bf bs) 2) 0 with
      | none => r.1 = 0 ∧ ∃ l, LogR ad r.2 6 l
      | some l => r.1 = 1 ∧ LogR ad r.2 6 l) := by
  have ne1 : ∀ {s i s' i' : Nat}, s ≠ s' → ad s i ≠ ad s' i' := hI.n1
  have ne2 : ∀ {s i i' : Nat}, i ≠ i' → ad s i ≠ ad s i' := hI.n2
  obtain ⟨l, hL⟩ := hL
  have hT0 := hT
  obtain ⟨hT, -⟩ := hT
  have hk := r_k hP.choose_spec.1
  have hz := hL.zero hI
  obtain ⟨l0, fk, fw, fv, fh, ⟨e0, e1, e2, e3, e4⟩, -⟩ := hL
  unfold f_X7_readEntries
  refine Ev.b hk (Ev.b (num_eq hP hb (x := 2) (y := 2) (a := 2) (m := 2) rfl rfl (by omega)) ?_)
  repeat (first
      | ((with_reducible apply E_gi); ((repeat (first | (with_reducible refine (va_up_self _ _ _).trans ?_) | ((with_reducible refine (va_up_ne _ _ ?_).trans ?_); (first | exact ne1 (by decide) | exact ne2 (by omega))))); first | (with_reducible assumption) | exact rfl | assumption); exact rfl)
      | ((with_reducible apply E_gl); ((repeat (first | (with_reducible refine (va_up_self _ _ _).trans ?_) | ((with_reducible refine (va_up_ne _ _ ?_).trans ?_); (first | exact ne1 (by decide) | exact ne2 (by omega))))); first | (with_reducible assumption) | exact rfl | assumption); exact rfl)
      | ((with_reducible apply E_gr); ((repeat (first | (with_reducible refine (va_up_self _ _ _).trans ?_) | ((with_reducible refine (va_up_ne _ _ ?_).trans ?_); (first | exact ne1 (by decide) | exact ne2 (by omega))))); first | (with_reducible assumption) | exact rfl | assumption); exact rfl)
      | ((with_reducible apply E_k); ((repeat (first | (with_reducible refine (va_up_self _ _ _).trans ?_) | ((with_reducible refine (va_up_ne _ _ ?_).trans ?_); (first | exact ne1 (by decide) | exact ne2 (by omega))))); first | (with_reducible assumption) | exact rfl | assumption))
      | ((with_reducible apply E_ai); ((repeat (first | (with_reducible refine (va_up_self _ _ _).trans ?_) | ((with_reducible refine (va_up_ne _ _ ?_).trans ?_); (first | exact ne1 (by decide) | exact ne2 (by omega))))); first | (with_reducible assumption) | exact rfl | assumption); (first | (with_reducible rfl) | (simp (disch := omega) only [zI_add, zI_mul, zI_sub, L0, L1, L2, L3, L4, L5, L6, L7, L8, L10, L12, L18, L31, L36, L40, L127, L148, L150, L151, L200, L255, L300, L600, L906, L930, L940]; with_reducible rfl)); omega; exact (by decide))
      | ((with_reducible apply E_al); ((repeat (first | (with_reducible refine (va_up_self _ _ _).trans ?_) | ((with_reducible refine (va_up_ne _ _ ?_).trans ?_); (first | exact ne1 (by decide) | exact ne2 (by omega))))); first | (with_reducible assumption) | exact rfl | assumption); (first | (with_reducible rfl) | (simp (disch := omega) only [zI_add, zI_mul, zI_sub, L0, L1, L2, L3, L4, L5, L6, L7, L8, L10, L12, L18, L31, L36, L40, L127, L148, L150, L151, L200, L255, L300, L600, L906, L930, L940]; with_reducible rfl)); omega; exact (by decide))
      | ((with_reducible apply E_si1); ((repeat (first | (with_reducible refine (va_up_self _ _ _).trans ?_) | ((with_reducible refine (va_up_ne _ _ ?_).trans ?_); (first | exact ne1 (by decide) | exact ne2 (by omega))))); first | (with_reducible assumption) | exact rfl | assumption); (first | (with_reducible rfl) | (simp (disch := omega) only [zI_add, zI_mul, zI_sub, L0, L1, L2, L3, L4, L5, L6, L7, L8, L10, L12, L18, L31, L36, L40, L127, L148, L150, L151, L200, L255, L300, L600, L906, L930, L940]; with_reducible rfl)); omega; exact (by decide))
      | ((with_reducible apply E_sl); ((repeat (first | (with_reducible refine (va_up_self _ _ _).trans ?_) | ((with_reducible refine (va_up_ne _ _ ?_).trans ?_); (first | exact ne1 (by decide) | exact ne2 (by omega))))); first | (with_reducible assumption) | exact rfl | assumption); (first | (with_reducible rfl) | (simp (disch := omega) only [zI_add, zI_mul, zI_sub, L0, L1, L2, L3, L4, L5, L6, L7, L8, L10, L12, L18, L31, L36, L40, L127, L148, L150, L151, L200, L255, L300, L600, L906, L930, L940]; with_reducible rfl)); omega; exact (by decide))
      | ((with_reducible apply E_pi); ((repeat (first | (with_reducible refine (va_up_self _ _ _).trans ?_) | ((with_reducible refine (va_up_ne _ _ ?_).trans ?_); (first | exact ne1 (by decide) | exact ne2 (by omega))))); first | (with_reducible assumption) | exact rfl | assumption); exact Nat.le_of_ble_eq_true rfl; simp only [List.set_cons_zero, List.set_cons_succ]; exact rfl)
      | ((with_reducible apply E_pl); ((repeat (first | (with_reducible refine (va_up_self _ _ _).trans ?_) | ((with_reducible refine (va_up_ne _ _ ?_).trans ?_); (first | exact ne1 (by decide) | exact ne2 (by omega))))); first | (with_reducible assumption) | exact rfl | assumption); exact Nat.le_of_ble_eq_true rfl; simp only [List.set_cons_zero, List.set_cons_succ]; exact rfl)
      | ((with_reducible apply E_pr); ((repeat (first | (with_reducible refine (va_up_self _ _ _).trans ?_) | ((with_reducible refine (va_up_ne _ _ ?_).trans ?_); (first | exact ne1 (by decide) | exact ne2 (by omega))))); first | (with_reducible assumption) | exact rfl | assumption); exact Nat.le_of_ble_eq_true rfl; simp only [List.set_cons_zero, List.set_cons_succ]; exact rfl)
      | ((with_reducible apply E_pz); (first | exact Or.inl rfl | exact Or.inr rfl | exact b2_01 _ | assumption); ((repeat (first | (with_reducible refine (va_up_self _ _ _).trans ?_) | ((with_reducible refine (va_up_ne _ _ ?_).trans ?_); (first | exact ne1 (by decide) | exact ne2 (by omega))))); first | (with_reducible assumption) | exact rfl | assumption); exact Nat.le_of_ble_eq_true rfl; simp only [List.set_cons_zero, List.set_cons_succ]; exact rfl)
      | ((with_reducible apply E_si); ((repeat (first | (with_reducible refine (va_up_self _ _ _).trans ?_) | ((with_reducible refine (va_up_ne _ _ ?_).trans ?_); (first | exact ne1 (by decide) | exact ne2 (by omega))))); first | (with_reducible assumption) | exact rfl | assumption); (first | (with_reducible rfl) | (simp (disch := omega) only [zI_add, zI_mul, zI_sub, L0, L1, L2, L3, L4, L5, L6, L7, L8, L10, L12, L18, L31, L36, L40, L127, L148, L150, L151, L200, L255, L300, L600, L906, L930, L940]; with_reducible rfl)); omega; exact (by decide))
      | ((with_reducible apply E_ar); ((repeat (first | (with_reducible refine (va_up_self _ _ _).trans ?_) | ((with_reducible refine (va_up_ne _ _ ?_).trans ?_); (first | exact ne1 (by decide) | exact ne2 (by omega))))); first | (with_reducible assumption) | exact rfl | assumption); (first | (with_reducible rfl) | (simp (disch := omega) only [zI_add, zI_mul, zI_sub, L0, L1, L2, L3, L4, L5, L6, L7, L8, L10, L12, L18, L31, L36, L40, L127, L148, L150, L151, L200, L255, L300, L600, L906, L930, L940]; with_reducible rfl)); omega; exact (by decide); (first | assumption | exact rfl))
      | ((with_reducible apply E_sr); ((repeat (first | (with_reducible refine (va_up_self _ _ _).trans ?_) | ((with_reducible refine (va_up_ne _ _ ?_).trans ?_); (first | exact ne1 (by decide) | exact ne2 (by omega))))); first | (with_reducible assumption) | exact rfl | assumption); ((repeat (first | (with_reducible refine (va_up_self _ _ _).trans ?_) | ((with_reducible refine (va_up_ne _ _ ?_).trans ?_); (first | exact ne1 (by decide) | exact ne2 (by omega))))); first | (with_reducible assumption) | exact rfl | assumption); (first | (with_reducible rfl) | (simp (disch := omega) only [zI_add, zI_mul, zI_sub, L0, L1, L2, L3, L4, L5, L6, L7, L8, L10, L12, L18, L31, L36, L40, L127, L148, L150, L151, L200, L255, L300, L600, L906, L930, L940]; with_reducible rfl)); omega; exact (by decide))
      | ((with_reducible apply E_n); ((repeat (first | (with_reducible refine (va_up_self _ _ _).trans ?_) | ((with_reducible refine (va_up_ne _ _ ?_).trans ?_); (first | exact ne1 (by decide) | exact ne2 (by omega))))); first | (with_reducible assumption) | exact rfl | assumption))
      | ((with_reducible apply E_nz); (first | assumption | (simp (disch := omega) only [zI_add, zI_mul, zI_sub, L0, L1, L2, L3, L4, L5, L6, L7, L8, L10, L12, L18, L31, L36, L40, L127, L148, L150, L151, L200, L255, L300, L600, L906, L930, L940, zI_eq]; omega)))
      | ((with_reducible apply E_z); (first | exact Or.inl rfl | exact Or.inr rfl | exact b2_01 _ | assumption))
      | ((with_reducible apply E_room); ((repeat (first | (with_reducible refine (va_up_self _ _ _).trans ?_) | ((with_reducible refine (va_up_ne _ _ ?_).trans ?_); (first | exact ne1 (by decide) | exact ne2 (by omega))))); first | (with_reducible assumption) | exact rfl | assumption); exact rfl; omega)
      | ((with_reducible apply E_addl); ((repeat (first | (with_reducible refine (va_up_self _ _ _).trans ?_) | ((with_reducible refine (va_up_ne _ _ ?_).trans ?_); (first | exact ne1 (by decide) | exact ne2 (by omega))))); first | (with_reducible assumption) | exact rfl | assumption); exact rfl; ((repeat (first | (with_reducible refine (va_up_self _ _ _).trans ?_) | ((with_reducible refine (va_up_ne _ _ ?_).trans ?_); (first | exact ne1 (by decide) | exact ne2 (by omega))))); first | (with_reducible assumption) | exact rfl | assumption); exact ne1 (by decide); omega; (first | assumption | exact rfl))
      | ((with_reducible apply E_adr); ((repeat (first | (with_reducible refine (va_up_self _ _ _).trans ?_) | ((with_reducible refine (va_up_ne _ _ ?_).trans ?_); (first | exact ne1 (by decide) | exact ne2 (by omega))))); first | (with_reducible assumption) | exact rfl | assumption); exact rfl)
      | ((with_reducible apply E_seal); ((repeat (first | (with_reducible refine (va_up_self _ _ _).trans ?_) | ((with_reducible refine (va_up_ne _ _ ?_).trans ?_); (first | exact ne1 (by decide) | exact ne2 (by omega))))); first | (with_reducible assumption) | exact rfl | assumption); exact rfl)
      | with_reducible refine Ev.b (f_hb _ _ _ _) ?_
      | with_reducible refine Ev.b (f_sg _ _ _) ?_
      | with_reducible refine Ev.b (f_hb8 _ _ _ _) ?_
      | with_reducible refine Ev.b (f_sg8 _ _ _) ?_)
  rw [rd16, zJ_to]
  have M : Md ad [12, 16, 17, 18, 19] 6 [] g (va_up g (ad 12 6) (.inr (3, [.int 0, .ref (ad 16 6), .ref (ad 17 6), .ref (ad 18 6), .ref (ad 19 6)]))) := by ((repeat (first | (with_reducible exact Md.rf) | (refine Md.w1 hI (by decide) ?_) | (refine Md.w2 hI (by decide) ?_))))
  refine (rde_loop hI hb hc hc2 xFU 0 _ [] (hT0.fr (Md.at M (by decide) (Or.inr (by decide)))) (hP.fr (Md.at M (by decide) (Or.inr (by decide)))) hz rfl (Nat.zero_le _) (by rw [xFU_eq]; omega)).m (fun r y => ⟨M.tr y.1, ?_⟩)
  have y2 := y.2
  rw [Nat.sub_zero] at y2
  revert y2
  cases rdE (bf bs) (u16 (bf bs) 2) 0 <;> exact fun z => z
end PROVE
