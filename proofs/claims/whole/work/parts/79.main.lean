section TOP
variable {ad ad1 : Nat → Nat → Nat} {L : List Nat} {g g1 : xG} {t i : Nat} {lp : Nat → Nat}
def Pn (s j : Nat) : Prop := ((s = 3 ∨ s = 4) ∧ j = 0) ∨ (s = 40 ∧ j ≤ 200)
theorem PoR.t3 {p : List M7} {se : Int32} (h : PoR ad g lp p se) (a : ∀ s j, Pn s j → ad1 s j = ad s j) (q : ∀ s j, Pn s j → g1 (ad1 s j) = g (ad s j)) : PoR ad1 g1 lp p se := by
  obtain ⟨p0, p1, ⟨pf, p2, p3⟩, p4, p5, p6⟩ := h
  have a40 : ∀ j, j ≤ 200 → ad1 40 (lp j) = ad 40 (lp j) := fun j hj => a 40 _ (Or.inr ⟨rfl, (p4 j j hj hj rfl).2⟩)
  have q40 : ∀ j, j ≤ 200 → g1 (ad1 40 (lp j)) = g (ad 40 (lp j)) := fun j hj => q 40 _ (Or.inr ⟨rfl, (p4 j j hj hj rfl).2⟩)
  refine ⟨p0, ?_, ⟨pf, ?_, fun j hj => ?_⟩, p4, fun j hj => ?_, fun j hj => ?_⟩
  · rw [q 3 0 (Or.inl ⟨Or.inl rfl, rfl⟩), a 4 0 (Or.inl ⟨Or.inr rfl, rfl⟩), a40 200 (Nat.le_refl _)]
    exact p1
  · rw [q 4 0 (Or.inl ⟨Or.inr rfl, rfl⟩)]
    exact p2
  · rw [a40 j (by omega)]
    exact p3 j hj
  · obtain ⟨k, f, t, v, n, h, x, e⟩ := p5 j hj
    exact ⟨k, f, t, v, n, h, x, (q40 j hj).trans e⟩
  · obtain ⟨e1, e2, e3, v, e4, e5⟩ := p6 j hj
    exact ⟨e1, e2, e3, v, (q40 j (by omega)).trans e4, e5⟩
def Ui (i s j : Nat) : Prop := (1 ≤ s ∧ s ≤ 5 ∧ j = 0) ∨ (s = 40 ∧ j ≤ 200) ∨ (11 ≤ s ∧ s ≤ 12 ∧ j = 6) ∨ (16 ≤ s ∧ s ≤ 19 ∧ j = 6) ∨ (10 ≤ s ∧ s ≤ 23 ∧ j < i)
def Bs (ad : Nat → Nat → Nat) (g : xG) (t i : Nat) : Prop := g (ad 1 0) = .inr (8, [.int (zI 0), .ref (ad 2 0), .ref (ad 3 0), .ref (ad 5 0), .int (zI 0), .ref (ad 11 6), .ref (ad 12 6)]) ∧ PoR ad g (fun j => j) [] 0 ∧ g (ad 5 0) = .inr (0, [.int 0, .ref t, .int 0]) ∧ MaX ad g 6 ∧ LogR ad g 6 [] ∧ ∀ k, k < i → NodW ad g k
theorem Bs.tr1 (h : Bs ad g t i) (a : ∀ s j, Ui i s j → ad1 s j = ad s j) (q : ∀ s j, Ui i s j → s ≠ 2 → g1 (ad1 s j) = g (ad s j)) : Bs ad1 g1 t i := by
  obtain ⟨h1, h2, h3, h4, h5, h6⟩ := h
  have hp : ∀ s j, Pn s j → Ui i s j ∧ s ≠ 2 := fun s j z => by
    unfold Pn at z
    unfold Ui
    omega
  refine ⟨?_, h2.t3 (fun s j z => a s j (hp s j z).1) (fun s j z => q s j (hp s j z).1 (hp s j z).2), ?_, ?_, ?_, fun k hk => ?_⟩
  · rw [q 1 0 (by unfold Ui; omega) (by decide), a 2 0 (by unfold Ui; omega), a 3 0 (by unfold Ui; omega), a 5 0 (by unfold Ui; omega), a 11 6 (by unfold Ui; omega), a 12 6 (by unfold Ui; omega)]
    exact h1
  · rw [q 5 0 (by unfold Ui; omega) (by decide)]
    exact h3
  · obtain ⟨o, n, x, y, r, u, v, e⟩ := h4
    refine ⟨o, n, x, y, r, u, v, ?_⟩
    unfold MaR at e ⊢
    rw [q 11 6 (by unfold Ui; omega) (by decide)]
    exact e
  · have hlo : ∀ s, s ∈ [12, 16, 17, 18, 19] → Ui i s 6 ∧ s ≠ 2 := fun s z => by
      simp only [List.mem_cons, List.not_mem_nil, or_false] at z
      unfold Ui
      omega
    exact h5.t (fun s z => a s 6 (hlo s z).1) (fun s z => q s 6 (hlo s z).1 (hlo s z).2)
  · have hno : ∀ s, s ∈ [10, 11, 12, 13, 14, 15, 16, 17, 18, 19, 20, 21, 22, 23] → Ui i s k ∧ s ≠ 2 := fun s z => by
      simp only [List.mem_cons, List.not_mem_nil, or_false] at z
      unfold Ui
      omega
    exact (h6 k hk).t (fun s z => a s k (hno s z).1) (fun s z => q s k (hno s z).1 (hno s z).2)
theorem nds_loop {P : List Nat → xG → Prop} : ∀ (n i : Nat) (ad : Nat → Nat → Nat) (L : List Nat) (g : xG) (f : Nat → Option Nat), i ≤ 6 → 7 ≤ n + i → Inj ad → (∀ s j, Ui i s j → ad s j ∈ L) → Bs ad g t i → g (ad 2 0) = .inl (5, 6, .inr (.inr (.inr (.inr f)))) → (∀ k, k < i → f k = some (ad 10 k)) →
    (∀ (ad1 : Nat → Nat → Nat) (L1 : List Nat) (g1 : xG), Inj ad1 → ad1 1 0 = ad 1 0 → (∀ s j, Ui 6 s j → ad1 s j ∈ L1) → CI ad1 g1 (fun j => j) t 0 (s0 3) → P L1 g1) →
    w_X7_init_59 t P n L g (ad 1 0) (zI i) := by
  intro n
  induction n with
  | zero => intro i ad L g f h1 h2; omega
  | succ n IH =>
    intro i ad L g f h1 h2 hI hA hB hr hf cont
    rw [w_X7_init_59]
    refine ite_e (fun q => ?_) (fun q => ?_)
    · rw [L6, zI_le (by omega) (by omega)] at q
      have : i = 6 := by omega
      subst this
      obtain ⟨b1, b2', b3, b4, b5, b6⟩ := hB
      obtain ⟨g3, e3, z1, z2, z3, z4⟩ := sw_ok hI 3 (n0 := 0) (ev := 0) ⟨b1, f, hr, hf⟩ b6 b2'
      refine ⟨(), r_k b1, g3, e3, cont ad L g3 hI rfl hA ?_⟩
      exact CI.start (by decide) (by decide) (pc := []) ⟨Nat.le_refl _, by decide, ⟨0, t, b3, Or.inl ⟨rfl, rfl⟩⟩, fun j hj => absurd hj (Nat.not_lt_zero j), fun j hj => absurd hj (Nat.not_lt_zero j)⟩ b4 ⟨[], b5⟩ z1 z2 z3 z4
    · rw [L6, zI_le (by omega) (by omega)] at q
      have b1 := hB.1
      refine ⟨_, r_gr b1 rfl, ?_⟩
      refine new_ok (U := Ui i) hI hA 10 i (by unfold Ui; omega) (fun ad1 L1 g1 m1 m2 m3 m4 m5 => ?_)
      refine nod_new (U := fun s j => Ui i s j ∨ (s = 10 ∧ j = i)) m1 m3 (Or.inr ⟨rfl, rfl⟩) m4 (fun s z1 z2 z => ?_) (fun ad2 L2 g2 n1 n2 n3 n4 n5 => ?_)
      · unfold Ui at z
        omega
      · have u1 : Ui i 1 0 := by unfold Ui; omega
        have u2 : Ui i 2 0 := by unfold Ui; omega
        have a2 : ∀ s j, Ui i s j → ad2 s j = ad s j := fun s j z => (n2 s j (Or.inl z)).trans (m2 s j z)
        have ne10 : ∀ s j, Ui i s j → s ≠ 10 ∨ j ≠ i := fun s j z => by
          unfold Ui at z
          omega
        have fr2 : ∀ s j, Ui i s j → g2 (ad2 s j) = g (ad s j) := fun s j z => (n5 s j (Or.inl z) (ne10 s j z)).trans (m5 s j z)
        have r2 : g2 (ad2 2 0) = .inl (5, 6, .inr (.inr (.inr (.inr f)))) := (fr2 2 0 u2).trans hr
        obtain ⟨⟨cc, hh, hno⟩, -⟩ := id n4
        unfold NoR at hno
        rw [← n2 10 i (Or.inr ⟨rfl, rfl⟩), ← a2 2 0 u2, ← a2 1 0 u1]
        refine ⟨_, r_sr r2 hno rfl (by omega) (by decide), ?_⟩
        have hv : zI i + 1 = zI (i + 1) := by rw [show (1 : Int32) = zI 1 from rfl, zI_add]
        rw [hv]
        have fr : ∀ {s j : Nat} {E : va_E}, s ≠ 2 → va_up g2 (ad2 2 0) E (ad2 s j) = g2 (ad2 s j) := fun z => va_up_ne _ _ (n1.n1 z)
        refine IH (i + 1) ad2 L2 _ (va_up f i (some (ad2 10 i))) (by omega) (by omega) n1 (fun s j z => n3 s j ?_) ?_ (va_up_self _ _ _) (fun k hk => ?_) (fun ad3 L3 g3 k1 k2 k3 k4 => cont ad3 L3 g3 k1 (k2.trans (a2 1 0 u1)) k3 k4)
        · by_cases h1 : Ui i s j
          · exact Or.inl (Or.inl h1)
          · by_cases h2 : s = 10
            · refine Or.inl (Or.inr ⟨h2, ?_⟩)
              unfold Ui at z h1
              omega
            · refine Or.inr ?_
              unfold Ui at z h1
              omega
        · have hb : Bs ad2 (va_up g2 (ad2 2 0) (.inl (5, 6, .inr (.inr (.inr (.inr (va_up f i (some (ad2 10 i))))))))) t i := Bs.tr1 hB a2 (fun s j z w => (fr w).trans (fr2 s j z))
          obtain ⟨d1, d2, d3, d4, d5, d6⟩ := hb
          refine ⟨d1, d2, d3, d4, d5, fun k hk => ?_⟩
          by_cases hq : k = i
          · rw [hq]
            exact n4.fr (fun s z => fr (by revert z; revert s; decide))
          · exact d6 k (by omega)
        · by_cases hq : k = i
          · rw [hq, va_up_self]
          · rw [va_up_ne _ _ hq, hf k (by omega), a2 10 k (by unfold Ui; omega)]
theorem CI.t0 {s : Sg} (h : CI ad g lp t 0 s) (a : ∀ s j, Us 0 s j → s < 60 → ad1 s j = ad s j) (q : ∀ s j, Us 0 s j → s < 60 → g1 (ad1 s j) = g (ad s j)) : CI ad1 g1 lp t 0 s := by
  obtain ⟨c0, c1, c2, c3, c4, c5, c6, c7, c8⟩ := h
  have hp : ∀ s j, Pn s j → Us 0 s j ∧ s < 60 := fun s j z => by
    rcases z with ⟨z | z, rfl⟩ | ⟨rfl, z⟩
    · subst z
      exact ⟨us_top (by decide), by decide⟩
    · subst z
      exact ⟨us_top (by decide), by decide⟩
    · exact ⟨us_let z, by decide⟩
  have hn : ∀ s ∈ [10, 11, 12, 13, 14, 15, 16, 17, 18, 19, 20, 21, 22, 23], s < 60 := by decide
  have h6 : ∀ s ∈ [12, 16, 17, 18, 19], s ∈ [11, 12, 16, 17, 18, 19] ∧ s < 60 := by decide
  refine ⟨c0, c1, c2, ?_, fun i hi => ?_, c5.t3 (fun s j z => a s j (hp s j z).1 (hp s j z).2) (fun s j z => q s j (hp s j z).1 (hp s j z).2), ?_, ?_, ?_⟩
  · obtain ⟨h1, f, h2, h3⟩ := c3
    refine ⟨?_, f, ?_, fun i hi => ?_⟩
    · rw [q 1 0 (us_top (by decide)) (by decide), a 2 0 (us_top (by decide)) (by decide), a 3 0 (us_top (by decide)) (by decide), a 5 0 (us_top (by decide)) (by decide), a 11 6 (us_six (by decide)) (by decide), a 12 6 (us_six (by decide)) (by decide)]
      exact h1
    · rw [q 2 0 (us_top (by decide)) (by decide)]
      exact h2
    · rw [a 10 i (us_node (by decide) hi) (by decide)]
      exact h3 i hi
  · exact ((c4 i hi).rn (fun s z => a s i (us_node z hi) (hn s z))).fr (fun s z => by rw [q s i (us_node z hi) (hn s z), a s i (us_node z hi) (hn s z)])
  · obtain ⟨e0, e1, ⟨mc, ed, e2, e3⟩, e4, e5⟩ := c6
    refine ⟨e0, e1, ⟨mc, ed, ?_, ?_⟩, fun j hj => absurd hj (Nat.not_lt_zero j), fun j hj => absurd hj (by omega)⟩
    · rw [q 5 0 (us_top (by decide)) (by decide)]
      exact e2
    · rcases e3 with e3 | ⟨_, _, _, _, _, _, _, e3, _⟩
      · exact Or.inl e3
      · exact absurd e3.1 (Nat.lt_irrefl _)
  · obtain ⟨o, n, x, y, r, u, v, e⟩ := c7
    refine ⟨o, n, x, y, r, u, v, ?_⟩
    unfold MaR at e ⊢
    rw [q 11 6 (us_six (by decide)) (by decide)]
    exact e
  · obtain ⟨l, e⟩ := c8
    exact ⟨l, e.t (fun s z => a s 6 (us_six (h6 s z).1) (h6 s z).2) (fun s z => q s 6 (us_six (h6 s z).1) (h6 s z).2)⟩
end TOP
