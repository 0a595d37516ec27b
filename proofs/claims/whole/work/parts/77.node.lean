section NODE
variable {ad ad1 : Nat → Nat → Nat} {U : Nat → Nat → Prop} {L : List Nat} {g g1 : xG} {i : Nat} {lp : Nat → Nat}
theorem NodW.t (h : NodW ad g i) (a : ∀ s, s ∈ [10, 11, 12, 13, 14, 15, 16, 17, 18, 19, 20, 21, 22, 23] → ad1 s i = ad s i) (q : ∀ s, s ∈ [10, 11, 12, 13, 14, 15, 16, 17, 18, 19, 20, 21, 22, 23] → g1 (ad1 s i) = g (ad s i)) : NodW ad1 g1 i := by
  have h1 : NodW ad1 g i := by
    unfold NodW NoR LogR LogE MaR ShR ShE
    rw [a 10 (by decide), a 11 (by decide), a 12 (by decide), a 13 (by decide), a 14 (by decide), a 15 (by decide), a 16 (by decide), a 17 (by decide), a 18 (by decide), a 19 (by decide), a 20 (by decide), a 21 (by decide), a 22 (by decide), a 23 (by decide)]
    exact h
  exact h1.fr (fun s z => by rw [q s z, a s z])
theorem LogR.t {l : List E3} (h : LogR ad g i l) (a : ∀ s, s ∈ [12, 16, 17, 18, 19] → ad1 s i = ad s i) (q : ∀ s, s ∈ [12, 16, 17, 18, 19] → g1 (ad1 s i) = g (ad s i)) : LogR ad1 g1 i l := (h.rn a).fr (fun s z => by rw [q s z, a s z])
theorem ShR.t {k : List K4} (h : ShR ad g i k) (a : ∀ s, s ∈ [13, 20, 21, 22, 23] → ad1 s i = ad s i) (q : ∀ s, s ∈ [13, 20, 21, 22, 23] → g1 (ad1 s i) = g (ad s i)) : ShR ad1 g1 i k := by
  have h1 : ShR ad1 g i k := by
    unfold ShR ShE
    rw [a 13 (by decide), a 20 (by decide), a 21 (by decide), a 22 (by decide), a 23 (by decide)]
    exact h
  exact h1.fr (fun s z => by rw [q s z, a s z])
set_option maxHeartbeats 16000000 in
theorem nod_new (hI : Inj ad) (hA : ∀ s j, U s j → ad s j ∈ L) (ho : U 10 i) (hob : g (ad 10 i) = .inr (5, [.int 0, .null, .null, .null, .null, .null, .int 0, .int 0])) (hn : ∀ s, 11 ≤ s → s ≤ 23 → ¬ U s i) {P : List Nat → xG → Prop}
    (cont : ∀ (ad1 : Nat → Nat → Nat) (L1 : List Nat) (g1 : xG), Inj ad1 → (∀ s j, U s j → ad1 s j = ad s j) → (∀ s j, U s j ∨ (11 ≤ s ∧ s ≤ 23 ∧ j = i) → ad1 s j ∈ L1) → NodW ad1 g1 i → (∀ s j, U s j → (s ≠ 10 ∨ j ≠ i) → g1 (ad1 s j) = g (ad s j)) → P L1 g1) : w_X4_init P L g (ad 10 i) (zI i) := by
  unfold w_X4_init w_X3_init
  refine chn_ok [(11, i, 1, .inr (4, [.int 0, .int 0, .int 0, .int 0, .int 0, .int 0, .int 0]))] ad U L g _ hI hA ho hob (by simp) (by simp [nmO, hn]) (fun ad1 L1 g1 k1 k2 k3 k4 k5 k6 => ?_)
  have k3' : ∀ s j, (U s j ∨ (s = 11 ∧ j = i)) → ad1 s j ∈ L1 := k3
  have k5' : g1 (ad1 11 i) = _ := k5 _ List.mem_cons_self
  dsimp only at k5'
  have k4' : g1 (ad1 10 i) = .inr (5, [.int 0, .ref (ad1 11 i), .null, .null, .null, .null, .int 0, .int 0]) := k4
  rw [← k2 10 i ho]
  refine new_ok (U := fun s j => U s j ∨ (s = 11 ∧ j = i)) k1 k3' 12 i (by simp [hn]) (fun ad2 L2 g2 m1 m2 m3 m4 m5 => ?_)
  have d2 : ∀ s j, U s j → U s j ∨ (s = 11 ∧ j = i) := fun s j z => Or.inl z
  rw [← m2 10 i (Or.inl ho)]
  refine log_new (U := fun s j => (U s j ∨ (s = 11 ∧ j = i)) ∨ (s = 12 ∧ j = i)) m1 m3 (Or.inr ⟨rfl, rfl⟩) m4 (fun s z1 z2 z => ?_) (fun ad3 L3 g3 n1 n2 n3 n4 n5 => ?_)
  · rcases z with (z | z) | z
    · exact hn s (by omega) (by omega) z
    · omega
    · omega
  have q10 : g3 (ad3 10 i) = .inr (5, [.int 0, .ref (ad3 11 i), .null, .null, .null, .null, .int 0, .int 0]) := by
    rw [n5 10 i (Or.inl (Or.inl ho)) (Or.inl (by decide)), m5 10 i (Or.inl ho), k4', n2 11 i (Or.inl (Or.inr ⟨rfl, rfl⟩)), m2 11 i (Or.inr ⟨rfl, rfl⟩)]
  have q11 : g3 (ad3 11 i) = .inr (4, [.int 0, .int 0, .int 0, .int 0, .int 0, .int 0, .int 0]) := by
    rw [n5 11 i (Or.inl (Or.inr ⟨rfl, rfl⟩)) (Or.inl (by decide)), m5 11 i (Or.inr ⟨rfl, rfl⟩), k5']
  rw [← n2 10 i (Or.inl (Or.inl ho)), ← n2 12 i (Or.inr ⟨rfl, rfl⟩)]
  refine ⟨_, r_p q10 (Nat.le_of_ble_eq_true rfl), ?_⟩
  simp only [List.set_cons_zero, List.set_cons_succ]
  have f3 : ∀ s j, (s ≠ 10 ∨ j ≠ i) → va_up g3 (ad3 10 i) (.inr (5, [.int 0, .ref (ad3 11 i), .ref (ad3 12 i), .null, .null, .null, .int 0, .int 0])) (ad3 s j) = g3 (ad3 s j) := fun s j z => va_up_ne _ _ (fun y => by
    obtain ⟨y1, y2⟩ := n1 _ _ _ _ y
    exact z.elim (fun a => a y1) (fun a => a y2))
  have p10 : va_up g3 (ad3 10 i) (.inr (5, [.int 0, .ref (ad3 11 i), .ref (ad3 12 i), .null, .null, .null, .int 0, .int 0])) (ad3 10 i) = .inr (5, [.int 0, .ref (ad3 11 i), .ref (ad3 12 i), .null, .null, .null, .int 0, .int 0]) := va_up_self _ _ _
  generalize va_up g3 (ad3 10 i) (.inr (5, [.int 0, .ref (ad3 11 i), .ref (ad3 12 i), .null, .null, .null, .int 0, .int 0])) = G3 at f3 p10 ⊢
  have w3 : ∀ s j, U s j → (s ≠ 10 ∨ j ≠ i) → G3 (ad3 s j) = g (ad s j) := fun s j z w => by
    have hs : s ≠ 12 ∨ j ≠ i := by
      by_cases h1 : s = 12
      · by_cases h2 : j = i
        · subst h1
          subst h2
          exact absurd z (hn 12 (by decide) (by decide))
        · exact Or.inr h2
      · exact Or.inl h1
    rw [f3 s j w, n5 s j (Or.inl (Or.inl z)) hs, m5 s j (Or.inl z), k6 s j z w]
  have a3 : ∀ s j, U s j → ad3 s j = ad s j := fun s j z => by rw [n2 s j (Or.inl (Or.inl z)), m2 s j (Or.inl z), k2 s j z]
  have l3 : LogR ad3 G3 i [] := n4.fr (fun s z => f3 s i (Or.inl (by revert z; revert s; decide)))
  have b11 : G3 (ad3 11 i) = .inr (4, [.int 0, .int 0, .int 0, .int 0, .int 0, .int 0, .int 0]) := (f3 11 i (Or.inl (by decide))).trans q11
  have n3' : ∀ s j, (U s j ∨ (11 ≤ s ∧ s ≤ 12 ∧ j = i) ∨ (16 ≤ s ∧ s ≤ 19 ∧ j = i)) → ad3 s j ∈ L3 := fun s j z => n3 s j (by
    rcases z with z | z | z
    · exact Or.inl (Or.inl (Or.inl z))
    · by_cases h1 : s = 11
      · exact Or.inl (Or.inl (Or.inr ⟨h1, z.2.2⟩))
      · exact Or.inl (Or.inr ⟨by omega, z.2.2⟩)
    · exact Or.inr z)
  clear k4 k5 k6 k3 k3' k4' k5' m2 m3 m4 m5 n2 n3 n4 n5 q10 q11 f3
  refine new_ok (U := fun s j => U s j ∨ (11 ≤ s ∧ s ≤ 12 ∧ j = i) ∨ (16 ≤ s ∧ s ≤ 19 ∧ j = i)) n1 n3' 13 i (by simp [hn]) (fun ad4 L4 g4 m1 m2 m3 m4 m5 => ?_)
  rw [← m2 10 i (Or.inl ho)]
  refine sh_new (U := fun s j => (U s j ∨ (11 ≤ s ∧ s ≤ 12 ∧ j = i) ∨ (16 ≤ s ∧ s ≤ 19 ∧ j = i)) ∨ (s = 13 ∧ j = i)) m1 m3 (Or.inr ⟨rfl, rfl⟩) m4 (fun s z1 z2 z => ?_) (fun ad5 L5 g5 n1 n2 n3 n4 n5 => ?_)
  · rcases z with (z | z | z) | z
    · exact hn s (by omega) (by omega) z
    · omega
    · omega
    · omega
  have hlo : ∀ s, s ∈ [12, 16, 17, 18, 19] → (U s i ∨ (11 ≤ s ∧ s ≤ 12 ∧ i = i) ∨ (16 ≤ s ∧ s ≤ 19 ∧ i = i)) := fun s z => Or.inr (by revert z; simp; omega)
  have hlo13 : ∀ s, s ∈ [12, 16, 17, 18, 19] → s ≠ 13 := by decide
  have l5 : LogR ad5 g5 i [] := (l3.t (g1 := g4) (fun s z => m2 s i (hlo s z)) (fun s z => m5 s i (hlo s z))).t (fun s z => n2 s i (Or.inl (hlo s z))) (fun s z => n5 s i (Or.inl (hlo s z)) (Or.inl (hlo13 s z)))
  have q10 : g5 (ad5 10 i) = .inr (5, [.int 0, .ref (ad5 11 i), .ref (ad5 12 i), .null, .null, .null, .int 0, .int 0]) := by
    rw [n5 10 i (Or.inl (Or.inl ho)) (Or.inl (by decide)), m5 10 i (Or.inl ho), p10, n2 11 i (Or.inl (Or.inr (Or.inl (by omega)))), m2 11 i (Or.inr (Or.inl (by omega))), n2 12 i (Or.inl (Or.inr (Or.inl (by omega)))), m2 12 i (Or.inr (Or.inl (by omega)))]
  have q11 : g5 (ad5 11 i) = .inr (4, [.int 0, .int 0, .int 0, .int 0, .int 0, .int 0, .int 0]) := by
    rw [n5 11 i (Or.inl (Or.inr (Or.inl (by omega)))) (Or.inl (by decide)), m5 11 i (Or.inr (Or.inl (by omega))), b11]
  rw [← n2 10 i (Or.inl (Or.inl ho)), ← n2 13 i (Or.inr ⟨rfl, rfl⟩)]
  refine ⟨_, r_p q10 (Nat.le_of_ble_eq_true rfl), ?_⟩
  simp only [List.set_cons_zero, List.set_cons_succ]
  have f5 : ∀ s j, (s ≠ 10 ∨ j ≠ i) → va_up g5 (ad5 10 i) (.inr (5, [.int 0, .ref (ad5 11 i), .ref (ad5 12 i), .ref (ad5 13 i), .null, .null, .int 0, .int 0])) (ad5 s j) = g5 (ad5 s j) := fun s j z => va_up_ne _ _ (fun y => by
    obtain ⟨y1, y2⟩ := n1 _ _ _ _ y
    exact z.elim (fun a => a y1) (fun a => a y2))
  have p5 : va_up g5 (ad5 10 i) (.inr (5, [.int 0, .ref (ad5 11 i), .ref (ad5 12 i), .ref (ad5 13 i), .null, .null, .int 0, .int 0])) (ad5 10 i) = .inr (5, [.int 0, .ref (ad5 11 i), .ref (ad5 12 i), .ref (ad5 13 i), .null, .null, .int 0, .int 0]) := va_up_self _ _ _
  generalize va_up g5 (ad5 10 i) (.inr (5, [.int 0, .ref (ad5 11 i), .ref (ad5 12 i), .ref (ad5 13 i), .null, .null, .int 0, .int 0])) = G5 at f5 p5 ⊢
  have w5 : ∀ s j, U s j → (s ≠ 10 ∨ j ≠ i) → G5 (ad5 s j) = g (ad s j) := fun s j z w => by
    have hs : s ≠ 13 ∨ j ≠ i := by
      by_cases h1 : s = 13
      · by_cases h2 : j = i
        · subst h1
          subst h2
          exact absurd z (hn 13 (by decide) (by decide))
        · exact Or.inr h2
      · exact Or.inl h1
    rw [f5 s j w, n5 s j (Or.inl (Or.inl z)) hs, m5 s j (Or.inl z), w3 s j z w]
  have a5 : ∀ s j, U s j → ad5 s j = ad s j := fun s j z => by rw [n2 s j (Or.inl (Or.inl z)), m2 s j (Or.inl z), a3 s j z]
  have l5' : LogR ad5 G5 i [] := l5.fr (fun s z => f5 s i (Or.inl (by revert z; revert s; decide)))
  have s5' : ShR ad5 G5 i [] := n4.fr (fun s z => f5 s i (Or.inl (by revert z; revert s; decide)))
  have b5 : G5 (ad5 11 i) = .inr (4, [.int 0, .int 0, .int 0, .int 0, .int 0, .int 0, .int 0]) := (f5 11 i (Or.inl (by decide))).trans q11
  have n3' : ∀ s j, (U s j ∨ (11 ≤ s ∧ s ≤ 13 ∧ j = i) ∨ (16 ≤ s ∧ s ≤ 23 ∧ j = i)) → ad5 s j ∈ L5 := fun s j z => n3 s j (by
    rcases z with z | z | z
    · exact Or.inl (Or.inl (Or.inl z))
    · by_cases h1 : s = 13
      · exact Or.inl (Or.inr ⟨h1, z.2.2⟩)
      · exact Or.inl (Or.inl (Or.inr (Or.inl ⟨by omega, by omega, z.2.2⟩)))
    · by_cases h1 : s ≤ 19
      · exact Or.inl (Or.inl (Or.inr (Or.inr ⟨by omega, by omega, z.2.2⟩)))
      · exact Or.inr ⟨by omega, by omega, z.2.2⟩)
  clear n2 n3 n4 n5 q10 q11 f5 m2 m3 m4 m5 l3 l5 w3 a3 b11
  refine chn_ok [(14, i, 4, .inl (1, 6, .inl (fun _ => 0))), (15, i, 5, .inl (3, 906, .inl (fun _ => 0)))] ad5 (fun s j => U s j ∨ (11 ≤ s ∧ s ≤ 13 ∧ j = i) ∨ (16 ≤ s ∧ s ≤ 23 ∧ j = i)) L5 G5 _ n1 n3' (Or.inl ho) p5 (by simp) (by simp [nmO, hn]) (fun ad6 L6 g6 k1 k2 k3 k4 k5 k6 => ?_)
  have k4' : g6 (ad6 10 i) = .inr (5, [.int 0, .ref (ad5 11 i), .ref (ad5 12 i), .ref (ad5 13 i), .ref (ad6 14 i), .ref (ad6 15 i), .int 0, .int 0]) := k4
  have k14 : g6 (ad6 14 i) = _ := k5 _ List.mem_cons_self
  have k15 : g6 (ad6 15 i) = _ := k5 (15, i, 5, _) (List.mem_cons_of_mem _ List.mem_cons_self)
  dsimp only at k14 k15
  rw [← k2 10 i (Or.inl ho)]
  rw [← k2 11 i (Or.inr (Or.inl (by omega))), ← k2 12 i (Or.inr (Or.inl (by omega))), ← k2 13 i (Or.inr (Or.inl (by omega)))] at k4'
  refine ⟨_, r_p k4' (Nat.le_of_ble_eq_true rfl), ?_⟩
  simp only [List.set_cons_zero, List.set_cons_succ]
  have f6 : ∀ s j, (s ≠ 10 ∨ j ≠ i) → va_up g6 (ad6 10 i) (.inr (5, [.int (zI i), .ref (ad6 11 i), .ref (ad6 12 i), .ref (ad6 13 i), .ref (ad6 14 i), .ref (ad6 15 i), .int 0, .int 0])) (ad6 s j) = g6 (ad6 s j) := fun s j z => va_up_ne _ _ (fun y => by
    obtain ⟨y1, y2⟩ := k1 _ _ _ _ y
    exact z.elim (fun a => a y1) (fun a => a y2))
  have hlo : ∀ s, s ∈ [12, 16, 17, 18, 19] → (U s i ∨ (11 ≤ s ∧ s ≤ 13 ∧ i = i) ∨ (16 ≤ s ∧ s ≤ 23 ∧ i = i)) ∧ s ≠ 10 := fun s z => ⟨Or.inr (by revert z; simp; omega), by revert z; revert s; decide⟩
  have hsh : ∀ s, s ∈ [13, 20, 21, 22, 23] → (U s i ∨ (11 ≤ s ∧ s ≤ 13 ∧ i = i) ∨ (16 ≤ s ∧ s ≤ 23 ∧ i = i)) ∧ s ≠ 10 := fun s z => ⟨Or.inr (by revert z; simp; omega), by revert z; revert s; decide⟩
  refine cont ad6 L6 _ k1 (fun s j z => by rw [k2 s j (Or.inl z), a5 s j z]) (fun s j z => k3 s j ?_) ⟨⟨0, false, va_up_self _ _ _⟩, ⟨[], l5'.t (fun s z => k2 s i (hlo s z).1) (fun s z => ?_)⟩, ⟨0, 0, 0, 0, 0, 0, 0, ?_⟩, ⟨[], s5'.t (fun s z => k2 s i (hsh s z).1) (fun s z => ?_)⟩, ⟨_, (f6 14 i (Or.inl (by decide))).trans k14⟩, ⟨_, (f6 15 i (Or.inl (by decide))).trans k15⟩⟩ (fun s j z w => ?_)
  · simp only [nmU]
    rcases z with z | z
    · exact Or.inl (Or.inl (Or.inl z))
    · by_cases h1 : s = 14
      · exact Or.inl (Or.inr ⟨h1, z.2.2⟩)
      · by_cases h2 : s = 15
        · exact Or.inr ⟨h2, z.2.2⟩
        · refine Or.inl (Or.inl (Or.inr ?_))
          omega
  · rw [f6 s i (Or.inl (hlo s z).2), k6 s i (hlo s z).1 (Or.inl (hlo s z).2)]
  · unfold MaR
    rw [f6 11 i (Or.inl (by decide)), k6 11 i (Or.inr (Or.inl (by omega))) (Or.inl (by decide)), b5]
  · rw [f6 s i (Or.inl (hsh s z).2), k6 s i (hsh s z).1 (Or.inl (hsh s z).2)]
  · rw [f6 s j w, k6 s j (Or.inl z) w, w5 s j z w]
end NODE
