section TOP2
variable {ad ad1 : Nat → Nat → Nat} {L : List Nat} {g g1 : xG} {t i : Nat} {lp : Nat → Nat}
set_option maxHeartbeats 16000000 in
theorem init_ok (hI : Inj ad) (hA : ad 1 0 ∈ L) (hob : g (ad 1 0) = .inr (8, [.int 0, .null, .null, .null, .int 0, .null, .null])) {P : List Nat → xG → Prop}
    (cont : ∀ (ad1 : Nat → Nat → Nat) (L1 : List Nat) (g1 : xG), Inj ad1 → ad1 1 0 = ad 1 0 → (∀ s j, Ui 6 s j → ad1 s j ∈ L1) → CI ad1 g1 (fun j => j) t 0 (s0 3) → P L1 g1) : w_X7_init t P L g (ad 1 0) := by
  unfold w_X7_init
  refine chn_ok [(2, 0, 1, .inl (5, 6, .inr (.inr (.inr (.inr (fun _ => none))))))] ad (fun s j => s = 1 ∧ j = 0) L g _ hI (fun s j z => by rw [z.1, z.2]; exact hA) ⟨rfl, rfl⟩ hob (by simp) (by simp [nmO]) (fun ad1 L1 g1 k1 k2 k3 k4 k5 k6 => ?_)
  have e1 := k2 1 0 ⟨rfl, rfl⟩
  have k3' : ∀ s j, (1 ≤ s ∧ s ≤ 2 ∧ j = 0) → ad1 s j ∈ L1 := fun s j z => k3 s j (show (s = 1 ∧ j = 0) ∨ (s = 2 ∧ j = 0) by omega)
  have q1 : g1 (ad1 1 0) = .inr (8, [.int 0, .ref (ad1 2 0), .null, .null, .int 0, .null, .null]) := k4
  have q2 : g1 (ad1 2 0) = .inl (5, 6, .inr (.inr (.inr (.inr (fun _ => none))))) := k5 _ List.mem_cons_self
  rw [← e1]
  refine new_ok (U := fun s j => 1 ≤ s ∧ s ≤ 2 ∧ j = 0) k1 k3' 3 0 (by omega) (fun ad2 L2 g2 m1 m2 m3 m4 m5 => ?_)
  refine post_new (U := fun s j => (1 ≤ s ∧ s ≤ 2 ∧ j = 0) ∨ (s = 3 ∧ j = 0)) m1 m3 (Or.inr ⟨rfl, rfl⟩) m4 (by omega) (fun j => by omega) (fun ad3 L3 g3 n1 n2 n3 n4 n5 => ?_)
  have a3 : ∀ s, 1 ≤ s → s ≤ 2 → ad3 s 0 = ad1 s 0 := fun s z1 z2 => (n2 s 0 (Or.inl ⟨z1, z2, rfl⟩)).trans (m2 s 0 ⟨z1, z2, rfl⟩)
  have q13 : g3 (ad3 1 0) = .inr (8, [.int 0, .ref (ad3 2 0), .null, .null, .int 0, .null, .null]) := by
    rw [n5 1 0 (Or.inl (by decide)) (Or.inl (by decide)), m5 1 0 (by decide), q1, a3 2 (by decide) (by decide)]
  have q23 : g3 (ad3 2 0) = .inl (5, 6, .inr (.inr (.inr (.inr (fun _ => none))))) := by
    rw [n5 2 0 (Or.inl (by decide)) (Or.inl (by decide)), m5 2 0 (by decide), q2]
  have n3' : ∀ s j, ((1 ≤ s ∧ s ≤ 4 ∧ j = 0) ∨ (s = 40 ∧ j ≤ 200)) → ad3 s j ∈ L3 := fun s j z => n3 s j (by omega)
  rw [← a3 1 (by decide) (by decide), ← n2 3 0 (Or.inr ⟨rfl, rfl⟩)]
  clear k4 k5 k6 k3 k3' m3 m4 m5 n3 n5 n2 m2 q1 q2
  refine ⟨_, r_p q13 (Nat.le_of_ble_eq_true rfl), ?_⟩
  simp only [List.set_cons_zero, List.set_cons_succ]
  have f3 : ∀ {s j : Nat} {E : va_E}, s ≠ 1 → va_up g3 (ad3 1 0) E (ad3 s j) = g3 (ad3 s j) := fun z => va_up_ne _ _ (n1.n1 z)
  refine new_ok (U := fun s j => (1 ≤ s ∧ s ≤ 4 ∧ j = 0) ∨ (s = 40 ∧ j ≤ 200)) n1 n3' 5 0 (by omega) (fun ad4 L4 g4 m1 m2 m3 m4 m5 => ?_)
  have q14 : g4 (ad4 1 0) = .inr (8, [.int 0, .ref (ad4 2 0), .ref (ad4 3 0), .null, .int 0, .null, .null]) := by
    rw [m5 1 0 (by omega), va_up_self, m2 2 0 (by omega), m2 3 0 (by omega)]
  have q24 : g4 (ad4 2 0) = .inl (5, 6, .inr (.inr (.inr (.inr (fun _ => none))))) := by
    rw [m5 2 0 (by omega), f3 (by decide), q23]
  have p4 : PoR ad4 g4 (fun j => j) [] 0 := n4.t3 (fun s j z => m2 s j (by unfold Pn at z; omega)) (fun s j z => (m5 s j (by unfold Pn at z; omega)).trans (f3 (by unfold Pn at z; omega)))
  have m3' : ∀ s j, ((1 ≤ s ∧ s ≤ 5 ∧ j = 0) ∨ (s = 40 ∧ j ≤ 200)) → ad4 s j ∈ L4 := fun s j z => m3 s j (by omega)
  have a4 : ad4 1 0 = ad1 1 0 := (m2 1 0 (by omega)).trans (a3 1 (by decide) (by decide))
  rw [← m2 1 0 (by omega)]
  clear q13 q23 f3 n3' n4 m5 m3 a3 m2
  unfold w_Jx4a65c_init_da8c8 w_Jxc12de_init_da8c8 w_Jxa1e45_init_da8c8
  refine ⟨_, r_pi m4 (Nat.le_of_ble_eq_true rfl), ?_⟩
  simp only [List.set_cons_zero, List.set_cons_succ]
  refine ⟨_, r_pr (va_up_self _ _ _) (Nat.le_of_ble_eq_true rfl), ?_⟩
  simp only [List.set_cons_zero, List.set_cons_succ]
  have f4 : ∀ {s j : Nat} {E F : va_E}, s ≠ 5 → va_up (va_up g4 (ad4 5 0) E) (ad4 5 0) F (ad4 s j) = g4 (ad4 s j) := fun z => by
    rw [va_up_ne _ _ (m1.n1 z), va_up_ne _ _ (m1.n1 z)]
  refine ⟨_, r_p ((f4 (by decide)).trans q14) (Nat.le_of_ble_eq_true rfl), ?_⟩
  simp only [List.set_cons_zero, List.set_cons_succ]
  have f4' : ∀ s j, s ≠ 5 → s ≠ 1 → va_up (va_up (va_up g4 (ad4 5 0) (.inr (0, [.int 0, .null, .int 0]))) (ad4 5 0) (.inr (0, [.int 0, .ref t, .int 0]))) (ad4 1 0) (.inr (8, [.int 0, .ref (ad4 2 0), .ref (ad4 3 0), .ref (ad4 5 0), .int 0, .null, .null])) (ad4 s j) = g4 (ad4 s j) := fun s j z w => (va_up_ne _ _ (m1.n1 w)).trans (f4 z)
  have q54 : va_up (va_up (va_up g4 (ad4 5 0) (.inr (0, [.int 0, .null, .int 0]))) (ad4 5 0) (.inr (0, [.int 0, .ref t, .int 0]))) (ad4 1 0) (.inr (8, [.int 0, .ref (ad4 2 0), .ref (ad4 3 0), .ref (ad4 5 0), .int 0, .null, .null])) (ad4 5 0) = .inr (0, [.int 0, .ref t, .int 0]) := (va_up_ne _ _ (m1.n1 (by decide))).trans (va_up_self _ _ _)
  have q14' : va_up (va_up (va_up g4 (ad4 5 0) (.inr (0, [.int 0, .null, .int 0]))) (ad4 5 0) (.inr (0, [.int 0, .ref t, .int 0]))) (ad4 1 0) (.inr (8, [.int 0, .ref (ad4 2 0), .ref (ad4 3 0), .ref (ad4 5 0), .int 0, .null, .null])) (ad4 1 0) = .inr (8, [.int 0, .ref (ad4 2 0), .ref (ad4 3 0), .ref (ad4 5 0), .int 0, .null, .null]) := va_up_self _ _ _
  generalize va_up (va_up (va_up g4 (ad4 5 0) (.inr (0, [.int 0, .null, .int 0]))) (ad4 5 0) (.inr (0, [.int 0, .ref t, .int 0]))) (ad4 1 0) (.inr (8, [.int 0, .ref (ad4 2 0), .ref (ad4 3 0), .ref (ad4 5 0), .int 0, .null, .null])) = G4 at f4' q54 q14' ⊢
  have p4' : PoR ad4 G4 (fun j => j) [] 0 := p4.t3 (fun _ _ _ => rfl) (fun s j z => f4' s j (by unfold Pn at z; omega) (by unfold Pn at z; omega))
  have q24' := (f4' 2 0 (by decide) (by decide)).trans q24
  clear f4 f4' p4 q24 q14 m4
  unfold w_X3_init
  refine chn_ok [(11, 6, 5, .inr (4, [.int 0, .int 0, .int 0, .int 0, .int 0, .int 0, .int 0]))] ad4 (fun s j => (1 ≤ s ∧ s ≤ 5 ∧ j = 0) ∨ (s = 40 ∧ j ≤ 200)) L4 G4 _ m1 m3' (by omega) q14' (by simp) (by simp [nmO]) (fun ad5 L5 g5 k1 k2 k3 k4 k5 k6 => ?_)
  have k3' : ∀ s j, ((1 ≤ s ∧ s ≤ 5 ∧ j = 0) ∨ (s = 40 ∧ j ≤ 200) ∨ (s = 11 ∧ j = 6)) → ad5 s j ∈ L5 := fun s j z => k3 s j (show ((1 ≤ s ∧ s ≤ 5 ∧ j = 0) ∨ (s = 40 ∧ j ≤ 200)) ∨ (s = 11 ∧ j = 6) by omega)
  have q15 : g5 (ad5 1 0) = .inr (8, [.int 0, .ref (ad5 2 0), .ref (ad5 3 0), .ref (ad5 5 0), .int 0, .ref (ad5 11 6), .null]) := by
    rw [k2 2 0 (by omega), k2 3 0 (by omega), k2 5 0 (by omega)]
    exact k4
  have q115 : g5 (ad5 11 6) = .inr (4, [.int 0, .int 0, .int 0, .int 0, .int 0, .int 0, .int 0]) := k5 _ List.mem_cons_self
  have q25 : g5 (ad5 2 0) = .inl (5, 6, .inr (.inr (.inr (.inr (fun _ => none))))) := (k6 2 0 (by omega) (by omega)).trans q24'
  have q55 : g5 (ad5 5 0) = .inr (0, [.int 0, .ref t, .int 0]) := (k6 5 0 (by omega) (by omega)).trans q54
  have p5 : PoR ad5 g5 (fun j => j) [] 0 := p4'.t3 (fun s j z => k2 s j (by unfold Pn at z; omega)) (fun s j z => k6 s j (by unfold Pn at z; omega) (by unfold Pn at z; omega))
  have a5 : ad5 1 0 = ad1 1 0 := (k2 1 0 (by omega)).trans a4
  rw [← k2 1 0 (by omega)]
  clear k2 k3 k4 k5 k6 p4' q24' q54 q14' m3'
  refine new_ok (U := fun s j => (1 ≤ s ∧ s ≤ 5 ∧ j = 0) ∨ (s = 40 ∧ j ≤ 200) ∨ (s = 11 ∧ j = 6)) k1 k3' 12 6 (by omega) (fun ad6 L6 g6 m1 m2 m3 m4 m5 => ?_)
  refine log_new (U := fun s j => ((1 ≤ s ∧ s ≤ 5 ∧ j = 0) ∨ (s = 40 ∧ j ≤ 200) ∨ (s = 11 ∧ j = 6)) ∨ (s = 12 ∧ j = 6)) m1 m3 (Or.inr ⟨rfl, rfl⟩) m4 (fun s z1 z2 z => by omega) (fun ad7 L7 g7 n1 n2 n3 n4 n5 => ?_)
  have a7 : ∀ s j, ((1 ≤ s ∧ s ≤ 5 ∧ j = 0) ∨ (s = 40 ∧ j ≤ 200) ∨ (s = 11 ∧ j = 6)) → ad7 s j = ad5 s j := fun s j z => (n2 s j (Or.inl z)).trans (m2 s j z)
  have w7 : ∀ s j, ((1 ≤ s ∧ s ≤ 5 ∧ j = 0) ∨ (s = 40 ∧ j ≤ 200) ∨ (s = 11 ∧ j = 6)) → g7 (ad7 s j) = g5 (ad5 s j) := fun s j z => (n5 s j (Or.inl z) (by omega)).trans (m5 s j z)
  have q17 : g7 (ad7 1 0) = .inr (8, [.int 0, .ref (ad7 2 0), .ref (ad7 3 0), .ref (ad7 5 0), .int 0, .ref (ad7 11 6), .null]) := by
    rw [w7 1 0 (by omega), a7 2 0 (by omega), a7 3 0 (by omega), a7 5 0 (by omega), a7 11 6 (by omega)]
    exact q15
  rw [← a7 1 0 (by omega), ← n2 12 6 (Or.inr ⟨rfl, rfl⟩)]
  refine ⟨_, r_p q17 (Nat.le_of_ble_eq_true rfl), ?_⟩
  simp only [List.set_cons_zero, List.set_cons_succ]
  have f7 : ∀ {s j : Nat} {E : va_E}, s ≠ 1 → va_up g7 (ad7 1 0) E (ad7 s j) = g7 (ad7 s j) := fun z => va_up_ne _ _ (n1.n1 z)
  refine nds_loop 7 0 ad7 L7 _ (fun _ => none) (by decide) (by decide) n1 (fun s j z => n3 s j ?_) ⟨va_up_self _ _ _, ?_, ?_, ?_, ?_, fun k hk => absurd hk (Nat.not_lt_zero k)⟩ ?_ (fun k hk => absurd hk (Nat.not_lt_zero k)) (fun ad8 L8 g8 k1 k2 k3 k4 => cont ad8 L8 g8 k1 (k2.trans ((a7 1 0 (by omega)).trans (a5.trans e1))) k3 k4)
  · unfold Ui at z
    omega
  · exact p5.t3 (fun s j z => a7 s j (by unfold Pn at z; omega)) (fun s j z => (f7 (by unfold Pn at z; omega)).trans (w7 s j (by unfold Pn at z; omega)))
  · exact (f7 (by decide)).trans ((w7 5 0 (by omega)).trans q55)
  · exact ⟨_, _, _, _, _, _, _, (f7 (by decide)).trans ((w7 11 6 (by omega)).trans q115)⟩
  · exact n4.fr (fun s z => f7 (by revert z; revert s; decide))
  · exact (f7 (by decide)).trans ((w7 2 0 (by omega)).trans q25)
end TOP2
