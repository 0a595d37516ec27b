section TOP3
variable {ad ad1 : Nat → Nat → Nat} {L : List Nat} {g g1 : xG} {t i : Nat} {lp : Nat → Nat}
def ad0 (s j : Nat) : Nat := 2 ^ s * (2 * j + 1)
theorem ad0_inj : Inj ad0 := by
  have key : ∀ (s i s' i' : Nat), 2 ^ s * (2 * i + 1) = 2 ^ s' * (2 * i' + 1) → s = s' ∧ i = i' := by
    intro s
    induction s with
    | zero =>
      intro i s' i' h
      cases s' with
      | zero =>
        simp only [Nat.pow_zero, Nat.one_mul] at h
        omega
      | succ k =>
        exfalso
        rw [Nat.pow_succ, Nat.mul_comm (2 ^ k) 2, Nat.mul_assoc] at h
        omega
    | succ s ih =>
      intro i s' i' h
      cases s' with
      | zero =>
        exfalso
        rw [Nat.pow_succ, Nat.mul_comm (2 ^ s) 2, Nat.mul_assoc] at h
        omega
      | succ k =>
        rw [Nat.pow_succ, Nat.pow_succ, Nat.mul_comm (2 ^ s) 2, Nat.mul_comm (2 ^ k) 2, Nat.mul_assoc, Nat.mul_assoc] at h
        have := ih i k i' (by omega)
        omega
  exact fun s i s' i' h => key s i s' i' h
theorem us_ui {s j : Nat} (h : Us 0 s j) : Ui 6 s j ∨ (s ∈ RS ∧ j = 0) := by
  rcases h with ⟨h, h2⟩ | ⟨h, h2⟩ | ⟨h, h2⟩ | h | ⟨h, h2⟩ | ⟨h, h1, h2⟩ | h
  · left
    simp only [List.mem_cons, List.not_mem_nil, or_false] at h
    unfold Ui
    omega
  · left
    simp only [List.mem_cons, List.not_mem_nil, or_false] at h
    unfold Ui
    omega
  · left
    simp only [List.mem_cons, List.not_mem_nil, or_false] at h
    unfold Ui
    omega
  · left
    unfold Ui
    omega
  · omega
  · omega
  · exact Or.inr h
theorem ui_lt {i s j : Nat} (h : Ui i s j) : s < 60 := by
  unfold Ui at h
  omega
theorem us_lt {s j : Nat} (h : Us 0 s j) (hs : s < 60) : Ui 6 s j := by
  rcases us_ui h with z | z
  · exact z
  · have := (by decide : ∀ c ∈ RS, 60 ≤ c) s z.1
    omega
theorem ref_obj (ad1 : Nat → Nat → Nat) : nmS ad1 refN (List.set [.int 0, .int 0, .null, .null, .null, .null, .null, .null, .null, .null, .int 0, .int 0, .null, .null, .null, .null, .null, .null, .null, .int 0, .null, .null, .null, .null, .null, .null, .null, .null, .int 0, .null, .null, .int 0, .null, .null, .null] 1 (.int 3)) = moF ad1 0 (zI 3) (zI 0) 0 (zI 0) (zI 0) 0 := by
  simp only [refN, nmS, List.set_cons_zero, List.set_cons_succ]
  rfl
set_option maxHeartbeats 16000000 in
theorem pure_main (t Ln : Nat) (xs : Nat → Int32) (hL : Ln ≤ 256) : w_L_law t Ln xs [] (fun _ => xdead) := by
  unfold w_L_law
  refine new_ok (U := fun _ _ => False) ad0_inj (fun s j z => z.elim) 1 0 (fun z => z) (fun ad1 L1 g1 m1 m2 m3 m4 m5 => ?_)
  refine init_ok m1 (m3 1 0 (Or.inr ⟨rfl, rfl⟩)) m4 (fun ad2 L2 g2 n1 n2 n3 n4 => ?_)
  rw [← n2]
  refine new_ok (U := Ui 6) n1 n3 60 0 (by unfold Ui; omega) (fun ad3 L3 g3 k1 k2 k3 k4 k5 => ?_)
  have e1 : ad3 1 0 = ad2 1 0 := k2 1 0 (by unfold Ui; omega)
  rw [← e1]
  refine ref_new (U := fun s j => Ui 6 s j ∨ (s = 60 ∧ j = 0)) k1 k3 (Or.inr ⟨rfl, rfl⟩) ⟨_, k4, rfl, ref_obj⟩ (fun s hs z => by unfold Ui at z; omega) (fun ad4 L4 g4 p1 p2 p3 p4 p5 => ?_)
  have a4 : ∀ s j, Ui 6 s j → ad4 s j = ad2 s j := fun s j z => (p2 s j (Or.inl z)).trans (k2 s j z)
  have w4 : ∀ s j, Ui 6 s j → g4 (ad4 s j) = g2 (ad2 s j) := fun s j z => (p5 s j (Or.inl z) (by have := ui_lt z; omega)).trans (k5 s j z)
  rw [← p2 1 0 (Or.inl (by unfold Ui; omega)), ← p2 60 0 (Or.inr ⟨rfl, rfl⟩)]
  refine new_ok (U := fun s j => (Ui 6 s j ∨ (s = 60 ∧ j = 0)) ∨ (s ∈ RS ∧ s ≠ 99 ∧ j = 0)) p1 p3 99 0 (fun z => ?_) (fun ad5 L5 g5 q1 q2 q3 q4 q5 => ?_)
  · rcases z with z | z
    · unfold Ui at z
      omega
    · exact z.2.1 rfl
  · rw [← q2 1 0 (Or.inl (Or.inl (by unfold Ui; omega))), ← q2 60 0 (Or.inl (Or.inr ⟨rfl, rfl⟩))]
    have e0 : zI (4 * 0) = 0 := rfl
    have key : LI ad5 (fun j => j) t 0 (s0 3) 0 L5 g5 0 → w_L_law_23 t Ln xs 65 L5 g5 (ad5 1 0) (ad5 60 0) (ad5 99 0) 0 := fun h => by
      have h2 := law_ok (t := t) (xs := xs) hL 65 0 ad5 (fun j => j) 0 (s0 3) 0 L5 g5 (by decide) (by decide) h
      rw [e0] at h2
      exact h2
    refine key ⟨q1, fun s j z => q3 s j ?_, n4.t0 (fun s j z w => ?_) (fun s j z w => ?_), p4.fr (fun c hc hn => ?_) (fun c hc hn => ?_), ⟨_, q4⟩, Nat.le_refl _, fun e h => by cases h⟩
    · rcases us_ui z with z | z
      · exact Or.inl (Or.inl (Or.inl z))
      · by_cases h99 : s = 99
        · exact Or.inr ⟨h99, z.2⟩
        · exact Or.inl (Or.inr ⟨z.1, h99, z.2⟩)
    · exact (q2 s j (Or.inl (Or.inl (us_lt z w)))).trans (a4 s j (us_lt z w))
    · exact (q5 s j (Or.inl (Or.inl (us_lt z w)))).trans (w4 s j (us_lt z w))
    · exact q2 c 0 (Or.inr ⟨hc, hn, rfl⟩)
    · exact q5 c 0 (Or.inr ⟨hc, hn, rfl⟩)
end TOP3
