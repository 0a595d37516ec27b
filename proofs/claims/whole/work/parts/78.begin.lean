section BEG
variable {ad ad1 : Nat → Nat → Nat} {U : Nat → Nat → Prop} {L : List Nat} {g g1 : xG} {t : Nat} {lp : Nat → Nat}
abbrev letZ : va_E := .inr (2, [.int 0, .int 0, .int 0, .int 0, .int 0, .long 0, .long 0])
theorem let_loop {P : List Nat → xG → Prop} (h3U : U 3 0) (h4U : U 4 0) (hn : ∀ j, j < 200 → ¬ U 40 j) : ∀ (n v : Nat) (ad : Nat → Nat → Nat) (L : List Nat) (g : xG) (f : Nat → Option Nat), v ≤ 200 → 201 ≤ n + v → Inj ad → (∀ s j, (U s j ∨ (s = 40 ∧ j < v)) → ad s j ∈ L) →
    (∃ x y z w, g (ad 3 0) = .inr (6, [x, y, .ref (ad 4 0), .ref w]) ∧ z = w) → g (ad 4 0) = .inl (4, 200, .inr (.inr (.inr (.inr f)))) → (∀ j, j < v → f j = some (ad 40 j)) → (∀ j, j < v → g (ad 40 j) = letZ) →
    (∀ (ad1 : Nat → Nat → Nat) (L1 : List Nat) (g1 : xG) (f1 : Nat → Option Nat), Inj ad1 → (∀ s j, U s j → ad1 s j = ad s j) → (∀ s j, (U s j ∨ (s = 40 ∧ j < 200)) → ad1 s j ∈ L1) → g1 (ad1 4 0) = .inl (4, 200, .inr (.inr (.inr (.inr f1)))) → (∀ j, j < 200 → f1 j = some (ad1 40 j)) → (∀ j, j < 200 → g1 (ad1 40 j) = letZ) → (∀ s j, U s j → (s ≠ 4 ∨ j ≠ 0) → g1 (ad1 s j) = g (ad s j)) → P L1 g1) →
    w_X5_init_27 P n L g (ad 3 0) (zI v) := by
  intro n
  induction n with
  | zero => intro v ad L g f h1 h2; omega
  | succ n IH =>
    intro v ad L g f h1 h2 hI hA h3 h4 hf hl cont
    rw [w_X5_init_27]
    refine ite_e (fun q => ?_) (fun q => ?_)
    · rw [L200, zI_le (by omega) (by omega)] at q
      have : v = 200 := by omega
      subst this
      exact cont ad L g f hI (fun _ _ _ => rfl) hA h4 hf hl (fun _ _ _ _ => rfl)
    · rw [L200, zI_le (by omega) (by omega)] at q
      obtain ⟨x, y, z, w, h3, hzw⟩ := h3
      refine ⟨_, r_gr h3 rfl, ?_⟩
      unfold w_X1_init
      refine new_ok (U := fun s j => U s j ∨ (s = 40 ∧ j < v)) hI hA 40 v (fun z => z.elim (hn v (by omega)) (fun y => absurd y.2 (Nat.lt_irrefl _))) (fun ad1 L1 g1 m1 m2 m3 m4 m5 => ?_)
      have e3 := m2 3 0 (Or.inl h3U)
      have e4 := m2 4 0 (Or.inl h4U)
      have q4 : g1 (ad1 4 0) = .inl (4, 200, .inr (.inr (.inr (.inr f)))) := (m5 4 0 (Or.inl h4U)).trans h4
      rw [← e3, ← e4]
      refine ⟨_, r_sr q4 m4 rfl (by omega) (by decide), ?_⟩
      have hv : zI v + 1 = zI (v + 1) := by rw [show (1 : Int32) = zI 1 from rfl, zI_add]
      rw [hv]
      have fr : ∀ {s j : Nat} {E : va_E}, (s ≠ 4 ∨ j ≠ 0) → va_up g1 (ad1 4 0) E (ad1 s j) = g1 (ad1 s j) := fun z => va_up_ne _ _ (fun y => by
        obtain ⟨y1, y2⟩ := m1 _ _ _ _ y
        exact z.elim (fun a => a y1) (fun a => a y2))
      refine IH (v + 1) ad1 L1 _ (va_up f v (some (ad1 40 v))) (by omega) (by omega) m1 (fun s j z => m3 s j ?_) ⟨x, y, z, w, ?_, hzw⟩ (va_up_self _ _ _) (fun j hj => ?_) (fun j hj => ?_) (fun ad2 L2 g2 f2 n1 n2 n3 n4 n5 n6 n7 => ?_)
      · rcases z with z | ⟨z1, z2⟩
        · exact Or.inl (Or.inl z)
        · by_cases hj : j = v
          · exact Or.inr ⟨z1, hj⟩
          · exact Or.inl (Or.inr ⟨z1, by omega⟩)
      · rw [fr (Or.inl (by decide)), m5 3 0 (Or.inl h3U), h3, e4]
      · by_cases hq : j = v
        · rw [hq, va_up_self]
        · rw [va_up_ne _ _ hq, hf j (by omega), m2 40 j (Or.inr ⟨rfl, by omega⟩)]
      · rw [fr (Or.inl (by decide))]
        by_cases hq : j = v
        · rw [hq, m4]
        · rw [m5 40 j (Or.inr ⟨rfl, by omega⟩), hl j (by omega)]
      · exact cont ad2 L2 g2 f2 n1 (fun s j z => (n2 s j z).trans (m2 s j (Or.inl z))) n3 n4 n5 n6 (fun s j z w => by rw [n7 s j z w, fr w, m5 s j (Or.inl z)])
theorem post_new (hI : Inj ad) (hA : ∀ s j, U s j → ad s j ∈ L) (ho : U 3 0) (hob : g (ad 3 0) = .inr (6, [.int 0, .int 0, .null, .null])) (hn4 : ¬ U 4 0) (hn : ∀ j, ¬ U 40 j) {P : List Nat → xG → Prop}
    (cont : ∀ (ad1 : Nat → Nat → Nat) (L1 : List Nat) (g1 : xG), Inj ad1 → (∀ s j, U s j → ad1 s j = ad s j) → (∀ s j, (U s j ∨ (s = 4 ∧ j = 0) ∨ (s = 40 ∧ j ≤ 200)) → ad1 s j ∈ L1) → PoR ad1 g1 (fun j => j) [] 0 → (∀ s j, U s j → (s ≠ 3 ∨ j ≠ 0) → g1 (ad1 s j) = g (ad s j)) → P L1 g1) : w_X5_init P L g (ad 3 0) := by
  unfold w_X5_init w_X1_init
  refine chn_ok [(4, 0, 2, .inl (4, 200, .inr (.inr (.inr (.inr (fun _ => none)))))), (40, 200, 3, letZ)] ad U L g _ hI hA ho hob (by simp) (by simp [nmO, hn, hn4]) (fun ad1 L1 g1 k1 k2 k3 k4 k5 k6 => ?_)
  have k4' : g1 (ad1 3 0) = .inr (6, [.int 0, .int 0, .ref (ad1 4 0), .ref (ad1 40 200)]) := k4
  have k3' : ∀ s j, ((U s j ∨ (s = 4 ∧ j = 0)) ∨ (s = 40 ∧ j = 200)) → ad1 s j ∈ L1 := k3
  have q4 : g1 (ad1 4 0) = .inl (4, 200, .inr (.inr (.inr (.inr (fun _ => none))))) := k5 _ List.mem_cons_self
  have q40 : g1 (ad1 40 200) = letZ := k5 (40, 200, 3, _) (List.mem_cons_of_mem _ List.mem_cons_self)
  rw [← k2 3 0 ho]
  refine let_loop (U := fun s j => (U s j ∨ (s = 4 ∧ j = 0)) ∨ (s = 40 ∧ j = 200)) (Or.inl (Or.inl ho)) (Or.inl (Or.inr ⟨rfl, rfl⟩)) (fun j hj z => ?_) 201 0 ad1 L1 g1 (fun _ => none) (by decide) (by decide) k1 (fun s j z => ?_) ⟨_, _, _, _, k4', rfl⟩ q4 (fun j hj => absurd hj (Nat.not_lt_zero j)) (fun j hj => absurd hj (Nat.not_lt_zero j)) (fun ad2 L2 g2 f2 n1 n2 n3 n4 n5 n6 n7 => ?_)
  · rcases z with (z | z) | z
    · exact hn j z
    · omega
    · omega
  · rcases z with z | z
    · exact k3' s j z
    · omega
  · refine cont ad2 L2 g2 n1 (fun s j z => (n2 s j (Or.inl (Or.inl z))).trans (k2 s j z)) (fun s j z => n3 s j ?_) ⟨by decide, ?_, ⟨f2, n4, n5⟩, fun i j hi hj e => ⟨e, hi⟩, fun j hj => ⟨0, 0, 0, 0, 0, 0, 0, ?_⟩, fun j hj => absurd hj (Nat.not_lt_zero j)⟩ (fun s j z w => ?_)
    · rcases z with z | z | z
      · exact Or.inl (Or.inl (Or.inl z))
      · exact Or.inl (Or.inl (Or.inr z))
      · by_cases hj : j = 200
        · exact Or.inl (Or.inr ⟨z.1, hj⟩)
        · exact Or.inr ⟨z.1, by omega⟩
    · rw [n7 3 0 (Or.inl (Or.inl ho)) (Or.inl (by decide)), k4', n2 4 0 (Or.inl (Or.inr ⟨rfl, rfl⟩)), n2 40 200 (Or.inr ⟨rfl, rfl⟩)]
      rfl
    · show g2 (ad2 40 j) = _
      by_cases hq : j = 200
      · rw [hq, n7 40 200 (Or.inr ⟨rfl, rfl⟩) (Or.inl (by decide)), q40]
      · exact n6 j (by omega)
    · have hs : s ≠ 4 ∨ j ≠ 0 := by
        by_cases h1 : s = 4
        · by_cases h2 : j = 0
          · subst h1
            subst h2
            exact absurd z hn4
          · exact Or.inr h2
        · exact Or.inl h1
      rw [n7 s j (Or.inl (Or.inl z)) hs, k6 s j z w]
def refN : List N4 := [(62, 0, 2, .inl (1, 6, .inl (fun _ => 0))), (63, 0, 3, .inl (1, 6, .inl (fun _ => 0))), (64, 0, 4, .inl (1, 6, .inl (fun _ => 0))), (65, 0, 5, .inl (1, 906, .inl (fun _ => 0))), (66, 0, 6, .inl (1, 906, .inl (fun _ => 0))), (67, 0, 7, .inl (1, 906, .inl (fun _ => 0))), (68, 0, 8, .inl (3, 6, .inl (fun _ => 0))), (69, 0, 9, .inl (1, 36, .inl (fun _ => 0))),
  (72, 0, 12, .inl (1, 200, .inl (fun _ => 0))), (73, 0, 13, .inl (1, 200, .inl (fun _ => 0))), (74, 0, 14, .inl (1, 200, .inl (fun _ => 0))), (75, 0, 15, .inl (1, 200, .inl (fun _ => 0))), (76, 0, 16, .inl (1, 200, .inl (fun _ => 0))), (77, 0, 17, .inl (2, 200, .inr (.inl (fun _ => 0)))), (78, 0, 18, .inl (2, 200, .inr (.inl (fun _ => 0)))),
  (80, 0, 20, .inl (1, 600, .inl (fun _ => 0))), (81, 0, 21, .inl (1, 600, .inl (fun _ => 0))), (82, 0, 22, .inl (1, 600, .inl (fun _ => 0))), (83, 0, 23, .inl (1, 6, .inl (fun _ => 0))), (84, 0, 24, .inl (1, 1800, .inl (fun _ => 0))), (85, 0, 25, .inl (1, 1800, .inl (fun _ => 0))), (86, 0, 26, .inl (2, 1800, .inr (.inl (fun _ => 0)))), (87, 0, 27, .inl (3, 1800, .inl (fun _ => 0))),
  (89, 0, 29, .inl (1, 40, .inl (fun _ => 0))), (90, 0, 30, .inl (0, 37600, .inl (fun _ => 0))), (92, 0, 32, .inl (1, 151, .inl (fun _ => 0))), (93, 0, 33, .inl (1, 151, .inl (fun _ => 0))), (94, 0, 34, .inl (1, 151, .inl (fun _ => 0)))]
theorem refN_at : ∀ c, c ∈ RS → c ≠ 60 → c ≠ 99 → ∃ x ∈ refN, x.1 = c ∧ x.2.1 = 0 := by
  intro c hc h60 h99
  have hc2 : c ∈ [62, 63, 64, 65, 66, 67, 68, 69, 72, 73, 74, 75, 76, 77, 78, 80, 81, 82, 83, 84, 85, 86, 87, 89, 90, 92, 93, 94] := by
    revert hc
    unfold RS
    simp
    omega
  simp only [List.mem_cons, List.not_mem_nil, or_false] at hc2
  unfold refN
  rcases hc2 with rfl | rfl | rfl | rfl | rfl | rfl | rfl | rfl | rfl | rfl | rfl | rfl | rfl | rfl | rfl | rfl | rfl | rfl | rfl | rfl | rfl | rfl | rfl | rfl | rfl | rfl | rfl | rfl <;> simp
set_option maxHeartbeats 16000000 in
theorem ref_new (hI : Inj ad) (hA : ∀ s j, U s j → ad s j ∈ L) (ho : U 60 0) (hob : ∃ fs, g (ad 60 0) = .inr (9, fs) ∧ fs.length = 35 ∧ ∀ ad1, nmS ad1 refN (fs.set 1 (.int 3)) = moF ad1 0 (zI 3) (zI 0) 0 (zI 0) (zI 0) 0) (hn : ∀ s, 60 < s → ¬ U s 0) {P : List Nat → xG → Prop}
    (cont : ∀ (ad1 : Nat → Nat → Nat) (L1 : List Nat) (g1 : xG), Inj ad1 → (∀ s j, U s j → ad1 s j = ad s j) → (∀ s j, (U s j ∨ (s ∈ RS ∧ s ≠ 99 ∧ j = 0)) → ad1 s j ∈ L1) → MI ad1 g1 (s0 3) 0 → (∀ s j, U s j → s ≠ 60 → g1 (ad1 s j) = g (ad s j)) → P L1 g1) : w_X8_init P L g (ad 60 0) := by
  obtain ⟨fs, h0, hlen, hset⟩ := hob
  unfold w_X8_init
  refine ⟨_, r_pi h0 (by omega), ?_⟩
  have h1 : va_up g (ad 60 0) (.inr (9, fs.set 1 (.int 3))) (ad 60 0) = .inr (9, fs.set 1 (.int 3)) := va_up_self _ _ _
  have fr : ∀ s j, s ≠ 60 → va_up g (ad 60 0) (.inr (9, fs.set 1 (.int 3))) (ad s j) = g (ad s j) := fun s j z => va_up_ne _ _ (hI.n1 z)
  generalize va_up g (ad 60 0) (.inr (9, fs.set 1 (.int 3))) = G at h1 fr ⊢
  refine chn_ok refN ad U L G _ hI hA ho h1 (fun x hx => ?_) ?_ (fun ad1 L1 g1 k1 k2 k3 k4 k5 k6 => ?_)
  · rw [List.length_set, hlen]
    exact (by decide : ∀ x ∈ refN.map (fun x => x.2.2.1), x < 35) _ (List.mem_map_of_mem hx)
  · unfold refN
    simp [nmO, hn]
  · rw [hset ad1] at k4
    refine cont ad1 L1 g1 k1 k2 (fun s j z => ?_) ⟨⟨0, k4, ?_, ?_, ?_, ?_, ?_, ?_, ?_, ?_⟩, ?_⟩ (fun s j z w => by rw [k6 s j z (Or.inl w), fr s j w])
    · rcases z with z | ⟨z1, z2, rfl⟩
      · exact k3 s j (nmU_of _ _ z)
      · by_cases h60 : s = 60
        · subst h60
          exact k3 60 0 (nmU_of _ _ ho)
        · obtain ⟨x, hx, e1, e2⟩ := refN_at s z1 h60 z2
          have := k3 _ _ (nmU_mem refN U x hx)
          rw [e1, e2] at this
          exact this
    · exact ⟨_, _, _, _, ⟨k5 (64, 0, 4, _) (by simp [refN]; rfl), k5 (65, 0, 5, _) (by simp [refN]; rfl), k5 (66, 0, 6, _) (by simp [refN]; rfl), k5 (67, 0, 7, _) (by simp [refN]; rfl)⟩, fun _ _ => rfl, fun i _ k hk => absurd hk (Nat.not_lt_zero k), fun i _ k hk => absurd hk (Nat.not_lt_zero k), fun i _ k hk => absurd hk (Nat.not_lt_zero k)⟩
    · exact ⟨_, _, k5 (62, 0, 2, _) (by simp [refN]; rfl), k5 (63, 0, 3, _) (by simp [refN]; rfl), fun _ _ => rfl, fun _ _ => rfl⟩
    · exact ⟨_, k5 (68, 0, 8, _) (by simp [refN]; rfl), fun _ _ => rfl⟩
    · exact ⟨_, k5 (69, 0, 9, _) (by simp [refN]; rfl), fun _ _ _ _ => rfl⟩
    · exact ⟨_, _, _, _, _, _, _, ⟨k5 (72, 0, 12, _) (by simp [refN]; rfl), k5 (73, 0, 13, _) (by simp [refN]; rfl), k5 (74, 0, 14, _) (by simp [refN]; rfl), k5 (75, 0, 15, _) (by simp [refN]; rfl), k5 (76, 0, 16, _) (by simp [refN]; rfl), k5 (77, 0, 17, _) (by simp [refN]; rfl), k5 (78, 0, 18, _) (by simp [refN]; rfl)⟩, fun j hj => absurd hj (Nat.not_lt_zero j)⟩
    · exact ⟨_, _, _, k5 (80, 0, 20, _) (by simp [refN]; rfl), k5 (81, 0, 21, _) (by simp [refN]; rfl), k5 (82, 0, 22, _) (by simp [refN]; rfl), fun j hj => absurd hj (Nat.not_lt_zero j), fun j hj => absurd hj (Nat.not_lt_zero j), fun j hj => absurd hj (Nat.not_lt_zero j)⟩
    · exact ⟨_, _, _, _, _, ⟨k5 (83, 0, 23, _) (by simp [refN]; rfl), k5 (84, 0, 24, _) (by simp [refN]; rfl), k5 (85, 0, 25, _) (by simp [refN]; rfl), k5 (86, 0, 26, _) (by simp [refN]; rfl), k5 (87, 0, 27, _) (by simp [refN]; rfl)⟩, fun _ _ => rfl, fun i _ k hk => absurd hk (Nat.not_lt_zero k), fun i _ k hk => absurd hk (Nat.not_lt_zero k), fun i _ k hk => absurd hk (Nat.not_lt_zero k), fun i _ k hk => absurd hk (Nat.not_lt_zero k)⟩
    · exact ⟨_, _, _, k5 (92, 0, 32, _) (by simp [refN]; rfl), k5 (93, 0, 33, _) (by simp [refN]; rfl), k5 (94, 0, 34, _) (by simp [refN]; rfl), fun j hj => absurd hj (Nat.not_lt_zero j), fun j hj => absurd hj (Nat.not_lt_zero j), fun j hj => absurd hj (Nat.not_lt_zero j)⟩
    · exact ⟨_, _, k5 (89, 0, 29, _) (by simp [refN]; rfl), k5 (90, 0, 30, _) (by simp [refN]; rfl), fun e he => absurd he (Nat.not_lt_zero e)⟩
end BEG
