section CHAIN
def chn (a ci : Nat) : List (Nat × va_E) → (List Nat → xG → Prop) → List Nat → xG → Prop
  | [], P, L, g => P L g
  | x :: r, P, L, g => ∀ (q : Nat) (L1 : List Nat) (g1 : xG), q ∉ L → L1 = L ++ [q] → g1 = va_up g q x.2 → ∃ g2, (xp g1 ci a x.1 (.ref q)) = some g2 ∧ chn a ci r P L1 g2
abbrev N4 : Type := Nat × Nat × Nat × va_E
def nmU (U : Nat → Nat → Prop) : List N4 → Nat → Nat → Prop
  | [] => U
  | x :: r => nmU (fun s j => U s j ∨ (s = x.1 ∧ j = x.2.1)) r
def nmO (U : Nat → Nat → Prop) : List N4 → Prop
  | [] => True
  | x :: r => ¬ U x.1 x.2.1 ∧ nmO (fun s j => U s j ∨ (s = x.1 ∧ j = x.2.1)) r
def nmS (ad : Nat → Nat → Nat) : List N4 → List Value → List Value
  | [], fs => fs
  | x :: r, fs => nmS ad r (fs.set x.2.2.1 (.ref (ad x.1 x.2.1)))
theorem nmU_of {s j : Nat} : ∀ (l : List N4) (U : Nat → Nat → Prop), U s j → nmU U l s j
  | [], _, h => h
  | _ :: r, _, h => nmU_of r _ (Or.inl h)
theorem chn_ok {P : List Nat → xG → Prop} {ci o i : Nat} : ∀ (l : List N4) (ad : Nat → Nat → Nat) (U : Nat → Nat → Prop) (L : List Nat) (g : xG) (fs : List Value), Inj ad → (∀ s j, U s j → ad s j ∈ L) → U o i → g (ad o i) = .inr (ci, fs) → (∀ x ∈ l, x.2.2.1 < fs.length) → nmO U l →
    (∀ (ad1 : Nat → Nat → Nat) (L1 : List Nat) (g1 : xG), Inj ad1 → (∀ s j, U s j → ad1 s j = ad s j) → (∀ s j, nmU U l s j → ad1 s j ∈ L1) → g1 (ad1 o i) = .inr (ci, nmS ad1 l fs) → (∀ x ∈ l, g1 (ad1 x.1 x.2.1) = x.2.2.2) → (∀ s j, U s j → (s ≠ o ∨ j ≠ i) → g1 (ad1 s j) = g (ad s j)) → P L1 g1) →
    chn (ad o i) ci (l.map (fun x => (x.2.2.1, x.2.2.2))) P L g := by
  intro l
  induction l with
  | nil =>
    intro ad U L g fs hI hA hU ho hk hO cont
    exact cont ad L g hI (fun _ _ _ => rfl) hA ho (fun x hx => by cases hx) (fun _ _ _ _ => rfl)
  | cons x r IH =>
    intro ad U L g fs hI hA hU ho hk hO cont q L1 g1 h1 h2 h3
    subst h2
    subst h3
    obtain ⟨ad1, hI1, hq1, hag⟩ := rn_ex hI U hO.1 (q := q) (fun s j z w => h1 (w ▸ hA s j z))
    subst hq1
    have eo : ad o i = ad1 o i := (hag o i hU).symm
    rw [eo] at ho ⊢
    have hno : ∀ s j, U s j → ad1 s j ≠ ad1 x.1 x.2.1 := fun s j z w => by
      obtain ⟨w1, w2⟩ := hI1 _ _ _ _ w
      rw [w1, w2] at z
      exact hO.1 z
    have ho1 : va_up g (ad1 x.1 x.2.1) x.2.2.2 (ad1 o i) = .inr (ci, fs) := (va_up_ne _ _ (hno o i hU)).trans ho
    refine ⟨_, r_p ho1 (hk x List.mem_cons_self), ?_⟩
    refine IH ad1 (fun s j => U s j ∨ (s = x.1 ∧ j = x.2.1)) _ _ (fs.set x.2.2.1 (.ref (ad1 x.1 x.2.1))) hI1 (fun s j z => ?_) (Or.inl hU) (va_up_self _ _ _) (fun y hy => by rw [List.length_set]; exact hk y (List.mem_cons_of_mem _ hy)) hO.2 (fun ad2 L2 g2 k1 k2 k3 k4 k5 k6 => ?_)
    · rcases z with z | ⟨rfl, rfl⟩
      · rw [hag s j z]
        exact List.mem_append_left _ (hA s j z)
      · exact List.mem_append_right _ (List.mem_singleton.mpr rfl)
    · have e2 : ad2 x.1 x.2.1 = ad1 x.1 x.2.1 := k2 _ _ (Or.inr ⟨rfl, rfl⟩)
      refine cont ad2 L2 g2 k1 (fun s j z => (k2 s j (Or.inl z)).trans (hag s j z)) k3 ?_ (fun y hy => ?_) (fun s j z w => ?_)
      · rw [k4, ← e2]
        rfl
      · rcases List.mem_cons.mp hy with rfl | hy
        · rw [k6 _ _ (Or.inr ⟨rfl, rfl⟩), va_up_ne, va_up_self]
          · exact fun w => hno o i hU w.symm
          · by_cases hq : y.1 = o
            · refine Or.inr (fun z => ?_)
              have hO1 := hO.1
              rw [hq, z] at hO1
              exact hO1 hU
            · exact Or.inl hq
        · exact k5 y hy
      · rw [k6 s j (Or.inl z) w, va_up_ne, va_up_ne _ _ (hno s j z), hag s j z]
        intro y
        obtain ⟨y1, y2⟩ := hI1 _ _ _ _ y
        exact w.elim (fun a => a y1) (fun a => a y2)
theorem new_ok {ad : Nat → Nat → Nat} {U : Nat → Nat → Prop} {L : List Nat} {g : xG} {E : va_E} (hI : Inj ad) (hA : ∀ s j, U s j → ad s j ∈ L) (s0 j0 : Nat) (hU : ¬ U s0 j0) {Q : Nat → List Nat → xG → Prop}
    (cont : ∀ (ad1 : Nat → Nat → Nat) (L1 : List Nat) (g1 : xG), Inj ad1 → (∀ s j, U s j → ad1 s j = ad s j) → (∀ s j, U s j ∨ (s = s0 ∧ j = j0) → ad1 s j ∈ L1) → g1 (ad1 s0 j0) = E → (∀ s j, U s j → g1 (ad1 s j) = g (ad s j)) → Q (ad1 s0 j0) L1 g1) :
    ∀ (q : Nat) (L1 : List Nat) (g1 : xG), q ∉ L → L1 = L ++ [q] → g1 = va_up g q E → Q q L1 g1 := by
  intro q L1 g1 h1 h2 h3
  subst h2
  subst h3
  obtain ⟨ad1, hI1, hq1, hag⟩ := rn_ex hI U hU (q := q) (fun s j z w => h1 (w ▸ hA s j z))
  subst hq1
  refine cont ad1 _ _ hI1 hag (fun s j z => ?_) (va_up_self _ _ _) (fun s j z => ?_)
  · rcases z with z | ⟨rfl, rfl⟩
    · rw [hag s j z]
      exact List.mem_append_left _ (hA s j z)
    · exact List.mem_append_right _ (List.mem_singleton.mpr rfl)
  · rw [va_up_ne, hag s j z]
    intro w
    obtain ⟨w1, w2⟩ := hI1 _ _ _ _ w
    rw [w1, w2] at z
    exact hU z
theorem nmU_mem : ∀ (l : List N4) (U : Nat → Nat → Prop) (x : N4), x ∈ l → nmU U l x.1 x.2.1
  | [], _, _, h => by cases h
  | y :: r, U, x, h => by
    rcases List.mem_cons.mp h with rfl | h
    · exact nmU_of r _ (Or.inr ⟨rfl, rfl⟩)
    · exact nmU_mem r _ x h
def logN (i : Nat) : List N4 := [(16, i, 1, .inl (1, 151, .inl (fun _ => 0))), (17, i, 2, .inl (1, 151, .inl (fun _ => 0))), (18, i, 3, .inl (1, 151, .inl (fun _ => 0))), (19, i, 4, .inl (2, 151, .inr (.inl (fun _ => 0))))]
def shN (i : Nat) : List N4 := [(20, i, 1, .inl (1, 300, .inl (fun _ => 0))), (21, i, 2, .inl (1, 300, .inl (fun _ => 0))), (22, i, 3, .inl (2, 300, .inr (.inl (fun _ => 0)))), (23, i, 4, .inl (3, 300, .inl (fun _ => 0)))]
section PARTS
variable {ad : Nat → Nat → Nat} {U : Nat → Nat → Prop} {L : List Nat} {g : xG} {i : Nat}
theorem log_new (hI : Inj ad) (hA : ∀ s j, U s j → ad s j ∈ L) (ho : U 12 i) (hob : g (ad 12 i) = .inr (3, [.int 0, .null, .null, .null, .null])) (hn : ∀ s, 16 ≤ s → s ≤ 19 → ¬ U s i) {P : List Nat → xG → Prop}
    (cont : ∀ (ad1 : Nat → Nat → Nat) (L1 : List Nat) (g1 : xG), Inj ad1 → (∀ s j, U s j → ad1 s j = ad s j) → (∀ s j, U s j ∨ (16 ≤ s ∧ s ≤ 19 ∧ j = i) → ad1 s j ∈ L1) → LogR ad1 g1 i [] → (∀ s j, U s j → (s ≠ 12 ∨ j ≠ i) → g1 (ad1 s j) = g (ad s j)) → P L1 g1) : w_X2_init P L g (ad 12 i) := by
  refine chn_ok (logN i) ad U L g _ hI hA ho hob (by unfold logN; simp) (by unfold logN; simp [nmO, hn]) (fun ad1 L1 g1 k1 k2 k3 k4 k5 k6 => ?_)
  refine cont ad1 L1 g1 k1 k2 (fun s j z => ?_) ⟨by decide, fun _ => 0, fun _ => 0, fun _ => 0, fun _ => 0, ⟨k4, k5 _ (by unfold logN; exact List.mem_cons_self), k5 (17, i, 2, _) (by unfold logN; exact List.mem_cons_of_mem _ List.mem_cons_self), k5 (18, i, 3, _) (by unfold logN; exact List.mem_cons_of_mem _ (List.mem_cons_of_mem _ List.mem_cons_self)), k5 (19, i, 4, _) (by unfold logN; exact List.mem_cons_of_mem _ (List.mem_cons_of_mem _ (List.mem_cons_of_mem _ List.mem_cons_self)))⟩, fun k hk => absurd hk (Nat.not_lt_zero k), fun k hk => absurd hk (Nat.not_lt_zero k), fun k hk => absurd hk (Nat.not_lt_zero k), fun k hk => ?_⟩ k6
  · refine k3 s j ?_
    rcases z with z | ⟨z1, z2, rfl⟩
    · exact nmU_of _ _ z
    · have : s = 16 ∨ s = 17 ∨ s = 18 ∨ s = 19 := by omega
      rcases this with rfl | rfl | rfl | rfl <;> simp [logN, nmU]
  · have : k = 0 := Nat.le_zero.mp hk
    subst this
    rfl
theorem sh_new (hI : Inj ad) (hA : ∀ s j, U s j → ad s j ∈ L) (ho : U 13 i) (hob : g (ad 13 i) = .inr (7, [.int 0, .null, .null, .null, .null])) (hn : ∀ s, 20 ≤ s → s ≤ 23 → ¬ U s i) {P : List Nat → xG → Prop}
    (cont : ∀ (ad1 : Nat → Nat → Nat) (L1 : List Nat) (g1 : xG), Inj ad1 → (∀ s j, U s j → ad1 s j = ad s j) → (∀ s j, U s j ∨ (20 ≤ s ∧ s ≤ 23 ∧ j = i) → ad1 s j ∈ L1) → ShR ad1 g1 i [] → (∀ s j, U s j → (s ≠ 13 ∨ j ≠ i) → g1 (ad1 s j) = g (ad s j)) → P L1 g1) : w_X6_init P L g (ad 13 i) := by
  refine chn_ok (shN i) ad U L g _ hI hA ho hob (by unfold shN; simp) (by unfold shN; simp [nmO, hn]) (fun ad1 L1 g1 k1 k2 k3 k4 k5 k6 => ?_)
  refine cont ad1 L1 g1 k1 k2 (fun s j z => ?_) ⟨by decide, fun e h => (by cases h), fun _ => 0, fun _ => 0, fun _ => 0, fun _ => 0, ⟨k4, k5 _ (by unfold shN; exact List.mem_cons_self), k5 (21, i, 2, _) (by unfold shN; exact List.mem_cons_of_mem _ List.mem_cons_self), k5 (22, i, 3, _) (by unfold shN; exact List.mem_cons_of_mem _ (List.mem_cons_of_mem _ List.mem_cons_self)), k5 (23, i, 4, _) (by unfold shN; exact List.mem_cons_of_mem _ (List.mem_cons_of_mem _ (List.mem_cons_of_mem _ List.mem_cons_self)))⟩, fun k hk => absurd hk (Nat.not_lt_zero k), fun k hk => absurd hk (Nat.not_lt_zero k), fun k hk => absurd hk (Nat.not_lt_zero k), fun k hk => absurd hk (Nat.not_lt_zero k)⟩ k6
  · refine k3 s j ?_
    rcases z with z | ⟨z1, z2, rfl⟩
    · exact nmU_of _ _ z
    · have : s = 20 ∨ s = 21 ∨ s = 22 ∨ s = 23 := by omega
      rcases this with rfl | rfl | rfl | rfl <;> simp [shN, nmU]
end PARTS
end CHAIN
