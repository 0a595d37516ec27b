section WRULES
variable {g : xG} {ci a k t n : Nat} {fs fs1 : List Value} {i : Int32}
theorem W_gi {Q : Int32 → Prop} {x : Int32} (h : g a = .inr (ci, fs)) (hk : fs[k]? = some (.int x)) (c : Q x) : ∃ y, xg_i g ci a k = some y ∧ Q y := ⟨x, r_gi h hk, c⟩
theorem W_gl {Q : Int64 → Prop} {x : Int64} (h : g a = .inr (ci, fs)) (hk : fs[k]? = some (.long x)) (c : Q x) : ∃ y, xg_l g ci a k = some y ∧ Q y := ⟨x, r_gl h hk, c⟩
theorem W_gr {Q : Nat → Prop} {x : Nat} (h : g a = .inr (ci, fs)) (hk : fs[k]? = some (.ref x)) (c : Q x) : ∃ y, xg_r g ci a k = some y ∧ Q y := ⟨x, r_gr h hk, c⟩
theorem W_k {Q : Unit → Prop} (h : g a = .inr (ci, fs)) (c : Q ()) : ∃ y, xk g ci a = some y ∧ Q y := ⟨(), r_k h, c⟩
theorem W_p {Q : xG → Prop} {v : Value} (h : g a = .inr (ci, fs)) (hk : k < fs.length) (hs : fs.set k v = fs1) (c : Q (va_up g a (.inr (ci, fs1)))) : ∃ y, xp g ci a k v = some y ∧ Q y := by
  subst hs
  exact ⟨_, r_p h hk, c⟩
theorem W_pi {Q : xG → Prop} {x : Int32} (h : g a = .inr (ci, fs)) (hk : k < fs.length) (hs : fs.set k (.int x) = fs1) (c : Q (va_up g a (.inr (ci, fs1)))) : ∃ y, xp_i g ci a k x = some y ∧ Q y := by
  subst hs
  exact ⟨_, r_pi h hk, c⟩
theorem W_pr {Q : xG → Prop} {x : Nat} (h : g a = .inr (ci, fs)) (hk : k < fs.length) (hs : fs.set k (.ref x) = fs1) (c : Q (va_up g a (.inr (ci, fs1)))) : ∃ y, xp_r g ci a k x = some y ∧ Q y := by
  subst hs
  exact ⟨_, r_pr h hk, c⟩
theorem W_ai {Q : Int32 → Prop} {f : Nat → Int32} (h : g a = .inl (t, n, .inl f)) (hi : i = zI k) (hk : k < n) (hn : n < 2147483648) (c : Q (f k)) : ∃ y, xa_i t g a i = some y ∧ Q y := ⟨_, r_ai h hi hk hn, c⟩
theorem W_al {Q : Int64 → Prop} {f : Nat → Int64} (h : g a = .inl (2, n, .inr (.inl f))) (hi : i = zI k) (hk : k < n) (hn : n < 2147483648) (c : Q (f k)) : ∃ y, xa_l g a i = some y ∧ Q y := ⟨_, r_al h hi hk hn, c⟩
theorem W_ar {Q : Nat → Prop} {x : Nat} {f : Nat → Option Nat} (h : g a = .inl (t, n, .inr (.inr (.inr (.inr f))))) (hi : i = zI k) (hk : k < n) (hn : n < 2147483648) (hf : f k = some x) (c : Q x) : ∃ y, xa_r t g a i = some y ∧ Q y := ⟨_, r_ar h hi hk hn hf, c⟩
theorem W_si1 {Q : xG → Prop} {x : Int32} {f : Nat → Int32} (h : g a = .inl (1, n, .inl f)) (hi : i = zI k) (hk : k < n) (hn : n < 2147483648) (c : Q (va_up g a (.inl (1, n, .inl (upd f k x))))) : ∃ y, xs_i 1 g a i x = some y ∧ Q y := ⟨_, r_si1 h hi hk hn, c⟩
theorem W_sr {Q : xG → Prop} {v : Nat} {f : Nat → Option Nat} (h : g a = .inl (t, n, .inr (.inr (.inr (.inr f))))) (hv : g v = .inr (ci, fs)) (hi : i = zI k) (hk : k < n) (hn : n < 2147483648) (c : Q (va_up g a (.inl (t, n, .inr (.inr (.inr (.inr (va_up f k (some v))))))))) : ∃ y, xs_r t ci g a i v = some y ∧ Q y := ⟨_, r_sr h hv hi hk hn, c⟩
end WRULES
theorem rn_ex {ad : Nat → Nat → Nat} (hI : Inj ad) (U : Nat → Nat → Prop) {s0 j0 q : Nat} (hU : ¬ U s0 j0) (hq : ∀ s j, U s j → ad s j ≠ q) : ∃ ad1, Inj ad1 ∧ ad1 s0 j0 = q ∧ ∀ s j, U s j → ad1 s j = ad s j := by
  refine ⟨fun s j => if s = s0 ∧ j = j0 then q else if ad s j = q then ad s0 j0 else ad s j, ?_, ?_, ?_⟩
  · intro s i s' i' h
    dsimp only at h
    by_cases h1 : s = s0 ∧ i = j0
    · rw [if_pos h1] at h
      by_cases h2 : s' = s0 ∧ i' = j0
      · exact ⟨h1.1.trans h2.1.symm, h1.2.trans h2.2.symm⟩
      · rw [if_neg h2] at h
        by_cases h3 : ad s' i' = q
        · rw [if_pos h3] at h
          obtain ⟨e1, e2⟩ := hI _ _ _ _ (h3.trans h)
          exact absurd ⟨e1, e2⟩ h2
        · rw [if_neg h3] at h
          exact absurd h.symm h3
    · rw [if_neg h1] at h
      by_cases h2 : s' = s0 ∧ i' = j0
      · rw [if_pos h2] at h
        by_cases h3 : ad s i = q
        · rw [if_pos h3] at h
          obtain ⟨e1, e2⟩ := hI _ _ _ _ (h3.trans h.symm)
          exact absurd ⟨e1, e2⟩ h1
        · rw [if_neg h3] at h
          exact absurd h h3
      · rw [if_neg h2] at h
        by_cases h3 : ad s i = q
        · rw [if_pos h3] at h
          by_cases h4 : ad s' i' = q
          · exact hI _ _ _ _ (h3.trans h4.symm)
          · rw [if_neg h4] at h
            obtain ⟨e1, e2⟩ := hI _ _ _ _ h
            exact absurd ⟨e1.symm, e2.symm⟩ h2
        · rw [if_neg h3] at h
          by_cases h4 : ad s' i' = q
          · rw [if_pos h4] at h
            obtain ⟨e1, e2⟩ := hI _ _ _ _ h
            exact absurd ⟨e1, e2⟩ h1
          · rw [if_neg h4] at h
            exact hI _ _ _ _ h
  · dsimp only
    rw [if_pos ⟨rfl, rfl⟩]
  · intro s j h
    dsimp only
    rw [if_neg, if_neg (hq s j h)]
    intro z
    rw [z.1, z.2] at h
    exact hU h
def RS : List Nat := [60, 62, 63, 64, 65, 66, 67, 68, 69, 72, 73, 74, 75, 76, 77, 78, 80, 81, 82, 83, 84, 85, 86, 87, 89, 90, 92, 93, 94, 99]
def Us (ps s j : Nat) : Prop := (s ∈ [1, 2, 3, 4, 5] ∧ j = 0) ∨ (s ∈ [10, 13, 14, 15, 20, 21, 22, 23] ∧ j < 6) ∨ (s ∈ [11, 12, 16, 17, 18, 19] ∧ j ≤ 6) ∨ (s = 40 ∧ j ≤ 200) ∨ ((s = 41 ∨ s = 42) ∧ j < ps) ∨ (s = 43 ∧ j = 0 ∧ 0 < ps) ∨ (s ∈ RS ∧ j = 0)
def AL (ad : Nat → Nat → Nat) (ps : Nat) (L : List Nat) : Prop := ∀ s j, Us ps s j → ad s j ∈ L
section US
variable {ps : Nat}
theorem us_top {s : Nat} (h : s ∈ [1, 2, 3, 4, 5]) : Us ps s 0 := Or.inl ⟨h, rfl⟩
theorem us_node {s j : Nat} (h : s ∈ [10, 11, 12, 13, 14, 15, 16, 17, 18, 19, 20, 21, 22, 23]) (hj : j < 6) : Us ps s j := by
  have h2 : s ∈ [10, 13, 14, 15, 20, 21, 22, 23] ∨ s ∈ [11, 12, 16, 17, 18, 19] := by
    revert h
    revert s
    decide
  exact h2.elim (fun q => Or.inr (Or.inl ⟨q, hj⟩)) (fun q => Or.inr (Or.inr (Or.inl ⟨q, by omega⟩)))
theorem us_six {s : Nat} (h : s ∈ [11, 12, 16, 17, 18, 19]) : Us ps s 6 := Or.inr (Or.inr (Or.inl ⟨h, Nat.le_refl _⟩))
theorem us_let {j : Nat} (h : j ≤ 200) : Us ps 40 j := Or.inr (Or.inr (Or.inr (Or.inl ⟨rfl, h⟩)))
theorem us_pie {s j : Nat} (hs : s = 41 ∨ s = 42) (h : j < ps) : Us ps s j := Or.inr (Or.inr (Or.inr (Or.inr (Or.inl ⟨hs, h⟩))))
theorem us_43 (h : 0 < ps) : Us ps 43 0 := Or.inr (Or.inr (Or.inr (Or.inr (Or.inr (Or.inl ⟨rfl, rfl, h⟩)))))
theorem us_ref {s : Nat} (h : s ∈ RS) : Us ps s 0 := Or.inr (Or.inr (Or.inr (Or.inr (Or.inr (Or.inr ⟨h, rfl⟩)))))
theorem us_mono {s j ps1 : Nat} (h : Us ps s j) (hp : ps ≤ ps1) : Us ps1 s j := by
  rcases h with h | h | h | h | ⟨h, h2⟩ | ⟨h, h1, h2⟩ | h
  · exact Or.inl h
  · exact Or.inr (Or.inl h)
  · exact Or.inr (Or.inr (Or.inl h))
  · exact Or.inr (Or.inr (Or.inr (Or.inl h)))
  · exact us_pie h (by omega)
  · subst h
    subst h1
    exact us_43 (by omega)
  · exact Or.inr (Or.inr (Or.inr (Or.inr (Or.inr (Or.inr h)))))
theorem us_new {s j : Nat} (h : Us (ps + 1) s j) : Us ps s j ∨ (s = 41 ∧ j = ps) ∨ (s = 42 ∧ j = ps) ∨ (s = 43 ∧ j = 0) := by
  rcases h with h | h | h | h | ⟨h, h2⟩ | ⟨h, h1, h2⟩ | h
  · exact Or.inl (Or.inl h)
  · exact Or.inl (Or.inr (Or.inl h))
  · exact Or.inl (Or.inr (Or.inr (Or.inl h)))
  · exact Or.inl (Or.inr (Or.inr (Or.inr (Or.inl h))))
  · by_cases hq : j = ps
    · rcases h with h | h
      · exact Or.inr (Or.inl ⟨h, hq⟩)
      · exact Or.inr (Or.inr (Or.inl ⟨h, hq⟩))
    · exact Or.inl (us_pie h (by omega))
  · exact Or.inr (Or.inr (Or.inr ⟨h, h1⟩))
  · exact Or.inl (Or.inr (Or.inr (Or.inr (Or.inr (Or.inr (Or.inr h))))))
theorem us_n41 : ¬ Us ps 41 ps := by
  intro h
  rcases h with h | h | h | h | ⟨h, h2⟩ | ⟨h, h1, h2⟩ | h
  · exact absurd h.1 (by decide)
  · exact absurd h.1 (by decide)
  · exact absurd h.1 (by decide)
  · exact absurd h.1 (by decide)
  · omega
  · exact absurd h (by decide)
  · exact absurd h.1 (by decide)
theorem us_n42 : ¬ Us ps 42 ps := by
  intro h
  rcases h with h | h | h | h | ⟨h, h2⟩ | ⟨h, h1, h2⟩ | h
  · exact absurd h.1 (by decide)
  · exact absurd h.1 (by decide)
  · exact absurd h.1 (by decide)
  · exact absurd h.1 (by decide)
  · omega
  · exact absurd h (by decide)
  · exact absurd h.1 (by decide)
end US
section RN
variable {ad ad1 : Nat → Nat → Nat} {g : xG} {lp : Nat → Nat} {t ps : Nat} {s : Sg}
theorem LogR.rn {i : Nat} {l : List E3} (h : LogR ad g i l) (a : ∀ s, s ∈ [12, 16, 17, 18, 19] → ad1 s i = ad s i) : LogR ad1 g i l := by
  unfold LogR LogE
  rw [a 12 (by decide), a 16 (by decide), a 17 (by decide), a 18 (by decide), a 19 (by decide)]
  exact h
theorem NodR.rn {n i : Nat} {l : List E3} {x y : Int32} {k : List K4} {o : Nat → Int32} {hh : Bool} {tk : List T3} (h : NodR ad g n i l x y k o hh tk) (a : ∀ s, s ∈ [10, 11, 12, 13, 14, 15, 16, 17, 18, 19, 20, 21, 22, 23] → ad1 s i = ad s i) : NodR ad1 g n i l x y k o hh tk := by
  unfold NodR NoR LogR LogE MaR ShR ShE OpR TkR
  rw [a 10 (by decide), a 11 (by decide), a 12 (by decide), a 13 (by decide), a 14 (by decide), a 15 (by decide), a 16 (by decide), a 17 (by decide), a 18 (by decide), a 19 (by decide), a 20 (by decide), a 21 (by decide), a 22 (by decide), a 23 (by decide)]
  exact h
theorem PieR.rn {j : Nat} {bs : List Int32} (h : PieR ad g j bs) (a1 : ad1 41 j = ad 41 j) (a2 : ad1 42 j = ad 42 j) : PieR ad1 g j bs := by
  unfold PieR
  rw [a1, a2]
  exact h
theorem PcR.rn {pc : List (List Int32)} (h : PcR ad g t ps pc) (a : ∀ s j, Us ps s j → ad1 s j = ad s j) : PcR ad1 g t ps pc := by
  obtain ⟨h0, h1, ⟨mc, ed, h2, h3⟩, h4, h5⟩ := h
  refine ⟨h0, h1, ⟨mc, ed, ?_, ?_⟩, fun j hj => ?_, fun j hj => ?_⟩
  · rw [a 5 0 (us_top (by decide))]
    exact h2
  · rcases h3 with h3 | ⟨e1, e2, cap, f, e3, e4, e5, e6, e7⟩
    · exact Or.inl h3
    · have hp := e6.1
      exact Or.inr ⟨by rw [a 43 0 (us_43 hp)]; exact e1, e2, cap, f, by rw [a 43 0 (us_43 hp)]; exact e3, e4, e5, e6, fun j hj => by rw [a 41 j (us_pie (Or.inl rfl) hj)]; exact e7 j hj⟩
  · obtain ⟨bs, e1, e2⟩ := h4 j hj
    exact ⟨bs, e1, e2.rn (a 41 j (us_pie (Or.inl rfl) hj)) (a 42 j (us_pie (Or.inr rfl) hj))⟩
  · obtain ⟨e1, e2⟩ := h5 j hj
    exact ⟨e1, e2.rn (a 41 j (us_pie (Or.inl rfl) (by omega))) (a 42 j (us_pie (Or.inr rfl) (by omega)))⟩
theorem PoR.rn {p : List M7} {se : Int32} (h : PoR ad g lp p se) (a : ∀ s j, Us ps s j → ad1 s j = ad s j) : PoR ad1 g lp p se := by
  obtain ⟨p0, p1, ⟨pf, p2, p3⟩, p4, p5, p6⟩ := h
  have a40 : ∀ j, j ≤ 200 → ad1 40 (lp j) = ad 40 (lp j) := fun j hj => a 40 _ (us_let (p4 j j hj hj rfl).2)
  refine ⟨p0, ?_, ⟨pf, ?_, fun j hj => ?_⟩, p4, fun j hj => ?_, fun j hj => ?_⟩
  · rw [a 3 0 (us_top (by decide)), a 4 0 (us_top (by decide)), a40 200 (Nat.le_refl _)]
    exact p1
  · rw [a 4 0 (us_top (by decide))]
    exact p2
  · rw [a40 j (by omega)]
    exact p3 j hj
  · rw [a40 j hj]
    exact p5 j hj
  · rw [a40 j (by omega)]
    exact p6 j hj
theorem TopR.rn {n ev : Nat} (h : TopR ad g n ev) (a : ∀ s j, Us ps s j → ad1 s j = ad s j) : TopR ad1 g n ev := by
  obtain ⟨h1, f, h2, h3⟩ := h
  refine ⟨?_, f, ?_, fun i hi => ?_⟩
  · rw [a 1 0 (us_top (by decide)), a 2 0 (us_top (by decide)), a 3 0 (us_top (by decide)), a 5 0 (us_top (by decide)), a 11 6 (us_six (by decide)), a 12 6 (us_six (by decide))]
    exact h1
  · rw [a 2 0 (us_top (by decide))]
    exact h2
  · rw [a 10 i (us_node (by decide) hi)]
    exact h3 i hi
theorem CI.rn (h : CI ad g lp t ps s) (a : ∀ s j, Us ps s j → ad1 s j = ad s j) : CI ad1 g lp t ps s := by
  obtain ⟨c0, c1, c2, c3, c4, c5, c6, c7, c8⟩ := h
  refine ⟨c0, c1, c2, c3.rn a, fun i hi => (c4 i hi).rn (fun s q => a s i (us_node q hi)), c5.rn a, c6.rn a, ?_, ?_⟩
  · obtain ⟨o, n, x, y, q, r, v, e⟩ := c7
    refine ⟨o, n, x, y, q, r, v, ?_⟩
    unfold MaR
    rw [a 11 6 (us_six (by decide))]
    exact e
  · obtain ⟨l, e⟩ := c8
    exact ⟨l, e.rn (fun s q => a s 6 (us_six ((by decide : ∀ s ∈ [12, 16, 17, 18, 19], s ∈ [11, 12, 16, 17, 18, 19]) s q)))⟩
end RN
