theorem CI.f6 {ad : Nat → Nat → Nat} {g g1 : xG} {lp : Nat → Nat} {t ps : Nat} {s : Sg} (h : CI ad g lp t ps s) (F : ∀ c j, c < 60 → g1 (ad c j) = g (ad c j)) : CI ad g1 lp t ps s := by
  obtain ⟨c0, c1, c2, c3, c4, c5, c6, c7, c8⟩ := h
  refine ⟨c0, c1, c2, c3.fr (fun s q => F s 0 ((by decide : ∀ s ∈ [1, 2], s < 60) s q)), fun j hj => (c4 j hj).fr (fun s q => F s j ((by decide : ∀ s ∈ [10, 11, 12, 13, 14, 15, 16, 17, 18, 19, 20, 21, 22, 23], s < 60) s q)), c5.fr (fun s j q => F s j ((by decide : ∀ s ∈ [3, 4, 40], s < 60) s q)), c6.fr (fun s j q => F s j ((by decide : ∀ s ∈ [5, 41, 42, 43], s < 60) s q)), ?_, ?_⟩
  · obtain ⟨o, n, a, b, q, r, v, e⟩ := c7
    exact ⟨o, n, a, b, q, r, v, e.fr (fun s q => F s 6 ((by decide : ∀ s ∈ [11], s < 60) s q))⟩
  · obtain ⟨l, e⟩ := c8
    exact ⟨l, e.fr (fun s q => F s 6 ((by decide : ∀ s ∈ [12, 16, 17, 18, 19], s < 60) s q))⟩
theorem MI.fr {ad ad1 : Nat → Nat → Nat} {g g1 : xG} {s : Sg} {c : Int32} (h : MI ad g s c) (a : ∀ c ∈ RS, c ≠ 99 → ad1 c 0 = ad c 0) (q : ∀ c ∈ RS, c ≠ 99 → g1 (ad1 c 0) = g (ad c 0)) : MI ad1 g1 s c := by
  obtain ⟨⟨sn, m0, m1, m2, m3, m4, m5, m6, m7, m8⟩, m9⟩ := h
  refine ⟨⟨sn, ?_, m1.fr (fun c z => ?_), m2.fr (fun c z => ?_), m3.fr (fun c z => ?_), m4.fr (fun c z => ?_), m5.fr (fun c z => ?_), m6.fr (fun c z => ?_), m7.fr (fun c z => ?_), m8.fr (fun c z => ?_)⟩, m9.fr (fun c z => ?_)⟩
  · unfold MO at m0 ⊢
    rw [q 60 (by decide) (by decide)]
    unfold moF at m0 ⊢
    rw [a 62 (by decide) (by decide), a 63 (by decide) (by decide), a 64 (by decide) (by decide), a 65 (by decide) (by decide), a 66 (by decide) (by decide), a 67 (by decide) (by decide), a 68 (by decide) (by decide), a 69 (by decide) (by decide), a 72 (by decide) (by decide), a 73 (by decide) (by decide), a 74 (by decide) (by decide), a 75 (by decide) (by decide), a 76 (by decide) (by decide), a 77 (by decide) (by decide), a 78 (by decide) (by decide), a 80 (by decide) (by decide), a 81 (by decide) (by decide), a 82 (by decide) (by decide), a 83 (by decide) (by decide), a 84 (by decide) (by decide), a 85 (by decide) (by decide), a 86 (by decide) (by decide), a 87 (by decide) (by decide), a 89 (by decide) (by decide), a 90 (by decide) (by decide), a 92 (by decide) (by decide), a 93 (by decide) (by decide), a 94 (by decide) (by decide)]
    exact m0
  · exact q c ((by decide : ∀ c ∈ [64, 65, 66, 67], c ∈ RS) c z) ((by decide : ∀ c ∈ [64, 65, 66, 67], c ≠ 99) c z)
  · exact q c ((by decide : ∀ c ∈ [62, 63], c ∈ RS) c z) ((by decide : ∀ c ∈ [62, 63], c ≠ 99) c z)
  · exact q c ((by decide : ∀ c ∈ [68], c ∈ RS) c z) ((by decide : ∀ c ∈ [68], c ≠ 99) c z)
  · exact q c ((by decide : ∀ c ∈ [69], c ∈ RS) c z) ((by decide : ∀ c ∈ [69], c ≠ 99) c z)
  · exact q c ((by decide : ∀ c ∈ [72, 73, 74, 75, 76, 77, 78], c ∈ RS) c z) ((by decide : ∀ c ∈ [72, 73, 74, 75, 76, 77, 78], c ≠ 99) c z)
  · exact q c ((by decide : ∀ c ∈ [80, 81, 82], c ∈ RS) c z) ((by decide : ∀ c ∈ [80, 81, 82], c ≠ 99) c z)
  · exact q c ((by decide : ∀ c ∈ [83, 84, 85, 86, 87], c ∈ RS) c z) ((by decide : ∀ c ∈ [83, 84, 85, 86, 87], c ≠ 99) c z)
  · exact q c ((by decide : ∀ c ∈ [92, 93, 94], c ∈ RS) c z) ((by decide : ∀ c ∈ [92, 93, 94], c ≠ 99) c z)
  · exact q c ((by decide : ∀ c ∈ [89, 90], c ∈ RS) c z) ((by decide : ∀ c ∈ [89, 90], c ≠ 99) c z)
def TkB (s : Sg) (c : Nat) : Prop := (sT s).length ≤ c ∧ ∀ e ∈ sT s, e.1 < 6 ∧ e.2.1 < 6 ∧ e.2.2 ≤ 150
def LI (ad : Nat → Nat → Nat) (lp : Nat → Nat) (t ps : Nat) (s : Sg) (code : Int32) (L : List Nat) (g : xG) (c : Nat) : Prop :=
  Inj ad ∧ AL ad ps L ∧ CI ad g lp t ps s ∧ MI ad g s code ∧ (∃ f, g (ad 99 0) = .inl (2, 1, .inr (.inl f))) ∧ TkB s c
def Th {α : Type} (e : Nat ⊕ α) (b : Nat) : Prop := ∀ k, e = .inl k → 1 ≤ k ∧ k ≤ b
theorem TkB.up {s : Sg} {c : Nat} (h : TkB s c) : TkB s (c + 1) := ⟨Nat.le_succ_of_le h.1, h.2⟩
theorem TkB.eq {s s1 : Sg} {c : Nat} (h : TkB s c) (e : sT s1 = sT s) : TkB s1 (c + 1) := by
  unfold TkB
  rw [e]
  exact h.up
theorem MI.k {ad : Nat → Nat → Nat} {g : xG} {s : Sg} {c : Int32} (h : MI ad g s c) : xk g 9 (ad 60 0) = some () := by
  obtain ⟨⟨sn, m0, -⟩, -⟩ := h
  exact r_k m0
theorem MI.th {ad : Nat → Nat → Nat} {g : xG} {s : Sg} {c : Int32} (h : MI ad g s c) : f_X8_thrown g (ad 60 0) = some c := by
  obtain ⟨⟨sn, m0, -⟩, -⟩ := h
  unfold f_X8_thrown
  rw [r_gi m0 rfl]
  rfl
theorem ite_e {p : Prop} [Decidable p] {A B : Prop} (h1 : p → A) (h2 : ¬ p → B) : if p then A else B := by
  by_cases h : p
  · rw [if_pos h]
    exact h1 h
  · rw [if_neg h]
    exact h2 h
def RfG {α : Type} (M : α → xG → Prop) (Q : xG → Prop) (o : Option (α × xG)) (a : Nat) (r : Int32) (g : xG) : Prop :=
  ∃ u9, xk g 9 a = some u9 ∧ ∃ x g1, o = some (x, g1) ∧ ∃ u9, xk g1 9 a = some u9 ∧ ∃ x2, f_X8_thrown g1 a = some x2 ∧ if x2 = r then (if r = 0 then M x g1 else Q g1) else False
def Mi {α : Type} (conv : α → Int64) (a : Nat) (Q : xG → Prop) (x : α) (g : xG) : Prop := ∃ x3, xa_l g a 0 = some x3 ∧ if x3 = conv x then Q g else False
def Mb (a : Nat) (Q : xG → Prop) (x : Int32) (g : xG) : Prop := ∃ x3, xa_l g a 0 = some x3 ∧ if x = 0 then (if x3 = 0 then Q g else False) else (if x3 = 1 then Q g else False)
section LAW
variable {ad : Nat → Nat → Nat} {g : xG} {lp : Nat → Nat} {t ps c : Nat} {s : Sg} {L : List Nat} {code : Int32}
theorem LI.th {g1 : xG} {k : Int32} (h : LI ad lp t ps s code L g c) (hM : MI ad g1 s k) (F : Frc ad g g1) : LI ad lp t ps s k L g1 (c + 1) := by
  obtain ⟨h1, h2, h3, h4, ⟨f, h5⟩, h6⟩ := h
  exact ⟨h1, h2, h3.frc F, hM, ⟨f, (F 99 0 (Or.inr rfl)).trans h5⟩, h6.up⟩
theorem ref_th {α : Type} {M : α → xG → Prop} {Q : xG → Prop} {o : Option (α × xG)} {k : Nat} (hk : 1 ≤ k ∧ k ≤ 2) (h : LI ad lp t ps s code L g c) (h8 : Ev o (Mok ad s g (.inl k))) (ih : ∀ lp ps s code g, LI ad lp t ps s code L g (c + 1) → Q g) : RfG M Q o (ad 60 0) (zI k) g := by
  obtain ⟨⟨x, g1⟩, e, F, hM⟩ := h8
  dsimp only at F hM
  refine ⟨(), h.2.2.2.1.k, x, g1, e, (), hM.k, _, hM.th, ?_⟩
  rw [if_pos rfl, if_neg]
  · exact ih _ _ _ _ _ (h.th hM F)
  · rw [L0, zI_eq (by omega) (by omega)]
    omega
theorem ref_in {α : Type} {M : α → xG → Prop} {Q : xG → Prop} {o : Option (α × xG)} {g3 : xG} {lp1 : Nat → Nat} {s1 : Sg} {r : α} (hI : Inj ad) (hA : AL ad ps L) (hC : CI ad g3 lp1 t ps s1) (h0 : MI ad g3 s code) (h99 : ∃ f, g3 (ad 99 0) = .inl (2, 1, .inr (.inl f))) (hT : TkB s1 (c + 1)) (h8 : Ev o (Mok ad s g3 (.inr (r, s1))))
    (ih : ∀ lp ps s code g, LI ad lp t ps s code L g (c + 1) → Q g) (hM : ∀ g1, g1 (ad 99 0) = g3 (ad 99 0) → Q g1 → M r g1) : RfG M Q o (ad 60 0) 0 g3 := by
  obtain ⟨⟨x, g1⟩, e, F, hy, hM1⟩ := h8
  dsimp only at F hM1 hy
  subst hy
  refine ⟨(), h0.k, x, g1, e, (), hM1.k, _, hM1.th, ?_⟩
  rw [if_pos rfl, if_pos rfl]
  have e99 := F 99 0 (Or.inr rfl)
  refine hM g1 e99 (ih lp1 ps s1 0 g1 ⟨hI, hA, hC.frc F, hM1, ?_, hT⟩)
  rw [e99]
  exact h99
theorem put99 (h : LI ad lp t ps s code L g c) {g2 : xG} (F : Frg ad g g2) (v : Int64) : ∃ g3, xs_l g2 (ad 99 0) 0 v = some g3 ∧ (∀ c j, c < 60 → g3 (ad c j) = g2 (ad c j)) ∧ MI ad g3 s code ∧ ∃ f, g3 (ad 99 0) = .inl (2, 1, .inr (.inl f)) ∧ f 0 = v := by
  obtain ⟨h1, h2, h3, h4, ⟨f, h5⟩, h6⟩ := h
  have e : g2 (ad 99 0) = .inl (2, 1, .inr (.inl f)) := (F 99 0 (by decide)).trans h5
  refine ⟨_, r_sl e (k := 0) rfl (by decide) (by decide), fun c j hc => va_up_ne _ _ (h1.n1 (by omega)), h4.fr (fun _ _ _ => rfl) (fun c hc hn => ?_), _, va_up_self _ _ _, updL_self _ _ _⟩
  rw [va_up_ne _ _ (h1.n1 hn)]
  exact F c 0 ((by decide : ∀ c ∈ RS, 60 ≤ c) c hc)
theorem get99 {g1 g3 : xG} {f : Nat → Int64} {v : Int64} (h : ∃ f, g3 (ad 99 0) = .inl (2, 1, .inr (.inl f)) ∧ f 0 = v) (e : g1 (ad 99 0) = g3 (ad 99 0)) : xa_l g1 (ad 99 0) 0 = some v := by
  obtain ⟨f, h1, rfl⟩ := h
  exact r_al (e.trans h1) (k := 0) rfl (by decide) (by decide)
theorem st_i2 {α : Type} (conv : α → Int64) {Q : xG → Prop} {P : Int32 → List Nat → xG → Prop} {fC : Option (Nat ⊕ (α × xG))} {f8 : xG → Option (α × xG)} {e : Nat ⊕ (α × Sg)} (h : LI ad lp t ps s code L g c) (hc : Ev fC (Cok ad t ps g e)) (h8 : ∀ g', MI ad g' s code → Ev (f8 g') (Mok ad s g' e)) (hk : Th e 2) (hn : ∀ r s1, e = .inr (r, s1) → TkB s1 (c + 1))
    (ih : ∀ lp ps s code g, LI ad lp t ps s code L g (c + 1) → Q g) (hP : ∀ r g1, RfG (Mi conv (ad 99 0) Q) Q (f8 g1) (ad 60 0) r g1 → P r L g1) :
    ∃ u9, (xk g 8 (ad 1 0)) = some u9 ∧ ∃ oc, fC = some oc ∧ (∀ k : Nat, oc = .inl k → k = 1 ∧ P 1 L g ∨ k = 2 ∧ P 2 L g) ∧ ∀ (x2 : α) (g2 : xG), oc = .inr (x2, g2) → ∃ g3, (xs_l g2 (ad 99 0) 0 (conv x2)) = some g3 ∧ P 0 L g3 := by
  obtain ⟨h1, h2, h3, h4, h5, h6⟩ := id h
  obtain ⟨oc, eo, ho⟩ := hc
  have hT := h3.2.2.2.1.1
  refine ⟨(), r_k hT, oc, eo, ?_⟩
  cases e with
  | inl k =>
    have ho2 : oc = .inl k := ho
    subst ho2
    refine ⟨fun k2 q => ?_, fun x2 g2 q => by cases q⟩
    cases q
    have hk2 := hk k rfl
    have hr := ref_th (M := Mi conv (ad 99 0) Q) hk2 h (h8 g h4) ih
    rcases (by omega : k = 1 ∨ k = 2) with rfl | rfl
    · exact Or.inl ⟨rfl, hP 1 g hr⟩
    · exact Or.inr ⟨rfl, hP 2 g hr⟩
  | inr y =>
    obtain ⟨r, s1⟩ := y
    obtain ⟨g1, lp1, rfl, hC1, F⟩ := ho
    refine ⟨(fun k q => by cases q), fun x2 g2 q => ?_⟩
    cases q
    obtain ⟨g3, e3, F3, M3, h99⟩ := put99 h F (conv r)
    refine ⟨g3, e3, hP 0 g3 (ref_in h1 h2 (hC1.f6 F3) M3 ?_ (hn _ _ rfl) (h8 g3 M3) ih (fun g4 e4 q => ?_))⟩
    · obtain ⟨f, a, -⟩ := h99
      exact ⟨f, a⟩
    · refine ⟨_, get99 (f := fun _ => 0) h99 e4, ?_⟩
      rw [if_pos rfl]
      exact q
theorem st_i1 {α : Type} (conv : α → Int64) {Q : xG → Prop} {P : Int32 → List Nat → xG → Prop} {fC : Option (Nat ⊕ (α × xG))} {f8 : xG → Option (α × xG)} {e : Nat ⊕ (α × Sg)} (h : LI ad lp t ps s code L g c) (hc : Ev fC (Cok ad t ps g e)) (h8 : ∀ g', MI ad g' s code → Ev (f8 g') (Mok ad s g' e)) (hk : Th e 1) (hn : ∀ r s1, e = .inr (r, s1) → TkB s1 (c + 1))
    (ih : ∀ lp ps s code g, LI ad lp t ps s code L g (c + 1) → Q g) (hP : ∀ r g1, RfG (Mi conv (ad 99 0) Q) Q (f8 g1) (ad 60 0) r g1 → P r L g1) :
    ∃ u9, (xk g 8 (ad 1 0)) = some u9 ∧ ∃ oc, fC = some oc ∧ (∀ k : Nat, oc = .inl k → k = 1 ∧ P 1 L g) ∧ ∀ (x2 : α) (g2 : xG), oc = .inr (x2, g2) → ∃ g3, (xs_l g2 (ad 99 0) 0 (conv x2)) = some g3 ∧ P 0 L g3 := by
  obtain ⟨u, hu, oc, eo, a, b⟩ := st_i2 conv h hc h8 (fun k q => ⟨(hk k q).1, by have := (hk k q).2; omega⟩) hn ih hP
  refine ⟨u, hu, oc, eo, fun k q => ?_, b⟩
  obtain ⟨oc', eo', ho⟩ := hc
  have e2 : oc' = oc := by
    rw [eo] at eo'
    exact (Option.some.inj eo').symm
  subst e2
  rcases a k q with a1 | a1
  · exact a1
  · exfalso
    cases e with
    | inl k3 =>
      have ho2 : oc' = .inl k3 := ho
      rw [ho2] at q
      cases q
      have := (hk k rfl).2
      omega
    | inr y =>
      obtain ⟨r, s1⟩ := y
      obtain ⟨g1, lp1, ho2, -⟩ := ho
      rw [ho2] at q
      cases q
theorem st_b1 {Q : xG → Prop} {P : Int32 → List Nat → xG → Prop} {fC : Option (Nat ⊕ (Int32 × xG))} {f8 : xG → Option (Int32 × xG)} {e : Nat ⊕ (Int32 × Sg)} (h : LI ad lp t ps s code L g c) (hc : Ev fC (Cok ad t ps g e)) (h8 : ∀ g', MI ad g' s code → Ev (f8 g') (Mok ad s g' e)) (hk : Th e 1) (hn : ∀ r s1, e = .inr (r, s1) → TkB s1 (c + 1))
    (ih : ∀ lp ps s code g, LI ad lp t ps s code L g (c + 1) → Q g) (hP : ∀ r g1, RfG (Mb (ad 99 0) Q) Q (f8 g1) (ad 60 0) r g1 → P r L g1) :
    ∃ u9, (xk g 8 (ad 1 0)) = some u9 ∧ ∃ oc, fC = some oc ∧ (∀ k : Nat, oc = .inl k → k = 1 ∧ P 1 L g) ∧ ∀ (x2 : Int32) (g2 : xG), oc = .inr (x2, g2) → if x2 = 0 then ∃ g3, (xs_l g2 (ad 99 0) 0 0) = some g3 ∧ P 0 L g3 else ∃ g5, (xs_l g2 (ad 99 0) 0 1) = some g5 ∧ P 0 L g5 := by
  obtain ⟨h1, h2, h3, h4, h5, h6⟩ := id h
  obtain ⟨oc, eo, ho⟩ := hc
  have hT := h3.2.2.2.1.1
  refine ⟨(), r_k hT, oc, eo, ?_⟩
  cases e with
  | inl k =>
    have ho2 : oc = .inl k := ho
    subst ho2
    refine ⟨fun k2 q => ?_, fun x2 g2 q => by cases q⟩
    cases q
    have hk2 := hk k rfl
    have hr := ref_th (M := Mb (ad 99 0) Q) ⟨hk2.1, by omega⟩ h (h8 g h4) ih
    have : k = 1 := by omega
    subst this
    exact ⟨rfl, hP 1 g hr⟩
  | inr y =>
    obtain ⟨r, s1⟩ := y
    obtain ⟨g1, lp1, rfl, hC1, F⟩ := ho
    refine ⟨(fun k q => by cases q), fun x2 g2 q => ?_⟩
    cases q
    refine ite_e (fun q0 => ?_) (fun q0 => ?_)
    · obtain ⟨g3, e3, F3, M3, h99⟩ := put99 h F 0
      refine ⟨g3, e3, hP 0 g3 (ref_in h1 h2 (hC1.f6 F3) M3 ?_ (hn _ _ rfl) (h8 g3 M3) ih (fun g4 e4 q => ?_))⟩
      · obtain ⟨f, a, -⟩ := h99
        exact ⟨f, a⟩
      · refine ⟨_, get99 (f := fun _ => 0) h99 e4, ?_⟩
        rw [if_pos q0, if_pos rfl]
        exact q
    · obtain ⟨g3, e3, F3, M3, h99⟩ := put99 h F 1
      refine ⟨g3, e3, hP 0 g3 (ref_in h1 h2 (hC1.f6 F3) M3 ?_ (hn _ _ rfl) (h8 g3 M3) ih (fun g4 e4 q => ?_))⟩
      · obtain ⟨f, a, -⟩ := h99
        exact ⟨f, a⟩
      · refine ⟨_, get99 (f := fun _ => 0) h99 e4, ?_⟩
        rw [if_neg q0, if_pos rfl]
        exact q
theorem th_input (x y : Int32) : Th (spInput s x y) 2 := by
  intro k h
  unfold spInput at h
  repeat' split at h
  all_goals cases h
  all_goals exact (by decide)
theorem tk_input (x y : Int32) : ∀ (r : Int32) (s1 : Sg), spInput s x y = .inr (r, s1) → sT s1 = sT s := by
  intro r s1 h
  unfold spInput at h
  repeat' split at h
  all_goals cases h
  all_goals (first | exact rfl | (split <;> rfl))
theorem th_deliver (x : Int32) : Th (spDeliver s x) 1 := by
  intro k h
  unfold spDeliver at h
  repeat' split at h
  all_goals cases h
  all_goals exact (by decide)
theorem th_drop (x : Int32) : Th (spDrop s x) 1 := by
  intro k h
  unfold spDrop at h
  repeat' split at h
  all_goals cases h
  all_goals exact (by decide)
theorem tk_drop (x : Int32) : ∀ (r : Int32) (s1 : Sg), spDrop s x = .inr (r, s1) → sT s1 = sT s := by
  intro r s1 h
  unfold spDrop at h
  repeat' split at h
  all_goals cases h
  all_goals (first | exact rfl | (split <;> rfl))
theorem th_copy (x : Int32) : Th (spCopy s x) 1 := by
  intro k h
  unfold spCopy at h
  repeat' split at h
  all_goals cases h
  all_goals exact (by decide)
theorem tk_copy (x : Int32) : ∀ (r : Int32) (s1 : Sg), spCopy s x = .inr (r, s1) → sT s1 = sT s := by
  intro r s1 h
  unfold spCopy at h
  repeat' split at h
  all_goals cases h
  all_goals (first | exact rfl | (split <;> rfl))
theorem th_spoil (x y : Int32) : Th (spSpoil s x y) 1 := by
  intro k h
  unfold spSpoil at h
  repeat' split at h
  all_goals cases h
  all_goals exact (by decide)
theorem tk_spoil (x y : Int32) : ∀ (r : Int32) (s1 : Sg), spSpoil s x y = .inr (r, s1) → sT s1 = sT s := by
  intro r s1 h
  unfold spSpoil at h
  repeat' split at h
  all_goals cases h
  all_goals (first | exact rfl | (split <;> rfl))
theorem th_forward (x : Int32) : Th (spForward s x) 1 := by
  intro k h
  unfold spForward at h
  repeat' split at h
  all_goals cases h
  all_goals exact (by decide)
theorem tk_forward (x : Int32) : ∀ (r : Int32) (s1 : Sg), spForward s x = .inr (r, s1) → sT s1 = sT s := by
  intro r s1 h
  unfold spForward at h
  repeat' split at h
  all_goals cases h
  all_goals (first | exact rfl | (split <;> rfl))
theorem th_lie (x y v : Int32) : Th (spLie s x y v) 2 := by
  intro k h
  unfold spLie at h
  repeat' split at h
  all_goals cases h
  all_goals exact (by decide)
theorem tk_lie (x y v : Int32) : ∀ (r : Int32) (s1 : Sg), spLie s x y v = .inr (r, s1) → sT s1 = sT s := by
  intro r s1 h
  unfold spLie at h
  repeat' split at h
  all_goals cases h
  all_goals (first | exact rfl | (split <;> rfl))
theorem th_bend (x y v : Int32) : Th (spBend s x y v) 1 := by
  intro k h
  unfold spBend at h
  repeat' split at h
  all_goals cases h
  all_goals exact (by decide)
theorem tk_bend (x y v : Int32) : ∀ (r : Int32) (s1 : Sg), spBend s x y v = .inr (r, s1) → sT s1 = sT s := by
  intro r s1 h
  unfold spBend at h
  repeat' split at h
  all_goals cases h
  all_goals (first | exact rfl | (split <;> rfl))
theorem th_cut (x y : Int32) : Th (spCut s x y) 1 := by
  intro k h
  unfold spCut at h
  repeat' split at h
  all_goals cases h
  all_goals exact (by decide)
theorem tk_cut (x y : Int32) : ∀ (r : Int32) (s1 : Sg), spCut s x y = .inr (r, s1) → sT s1 = sT s := by
  intro r s1 h
  unfold spCut at h
  repeat' split at h
  all_goals cases h
  all_goals (first | exact rfl | (split <;> rfl))
theorem th_judge (x y : Int32) : Th (spJudge s x y) 1 := by
  intro k h
  unfold spJudge at h
  repeat' split at h
  all_goals cases h
  all_goals exact (by decide)
theorem tk_judge (x y : Int32) : ∀ (r : Int32) (s1 : Sg), spJudge s x y = .inr (r, s1) → sT s1 = sT s := by
  intro r s1 h
  unfold spJudge at h
  repeat' split at h
  all_goals cases h
  all_goals (first | exact rfl | (split <;> rfl))
theorem th_holds (x : Int32) : Th (spHolds s x) 1 := by
  intro k h
  unfold spHolds at h
  repeat' split at h
  all_goals cases h
  all_goals exact (by decide)
theorem tk_holds (x : Int32) : ∀ (r : Int32) (s1 : Sg), spHolds s x = .inr (r, s1) → sT s1 = sT s := by
  intro r s1 h
  unfold spHolds at h
  repeat' split at h
  all_goals cases h
  all_goals (first | exact rfl | (split <;> rfl))
theorem th_byteOf (x y : Int32) : Th (spByteOf s x y) 1 := by
  intro k h
  unfold spByteOf at h
  repeat' split at h
  all_goals cases h
  all_goals exact (by decide)
theorem tk_byteOf (x y : Int32) : ∀ (r : Int32) (s1 : Sg), spByteOf s x y = .inr (r, s1) → sT s1 = sT s := by
  intro r s1 h
  unfold spByteOf at h
  repeat' split at h
  all_goals cases h
  all_goals (first | exact rfl | (split <;> rfl))
theorem th_smudge (x y v : Int32) : Th (spSmudge s x y v) 1 := by
  intro k h
  unfold spSmudge at h
  repeat' split at h
  all_goals cases h
  all_goals exact (by decide)
theorem tk_smudge (x y v : Int32) : ∀ (r : Int32) (s1 : Sg), spSmudge s x y v = .inr (r, s1) → sT s1 = sT s := by
  intro r s1 h
  unfold spSmudge at h
  repeat' split at h
  all_goals cases h
  all_goals (first | exact rfl | (split <;> rfl))
theorem th_verdict (x y : Int32) : Th (spVerdict s x y) 1 := by
  intro k h
  unfold spVerdict at h
  repeat' split at h
  all_goals cases h
  all_goals exact (by decide)
theorem tk_verdict (x y : Int32) : ∀ (r : Int32) (s1 : Sg), spVerdict s x y = .inr (r, s1) → sT s1 = sT s := by
  intro r s1 h
  unfold spVerdict at h
  repeat' split at h
  all_goals cases h
  all_goals (first | exact rfl | (split <;> rfl))
theorem th_entry (x y v : Int32) : Th (spEntry s x y v) 1 := by
  intro k h
  unfold spEntry at h
  repeat' split at h
  all_goals cases h
  all_goals exact (by decide)
theorem tk_entry (x y v : Int32) : ∀ (r : Int32) (s1 : Sg), spEntry s x y v = .inr (r, s1) → sT s1 = sT s := by
  intro r s1 h
  unfold spEntry at h
  repeat' split at h
  all_goals cases h
  all_goals (first | exact rfl | (split <;> rfl))
theorem th_head (x y : Int32) : Th (spHead s x y) 1 := by
  intro k h
  unfold spHead at h
  repeat' split at h
  all_goals cases h
  all_goals exact (by decide)
theorem tk_head (x y : Int32) : ∀ (r : Int64) (s1 : Sg), spHead s x y = .inr (r, s1) → sT s1 = sT s := by
  intro r s1 h
  unfold spHead at h
  repeat' split at h
  all_goals cases h
  all_goals (first | exact rfl | (split <;> rfl))
theorem th_about (x y : Int32) : Th (spAbout s x y) 1 := by
  intro k h
  unfold spAbout at h
  repeat' split at h
  all_goals cases h
  all_goals exact (by decide)
theorem tk_about (x y : Int32) : ∀ (r : Int32) (s1 : Sg), spAbout s x y = .inr (r, s1) → sT s1 = sT s := by
  intro r s1 h
  unfold spAbout at h
  repeat' split at h
  all_goals cases h
  all_goals (first | exact rfl | (split <;> rfl))
theorem th_total (x : Int32) : Th (spTotal s x) 1 := by
  intro k h
  unfold spTotal at h
  repeat' split at h
  all_goals cases h
  all_goals exact (by decide)
theorem tk_total (x : Int32) : ∀ (r : Int32) (s1 : Sg), spTotal s x = .inr (r, s1) → sT s1 = sT s := by
  intro r s1 h
  unfold spTotal at h
  repeat' split at h
  all_goals cases h
  all_goals (first | exact rfl | (split <;> rfl))
theorem th_hide (x : Int32) (b : Bool) : Th (spHide s x b) 1 := by
  intro k h
  unfold spHide at h
  repeat' split at h
  all_goals cases h
  all_goals exact (by decide)
theorem tk_hide (x : Int32) (b : Bool) : ∀ (r : Int32) (s1 : Sg), spHide s x b = .inr (r, s1) → sT s1 = sT s := by
  intro r s1 h
  unfold spHide at h
  repeat' split at h
  all_goals cases h
  all_goals exact rfl
theorem th_audit (x y : Int32) : Th (spAudit s x y) 2 := by
  intro k h
  unfold spAudit at h
  repeat' split at h
  all_goals cases h
  all_goals exact (by decide)
theorem aud_T (w i : Nat) : sT (aud s w i).2 = sT s := by
  unfold aud
  repeat' split
  all_goals exact rfl
theorem tk_audit (x y : Int32) : ∀ (r : Int32) (s1 : Sg), spAudit s x y = .inr (r, s1) → sT s1 = sT s := by
  intro r s1 h
  unfold spAudit at h
  repeat' split at h
  all_goals first
    | cases h
    | skip
  all_goals (rename_i w i _ _ _ _; injection h with h; rw [show s1 = (aud s w i).2 from by rw [h], aud_T])
theorem dlv_T (m : M7) : sT (dlv s m).2 = sT s ∨ sT (dlv s m).2 = sT s ++ [(m.2.2.1, m.2.1, m.2.2.2.2.1)] := by
  unfold dlv
  repeat' split
  all_goals first
    | exact Or.inl rfl
    | exact Or.inr rfl
theorem tk_deliver (hB : Bd s) (hT : TkB s c) (x : Int32) : ∀ (r : Int32) (s1 : Sg), spDeliver s x = .inr (r, s1) → TkB s1 (c + 1) := by
  intro r s1 h
  unfold spDeliver at h
  split at h
  · cases h
  · rename_i i hi
    injection h with h
    have h2 : s1 = (dlv (uP s ((sP s).eraseIdx i)) (mt (sP s) i)).2 := by rw [Prod.mk.injEq] at h; exact h.2.symm
    obtain ⟨-, hi2, -⟩ := ixOf_some hi
    have hb := hB.2.2.2.2.2.1 i hi2
    subst h2
    rcases dlv_T (s := uP s ((sP s).eraseIdx i)) (mt (sP s) i) with e | e
    · exact hT.eq e
    · refine ⟨?_, fun z hz => ?_⟩
      · rw [e, List.length_append, List.length_singleton]
        exact Nat.succ_le_succ hT.1
      · rw [e] at hz
        rcases List.mem_append.mp hz with q | q
        · exact hT.2 z q
        · rw [List.mem_singleton.mp q]
          exact ⟨hb.2.1, hb.1, hb.2.2⟩
theorem tk_open (x : Int32) : ∀ s1, spOpen x = .inr s1 → TkB s1 (c + 1) := by
  intro s1 h
  unfold spOpen at h
  repeat' split at h
  all_goals cases h
  exact ⟨Nat.zero_le _, fun e h => by cases h⟩
theorem th_open (x : Int32) : Th (spOpen x) 1 := by
  intro k h
  unfold spOpen at h
  repeat' split at h
  all_goals cases h
  all_goals exact (by decide)
theorem LI.bd (h : LI ad lp t ps s code L g c) (hc : c < 600) : Bd s := by
  obtain ⟨h1, h2, h3, h4, h5, h6⟩ := h
  exact h3.bd (by have := h6.1; omega) h6.2
theorem st_input (h : LI ad lp t ps s code L g c) (hc : c < 600) (x y : Int32) {Q : xG → Prop} {P : Int32 → List Nat → xG → Prop} (ih : ∀ lp ps s code g, LI ad lp t ps s code L g (c + 1) → Q g) (hP : ∀ r g1, RfG (Mi Int32.toInt64 (ad 99 0) Q) Q (f_X8_input g1 (ad 60 0) x y) (ad 60 0) r g1 → P r L g1) : w_L_input P L g (ad 1 0) x y (ad 99 0) :=
  st_i2 Int32.toInt64 h (input_ok h.1 h.2.2.1 x y) (fun g1 q => input8 h.1 (h.bd hc) q x y) (th_input x y) (fun r s1 q => h.2.2.2.2.2.eq (tk_input x y r s1 q)) ih hP
theorem st_deliver (h : LI ad lp t ps s code L g c) (hc : c < 600) (x : Int32) {Q : xG → Prop} {P : Int32 → List Nat → xG → Prop} (ih : ∀ lp ps s code g, LI ad lp t ps s code L g (c + 1) → Q g) (hP : ∀ r g1, RfG (Mb (ad 99 0) Q) Q (f_X8_deliver g1 (ad 60 0) x) (ad 60 0) r g1 → P r L g1) : w_L_deliver P L g (ad 1 0) x (ad 99 0) :=
  st_b1 h (deliver_ok h.1 h.2.2.1 x) (fun g1 q => deliver8 h.1 (h.bd hc) q x) (th_deliver x) (tk_deliver (h.bd hc) h.2.2.2.2.2 x) ih hP
theorem st_drop (h : LI ad lp t ps s code L g c) (hc : c < 600) (x : Int32) {Q : xG → Prop} {P : Int32 → List Nat → xG → Prop} (ih : ∀ lp ps s code g, LI ad lp t ps s code L g (c + 1) → Q g) (hP : ∀ r g1, RfG (Mi Int32.toInt64 (ad 99 0) Q) Q (f_X8_drop g1 (ad 60 0) x) (ad 60 0) r g1 → P r L g1) : w_L_drop P L g (ad 1 0) x (ad 99 0) :=
  st_i1 Int32.toInt64 h (drop_ok h.1 h.2.2.1 x) (fun g1 q => drop8 h.1 (h.bd hc) q x) (th_drop x) (fun r s1 q => h.2.2.2.2.2.eq (tk_drop x r s1 q)) ih hP
theorem st_copy (h : LI ad lp t ps s code L g c) (hc : c < 600) (x : Int32) {Q : xG → Prop} {P : Int32 → List Nat → xG → Prop} (ih : ∀ lp ps s code g, LI ad lp t ps s code L g (c + 1) → Q g) (hP : ∀ r g1, RfG (Mb (ad 99 0) Q) Q (f_X8_copy g1 (ad 60 0) x) (ad 60 0) r g1 → P r L g1) : w_L_copy P L g (ad 1 0) x (ad 99 0) :=
  st_b1 h (copy_ok h.1 h.2.2.1 x) (fun g1 q => copy8 h.1 (h.bd hc) q x) (th_copy x) (fun r s1 q => h.2.2.2.2.2.eq (tk_copy x r s1 q)) ih hP
theorem st_spoil (h : LI ad lp t ps s code L g c) (hc : c < 600) (x y : Int32) {Q : xG → Prop} {P : Int32 → List Nat → xG → Prop} (ih : ∀ lp ps s code g, LI ad lp t ps s code L g (c + 1) → Q g) (hP : ∀ r g1, RfG (Mi Int32.toInt64 (ad 99 0) Q) Q (f_X8_spoil g1 (ad 60 0) x y) (ad 60 0) r g1 → P r L g1) : w_L_spoil P L g (ad 1 0) x y (ad 99 0) :=
  st_i1 Int32.toInt64 h (spoil_ok h.1 h.2.2.1 x y) (fun g1 q => spoil8 h.1 (h.bd hc) q x y) (th_spoil x y) (fun r s1 q => h.2.2.2.2.2.eq (tk_spoil x y r s1 q)) ih hP
theorem st_forward (h : LI ad lp t ps s code L g c) (hc : c < 600) (x : Int32) {Q : xG → Prop} {P : Int32 → List Nat → xG → Prop} (ih : ∀ lp ps s code g, LI ad lp t ps s code L g (c + 1) → Q g) (hP : ∀ r g1, RfG (Mi Int32.toInt64 (ad 99 0) Q) Q (f_X8_forward g1 (ad 60 0) x) (ad 60 0) r g1 → P r L g1) : w_L_forward P L g (ad 1 0) x (ad 99 0) :=
  st_i1 Int32.toInt64 h (forward_ok h.1 h.2.2.1 x) (fun g1 q => forward8 h.1 (h.bd hc) q x) (th_forward x) (fun r s1 q => h.2.2.2.2.2.eq (tk_forward x r s1 q)) ih hP
theorem st_lie (h : LI ad lp t ps s code L g c) (hc : c < 600) (x y v : Int32) {Q : xG → Prop} {P : Int32 → List Nat → xG → Prop} (ih : ∀ lp ps s code g, LI ad lp t ps s code L g (c + 1) → Q g) (hP : ∀ r g1, RfG (Mi Int32.toInt64 (ad 99 0) Q) Q (f_X8_lie g1 (ad 60 0) x y v) (ad 60 0) r g1 → P r L g1) : w_L_lie P L g (ad 1 0) x y v (ad 99 0) :=
  st_i2 Int32.toInt64 h (lie_ok h.1 h.2.2.1 x y v) (fun g1 q => lie8 h.1 (h.bd hc) q x y v) (th_lie x y v) (fun r s1 q => h.2.2.2.2.2.eq (tk_lie x y v r s1 q)) ih hP
theorem st_bend (h : LI ad lp t ps s code L g c) (hc : c < 600) (x y v : Int32) {Q : xG → Prop} {P : Int32 → List Nat → xG → Prop} (ih : ∀ lp ps s code g, LI ad lp t ps s code L g (c + 1) → Q g) (hP : ∀ r g1, RfG (Mi Int32.toInt64 (ad 99 0) Q) Q (f_X8_bend g1 (ad 60 0) x y v) (ad 60 0) r g1 → P r L g1) : w_L_bend P L g (ad 1 0) x y v (ad 99 0) :=
  st_i1 Int32.toInt64 h (bend_ok h.1 h.2.2.1 x y v) (fun g1 q => bend8 h.1 (h.bd hc) q x y v) (th_bend x y v) (fun r s1 q => h.2.2.2.2.2.eq (tk_bend x y v r s1 q)) ih hP
theorem st_cut (h : LI ad lp t ps s code L g c) (hc : c < 600) (x y : Int32) {Q : xG → Prop} {P : Int32 → List Nat → xG → Prop} (ih : ∀ lp ps s code g, LI ad lp t ps s code L g (c + 1) → Q g) (hP : ∀ r g1, RfG (Mi Int32.toInt64 (ad 99 0) Q) Q (f_X8_cut g1 (ad 60 0) x y) (ad 60 0) r g1 → P r L g1) : w_L_cut P L g (ad 1 0) x y (ad 99 0) :=
  st_i1 Int32.toInt64 h (cut_ok h.1 h.2.2.1 x y) (fun g1 q => cut8 h.1 (h.bd hc) q x y) (th_cut x y) (fun r s1 q => h.2.2.2.2.2.eq (tk_cut x y r s1 q)) ih hP
theorem st_judge (h : LI ad lp t ps s code L g c) (hc : c < 600) (x y : Int32) {Q : xG → Prop} {P : Int32 → List Nat → xG → Prop} (ih : ∀ lp ps s code g, LI ad lp t ps s code L g (c + 1) → Q g) (hP : ∀ r g1, RfG (Mb (ad 99 0) Q) Q (f_X8_judge g1 (ad 60 0) x y) (ad 60 0) r g1 → P r L g1) : w_L_judge P L g (ad 1 0) x y (ad 99 0) :=
  st_b1 h (judge_ok h.1 h.2.2.1 x y) (fun g1 q => judge8 h.1 (h.bd hc) q x y) (th_judge x y) (fun r s1 q => h.2.2.2.2.2.eq (tk_judge x y r s1 q)) ih hP
theorem st_holds (h : LI ad lp t ps s code L g c) (hc : c < 600) (x : Int32) {Q : xG → Prop} {P : Int32 → List Nat → xG → Prop} (ih : ∀ lp ps s code g, LI ad lp t ps s code L g (c + 1) → Q g) (hP : ∀ r g1, RfG (Mb (ad 99 0) Q) Q (f_X8_holds g1 (ad 60 0) x) (ad 60 0) r g1 → P r L g1) : w_L_holds P L g (ad 1 0) x (ad 99 0) :=
  st_b1 h (holds_ok h.1 h.2.2.1 x) (fun g1 q => holds8 h.1 (h.bd hc) q x) (th_holds x) (fun r s1 q => h.2.2.2.2.2.eq (tk_holds x r s1 q)) ih hP
theorem st_byteOf (h : LI ad lp t ps s code L g c) (hc : c < 600) (x y : Int32) {Q : xG → Prop} {P : Int32 → List Nat → xG → Prop} (ih : ∀ lp ps s code g, LI ad lp t ps s code L g (c + 1) → Q g) (hP : ∀ r g1, RfG (Mi Int32.toInt64 (ad 99 0) Q) Q (f_X8_byteOf g1 (ad 60 0) x y) (ad 60 0) r g1 → P r L g1) : w_L_byteOf P L g (ad 1 0) x y (ad 99 0) :=
  st_i1 Int32.toInt64 h (byteOf_ok h.1 h.2.2.1 x y) (fun g1 q => byteOf8 h.1 (h.bd hc) q x y) (th_byteOf x y) (fun r s1 q => h.2.2.2.2.2.eq (tk_byteOf x y r s1 q)) ih hP
theorem st_smudge (h : LI ad lp t ps s code L g c) (hc : c < 600) (x y v : Int32) {Q : xG → Prop} {P : Int32 → List Nat → xG → Prop} (ih : ∀ lp ps s code g, LI ad lp t ps s code L g (c + 1) → Q g) (hP : ∀ r g1, RfG (Mi Int32.toInt64 (ad 99 0) Q) Q (f_X8_smudge g1 (ad 60 0) x y v) (ad 60 0) r g1 → P r L g1) : w_L_smudge P L g (ad 1 0) x y v (ad 99 0) :=
  st_i1 Int32.toInt64 h (smudge_ok h.1 h.2.2.1 x y v) (fun g1 q => smudge8 h.1 (h.bd hc) q x y v) (th_smudge x y v) (fun r s1 q => h.2.2.2.2.2.eq (tk_smudge x y v r s1 q)) ih hP
theorem st_verdict (h : LI ad lp t ps s code L g c) (hc : c < 600) (x y : Int32) {Q : xG → Prop} {P : Int32 → List Nat → xG → Prop} (ih : ∀ lp ps s code g, LI ad lp t ps s code L g (c + 1) → Q g) (hP : ∀ r g1, RfG (Mi Int32.toInt64 (ad 99 0) Q) Q (f_X8_verdict g1 (ad 60 0) x y) (ad 60 0) r g1 → P r L g1) : w_L_verdict P L g (ad 1 0) x y (ad 99 0) :=
  st_i1 Int32.toInt64 h (verdict_ok h.1 h.2.2.1 x y) (fun g1 q => verdict8 h.1 (h.bd hc) q x y) (th_verdict x y) (fun r s1 q => h.2.2.2.2.2.eq (tk_verdict x y r s1 q)) ih hP
theorem st_entry (h : LI ad lp t ps s code L g c) (hc : c < 600) (x y v : Int32) {Q : xG → Prop} {P : Int32 → List Nat → xG → Prop} (ih : ∀ lp ps s code g, LI ad lp t ps s code L g (c + 1) → Q g) (hP : ∀ r g1, RfG (Mi Int32.toInt64 (ad 99 0) Q) Q (f_X8_entry g1 (ad 60 0) x y v) (ad 60 0) r g1 → P r L g1) : w_L_entry P L g (ad 1 0) x y v (ad 99 0) :=
  st_i1 Int32.toInt64 h (entry_ok h.1 h.2.2.1 x y v) (fun g1 q => entry8 h.1 (h.bd hc) q x y v) (th_entry x y v) (fun r s1 q => h.2.2.2.2.2.eq (tk_entry x y v r s1 q)) ih hP
theorem st_head (h : LI ad lp t ps s code L g c) (hc : c < 600) (x y : Int32) {Q : xG → Prop} {P : Int32 → List Nat → xG → Prop} (ih : ∀ lp ps s code g, LI ad lp t ps s code L g (c + 1) → Q g) (hP : ∀ r g1, RfG (Mi (fun q : Int64 => q) (ad 99 0) Q) Q (f_X8_head g1 (ad 60 0) x y) (ad 60 0) r g1 → P r L g1) : w_L_head P L g (ad 1 0) x y (ad 99 0) :=
  st_i1 (fun q : Int64 => q) h (head_ok h.1 h.2.2.1 x y) (fun g1 q => head8 h.1 (h.bd hc) q x y) (th_head x y) (fun r s1 q => h.2.2.2.2.2.eq (tk_head x y r s1 q)) ih hP
theorem st_about (h : LI ad lp t ps s code L g c) (hc : c < 600) (x y : Int32) {Q : xG → Prop} {P : Int32 → List Nat → xG → Prop} (ih : ∀ lp ps s code g, LI ad lp t ps s code L g (c + 1) → Q g) (hP : ∀ r g1, RfG (Mi Int32.toInt64 (ad 99 0) Q) Q (f_X8_about g1 (ad 60 0) x y) (ad 60 0) r g1 → P r L g1) : w_L_about P L g (ad 1 0) x y (ad 99 0) :=
  st_i1 Int32.toInt64 h (about_ok h.1 h.2.2.1 x y) (fun g1 q => about8 h.1 (h.bd hc) q x y) (th_about x y) (fun r s1 q => h.2.2.2.2.2.eq (tk_about x y r s1 q)) ih hP
theorem st_total (h : LI ad lp t ps s code L g c) (hc : c < 600) (x : Int32) {Q : xG → Prop} {P : Int32 → List Nat → xG → Prop} (ih : ∀ lp ps s code g, LI ad lp t ps s code L g (c + 1) → Q g) (hP : ∀ r g1, RfG (Mi Int32.toInt64 (ad 99 0) Q) Q (f_X8_total g1 (ad 60 0) x) (ad 60 0) r g1 → P r L g1) : w_L_total P L g (ad 1 0) x (ad 99 0) :=
  st_i1 Int32.toInt64 h (total_ok h.1 h.2.2.1 x) (fun g1 q => total8 h.1 (h.bd hc) q x) (th_total x) (fun r s1 q => h.2.2.2.2.2.eq (tk_total x r s1 q)) ih hP
theorem st_hide (h : LI ad lp t ps s code L g c) (hc : c < 600) (x : Int32) (b : Bool) {Q : xG → Prop} {P : Int32 → List Nat → xG → Prop} (ih : ∀ lp ps s code g, LI ad lp t ps s code L g (c + 1) → Q g) (hP : ∀ r g1, RfG (Mb (ad 99 0) Q) Q (f_X8_hide g1 (ad 60 0) x (b2 b)) (ad 60 0) r g1 → P r L g1) : w_L_hide P L g (ad 1 0) x (b2 b) (ad 99 0) :=
  st_b1 h (hide_ok h.1 h.2.2.1 x b) (fun g1 q => hide8 h.1 (h.bd hc) q x b) (th_hide x b) (fun r s1 q => h.2.2.2.2.2.eq (tk_hide x b r s1 q)) ih hP
def RfV (Q : xG → Prop) (o : Option xG) (a : Nat) (r : Int32) (g : xG) : Prop :=
  ∃ u9, xk g 9 a = some u9 ∧ ∃ g1, o = some g1 ∧ ∃ u9, xk g1 9 a = some u9 ∧ ∃ x2, f_X8_thrown g1 a = some x2 ∧ if x2 = r then Q g1 else False
theorem st_open (h : LI ad lp t ps s code L g c) (x : Int32) {Q : xG → Prop} {P : Int32 → List Nat → xG → Prop} (ih : ∀ lp ps s code g, LI ad lp t ps s code L g (c + 1) → Q g) (hP : ∀ r g1, RfV Q (f_X8_open g1 (ad 60 0) x) (ad 60 0) r g1 → P r L g1) : w_L_open P L g (ad 1 0) x := by
  obtain ⟨h1, h2, h3, h4, ⟨f, h5⟩, h6⟩ := id h
  obtain ⟨oc, eo, ho⟩ := open_ok h1 h3 x
  have hT := h3.2.2.2.1.1
  refine ⟨(), r_k hT, oc, eo, ?_⟩
  have hth := th_open x
  have htk := tk_open (c := c) x
  have h8 := fun (g' : xG) (q : MI ad g' s code) => open8 h1 q x
  generalize spOpen x = e at ho hth htk h8
  cases e with
  | inl k =>
    have ho2 : oc = .inl k := ho
    subst ho2
    refine ⟨fun k2 q => ?_, fun g2 q => by cases q⟩
    cases q
    have hk2 := hth k rfl
    have : k = 1 := by omega
    subst this
    obtain ⟨g1, e, F, hM⟩ := h8 g h4
    refine ⟨rfl, hP 1 g ⟨(), h4.k, g1, e, (), hM.k, _, hM.th, ?_⟩⟩
    rw [if_pos (show zI 1 = (1 : Int32) from rfl)]
    exact ih _ _ _ _ _ (h.th hM F)
  | inr s1 =>
    obtain ⟨g2, lp1, rfl, hC1, F⟩ := ho
    refine ⟨(fun k q => by cases q), fun g3 q => ?_⟩
    cases q
    have h42 : MI ad g2 s code := h4.fr (fun _ _ _ => rfl) (fun c hc _ => F c 0 ((by decide : ∀ c ∈ RS, 60 ≤ c) c hc))
    obtain ⟨g1, e, F1, hM⟩ := h8 g2 h42
    refine hP 0 g2 ⟨(), h42.k, g1, e, (), hM.k, _, hM.th, ?_⟩
    rw [if_pos rfl]
    exact ih lp1 ps s1 0 g1 ⟨h1, h2, hC1.frc F1, hM, ⟨f, (F1 99 0 (Or.inr rfl)).trans ((F 99 0 (by decide)).trans h5)⟩, htk s1 rfl⟩
theorem st_audit (h : LI ad lp t ps s code L g c) (hc : c < 600) (x y : Int32) {Q : List Nat → xG → Prop} {P : Int32 → List Nat → xG → Prop} (ih : ∀ ad1 lp ps s code L g, ad1 1 0 = ad 1 0 → ad1 60 0 = ad 60 0 → ad1 99 0 = ad 99 0 → LI ad1 lp t ps s code L g (c + 1) → Q L g) (hP : ∀ r L1 g1, RfG (Mi Int32.toInt64 (ad 99 0) (Q L1)) (Q L1) (f_X8_audit g1 (ad 60 0) x y) (ad 60 0) r g1 → P r L1 g1) : w_L_audit t P L g (ad 1 0) x y (ad 99 0) := by
  obtain ⟨h1, h2, h3, h4, ⟨f, h5⟩, h6⟩ := id h
  have hT := h3.2.2.2.1.1
  have hB := h.bd hc
  refine ⟨(), r_k hT, ?_⟩
  refine audit_ok h1 h3 h2 x y (fun k e => ?_) (fun v s1 ad1 ps1 L1 g1 e i1 i2 i3 i4 i5 => ?_)
  · have h8 := audit8 h1 hB h4 x y
    rw [e] at h8
    have hk2 := th_audit x y k e
    have hr := ref_th (M := Mi Int32.toInt64 (ad 99 0) (Q L)) hk2 h h8 (fun lp ps s code g q => ih ad lp ps s code L g rfl rfl rfl q)
    refine ⟨fun k2 q => ?_, fun x2 q => by cases q⟩
    cases q
    rcases (by omega : k = 1 ∨ k = 2) with rfl | rfl
    · exact Or.inl ⟨rfl, hP 1 L g hr⟩
    · exact Or.inr ⟨rfl, hP 2 L g hr⟩
  · refine ⟨(fun k q => by cases q), fun x2 q => ?_⟩
    cases q
    have aR : ∀ c ∈ RS, ad1 c 0 = ad c 0 := fun c hc => i4 c 0 (us_ref hc) (rs_ne c hc).1
    have a1 : ad1 1 0 = ad 1 0 := i4 1 0 (us_top (by decide)) (by decide)
    have h41 : MI ad1 g1 s code := h4.fr (fun c hc _ => aR c hc) (fun c hc _ => i5 c hc)
    have h51 : g1 (ad1 99 0) = .inl (2, 1, .inr (.inl f)) := (i5 99 (by decide)).trans h5
    have e3 : xs_l g1 (ad1 99 0) 0 (Int32.toInt64 v) = some _ := r_sl h51 (k := 0) rfl (by decide) (by decide)
    rw [aR 99 (by decide)] at e3
    refine ⟨_, e3, hP 0 L1 _ ?_⟩
    rw [← aR 99 (by decide), ← aR 60 (by decide)]
    have M3 : MI ad1 (va_up g1 (ad1 99 0) (.inl (2, 1, .inr (.inl (vp_updL f 0 (Int32.toInt64 v)))))) s code := h41.fr (fun _ _ _ => rfl) (fun c hc hn => va_up_ne _ _ (i1.n1 hn))
    have h8 := audit8 i1 hB M3 x y
    rw [e] at h8
    refine ref_in (c := c) i1 i2 (i3.f6 (fun c j hc => va_up_ne _ _ (i1.n1 (by omega)))) M3 ⟨_, va_up_self _ _ _⟩ (h6.eq (tk_audit x y v s1 e)) h8 (fun lp ps s code g q => ih ad1 lp ps s code L1 g a1 (aR 60 (by decide)) (aR 99 (by decide)) q) (fun g4 e4 q => ?_)
    refine ⟨_, get99 (f := fun _ => 0) ⟨_, va_up_self _ _ _, updL_self _ _ _⟩ e4, ?_⟩
    rw [if_pos rfl]
    exact q
end LAW
