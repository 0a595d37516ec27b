def Inj (ad : Nat → Nat → Nat) : Prop := ∀ s i s' i', ad s i = ad s' i' → s = s' ∧ i = i'
section INJ
variable {ad : Nat → Nat → Nat}
theorem Inj.n1 (h : Inj ad) {s i s' i' : Nat} (q : s ≠ s') : ad s i ≠ ad s' i' := fun e => q (h s i s' i' e).1
theorem Inj.n2 (h : Inj ad) {s i i' : Nat} (q : i ≠ i') : ad s i ≠ ad s i' := fun e => q (h s i s i' e).2
end INJ
abbrev Md (ad : Nat → Nat → Nat) (S : List Nat) (i : Nat) (T : List Nat) (g g1 : xG) : Prop := ∀ s j, (s ∈ S → j ≠ i) → s ∉ T → g1 (ad s j) = g (ad s j)
section MD
variable {ad : Nat → Nat → Nat} {S S' : List Nat} {i : Nat} {T T' : List Nat} {g g1 g2 : xG}
theorem Md.rf : Md ad S i T g g := fun _ _ _ _ => rfl
theorem Md.tr (h1 : Md ad S i T g g1) (h2 : Md ad S i T g1 g2) : Md ad S i T g g2 := fun s j q r => (h2 s j q r).trans (h1 s j q r)
theorem Md.up (h : Md ad S i T g g1) (hS : ∀ s ∈ S, s ∈ S') (hT : ∀ s ∈ T, s ∈ T') : Md ad S' i T' g g1 := fun s j q r => h s j (fun m => q (hS s m)) (fun m => r (hT s m))
theorem Md.up0 {i0 : Nat} (h : Md ad [] i0 T g g1) (hT : ∀ s ∈ T, s ∈ T') : Md ad S' i T' g g1 := fun s j _ r => h s j (fun m => by cases m) (fun m => r (hT s m))
theorem Md.w1 (hI : Inj ad) {s : Nat} (hs : s ∈ S) {e : va_E} (h : Md ad S i T g g1) : Md ad S i T g (va_up g1 (ad s i) e) := fun s' j q r => by
  rw [va_up_ne]
  · exact h s' j q r
  · intro e2
    obtain ⟨e3, e4⟩ := hI _ _ _ _ e2
    subst e3
    exact q hs e4
theorem Md.w2 (hI : Inj ad) {s k : Nat} (hs : s ∈ T) {e : va_E} (h : Md ad S i T g g1) : Md ad S i T g (va_up g1 (ad s k) e) := fun s' j q r => by
  rw [va_up_ne]
  · exact h s' j q r
  · intro e2
    obtain ⟨e3, e4⟩ := hI _ _ _ _ e2
    subst e3
    exact r hs
end MD
section REP
variable (ad : Nat → Nat → Nat) (g : xG)
def LogE (i : Nat) (c : Nat) (fk fw fv : Nat → Int32) (fh : Nat → Int64) : Prop :=
  g (ad 12 i) = .inr (3, [.int (zI c), .ref (ad 16 i), .ref (ad 17 i), .ref (ad 18 i), .ref (ad 19 i)]) ∧
  g (ad 16 i) = .inl (1, 151, .inl fk) ∧ g (ad 17 i) = .inl (1, 151, .inl fw) ∧ g (ad 18 i) = .inl (1, 151, .inl fv) ∧ g (ad 19 i) = .inl (2, 151, .inr (.inl fh))
def LogF (l : List E3) (fk fw fv : Nat → Int32) (fh : Nat → Int64) : Prop :=
  (∀ k, k < l.length → fk (1 + k) = (en l k).1) ∧ (∀ k, k < l.length → fw (1 + k) = zI (en l k).2.1) ∧ (∀ k, k < l.length → fv (1 + k) = (en l k).2.2) ∧ ∀ k, k ≤ l.length → fh k = hd (l.take k)
def LogR (i : Nat) (l : List E3) : Prop := l.length ≤ 150 ∧ ∃ fk fw fv fh, LogE ad g i l.length fk fw fv fh ∧ LogF l fk fw fv fh
def MaR (i : Nat) (o n : Int32) (a b s t v : Int32) : Prop := g (ad 11 i) = .inr (4, [.int o, .int n, .int a, .int b, .int s, .int t, .int v])
def NoR (i c : Nat) (h : Bool) : Prop := g (ad 10 i) = .inr (5, [.int (zI i), .ref (ad 11 i), .ref (ad 12 i), .ref (ad 13 i), .ref (ad 14 i), .ref (ad 15 i), .int (zI c), .int (b2 h)])
def ShE (i c : Nat) (fs fn : Nat → Int32) (fh : Nat → Int64) (ff : Nat → Int32) : Prop :=
  g (ad 13 i) = .inr (7, [.int (zI c), .ref (ad 20 i), .ref (ad 21 i), .ref (ad 22 i), .ref (ad 23 i)]) ∧
  g (ad 20 i) = .inl (1, 300, .inl fs) ∧ g (ad 21 i) = .inl (1, 300, .inl fn) ∧ g (ad 22 i) = .inl (2, 300, .inr (.inl fh)) ∧ g (ad 23 i) = .inl (3, 300, .inl ff)
def ShF (k : List K4) (fs fn : Nat → Int32) (fh : Nat → Int64) (ff : Nat → Int32) : Prop :=
  (∀ j, j < k.length → fs j = zI (kt k j).1) ∧ (∀ j, j < k.length → fn j = zI (kt k j).2.1) ∧ (∀ j, j < k.length → fh j = (kt k j).2.2.1) ∧ ∀ j, j < k.length → ff j = b2 (kt k j).2.2.2
def ShR (i : Nat) (k : List K4) : Prop := k.length ≤ 300 ∧ (∀ e ∈ k, e.1 < 6 ∧ e.2.1 ≤ 150) ∧ ∃ fs fn fh ff, ShE ad g i k.length fs fn fh ff ∧ ShF k fs fn fh ff
def OpR (i : Nat) (o : Nat → Int32) : Prop := ∃ f, g (ad 14 i) = .inl (1, 6, .inl f) ∧ ∀ j, j < 6 → f j = o j
def TkR (i : Nat) (tk : List T3) : Prop := ∃ f, g (ad 15 i) = .inl (3, 906, .inl f) ∧ ∀ o m, o < 6 → m ≤ 150 → f (o * 151 + m) = b2 (decide ((i, o, m) ∈ tk))
def tkc (i : Nat) (tk : List T3) : Nat := (tk.filter (fun e => e.1 == i)).length
def NodR (n i : Nat) (l : List E3) (a b : Int32) (k : List K4) (o : Nat → Int32) (h : Bool) (tk : List T3) : Prop :=
  NoR ad g i (tkc i tk) h ∧ LogR ad g i l ∧ (∃ s t v, MaR ad g i (zI i) (zI n) a b s t v) ∧ ShR ad g i k ∧ OpR ad g i o ∧ TkR ad g i tk
def LetV (q : Nat) (k f t v n : Int32) (h x : Int64) : Prop := g q = .inr (2, [.int k, .int f, .int t, .int v, .int n, .long h, .long x])
def LetR (q : Nat) (m : M7) : Prop := m.2.1 < 6 ∧ m.2.2.1 < 6 ∧ m.2.2.2.2.1 ≤ 150 ∧ ∃ v, LetV g q (if m.1 then 2 else 1) (zI m.2.1) (zI m.2.2.1) v (zI m.2.2.2.2.1) m.2.2.2.2.2.1 m.2.2.2.2.2.2 ∧ (m.1 = false → v = m.2.2.2.1)
def PoR (lp : Nat → Nat) (p : List M7) (se : Int32) : Prop :=
  p.length ≤ 200 ∧ g (ad 3 0) = .inr (6, [.int (zI p.length), .int se, .ref (ad 4 0), .ref (ad 40 (lp 200))]) ∧
  (∃ f, g (ad 4 0) = .inl (4, 200, .inr (.inr (.inr (.inr f)))) ∧ ∀ j, j < 200 → f j = some (ad 40 (lp j))) ∧
  (∀ i j, i ≤ 200 → j ≤ 200 → lp i = lp j → i = j ∧ lp i ≤ 200) ∧
  (∀ j, j ≤ 200 → ∃ k f t v n h x, LetV g (ad 40 (lp j)) k f t v n h x) ∧ ∀ j, j < p.length → LetR g (ad 40 (lp j)) (mt p j)
def TopR (n ev : Nat) : Prop := g (ad 1 0) = .inr (8, [.int (zI n), .ref (ad 2 0), .ref (ad 3 0), .ref (ad 5 0), .int (zI ev), .ref (ad 11 6), .ref (ad 12 6)]) ∧
  ∃ f, g (ad 2 0) = .inl (5, 6, .inr (.inr (.inr (.inr f)))) ∧ ∀ i, i < 6 → f i = some (ad 10 i)
def PieR (j : Nat) (bs : List Int32) : Prop := ∃ f, g (ad 41 j) = .inr (1, [.int (zI bs.length), .ref (ad 42 j)]) ∧ g (ad 42 j) = .inl (0, 930, .inl f) ∧ ∀ k, k < bs.length → f k = bs.getD k 0
def plen (n : Nat) : Prop := 14 ≤ n ∧ n ≤ 930 ∧ (n % 6 = 0 ∨ n % 6 = 2 ∧ n ≤ 914)
def PcR (t ps : Nat) (pc : List (List Int32)) : Prop :=
  pc.length ≤ ps ∧ ps ≤ 40 ∧ (∃ mc ed, g (ad 5 0) = .inr (0, [.int mc, .ref ed, .int (zI ps)]) ∧
    (ps = 0 ∧ ed = t ∨ ed = ad 43 0 ∧ ed ≠ t ∧ ∃ cap f, g (ad 43 0) = .inl (6, cap, .inr (.inr (.inr (.inr f)))) ∧ 10 ≤ cap ∧ (cap = 10 ∨ cap = 15 ∨ cap = 22 ∨ cap = 33 ∨ cap = 49) ∧ (0 < ps ∧ ps ≤ cap) ∧ ∀ j, j < ps → f j = some (ad 41 j))) ∧
  (∀ j, j < ps → ∃ bs, bs.length ≤ 930 ∧ PieR ad g j bs) ∧ ∀ j, j < pc.length → plen (pc.getD j []).length ∧ PieR ad g j (pc.getD j [])
def CI (lp : Nat → Nat) (t ps : Nat) (s : Sg) : Prop :=
  (∀ i, i < 6 → ∀ e ∈ sL s i, e.2.1 < 256) ∧ 3 ≤ sN s ∧ sN s ≤ 6 ∧ TopR ad g (sN s) (sE s).length ∧ (∀ i, i < 6 → NodR ad g (sN s) i (sL s i) (sA s i) (sB s i) (sK s i) (sO s i) (sH s i) (sT s)) ∧
  PoR ad g lp (sP s) (sS s) ∧ PcR ad g t ps (sE s) ∧ (∃ o n a b q r v, MaR ad g 6 o n a b q r v) ∧ ∃ l, LogR ad g 6 l
end REP
section PF
variable {α : Type} {l : List α} {e d : α} {o k0 : Nat}
theorem pf_snoc {β : Type} {p : α → β} {f : Nat → β} (hk : k0 = o + l.length) (h : ∀ k, k < l.length → f (o + k) = p (l.getD k d)) : ∀ k, k < (l ++ [e]).length → va_up f k0 (p e) (o + k) = p ((l ++ [e]).getD k d) := by
  intro k q
  rw [List.length_append, List.length_singleton] at q
  by_cases hq : k < l.length
  · rw [va_up_ne _ _ (by omega), getD_snoc_lt hq]
    exact h k hq
  · have hq2 : k = l.length := by omega
    subst hq2
    rw [hk, va_up_self, getD_snoc_eq]
theorem pf_snoc0 {β : Type} {p : α → β} {f : Nat → β} (h : ∀ k, k < l.length → f k = p (l.getD k d)) : ∀ k, k < (l ++ [e]).length → va_up f l.length (p e) k = p ((l ++ [e]).getD k d) := by
  intro k q
  have h2 := pf_snoc (e := e) (o := 0) (k0 := l.length) (p := p) (f := f) (d := d) (by omega) (fun j hj => by rw [Nat.zero_add, h j hj]) k q
  rw [Nat.zero_add] at h2
  exact h2
theorem upd_up (f : Nat → Int32) (k : Nat) (x : Int32) : upd f k x = va_up f k x := rfl
theorem updL_up (f : Nat → Int64) (k : Nat) (x : Int64) : vp_updL f k x = va_up f k x := rfl
end PF
theorem len_snoc {α : Type} (l : List α) (e : α) : (l ++ [e]).length = l.length + 1 := by simp
section FR
variable {ad : Nat → Nat → Nat} {g g1 : xG} {i : Nat}
theorem Md.at {S : List Nat} {T : List Nat} {j : Nat} (M : Md ad S i T g g1) {X : List Nat} (h : ∀ s ∈ X, s ∉ T) (hj : j ≠ i ∨ ∀ s ∈ X, s ∉ S) : ∀ s, s ∈ X → g1 (ad s j) = g (ad s j) := fun s q => M s j (fun r => hj.elim id (fun z => absurd r (z s q))) (h s q)
theorem Md.all {S : List Nat} {T : List Nat} (M : Md ad S i T g g1) {X : List Nat} (h : ∀ s ∈ X, s ∉ S ∧ s ∉ T) : ∀ s j, s ∈ X → g1 (ad s j) = g (ad s j) := fun s j q => M s j (fun r => absurd r (h s q).1) (h s q).2
theorem LogE.fr {c : Nat} {fk fw fv : Nat → Int32} {fh : Nat → Int64} (h : LogE ad g i c fk fw fv fh) (q : ∀ s, s ∈ [12, 16, 17, 18, 19] → g1 (ad s i) = g (ad s i)) : LogE ad g1 i c fk fw fv fh := by
  obtain ⟨h0, h1, h2, h3, h4⟩ := h
  exact ⟨(q 12 (by decide)).trans h0, (q 16 (by decide)).trans h1, (q 17 (by decide)).trans h2, (q 18 (by decide)).trans h3, (q 19 (by decide)).trans h4⟩
theorem LogR.fr {l : List E3} (h : LogR ad g i l) (q : ∀ s, s ∈ [12, 16, 17, 18, 19] → g1 (ad s i) = g (ad s i)) : LogR ad g1 i l := by
  obtain ⟨h0, fk, fw, fv, fh, h1, h2⟩ := h
  exact ⟨h0, fk, fw, fv, fh, h1.fr q, h2⟩
theorem MaR.fr {o n a b s t v : Int32} (h : MaR ad g i o n a b s t v) (q : ∀ s, s ∈ [11] → g1 (ad s i) = g (ad s i)) : MaR ad g1 i o n a b s t v := (q 11 (by decide)).trans h
theorem NoR.fr {c : Nat} {b : Bool} (h : NoR ad g i c b) (q : ∀ s, s ∈ [10] → g1 (ad s i) = g (ad s i)) : NoR ad g1 i c b := (q 10 (by decide)).trans h
theorem ShE.fr {c : Nat} {fs fn : Nat → Int32} {fh : Nat → Int64} {ff : Nat → Int32} (h : ShE ad g i c fs fn fh ff) (q : ∀ s, s ∈ [13, 20, 21, 22, 23] → g1 (ad s i) = g (ad s i)) : ShE ad g1 i c fs fn fh ff := by
  obtain ⟨e0, e1, e2, e3, e4⟩ := h
  exact ⟨(q 13 (by decide)).trans e0, (q 20 (by decide)).trans e1, (q 21 (by decide)).trans e2, (q 22 (by decide)).trans e3, (q 23 (by decide)).trans e4⟩
theorem ShR.fr {k : List K4} (h : ShR ad g i k) (q : ∀ s, s ∈ [13, 20, 21, 22, 23] → g1 (ad s i) = g (ad s i)) : ShR ad g1 i k := by
  obtain ⟨h0, h5, fs, fn, fh, ff, ⟨e0, e1, e2, e3, e4⟩, h2⟩ := h
  exact ⟨h0, h5, fs, fn, fh, ff, ⟨(q 13 (by decide)).trans e0, (q 20 (by decide)).trans e1, (q 21 (by decide)).trans e2, (q 22 (by decide)).trans e3, (q 23 (by decide)).trans e4⟩, h2⟩
theorem OpR.fr {o : Nat → Int32} (h : OpR ad g i o) (q : ∀ s, s ∈ [14] → g1 (ad s i) = g (ad s i)) : OpR ad g1 i o := by
  obtain ⟨f, h1, h2⟩ := h
  exact ⟨f, (q 14 (by decide)).trans h1, h2⟩
theorem TkR.fr {tk : List T3} (h : TkR ad g i tk) (q : ∀ s, s ∈ [15] → g1 (ad s i) = g (ad s i)) : TkR ad g1 i tk := by
  obtain ⟨f, h1, h2⟩ := h
  exact ⟨f, (q 15 (by decide)).trans h1, h2⟩
theorem sub_q {X Y : List Nat} (h : ∀ s, s ∈ X → s ∈ Y) (q : ∀ s, s ∈ Y → g1 (ad s i) = g (ad s i)) : ∀ s, s ∈ X → g1 (ad s i) = g (ad s i) := fun s m => q s (h s m)
theorem NodR.fr {n : Nat} {l : List E3} {a b : Int32} {k : List K4} {o : Nat → Int32} {h : Bool} {tk : List T3} (H : NodR ad g n i l a b k o h tk) (q : ∀ s, s ∈ [10, 11, 12, 13, 14, 15, 16, 17, 18, 19, 20, 21, 22, 23] → g1 (ad s i) = g (ad s i)) : NodR ad g1 n i l a b k o h tk := by
  obtain ⟨h1, h2, ⟨s, t, v, h3⟩, h4, h5, h6⟩ := H
  exact ⟨h1.fr (sub_q (by decide) q), h2.fr (sub_q (by decide) q), ⟨s, t, v, h3.fr (sub_q (by decide) q)⟩, h4.fr (sub_q (by decide) q), h5.fr (sub_q (by decide) q), h6.fr (sub_q (by decide) q)⟩
theorem PoR.fr {lp : Nat → Nat} {p : List M7} {se : Int32} (h : PoR ad g lp p se) (q : ∀ s j, s ∈ [3, 4, 40] → g1 (ad s j) = g (ad s j)) : PoR ad g1 lp p se := by
  obtain ⟨h0, h1, ⟨f, h2, h3⟩, h4, h5, h6⟩ := h
  refine ⟨h0, (q 3 0 (by decide)).trans h1, ⟨f, (q 4 0 (by decide)).trans h2, h3⟩, h4, fun j hj => ?_, fun j hj => ?_⟩
  · obtain ⟨k, f, t, v, n, h, x, e⟩ := h5 j hj
    exact ⟨k, f, t, v, n, h, x, (q 40 _ (by decide)).trans e⟩
  · obtain ⟨e1, e2, e3, v, e4, e5⟩ := h6 j hj
    exact ⟨e1, e2, e3, v, (q 40 _ (by decide)).trans e4, e5⟩
theorem TopR.fr {n ev : Nat} (h : TopR ad g n ev) (q : ∀ s, s ∈ [1, 2] → g1 (ad s 0) = g (ad s 0)) : TopR ad g1 n ev := by
  obtain ⟨h1, f, h2, h3⟩ := h
  exact ⟨(q 1 (by decide)).trans h1, f, (q 2 (by decide)).trans h2, h3⟩
theorem PieR.fr {j : Nat} {bs : List Int32} (h : PieR ad g j bs) (q : ∀ s, s ∈ [41, 42] → g1 (ad s j) = g (ad s j)) : PieR ad g1 j bs := by
  obtain ⟨f, h1, h2, h3⟩ := h
  exact ⟨f, (q 41 (by decide)).trans h1, (q 42 (by decide)).trans h2, h3⟩
theorem PcR.fr {t ps : Nat} {pc : List (List Int32)} (h : PcR ad g t ps pc) (q : ∀ s j, s ∈ [5, 41, 42, 43] → g1 (ad s j) = g (ad s j)) : PcR ad g1 t ps pc := by
  obtain ⟨h0, h1, ⟨mc, ed, h2, h3⟩, h4, h5⟩ := h
  refine ⟨h0, h1, ⟨mc, ed, (q 5 0 (by decide)).trans h2, ?_⟩, fun j hj => ?_, fun j hj => ?_⟩
  · rcases h3 with h3 | ⟨e1, e2, cap, f, e3, e4⟩
    · exact Or.inl h3
    · exact Or.inr ⟨e1, e2, cap, f, (q 43 0 (by decide)).trans e3, e4⟩
  · obtain ⟨bs, e1, e2⟩ := h4 j hj
    exact ⟨bs, e1, e2.fr (fun s m => q s j (by revert m; revert s; decide))⟩
  · obtain ⟨e1, e3⟩ := h5 j hj
    exact ⟨e1, e3.fr (fun s m => q s j (by revert m; revert s; decide))⟩
end FR
