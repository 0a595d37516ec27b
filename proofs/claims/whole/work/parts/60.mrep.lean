def moF (ad : Nat → Nat → Nat) (c n le se ta pi sn : Int32) : List Value := [.int c, .int n, .ref (ad 62 0), .ref (ad 63 0), .ref (ad 64 0), .ref (ad 65 0), .ref (ad 66 0), .ref (ad 67 0), .ref (ad 68 0), .ref (ad 69 0), .int le, .int se, .ref (ad 72 0), .ref (ad 73 0), .ref (ad 74 0), .ref (ad 75 0), .ref (ad 76 0), .ref (ad 77 0), .ref (ad 78 0), .int ta, .ref (ad 80 0), .ref (ad 81 0), .ref (ad 82 0), .ref (ad 83 0), .ref (ad 84 0), .ref (ad 85 0), .ref (ad 86 0), .ref (ad 87 0), .int pi, .ref (ad 89 0), .ref (ad 90 0), .int sn, .ref (ad 92 0), .ref (ad 93 0), .ref (ad 94 0)]
section MOF
variable (ad : Nat → Nat → Nat) (c n le se ta pi sn x : Int32)
theorem ms0 : (moF ad c n le se ta pi sn).set 0 (.int x) = moF ad x n le se ta pi sn := rfl
theorem ms1 : (moF ad c n le se ta pi sn).set 1 (.int x) = moF ad c x le se ta pi sn := rfl
theorem ms10 : (moF ad c n le se ta pi sn).set 10 (.int x) = moF ad c n x se ta pi sn := rfl
theorem ms11 : (moF ad c n le se ta pi sn).set 11 (.int x) = moF ad c n le x ta pi sn := rfl
theorem ms19 : (moF ad c n le se ta pi sn).set 19 (.int x) = moF ad c n le se x pi sn := rfl
theorem ms28 : (moF ad c n le se ta pi sn).set 28 (.int x) = moF ad c n le se ta x sn := rfl
theorem ms31 : (moF ad c n le se ta pi sn).set 31 (.int x) = moF ad c n le se ta pi x := rfl
end MOF
section MREP
variable (ad : Nat → Nat → Nat) (g : xG)
def MO (c n le se ta pi sn : Int32) : Prop := g (ad 60 0) = .inr (9, moF ad c n le se ta pi sn)
def MLgE (fl fk fw fv : Nat → Int32) : Prop := g (ad 64 0) = .inl (1, 6, .inl fl) ∧ g (ad 65 0) = .inl (1, 906, .inl fk) ∧ g (ad 66 0) = .inl (1, 906, .inl fw) ∧ g (ad 67 0) = .inl (1, 906, .inl fv)
def MLgF (L : Nat → List E3) (fl fk fw fv : Nat → Int32) : Prop :=
  (∀ i, i < 6 → fl i = zI (L i).length) ∧ (∀ i, i < 6 → ∀ k, k < (L i).length → fk (151 * i + k) = (en (L i) k).1) ∧ (∀ i, i < 6 → ∀ k, k < (L i).length → fw (151 * i + k) = zI (en (L i) k).2.1) ∧ ∀ i, i < 6 → ∀ k, k < (L i).length → fv (151 * i + k) = (en (L i) k).2.2
def MLg (L : Nat → List E3) : Prop := ∃ fl fk fw fv, MLgE ad g fl fk fw fv ∧ MLgF L fl fk fw fv
def MAB (A B : Nat → Int32) : Prop := ∃ fa fb, g (ad 62 0) = .inl (1, 6, .inl fa) ∧ g (ad 63 0) = .inl (1, 6, .inl fb) ∧ (∀ i, i < 6 → fa i = A i) ∧ ∀ i, i < 6 → fb i = B i
def MHi (H : Nat → Bool) : Prop := ∃ f, g (ad 68 0) = .inl (3, 6, .inl f) ∧ ∀ i, i < 6 → f i = b2 (H i)
def MVe (O : Nat → Nat → Int32) : Prop := ∃ f, g (ad 69 0) = .inl (1, 36, .inl f) ∧ ∀ i j, i < 6 → j < 6 → f (6 * i + j) = O i j
def MLeE (fk ft ff fv fn : Nat → Int32) (fh fx : Nat → Int64) : Prop := g (ad 72 0) = .inl (1, 200, .inl fk) ∧ g (ad 73 0) = .inl (1, 200, .inl ft) ∧ g (ad 74 0) = .inl (1, 200, .inl ff) ∧ g (ad 75 0) = .inl (1, 200, .inl fv) ∧ g (ad 76 0) = .inl (1, 200, .inl fn) ∧ g (ad 77 0) = .inl (2, 200, .inr (.inl fh)) ∧ g (ad 78 0) = .inl (2, 200, .inr (.inl fx))
def nk (b : Bool) : Int32 := if b then 2 else 1
def LeAt (fk ft ff fv fn : Nat → Int32) (fh fx : Nat → Int64) (j : Nat) (m : M7) : Prop := fk j = nk m.1 ∧ ft j = zI m.2.2.1 ∧ ff j = zI m.2.1 ∧ (m.1 = false → fv j = m.2.2.2.1) ∧ fn j = zI m.2.2.2.2.1 ∧ fh j = m.2.2.2.2.2.1 ∧ fx j = m.2.2.2.2.2.2
def MLeF (p : List M7) (fk ft ff fv fn : Nat → Int32) (fh fx : Nat → Int64) : Prop := ∀ j, j < p.length → LeAt fk ft ff fv fn fh fx j (mt p j)
def MLe (p : List M7) : Prop := ∃ fk ft ff fv fn fh fx, MLeE ad g fk ft ff fv fn fh fx ∧ MLeF p fk ft ff fv fn fh fx
def tt (l : List T3) (k : Nat) : T3 := l.getD k (0, 0, 0)
def MTk (T : List T3) : Prop := ∃ fb fo fn, g (ad 80 0) = .inl (1, 600, .inl fb) ∧ g (ad 81 0) = .inl (1, 600, .inl fo) ∧ g (ad 82 0) = .inl (1, 600, .inl fn) ∧ (∀ j, j < T.length → fb j = zI (tt T j).1) ∧ (∀ j, j < T.length → fo j = zI (tt T j).2.1) ∧ ∀ j, j < T.length → fn j = zI (tt T j).2.2
def MKpE (fc fs fn : Nat → Int32) (fh : Nat → Int64) (ff : Nat → Int32) : Prop := g (ad 83 0) = .inl (1, 6, .inl fc) ∧ g (ad 84 0) = .inl (1, 1800, .inl fs) ∧ g (ad 85 0) = .inl (1, 1800, .inl fn) ∧ g (ad 86 0) = .inl (2, 1800, .inr (.inl fh)) ∧ g (ad 87 0) = .inl (3, 1800, .inl ff)
def MKpF (K : Nat → List K4) (fc fs fn : Nat → Int32) (fh : Nat → Int64) (ff : Nat → Int32) : Prop :=
  (∀ i, i < 6 → fc i = zI (K i).length) ∧ (∀ i, i < 6 → ∀ k, k < (K i).length → fs (300 * i + k) = zI (kt (K i) k).1) ∧ (∀ i, i < 6 → ∀ k, k < (K i).length → fn (300 * i + k) = zI (kt (K i) k).2.1) ∧ (∀ i, i < 6 → ∀ k, k < (K i).length → fh (300 * i + k) = (kt (K i) k).2.2.1) ∧ ∀ i, i < 6 → ∀ k, k < (K i).length → ff (300 * i + k) = b2 (kt (K i) k).2.2.2
def MKp (K : Nat → List K4) : Prop := ∃ fc fs fn fh ff, MKpE ad g fc fs fn fh ff ∧ MKpF K fc fs fn fh ff
def MSl (l : List E3) : Prop := ∃ fk fw fv, g (ad 92 0) = .inl (1, 151, .inl fk) ∧ g (ad 93 0) = .inl (1, 151, .inl fw) ∧ g (ad 94 0) = .inl (1, 151, .inl fv) ∧ (∀ k, k < l.length → fk k = (en l k).1) ∧ (∀ k, k < l.length → fw k = zI (en l k).2.1) ∧ ∀ k, k < l.length → fv k = (en l k).2.2
def MPw (E : List (List Int32)) (bs : List Int32) : Prop := ∃ fz fb, g (ad 89 0) = .inl (1, 40, .inl fz) ∧ g (ad 90 0) = .inl (0, 37600, .inl fb) ∧
  (∀ e, e < E.length → fz e = zI (E.getD e []).length ∧ ∀ k, k < (E.getD e []).length → fb (940 * e + k) = (E.getD e []).getD k 0) ∧ fz E.length = zI bs.length ∧ ∀ k, k < bs.length → fb (940 * E.length + k) = bs.getD k 0
def MPc (E : List (List Int32)) : Prop := ∃ fz fb, g (ad 89 0) = .inl (1, 40, .inl fz) ∧ g (ad 90 0) = .inl (0, 37600, .inl fb) ∧
  ∀ e, e < E.length → fz e = zI (E.getD e []).length ∧ ∀ k, k < (E.getD e []).length → fb (940 * e + k) = (E.getD e []).getD k 0
def MIr (s : Sg) (c sn : Int32) : Prop := MO ad g c (zI (sN s)) (zI (sP s).length) (sS s) (zI (sT s).length) (zI (sE s).length) sn ∧ MLg ad g (sL s) ∧ MAB ad g (sA s) (sB s) ∧ MHi ad g (sH s) ∧ MVe ad g (sO s) ∧ MLe ad g (sP s) ∧ MTk ad g (sT s) ∧ MKp ad g (sK s) ∧ MSl ad g []
def MI (s : Sg) (c : Int32) : Prop := (∃ sn, MIr ad g s c sn) ∧ MPc ad g (sE s)
end MREP
section MFR
variable {ad ad1 : Nat → Nat → Nat} {g g1 : xG}
theorem MLg.fr {L : Nat → List E3} (h : MLg ad g L) (q : ∀ c, c ∈ [64, 65, 66, 67] → g1 (ad1 c 0) = g (ad c 0)) : MLg ad1 g1 L := by
  obtain ⟨fl, fk, fw, fv, ⟨a, b, c, d⟩, h⟩ := h
  exact ⟨fl, fk, fw, fv, ⟨(q 64 (by decide)).trans a, (q 65 (by decide)).trans b, (q 66 (by decide)).trans c, (q 67 (by decide)).trans d⟩, h⟩
theorem MAB.fr {A B : Nat → Int32} (h : MAB ad g A B) (q : ∀ c, c ∈ [62, 63] → g1 (ad1 c 0) = g (ad c 0)) : MAB ad1 g1 A B := by
  obtain ⟨fa, fb, a, b, h⟩ := h
  exact ⟨fa, fb, (q 62 (by decide)).trans a, (q 63 (by decide)).trans b, h⟩
theorem MHi.fr {H : Nat → Bool} (h : MHi ad g H) (q : ∀ c, c ∈ [68] → g1 (ad1 c 0) = g (ad c 0)) : MHi ad1 g1 H := by
  obtain ⟨f, a, h⟩ := h
  exact ⟨f, (q 68 (by decide)).trans a, h⟩
theorem MVe.fr {O : Nat → Nat → Int32} (h : MVe ad g O) (q : ∀ c, c ∈ [69] → g1 (ad1 c 0) = g (ad c 0)) : MVe ad1 g1 O := by
  obtain ⟨f, a, h⟩ := h
  exact ⟨f, (q 69 (by decide)).trans a, h⟩
theorem MLe.fr {p : List M7} (h : MLe ad g p) (q : ∀ c, c ∈ [72, 73, 74, 75, 76, 77, 78] → g1 (ad1 c 0) = g (ad c 0)) : MLe ad1 g1 p := by
  obtain ⟨f1, f2, f3, f4, f5, f6, f7, ⟨a1, a2, a3, a4, a5, a6, a7⟩, h⟩ := h
  exact ⟨f1, f2, f3, f4, f5, f6, f7, ⟨(q 72 (by decide)).trans a1, (q 73 (by decide)).trans a2, (q 74 (by decide)).trans a3, (q 75 (by decide)).trans a4, (q 76 (by decide)).trans a5, (q 77 (by decide)).trans a6, (q 78 (by decide)).trans a7⟩, h⟩
theorem MTk.fr {T : List T3} (h : MTk ad g T) (q : ∀ c, c ∈ [80, 81, 82] → g1 (ad1 c 0) = g (ad c 0)) : MTk ad1 g1 T := by
  obtain ⟨f1, f2, f3, a1, a2, a3, h⟩ := h
  exact ⟨f1, f2, f3, (q 80 (by decide)).trans a1, (q 81 (by decide)).trans a2, (q 82 (by decide)).trans a3, h⟩
theorem MKp.fr {K : Nat → List K4} (h : MKp ad g K) (q : ∀ c, c ∈ [83, 84, 85, 86, 87] → g1 (ad1 c 0) = g (ad c 0)) : MKp ad1 g1 K := by
  obtain ⟨f1, f2, f3, f4, f5, ⟨a1, a2, a3, a4, a5⟩, h⟩ := h
  exact ⟨f1, f2, f3, f4, f5, ⟨(q 83 (by decide)).trans a1, (q 84 (by decide)).trans a2, (q 85 (by decide)).trans a3, (q 86 (by decide)).trans a4, (q 87 (by decide)).trans a5⟩, h⟩
theorem MSl.fr {l : List E3} (h : MSl ad g l) (q : ∀ c, c ∈ [92, 93, 94] → g1 (ad1 c 0) = g (ad c 0)) : MSl ad1 g1 l := by
  obtain ⟨f1, f2, f3, a1, a2, a3, h⟩ := h
  exact ⟨f1, f2, f3, (q 92 (by decide)).trans a1, (q 93 (by decide)).trans a2, (q 94 (by decide)).trans a3, h⟩
theorem MSl.nil {l : List E3} (h : MSl ad g l) : MSl ad g [] := by
  obtain ⟨f1, f2, f3, a1, a2, a3, h⟩ := h
  exact ⟨f1, f2, f3, a1, a2, a3, fun k hk => absurd hk (Nat.not_lt_zero k), fun k hk => absurd hk (Nat.not_lt_zero k), fun k hk => absurd hk (Nat.not_lt_zero k)⟩
theorem MPw.fr {E : List (List Int32)} {bs : List Int32} (h : MPw ad g E bs) (q : ∀ c, c ∈ [89, 90] → g1 (ad1 c 0) = g (ad c 0)) : MPw ad1 g1 E bs := by
  obtain ⟨f1, f2, a1, a2, h⟩ := h
  exact ⟨f1, f2, (q 89 (by decide)).trans a1, (q 90 (by decide)).trans a2, h⟩
theorem MPc.fr {E : List (List Int32)} (h : MPc ad g E) (q : ∀ c, c ∈ [89, 90] → g1 (ad1 c 0) = g (ad c 0)) : MPc ad1 g1 E := by
  obtain ⟨f1, f2, a1, a2, h⟩ := h
  exact ⟨f1, f2, (q 89 (by decide)).trans a1, (q 90 (by decide)).trans a2, h⟩
end MFR
abbrev Frc (ad : Nat → Nat → Nat) (g g1 : xG) : Prop := ∀ c j, c < 60 ∨ c = 99 → g1 (ad c j) = g (ad c j)
theorem Md.frc {ad : Nat → Nat → Nat} {g g1 : xG} {T : List Nat} (M : Md ad [] 0 T g g1) (hT : ∀ s ∈ T, 60 ≤ s ∧ s < 99) : Frc ad g g1 := fun c j h => M c j (fun q => by cases q) (fun q => by have := hT c q; omega)
theorem Frc.tr {ad : Nat → Nat → Nat} {g g1 g2 : xG} (h : Frc ad g g1) (k : Frc ad g1 g2) : Frc ad g g2 := fun c j q => (k c j q).trans (h c j q)
def Bd (s : Sg) : Prop := 3 ≤ sN s ∧ sN s ≤ 6 ∧ (∀ i, i < 6 → (sL s i).length ≤ 150 ∧ ∀ e ∈ sL s i, e.2.1 < 256) ∧ (∀ i, i < 6 → (sK s i).length ≤ 300 ∧ ∀ e ∈ sK s i, e.1 < 6 ∧ e.2.1 ≤ 150) ∧
  (sP s).length ≤ 200 ∧ (∀ j, j < (sP s).length → (mt (sP s) j).2.1 < 6 ∧ (mt (sP s) j).2.2.1 < 6 ∧ (mt (sP s) j).2.2.2.2.1 ≤ 150) ∧ (sE s).length ≤ 40 ∧ (∀ j, j < (sE s).length → plen ((sE s).getD j []).length) ∧ (sT s).length < 600 ∧ ∀ e ∈ sT s, e.1 < 6 ∧ e.2.1 < 6 ∧ e.2.2 ≤ 150
theorem CI.bd {ad : Nat → Nat → Nat} {g : xG} {lp : Nat → Nat} {t ps : Nat} {s : Sg} (h : CI ad g lp t ps s) (hT : (sT s).length < 600) (hT2 : ∀ e ∈ sT s, e.1 < 6 ∧ e.2.1 < 6 ∧ e.2.2 ≤ 150) : Bd s := by
  obtain ⟨c0, c1, c2, c3, c4, c5, c6, c7, c8⟩ := h
  refine ⟨c1, c2, fun i hi => ⟨(c4 i hi).2.1.1, c0 i hi⟩, fun i hi => ⟨(c4 i hi).2.2.2.1.1, (c4 i hi).2.2.2.1.2.1⟩, c5.1, fun j hj => ?_, Nat.le_trans c6.1 c6.2.1, fun j hj => (c6.2.2.2.2 j hj).1, hT, hT2⟩
  obtain ⟨a1, a2, a3, -⟩ := c5.2.2.2.2.2 j hj
  exact ⟨a1, a2, a3⟩
theorem CI.frc {ad : Nat → Nat → Nat} {g g1 : xG} {lp : Nat → Nat} {t ps : Nat} {s : Sg} (h : CI ad g lp t ps s) (F : Frc ad g g1) : CI ad g1 lp t ps s := by
  obtain ⟨c0, c1, c2, c3, c4, c5, c6, c7, c8⟩ := h
  refine ⟨c0, c1, c2, c3.fr (fun s q => F s 0 (Or.inl ((by decide : ∀ s ∈ [1, 2], s < 60) s q))), fun j hj => (c4 j hj).fr (fun s q => F s j (Or.inl ((by decide : ∀ s ∈ [10, 11, 12, 13, 14, 15, 16, 17, 18, 19, 20, 21, 22, 23], s < 60) s q))), c5.fr (fun s j q => F s j (Or.inl ((by decide : ∀ s ∈ [3, 4, 40], s < 60) s q))), c6.fr (fun s j q => F s j (Or.inl ((by decide : ∀ s ∈ [5, 41, 42, 43], s < 60) s q))), ?_, ?_⟩
  · obtain ⟨o, n, a, b, q, r, v, e⟩ := c7
    exact ⟨o, n, a, b, q, r, v, e.fr (fun s q => F s 6 (Or.inl ((by decide : ∀ s ∈ [11], s < 60) s q)))⟩
  · obtain ⟨l, e⟩ := c8
    exact ⟨l, e.fr (fun s q => F s 6 (Or.inl ((by decide : ∀ s ∈ [12, 16, 17, 18, 19], s < 60) s q)))⟩
theorem LeAt.ne {fk ft ff fv fn : Nat → Int32} {fh fx : Nat → Int64} {j k : Nat} {m : M7} {a1 a2 a3 a4 a5 : Int32} {a6 a7 : Int64} (h : LeAt fk ft ff fv fn fh fx k m) (hq : k ≠ j) : LeAt (upd fk j a1) (upd ft j a2) (upd ff j a3) (upd fv j a4) (upd fn j a5) (vp_updL fh j a6) (vp_updL fx j a7) k m := by
  unfold LeAt at *
  rw [upd_ne _ _ hq, upd_ne _ _ hq, upd_ne _ _ hq, upd_ne _ _ hq, upd_ne _ _ hq, updL_ne _ _ hq, updL_ne _ _ hq]
  exact h
theorem LeAt.eq {fk ft ff fv fn : Nat → Int32} {fh fx : Nat → Int64} {j : Nat} {m : M7} {a1 a2 a3 a4 a5 : Int32} {a6 a7 : Int64} (h1 : a1 = nk m.1) (h2 : a2 = zI m.2.2.1) (h3 : a3 = zI m.2.1) (h4 : m.1 = false → a4 = m.2.2.2.1) (h5 : a5 = zI m.2.2.2.2.1) (h6 : a6 = m.2.2.2.2.2.1) (h7 : a7 = m.2.2.2.2.2.2) : LeAt (upd fk j a1) (upd ft j a2) (upd ff j a3) (upd fv j a4) (upd fn j a5) (vp_updL fh j a6) (vp_updL fx j a7) j m := by
  unfold LeAt
  rw [upd_self, upd_self, upd_self, upd_self, upd_self, updL_self, updL_self]
  exact ⟨h1, h2, h3, h4, h5, h6, h7⟩
section MUP
variable {ad : Nat → Nat → Nat} {g g1 : xG} {s s1 : Sg} {c c1 sn sn1 : Int32} {T : List Nat}
theorem MIr.up (h : MIr ad g s c sn) (M : Md ad [] 0 T g g1) (hO : MO ad g1 c1 (zI (sN s1)) (zI (sP s1).length) (sS s1) (zI (sT s1).length) (zI (sE s1).length) sn1)
    (hL : ((∀ x ∈ [64, 65, 66, 67], x ∉ T) ∧ sL s1 = sL s) ∨ MLg ad g1 (sL s1) := by exact Or.inl ⟨by decide, rfl⟩)
    (hAB : ((∀ x ∈ [62, 63], x ∉ T) ∧ sA s1 = sA s ∧ sB s1 = sB s) ∨ MAB ad g1 (sA s1) (sB s1) := by exact Or.inl ⟨by decide, rfl, rfl⟩)
    (hH : ((∀ x ∈ [68], x ∉ T) ∧ sH s1 = sH s) ∨ MHi ad g1 (sH s1) := by exact Or.inl ⟨by decide, rfl⟩)
    (hV : ((∀ x ∈ [69], x ∉ T) ∧ sO s1 = sO s) ∨ MVe ad g1 (sO s1) := by exact Or.inl ⟨by decide, rfl⟩)
    (hP : ((∀ x ∈ [72, 73, 74, 75, 76, 77, 78], x ∉ T) ∧ sP s1 = sP s) ∨ MLe ad g1 (sP s1) := by exact Or.inl ⟨by decide, rfl⟩)
    (hT : ((∀ x ∈ [80, 81, 82], x ∉ T) ∧ sT s1 = sT s) ∨ MTk ad g1 (sT s1) := by exact Or.inl ⟨by decide, rfl⟩)
    (hK : ((∀ x ∈ [83, 84, 85, 86, 87], x ∉ T) ∧ sK s1 = sK s) ∨ MKp ad g1 (sK s1) := by exact Or.inl ⟨by decide, rfl⟩)
    (hS : (∀ x ∈ [92, 93, 94], x ∉ T) ∨ MSl ad g1 [] := by exact Or.inl (by decide)) : MIr ad g1 s1 c1 sn1 := by
  obtain ⟨m0, m1, m2, m3, m4, m5, m6, m7, m8⟩ := h
  have F : ∀ {X : List Nat}, (∀ x ∈ X, x ∉ T) → ∀ x, x ∈ X → g1 (ad x 0) = g (ad x 0) := fun hX => Md.at M hX (Or.inr (by simp))
  refine ⟨hO, hL.elim (fun q => ?_) id, hAB.elim (fun q => ?_) id, hH.elim (fun q => ?_) id, hV.elim (fun q => ?_) id, hP.elim (fun q => ?_) id, hT.elim (fun q => ?_) id, hK.elim (fun q => ?_) id, hS.elim (fun q => ?_) id⟩
  · rw [q.2]; exact m1.fr (F q.1)
  · rw [q.2.1, q.2.2]; exact m2.fr (F q.1)
  · rw [q.2]; exact m3.fr (F q.1)
  · rw [q.2]; exact m4.fr (F q.1)
  · rw [q.2]; exact m5.fr (F q.1)
  · rw [q.2]; exact m6.fr (F q.1)
  · rw [q.2]; exact m7.fr (F q.1)
  · exact m8.fr (F q)
end MUP
