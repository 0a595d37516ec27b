/-! THE WORLD AS ONE HEAP FUNCTION: g says of every address what lies there (an array's class by a number 0 .. 6: byte, int, long, boolean, Letter, Node, Object); L are the addresses in use. -/
abbrev xG : Type := Nat → va_E
def xdead : va_E := .inr (99, [])
def xt (cy : Nat → ClassId) (e : va_E) : va_E := match e with
  | .inl x => .inl (cy x.1, x.2)
  | .inr o => .inr o
abbrev xW (cy : Nat → ClassId) (L : List Nat) (g : xG) : va_W := va_pl L (fun a => xt cy (g a))
abbrev xT (cy : Nat → ClassId) : List (ClassId × FieldType) := [(cy 0, .byte), (cy 1, .int), (cy 2, .long), (cy 3, .boolean), (cy 4, .object "TellTale$Letter"), (cy 5, .object "TellTale$Node"), (cy 6, .object "java/lang/Object")]
-- reading and writing the heap function: none where the machine would throw, or the thing is of another kind
def xg_f (g : xG) (ci a k : Nat) : Option Value := match g a with
  | .inr (c, fs) => if c = ci then fs[k]? else none
  | .inl _ => none
def xv_i (v : Option Value) : Option Int32 := match v with
  | some (.int x) => some x
  | _ => none
def xv_l (v : Option Value) : Option Int64 := match v with
  | some (.long x) => some x
  | _ => none
def xv_r (v : Option Value) : Option Nat := match v with
  | some (.ref x) => some x
  | _ => none
def xg_i (g : xG) (ci a k : Nat) : Option Int32 := xv_i (xg_f g ci a k)
def xg_l (g : xG) (ci a k : Nat) : Option Int64 := xv_l (xg_f g ci a k)
def xg_r (g : xG) (ci a k : Nat) : Option Nat := xv_r (xg_f g ci a k)
def xp (g : xG) (ci a k : Nat) (v : Value) : Option xG := match g a with
  | .inr (c, fs) => if c = ci ∧ k < fs.length then some (va_up g a (.inr (c, fs.set k v))) else none
  | .inl _ => none
def xp_i (g : xG) (ci a k : Nat) (x : Int32) : Option xG := xp g ci a k (.int x)
def xp_l (g : xG) (ci a k : Nat) (x : Int64) : Option xG := xp g ci a k (.long x)
def xp_r (g : xG) (ci a k : Nat) (x : Nat) : Option xG := xp g ci a k (.ref x)
def xp_z (g : xG) (ci a k : Nat) (x : Int32) : Option xG := if x = 0 ∨ x = 1 then xp g ci a k (.int x) else none
def xk (g : xG) (ci a : Nat) : Option Unit := match g a with
  | .inr (c, _) => if c = ci then some () else none
  | .inl _ => none
def xnar (t : Nat) (x : Int32) : Int32 := if t = 0 then vp_nar .byte x else if t = 3 then vp_nar .boolean x else x
def xa_i (t : Nat) (g : xG) (a : Nat) (i : Int32) : Option Int32 := match g a with
  | .inl (c, n, .inl f) => if c = t ∧ 0 ≤ i ∧ i.toNatClampNeg < n then some (f i.toNatClampNeg) else none
  | _ => none
def xa_l (g : xG) (a : Nat) (i : Int32) : Option Int64 := match g a with
  | .inl (c, n, .inr (.inl f)) => if c = 2 ∧ 0 ≤ i ∧ i.toNatClampNeg < n then some (f i.toNatClampNeg) else none
  | _ => none
def xa_r (t : Nat) (g : xG) (a : Nat) (i : Int32) : Option Nat := match g a with
  | .inl (c, n, .inr (.inr (.inr (.inr f)))) => if c = t ∧ 0 ≤ i ∧ i.toNatClampNeg < n then f i.toNatClampNeg else none
  | _ => none
def xs_i (t : Nat) (g : xG) (a : Nat) (i x : Int32) : Option xG := match g a with
  | .inl (c, n, .inl f) => if c = t ∧ 0 ≤ i ∧ i.toNatClampNeg < n then some (va_up g a (.inl (c, n, .inl (upd f i.toNatClampNeg (xnar t x))))) else none
  | _ => none
def xs_l (g : xG) (a : Nat) (i : Int32) (x : Int64) : Option xG := match g a with
  | .inl (c, n, .inr (.inl f)) => if c = 2 ∧ 0 ≤ i ∧ i.toNatClampNeg < n then some (va_up g a (.inl (c, n, .inr (.inl (vp_updL f i.toNatClampNeg x))))) else none
  | _ => none
def xs_r (t ci : Nat) (g : xG) (a : Nat) (i : Int32) (v : Nat) : Option xG := match g a, g v with
  | .inl (c, n, .inr (.inr (.inr (.inr f)))), .inr (d, _) => if c = t ∧ d = ci ∧ 0 ≤ i ∧ i.toNatClampNeg < n then some (va_up g a (.inl (c, n, .inr (.inr (.inr (.inr (va_up f i.toNatClampNeg (some v)))))))) else none
  | _, _ => none
def xn_a (t : Nat) (g : xG) (a : Nat) : Option Int32 := match g a with
  | .inl (c, n, _) => if c = t then some (Int32.ofNat n) else none
  | .inr _ => none
def xz (x : Int32) : Option Int32 := if x = 0 ∨ x = 1 then some x else none
def xnz (x : Int32) : Option Unit := if x = 0 then none else some ()
def x2 {α β : Type} (o : Option (α × xG)) (k : α → xG → Option β) : Option β := match o with
  | some q => k q.1 q.2
  | none => none
theorem xb {α β : Type} {o : Option α} {k : α → Option β} {r : β} (h : o.bind k = some r) : ∃ x, o = some x ∧ k x = some r := Option.bind_eq_some_iff.mp h
theorem x2b {α β : Type} {o : Option (α × xG)} {k : α → xG → Option β} {r : β} (h : x2 o k = some r) : ∃ x g, o = some (x, g) ∧ k x g = some r := by
  unfold x2 at h
  cases o with
  | none => cases h
  | some q => exact ⟨q.1, q.2, rfl, h⟩
theorem xz_ok {x y : Int32} (h : xz x = some y) : x = y ∧ (x = 0 ∨ x = 1) := by
  unfold xz at h
  split at h
  · rename_i h1
    exact ⟨Option.some.inj h, h1⟩
  · cases h
theorem xnz_ok {x : Int32} {u : Unit} (h : xnz x = some u) : ¬ x = 0 := by
  unfold xnz at h
  split at h
  · cases h
  · assumption
/-- the class links between nest mates, what a throw asks beside its good words, what arrays of objects ask -/
def xE (U : State) : Prop := va_Nw (.methodLinkNest RX5 17 yX1_init RX7) U ∧ va_Nw (.methodLinkNest RX7 31 yX3_init RX7) U ∧ va_Nw (.methodLinkNest RX7 38 yX2_init RX7) U ∧ va_Nw (.methodLinkNest RX4 11 yX3_init RX7) U ∧ va_Nw (.methodLinkNest RX4 20 yX2_init RX7) U ∧ va_Nw (.methodLinkNest RX4 27 yX6_init RX7) U ∧ va_Nw (.methodLinkNest RX2 29 yX7_headBehind RX7) U ∧ va_Nw (.methodLinkNest RX7 324 yX0_init RX7) U ∧ va_Nw (.castable "java/lang/IllegalArgumentException" "java/lang/IllegalArgumentException") U ∧ va_Nw (.castable "java/lang/IllegalStateException" "java/lang/IllegalStateException") U ∧ va_Nw (.declares ⟨"java/lang/RuntimeException", "<init>", "()V"⟩) U ∧ va_Nw (.declares ⟨"java/lang/Exception", "<init>", "()V"⟩) U ∧ va_Nw (.declares ⟨"java/lang/Throwable", "<init>", "()V"⟩) U ∧ va_AO "TellTale$Letter" U ∧ va_AO "TellTale$Node" U ∧ va_AO "java/lang/Object" U ∧ va_Nw (.castable "TellTale$Evidence" "java/lang/Object") U ∧ va_Dc U ∧ (∃ mi : Nat, va_Mi "[Ljava/lang/Object;" mi U) ∧ va_Nc "java/lang/IllegalStateException" "java/lang/IllegalArgumentException" U
theorem xE.warm {s U : State} (hW : s.WarmedH U.vm) (h : xE s) : xE U := by
  obtain ⟨h0, h1, h2, h3, h4, h5, h6, h7, h8, h9, h10, h11, h12, h13, h14, h15, h16, h17, h18, h19⟩ := h
  exact ⟨h0.warmM hW, h1.warmM hW, h2.warmM hW, h3.warmM hW, h4.warmM hW, h5.warmM hW, h6.warmM hW, h7.warmM hW, h8.warmC hW, h9.warmC hW, h10.warmD hW, h11.warmD hW, h12.warmD hW, h13.moved hW.alike, h14.moved hW.alike, h15.moved hW.alike, h16.warmC hW, h17.moved hW.alike, (h18.elim fun mi hm => ⟨mi, hm.moved hW.alike⟩), h19.moved hW.alike⟩
theorem xE.same {u U : State} (hv : u.vm = U.vm) (h : xE u) : xE U := by
  obtain ⟨h0, h1, h2, h3, h4, h5, h6, h7, h8, h9, h10, h11, h12, h13, h14, h15, h16, h17, h18, h19⟩ := h
  exact ⟨h0.same rfl hv, h1.same rfl hv, h2.same rfl hv, h3.same rfl hv, h4.same rfl hv, h5.same rfl hv, h6.same rfl hv, h7.same rfl hv, h8.same rfl hv, h9.same rfl hv, h10.same rfl hv, h11.same rfl hv, h12.same rfl hv, h13.moved (hv ▸ Vm.Alike.refl u.vm), h14.moved (hv ▸ Vm.Alike.refl u.vm), h15.moved (hv ▸ Vm.Alike.refl u.vm), h16.same rfl hv, h17.moved (hv ▸ Vm.Alike.refl u.vm), (h18.elim fun mi hm => ⟨mi, hm.moved (hv ▸ Vm.Alike.refl u.vm)⟩), h19.moved (hv ▸ Vm.Alike.refl u.vm)⟩
/-- the world holds -/
def xOK (D : va_G) (cy : Nat → ClassId) (A : Nat → Prop) (H0 : Heap) (s : State) (L : List Nat) (g : xG) (H : Heap) (locs : List Loc) : Prop :=
  va_P D vwCl (xW cy L g) H ∧ va_D A (xW cy L g) ∧ va_K D vwCl (xT cy) s ∧ va_S A H0 H locs ∧ ∀ a, a ∉ L → g a = xdead
section XOK
variable {D : va_G} {cy : Nat → ClassId} {A : Nat → Prop} {H0 : Heap} {s : State} {L : List Nat} {g : xG} {H : Heap} {locs : List Loc}
theorem xOK.mem (w : xOK D cy A H0 s L g H locs) {a : Nat} (h : g a ≠ xdead) : a ∈ L := Classical.byContradiction fun q => h (w.2.2.2.2 a q)
theorem xOK.at (w : xOK D cy A H0 s L g H locs) {a : Nat} (h : g a ≠ xdead) : a ∈ L ∧ ∃ k : Nat, (xW cy L g)[k]? = some (a, xt cy (g a)) := ⟨w.mem h, va_pl_get (X := []) (f := fun a => xt cy (g a)) (w.mem h)⟩
theorem xW_set {k a : Nat} {e : va_E} (hD : va_D A (xW cy L g)) (ha : a ∈ L) (hk : (xW cy L g)[k]? = some (a, xt cy (g a))) : (xW cy L g).set k (a, xt cy e) = xW cy L (va_up g a e) := by
  have h := va_pl_set (X := []) (f := fun a => xt cy (g a)) (e := xt cy e) hD ha hk
  simp only [List.nil_append] at h
  refine h.trans (va_pl_congr fun b => ?_)
  by_cases hb : b = a <;> simp [va_up, hb]
theorem xOK.up (w : xOK D cy A H0 s L g H locs) {k a : Nat} {e : va_E} (ha : a ∈ L) (hk : (xW cy L g)[k]? = some (a, xt cy (g a))) {H1 : Heap} {locs1 : List Loc} (hP : va_P D vwCl ((xW cy L g).set k (a, xt cy e)) H1) (hD : va_D A ((xW cy L g).set k (a, xt cy e))) (hS : va_S A H0 H1 locs1) : xOK D cy A H0 s L (va_up g a e) H1 locs1 := by
  rw [xW_set w.2.1 ha hk] at hP hD
  refine ⟨hP, hD, w.2.2.1, hS, fun b hb => ?_⟩
  have hne : b ≠ a := fun q => hb (q ▸ ha)
  rw [va_up_ne _ _ hne]
  exact w.2.2.2.2 b hb
end XOK
theorem xg_f_at {g : xG} {ci a k : Nat} {v : Value} (h : xg_f g ci a k = some v) : ∃ fs, g a = .inr (ci, fs) ∧ fs[k]? = some v := by
  unfold xg_f at h
  split at h
  · rename_i c fs hg
    split at h
    · rename_i hc
      subst hc
      exact ⟨fs, hg, h⟩
    · cases h
  · cases h
theorem xv_i_at {v : Option Value} {x : Int32} (h : xv_i v = some x) : v = some (.int x) := by
  unfold xv_i at h
  split at h
  · cases h; rfl
  · cases h
theorem xv_l_at {v : Option Value} {x : Int64} (h : xv_l v = some x) : v = some (.long x) := by
  unfold xv_l at h
  split at h
  · cases h; rfl
  · cases h
theorem xv_r_at {v : Option Value} {x : Nat} (h : xv_r v = some x) : v = some (.ref x) := by
  unfold xv_r at h
  split at h
  · cases h; rfl
  · cases h
theorem xp_at {g g1 : xG} {ci a k : Nat} {v : Value} (h : xp g ci a k v = some g1) : ∃ fs, g a = .inr (ci, fs) ∧ k < fs.length ∧ g1 = va_up g a (.inr (ci, fs.set k v)) := by
  unfold xp at h
  split at h
  · rename_i c fs hg
    split at h
    · rename_i hc
      obtain ⟨h1, h2⟩ := hc
      subst h1
      exact ⟨fs, hg, h2, (Option.some.inj h).symm⟩
    · cases h
  · cases h
theorem xk_at {g : xG} {ci a : Nat} {u : Unit} (h : xk g ci a = some u) : ∃ fs, g a = .inr (ci, fs) := by
  unfold xk at h
  split at h
  · rename_i c fs hg
    split at h
    · rename_i hc
      subst hc
      exact ⟨fs, hg⟩
    · cases h
  · cases h
theorem x_in {i : Int32} {n : Nat} (h1 : 0 ≤ i) (h2 : i.toNatClampNeg < n) : vp_in i n := fun q => q.elim (fun q => absurd h1 (by exact Int32.not_le.mpr q)) (fun q => absurd h2 (Nat.not_lt.mpr q))
theorem xa_i_at {t : Nat} {g : xG} {a : Nat} {i x : Int32} (h : xa_i t g a i = some x) : ∃ n f, g a = .inl (t, n, .inl f) ∧ vp_in i n ∧ x = f i.toNatClampNeg := by
  unfold xa_i at h
  split at h
  · rename_i c n f hg
    split at h
    · rename_i hc
      obtain ⟨h1, h2, h3⟩ := hc
      subst h1
      exact ⟨n, f, hg, x_in h2 h3, (Option.some.inj h).symm⟩
    · cases h
  · cases h
theorem xa_l_at {g : xG} {a : Nat} {i : Int32} {x : Int64} (h : xa_l g a i = some x) : ∃ n f, g a = .inl (2, n, .inr (.inl f)) ∧ vp_in i n ∧ x = f i.toNatClampNeg := by
  unfold xa_l at h
  split at h
  · rename_i c n f hg
    split at h
    · rename_i hc
      obtain ⟨h1, h2, h3⟩ := hc
      subst h1
      exact ⟨n, f, hg, x_in h2 h3, (Option.some.inj h).symm⟩
    · cases h
  · cases h
theorem xa_r_at {t : Nat} {g : xG} {a : Nat} {i : Int32} {x : Nat} (h : xa_r t g a i = some x) : ∃ n f, g a = .inl (t, n, .inr (.inr (.inr (.inr f)))) ∧ vp_in i n ∧ f i.toNatClampNeg = some x := by
  unfold xa_r at h
  split at h
  · rename_i c n f hg
    split at h
    · rename_i hc
      obtain ⟨h1, h2, h3⟩ := hc
      subst h1
      exact ⟨n, f, hg, x_in h2 h3, h⟩
    · cases h
  · cases h
theorem xs_i_at {t : Nat} {g g1 : xG} {a : Nat} {i x : Int32} (h : xs_i t g a i x = some g1) : ∃ n f, g a = .inl (t, n, .inl f) ∧ vp_in i n ∧ g1 = va_up g a (.inl (t, n, .inl (upd f i.toNatClampNeg (xnar t x)))) := by
  unfold xs_i at h
  split at h
  · rename_i c n f hg
    split at h
    · rename_i hc
      obtain ⟨h1, h2, h3⟩ := hc
      subst h1
      exact ⟨n, f, hg, x_in h2 h3, (Option.some.inj h).symm⟩
    · cases h
  · cases h
theorem xs_l_at {g g1 : xG} {a : Nat} {i : Int32} {x : Int64} (h : xs_l g a i x = some g1) : ∃ n f, g a = .inl (2, n, .inr (.inl f)) ∧ vp_in i n ∧ g1 = va_up g a (.inl (2, n, .inr (.inl (vp_updL f i.toNatClampNeg x)))) := by
  unfold xs_l at h
  split at h
  · rename_i c n f hg
    split at h
    · rename_i hc
      obtain ⟨h1, h2, h3⟩ := hc
      subst h1
      exact ⟨n, f, hg, x_in h2 h3, (Option.some.inj h).symm⟩
    · cases h
  · cases h
theorem xs_r_at {t ci : Nat} {g g1 : xG} {a : Nat} {i : Int32} {v : Nat} (h : xs_r t ci g a i v = some g1) : ∃ n f fs, g a = .inl (t, n, .inr (.inr (.inr (.inr f)))) ∧ g v = .inr (ci, fs) ∧ vp_in i n ∧ g1 = va_up g a (.inl (t, n, .inr (.inr (.inr (.inr (va_up f i.toNatClampNeg (some v))))))) := by
  unfold xs_r at h
  split at h
  · rename_i c n f d fs hg hv
    split at h
    · rename_i hc
      obtain ⟨h1, h4, h2, h3⟩ := hc
      subst h1
      subst h4
      exact ⟨n, f, fs, hg, hv, x_in h2 h3, (Option.some.inj h).symm⟩
    · cases h
  · cases h
theorem xn_a_at {t : Nat} {g : xG} {a : Nat} {x : Int32} (h : xn_a t g a = some x) : ∃ n y, g a = .inl (t, n, y) ∧ Int32.ofNat n = x := by
  unfold xn_a at h
  split at h
  · rename_i c n y hg
    split at h
    · rename_i hc
      subst hc
      exact ⟨n, y, hg, Option.some.inj h⟩
    · cases h
  · cases h
def xFU : Nat := 1000
def xiushr (x y : Int32) : Int32 := (x.toUInt32 >>> (y.toUInt32 &&& Int32.toUInt32 31)).toInt32
def xlushr (x : Int64) (y : Int32) : Int64 := (x.toUInt64 >>> (y.toInt64.toUInt64 &&& Int64.toUInt64 63)).toInt64
def xlshr (x : Int64) (y : Int32) : Int64 := x >>> (y.toInt64 &&& 63)
def xlshl (x : Int64) (y : Int32) : Int64 := x <<< (y.toInt64 &&& 63)
theorem xsw_ne {x : Int32} {k : Nat} (hk : k < 100) (h : ¬ x = Int32.ofNat k) : ¬ x.toInt = (k : Int) := fun q => h (by
  have h2 : (Int32.ofNat k).toInt = (k : Int) := Int32.toInt_ofNat_of_lt (by omega)
  exact Int32.toInt_inj.mp (q.trans h2.symm))
theorem xsw3 {x : Int32} (h0 : ¬ x = 0) (h1 : ¬ x = 1) (h2 : ¬ x = 2) : x.toInt < 0 ∨ 2 < x.toInt := by
  have := xsw_ne (k := 0) (by decide) h0
  have := xsw_ne (k := 1) (by decide) h1
  have := xsw_ne (k := 2) (by decide) h2
  omega
theorem xsw4 {x : Int32} (h0 : ¬ x = 0) (h1 : ¬ x = 1) (h2 : ¬ x = 2) (h3 : ¬ x = 3) : x.toInt < 0 ∨ 3 < x.toInt := by
  have := xsw_ne (k := 3) (by decide) h3
  have := xsw3 h0 h1 h2
  omega
theorem xsw5 {x : Int32} (h0 : ¬ x = 0) (h1 : ¬ x = 1) (h2 : ¬ x = 2) (h3 : ¬ x = 3) (h4 : ¬ x = 4) : x.toInt < 0 ∨ 4 < x.toInt := by
  have := xsw_ne (k := 4) (by decide) h4
  have := xsw4 h0 h1 h2 h3
  omega
