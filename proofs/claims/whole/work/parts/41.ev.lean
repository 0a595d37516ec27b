def Ev {α : Type} (o : Option α) (P : α → Prop) : Prop := ∃ r, o = some r ∧ P r
section EV
variable {α β : Type}
theorem Ev.b {o : Option α} {K : α → Option β} {P : β → Prop} {x : α} (h : o = some x) (c : Ev (K x) P) : Ev (o.bind K) P := by
  subst h
  exact c
theorem Ev.c {o : Option α} {K : α → Option β} {P : β → Prop} {Q : α → Prop} (h : Ev o Q) (c : ∀ x, Q x → Ev (K x) P) : Ev (o.bind K) P := by
  obtain ⟨x, h1, h2⟩ := h
  subst h1
  exact c x h2
theorem Ev.c2 {o : Option (α × xG)} {K : α → xG → Option β} {P : β → Prop} {Q : α × xG → Prop} (h : Ev o Q) (c : ∀ x g, Q (x, g) → Ev (K x g) P) : Ev (x2 o K) P := by
  obtain ⟨⟨x, g⟩, h1, h2⟩ := h
  subst h1
  exact c x g h2
theorem Ev.s {x : α} {P : α → Prop} (h : P x) : Ev (some x) P := ⟨x, rfl, h⟩
theorem Ev.t {q : Prop} [Decidable q] {A B : Option α} {P : α → Prop} (h : q) (k : Ev A P) : Ev (if q then A else B) P := by
  rw [if_pos h]
  exact k
theorem Ev.f {q : Prop} [Decidable q] {A B : Option α} {P : α → Prop} (h : ¬ q) (k : Ev B P) : Ev (if q then A else B) P := by
  rw [if_neg h]
  exact k
theorem Ev.i {q : Prop} [Decidable q] {A B : Option α} {P : α → Prop} (k1 : q → Ev A P) (k2 : ¬ q → Ev B P) : Ev (if q then A else B) P := by
  by_cases h : q
  · rw [if_pos h]
    exact k1 h
  · rw [if_neg h]
    exact k2 h
theorem Ev.m {o : Option α} {P Q : α → Prop} (h : Ev o P) (i : ∀ x, P x → Q x) : Ev o Q := by
  obtain ⟨x, h1, h2⟩ := h
  exact ⟨x, h1, i x h2⟩
theorem Ev.e {o : Option α} {P : α → Prop} {x : α} (h : o = some x) (c : P x) : Ev o P := ⟨x, h, c⟩
end EV
section HEAPRULES
variable {g : xG} {ci a k t n : Nat} {fs : List Value} {i : Int32}
theorem r_gi {x : Int32} (h : g a = .inr (ci, fs)) (hk : fs[k]? = some (.int x)) : xg_i g ci a k = some x := by
  unfold xg_i xg_f
  rw [h]
  simp only [if_true, hk]
  rfl
theorem r_gl {x : Int64} (h : g a = .inr (ci, fs)) (hk : fs[k]? = some (.long x)) : xg_l g ci a k = some x := by
  unfold xg_l xg_f
  rw [h]
  simp only [if_true, hk]
  rfl
theorem r_gr {x : Nat} (h : g a = .inr (ci, fs)) (hk : fs[k]? = some (.ref x)) : xg_r g ci a k = some x := by
  unfold xg_r xg_f
  rw [h]
  simp only [if_true, hk]
  rfl
theorem r_k (h : g a = .inr (ci, fs)) : xk g ci a = some () := by
  unfold xk
  rw [h]
  simp only [if_true]
theorem r_p {v : Value} (h : g a = .inr (ci, fs)) (hk : k < fs.length) : xp g ci a k v = some (va_up g a (.inr (ci, fs.set k v))) := by
  unfold xp
  rw [h]
  simp only [true_and, hk, if_true]
theorem r_pi {x : Int32} (h : g a = .inr (ci, fs)) (hk : k < fs.length) : xp_i g ci a k x = some (va_up g a (.inr (ci, fs.set k (.int x)))) := r_p h hk
theorem r_pl {x : Int64} (h : g a = .inr (ci, fs)) (hk : k < fs.length) : xp_l g ci a k x = some (va_up g a (.inr (ci, fs.set k (.long x)))) := r_p h hk
theorem r_pr {x : Nat} (h : g a = .inr (ci, fs)) (hk : k < fs.length) : xp_r g ci a k x = some (va_up g a (.inr (ci, fs.set k (.ref x)))) := r_p h hk
theorem r_pz {x : Int32} (hx : x = 0 ∨ x = 1) (h : g a = .inr (ci, fs)) (hk : k < fs.length) : xp_z g ci a k x = some (va_up g a (.inr (ci, fs.set k (.int x)))) := by
  unfold xp_z
  rw [if_pos hx]
  exact r_p h hk
theorem r_ix (hi : i = zI k) (hk : k < n) (hn : n < 2147483648) : (0 : Int32) ≤ i ∧ i.toNatClampNeg < n ∧ i.toNatClampNeg = k := by
  subst hi
  have h2 : (zI k).toNatClampNeg = k := zI_cl (by omega)
  exact ⟨zI_nn (by omega), by rw [h2]; exact hk, h2⟩
theorem r_ai {f : Nat → Int32} (h : g a = .inl (t, n, .inl f)) (hi : i = zI k) (hk : k < n) (hn : n < 2147483648) : xa_i t g a i = some (f k) := by
  obtain ⟨h1, h2, h3⟩ := r_ix hi hk hn
  unfold xa_i
  rw [h]
  simp only [true_and, h1, h2, h3, hk, and_self, if_true]
theorem r_al {f : Nat → Int64} (h : g a = .inl (2, n, .inr (.inl f))) (hi : i = zI k) (hk : k < n) (hn : n < 2147483648) : xa_l g a i = some (f k) := by
  obtain ⟨h1, h2, h3⟩ := r_ix hi hk hn
  unfold xa_l
  rw [h]
  simp only [true_and, h1, h2, h3, hk, and_self, if_true]
theorem r_ar {x : Nat} {f : Nat → Option Nat} (h : g a = .inl (t, n, .inr (.inr (.inr (.inr f))))) (hi : i = zI k) (hk : k < n) (hn : n < 2147483648) (hf : f k = some x) : xa_r t g a i = some x := by
  obtain ⟨h1, h2, h3⟩ := r_ix hi hk hn
  unfold xa_r
  rw [h]
  simp only [true_and, h1, h2, h3, hk, and_self, if_true, hf]
theorem r_si {x : Int32} {f : Nat → Int32} (h : g a = .inl (t, n, .inl f)) (hi : i = zI k) (hk : k < n) (hn : n < 2147483648) : xs_i t g a i x = some (va_up g a (.inl (t, n, .inl (upd f k (xnar t x))))) := by
  obtain ⟨h1, h2, h3⟩ := r_ix hi hk hn
  unfold xs_i
  rw [h]
  simp only [true_and, h1, h2, h3, hk, and_self, if_true]
theorem r_si1 {x : Int32} {f : Nat → Int32} (h : g a = .inl (1, n, .inl f)) (hi : i = zI k) (hk : k < n) (hn : n < 2147483648) : xs_i 1 g a i x = some (va_up g a (.inl (1, n, .inl (upd f k x)))) := r_si h hi hk hn
theorem r_sl {x : Int64} {f : Nat → Int64} (h : g a = .inl (2, n, .inr (.inl f))) (hi : i = zI k) (hk : k < n) (hn : n < 2147483648) : xs_l g a i x = some (va_up g a (.inl (2, n, .inr (.inl (vp_updL f k x))))) := by
  obtain ⟨h1, h2, h3⟩ := r_ix hi hk hn
  unfold xs_l
  rw [h]
  simp only [true_and, h1, h2, h3, hk, and_self, if_true]
theorem r_sr {v : Nat} {f : Nat → Option Nat} (h : g a = .inl (t, n, .inr (.inr (.inr (.inr f))))) (hv : g v = .inr (ci, fs)) (hi : i = zI k) (hk : k < n) (hn : n < 2147483648) : xs_r t ci g a i v = some (va_up g a (.inl (t, n, .inr (.inr (.inr (.inr (va_up f k (some v)))))))) := by
  obtain ⟨h1, h2, h3⟩ := r_ix hi hk hn
  unfold xs_r
  rw [h, hv]
  simp only [true_and, h1, h2, h3, hk, and_self, if_true]
theorem r_n {y : (Nat → Int32) ⊕ (Nat → Int64) ⊕ (Nat → UInt32) ⊕ (Nat → UInt64) ⊕ (Nat → Option Nat)} (h : g a = .inl (t, n, y)) : xn_a t g a = some (zI n) := by
  unfold xn_a
  rw [h]
  simp only [if_true]
  rfl
end HEAPRULES
section ERULES
variable {β : Type} {P : β → Prop} {g : xG} {ci a k t n : Nat} {fs : List Value} {i : Int32}
theorem E_gi {K : Int32 → Option β} {x : Int32} (h : g a = .inr (ci, fs)) (hk : fs[k]? = some (.int x)) (c : Ev (K x) P) : Ev ((xg_i g ci a k).bind K) P := Ev.b (r_gi h hk) c
theorem E_gl {K : Int64 → Option β} {x : Int64} (h : g a = .inr (ci, fs)) (hk : fs[k]? = some (.long x)) (c : Ev (K x) P) : Ev ((xg_l g ci a k).bind K) P := Ev.b (r_gl h hk) c
theorem E_gr {K : Nat → Option β} {x : Nat} (h : g a = .inr (ci, fs)) (hk : fs[k]? = some (.ref x)) (c : Ev (K x) P) : Ev ((xg_r g ci a k).bind K) P := Ev.b (r_gr h hk) c
theorem E_k {K : Unit → Option β} (h : g a = .inr (ci, fs)) (c : Ev (K ()) P) : Ev ((xk g ci a).bind K) P := Ev.b (r_k h) c
theorem E_pi {K : xG → Option β} {x : Int32} {fs1 : List Value} (h : g a = .inr (ci, fs)) (hk : k < fs.length) (hs : fs.set k (.int x) = fs1) (c : Ev (K (va_up g a (.inr (ci, fs1)))) P) : Ev ((xp_i g ci a k x).bind K) P := by
  subst hs
  exact Ev.b (r_pi h hk) c
theorem E_pl {K : xG → Option β} {x : Int64} {fs1 : List Value} (h : g a = .inr (ci, fs)) (hk : k < fs.length) (hs : fs.set k (.long x) = fs1) (c : Ev (K (va_up g a (.inr (ci, fs1)))) P) : Ev ((xp_l g ci a k x).bind K) P := by
  subst hs
  exact Ev.b (r_pl h hk) c
theorem E_pr {K : xG → Option β} {x : Nat} {fs1 : List Value} (h : g a = .inr (ci, fs)) (hk : k < fs.length) (hs : fs.set k (.ref x) = fs1) (c : Ev (K (va_up g a (.inr (ci, fs1)))) P) : Ev ((xp_r g ci a k x).bind K) P := by
  subst hs
  exact Ev.b (r_pr h hk) c
theorem E_pz {K : xG → Option β} {x : Int32} {fs1 : List Value} (hx : x = 0 ∨ x = 1) (h : g a = .inr (ci, fs)) (hk : k < fs.length) (hs : fs.set k (.int x) = fs1) (c : Ev (K (va_up g a (.inr (ci, fs1)))) P) : Ev ((xp_z g ci a k x).bind K) P := by
  subst hs
  exact Ev.b (r_pz hx h hk) c
theorem E_ai {K : Int32 → Option β} {f : Nat → Int32} (h : g a = .inl (t, n, .inl f)) (hi : i = zI k) (hk : k < n) (hn : n < 2147483648) (c : Ev (K (f k)) P) : Ev ((xa_i t g a i).bind K) P := Ev.b (r_ai h hi hk hn) c
theorem E_al {K : Int64 → Option β} {f : Nat → Int64} (h : g a = .inl (2, n, .inr (.inl f))) (hi : i = zI k) (hk : k < n) (hn : n < 2147483648) (c : Ev (K (f k)) P) : Ev ((xa_l g a i).bind K) P := Ev.b (r_al h hi hk hn) c
theorem E_ar {K : Nat → Option β} {x : Nat} {f : Nat → Option Nat} (h : g a = .inl (t, n, .inr (.inr (.inr (.inr f))))) (hi : i = zI k) (hk : k < n) (hn : n < 2147483648) (hf : f k = some x) (c : Ev (K x) P) : Ev ((xa_r t g a i).bind K) P := Ev.b (r_ar h hi hk hn hf) c
theorem E_si {K : xG → Option β} {x : Int32} {f : Nat → Int32} (h : g a = .inl (t, n, .inl f)) (hi : i = zI k) (hk : k < n) (hn : n < 2147483648) (c : Ev (K (va_up g a (.inl (t, n, .inl (upd f k (xnar t x)))))) P) : Ev ((xs_i t g a i x).bind K) P := Ev.b (r_si h hi hk hn) c
theorem E_si1 {K : xG → Option β} {x : Int32} {f : Nat → Int32} (h : g a = .inl (1, n, .inl f)) (hi : i = zI k) (hk : k < n) (hn : n < 2147483648) (c : Ev (K (va_up g a (.inl (1, n, .inl (upd f k x))))) P) : Ev ((xs_i 1 g a i x).bind K) P := Ev.b (r_si1 h hi hk hn) c
theorem E_sl {K : xG → Option β} {x : Int64} {f : Nat → Int64} (h : g a = .inl (2, n, .inr (.inl f))) (hi : i = zI k) (hk : k < n) (hn : n < 2147483648) (c : Ev (K (va_up g a (.inl (2, n, .inr (.inl (vp_updL f k x)))))) P) : Ev ((xs_l g a i x).bind K) P := Ev.b (r_sl h hi hk hn) c
theorem E_sr {K : xG → Option β} {v : Nat} {f : Nat → Option Nat} (h : g a = .inl (t, n, .inr (.inr (.inr (.inr f))))) (hv : g v = .inr (ci, fs)) (hi : i = zI k) (hk : k < n) (hn : n < 2147483648) (c : Ev (K (va_up g a (.inl (t, n, .inr (.inr (.inr (.inr (va_up f k (some v))))))))) P) : Ev ((xs_r t ci g a i v).bind K) P := Ev.b (r_sr h hv hi hk hn) c
theorem E_n {K : Int32 → Option β} {y : (Nat → Int32) ⊕ (Nat → Int64) ⊕ (Nat → UInt32) ⊕ (Nat → UInt64) ⊕ (Nat → Option Nat)} (h : g a = .inl (t, n, y)) (c : Ev (K (zI n)) P) : Ev ((xn_a t g a).bind K) P := Ev.b (r_n h) c
theorem E_nz {K : Unit → Option β} {x : Int32} (h : ¬ x = 0) (c : Ev (K ()) P) : Ev ((xnz x).bind K) P := Ev.b (by unfold xnz; rw [if_neg h]) c
theorem E_z {K : Int32 → Option β} {x : Int32} (h : x = 0 ∨ x = 1) (c : Ev (K x) P) : Ev ((xz x).bind K) P := Ev.b (by unfold xz; rw [if_pos h]) c
end ERULES
theorem upd_self (f : Nat → Int32) (k : Nat) (x : Int32) : upd f k x k = x := by simp [upd]
theorem upd_ne (f : Nat → Int32) {k j : Nat} (x : Int32) (h : j ≠ k) : upd f k x j = f j := by simp [upd, h]
theorem updL_self (f : Nat → Int64) (k : Nat) (x : Int64) : vp_updL f k x k = x := by simp [vp_updL]
theorem updL_ne (f : Nat → Int64) {k j : Nat} (x : Int64) (h : j ≠ k) : vp_updL f k x j = f j := by simp [vp_updL, h]
theorem xFU_eq : xFU = 1000 := rfl
