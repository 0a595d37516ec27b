section XROWS
variable {p : Program} {l : Launch} {e : Env} {R : Room} {s : State} {m : MethodId} {args : Array Value} {below : List Frame} {meth : Method} {c : Code} {H : Heap} {locs : List Loc} {cells slots : Nat} {Q : State → Prop}
variable {cc : ByteArray} {nL pc : Nat} {ls : Array Slot} {rest : List Value} {D : va_G} {cy : Nat → ClassId} {A : Nat → Prop} {H0 : Heap} {L : List Nat} {g : xG} {Ts : List Cond} {own : String}

theorem xr_get (S : CallFix p m c cc nL s args Ts own) (w : xOK D cy A H0 s L g H locs) {C : String} {T : u_T} {N : Nat} (ci : Nat) (hin : ∀ w ∈ u_ws C T N, w ∈ Ts) (hc : vwCl[ci]? = some (C, T, N)) (k : Nat) (hk : k < N) {index : Nat} (hl : Cond.fieldLink own index (T k).1 (T k).2.1 (T k).2.2.1 ∈ Ts) {a : Nat} {v : Value} (hv : xg_f g ci a k = some v) (hdg : decode cc pc = .ok (.getfield index, 3))
    (kk : W p l e R s m args below meth c H locs cells slots Q (F0 m (pc + 3) ls (v :: rest))) : W p l e R s m args below meth c H locs cells slots Q (F0 m pc ls (.ref a :: rest)) := by
  obtain ⟨hx, hb, hml, hown, hts⟩ := S
  obtain ⟨fs, hg, hf⟩ := xg_f_at hv
  have hc9 : ci < vwCl.length := (List.getElem?_eq_some_iff.mp hc).1
  have hne : g a ≠ xdead := by
    rw [hg]
    intro q
    have h9 : ci = 99 := by injection q with q; injection q
    rw [h9] at hc9
    exact absurd hc9 (by decide)
  obtain ⟨-, q0, hq⟩ := w.at hne
  rw [hg] at hq
  exact va_get (ref := (T k).1) hx hb hts hin hown w.2.2.1 w.1 q0 hq hc k hk (hts _ hl) (fun _ h => h) hf hdg kk
theorem xr_geti (S : CallFix p m c cc nL s args Ts own) (w : xOK D cy A H0 s L g H locs) {C : String} {T : u_T} {N : Nat} (ci : Nat) (hin : ∀ w ∈ u_ws C T N, w ∈ Ts) (hc : vwCl[ci]? = some (C, T, N)) (k : Nat) (hk : k < N) {index : Nat} (hl : Cond.fieldLink own index (T k).1 (T k).2.1 (T k).2.2.1 ∈ Ts) {a : Nat} {x : Int32} (hv : xg_i g ci a k = some x) (hdg : decode cc pc = .ok (.getfield index, 3))
    (kk : W p l e R s m args below meth c H locs cells slots Q (F0 m (pc + 3) ls (.int x :: rest))) : W p l e R s m args below meth c H locs cells slots Q (F0 m pc ls (.ref a :: rest)) := xr_get S w ci hin hc k hk hl (xv_i_at hv) hdg kk
theorem xr_getl (S : CallFix p m c cc nL s args Ts own) (w : xOK D cy A H0 s L g H locs) {C : String} {T : u_T} {N : Nat} (ci : Nat) (hin : ∀ w ∈ u_ws C T N, w ∈ Ts) (hc : vwCl[ci]? = some (C, T, N)) (k : Nat) (hk : k < N) {index : Nat} (hl : Cond.fieldLink own index (T k).1 (T k).2.1 (T k).2.2.1 ∈ Ts) {a : Nat} {x : Int64} (hv : xg_l g ci a k = some x) (hdg : decode cc pc = .ok (.getfield index, 3))
    (kk : W p l e R s m args below meth c H locs cells slots Q (F0 m (pc + 3) ls (.long x :: rest))) : W p l e R s m args below meth c H locs cells slots Q (F0 m pc ls (.ref a :: rest)) := xr_get S w ci hin hc k hk hl (xv_l_at hv) hdg kk
theorem xr_getr (S : CallFix p m c cc nL s args Ts own) (w : xOK D cy A H0 s L g H locs) {C : String} {T : u_T} {N : Nat} (ci : Nat) (hin : ∀ w ∈ u_ws C T N, w ∈ Ts) (hc : vwCl[ci]? = some (C, T, N)) (k : Nat) (hk : k < N) {index : Nat} (hl : Cond.fieldLink own index (T k).1 (T k).2.1 (T k).2.2.1 ∈ Ts) {a : Nat} {x : Nat} (hv : xg_r g ci a k = some x) (hdg : decode cc pc = .ok (.getfield index, 3))
    (kk : W p l e R s m args below meth c H locs cells slots Q (F0 m (pc + 3) ls (.ref x :: rest))) : W p l e R s m args below meth c H locs cells slots Q (F0 m pc ls (.ref a :: rest)) := xr_get S w ci hin hc k hk hl (xv_r_at hv) hdg kk
theorem xr_put (S : CallFix p m c cc nL s args Ts own) (w : xOK D cy A H0 s L g H locs) {C : String} {T : u_T} {N : Nat} (ci : Nat) (hin : ∀ w ∈ u_ws C T N, w ∈ Ts) (hc : vwCl[ci]? = some (C, T, N)) (ty0 : Nat → FieldType) (hty : ∀ k, k < N → parseFieldDescriptor (T k).2.2.1 = some (ty0 k)) (hnm : ∀ a, a < N → ∀ b, b < N → a ≠ b → (T a).2.1 ≠ (T b).2.1) (k : Nat) (hk : k < N) {index : Nat} (hl : Cond.fieldLink own index (T k).1 (T k).2.1 (T k).2.2.1 ∈ Ts) (hfin : (T k).2.2.2 = false) (ty : FieldType) (hd : parseFieldDescriptor (T k).2.2.1 = some ty) {a : Nat} {v : Value} (hn : narrow ty v = v) (hfit : fits ty v = true) {g1 : xG} (hp : xp g ci a k v = some g1) (hdg : decode cc pc = .ok (.putfield index, 3))
    (kk : ∀ (H1 : Heap) (locs1 : List Loc), xOK D cy A H0 s L g1 H1 locs1 → W p l e R s m args below meth c H1 locs1 cells slots Q (F0 m (pc + 3) ls rest)) : W p l e R s m args below meth c H locs cells slots Q (F0 m pc ls (v :: .ref a :: rest)) := by
  obtain ⟨hx, hb, hml, hown, hts⟩ := S
  obtain ⟨fs, hg, hlt, rfl⟩ := xp_at hp
  have hc9 : ci < vwCl.length := (List.getElem?_eq_some_iff.mp hc).1
  have hne : g a ≠ xdead := by
    rw [hg]
    intro q
    have h9 : ci = 99 := by injection q with q; injection q
    rw [h9] at hc9
    exact absurd hc9 (by decide)
  obtain ⟨ha, q0, hq⟩ := w.at hne
  have hq' := hq
  rw [hg] at hq
  exact va_put (ref := (T k).1) hx hb hts hin ty0 hty hnm hown w.2.2.1 w.1 w.2.1 w.2.2.2.1 q0 hq hc k hk (hts _ hl) (fun _ h => h) hfin hd hn hfit hlt hdg (fun H1 locs1 hP hD hS => kk H1 locs1 (w.up (e := .inr (ci, fs.set k v)) ha hq' hP hD hS))
theorem xr_puti (S : CallFix p m c cc nL s args Ts own) (w : xOK D cy A H0 s L g H locs) {C : String} {T : u_T} {N : Nat} (ci : Nat) (hin : ∀ w ∈ u_ws C T N, w ∈ Ts) (hc : vwCl[ci]? = some (C, T, N)) (ty0 : Nat → FieldType) (hty : ∀ k, k < N → parseFieldDescriptor (T k).2.2.1 = some (ty0 k)) (hnm : ∀ a, a < N → ∀ b, b < N → a ≠ b → (T a).2.1 ≠ (T b).2.1) (k : Nat) (hk : k < N) {index : Nat} (hl : Cond.fieldLink own index (T k).1 (T k).2.1 (T k).2.2.1 ∈ Ts) (hfin : (T k).2.2.2 = false) (hd : parseFieldDescriptor (T k).2.2.1 = some .int) {a : Nat} {x : Int32} {g1 : xG} (hp : xp_i g ci a k x = some g1) (hdg : decode cc pc = .ok (.putfield index, 3))
    (kk : ∀ (H1 : Heap) (locs1 : List Loc), xOK D cy A H0 s L g1 H1 locs1 → W p l e R s m args below meth c H1 locs1 cells slots Q (F0 m (pc + 3) ls rest)) : W p l e R s m args below meth c H locs cells slots Q (F0 m pc ls (.int x :: .ref a :: rest)) := xr_put S w ci hin hc ty0 hty hnm k hk hl hfin .int hd rfl rfl hp hdg kk
theorem xr_putl (S : CallFix p m c cc nL s args Ts own) (w : xOK D cy A H0 s L g H locs) {C : String} {T : u_T} {N : Nat} (ci : Nat) (hin : ∀ w ∈ u_ws C T N, w ∈ Ts) (hc : vwCl[ci]? = some (C, T, N)) (ty0 : Nat → FieldType) (hty : ∀ k, k < N → parseFieldDescriptor (T k).2.2.1 = some (ty0 k)) (hnm : ∀ a, a < N → ∀ b, b < N → a ≠ b → (T a).2.1 ≠ (T b).2.1) (k : Nat) (hk : k < N) {index : Nat} (hl : Cond.fieldLink own index (T k).1 (T k).2.1 (T k).2.2.1 ∈ Ts) (hfin : (T k).2.2.2 = false) (hd : parseFieldDescriptor (T k).2.2.1 = some .long) {a : Nat} {x : Int64} {g1 : xG} (hp : xp_l g ci a k x = some g1) (hdg : decode cc pc = .ok (.putfield index, 3))
    (kk : ∀ (H1 : Heap) (locs1 : List Loc), xOK D cy A H0 s L g1 H1 locs1 → W p l e R s m args below meth c H1 locs1 cells slots Q (F0 m (pc + 3) ls rest)) : W p l e R s m args below meth c H locs cells slots Q (F0 m pc ls (.long x :: .ref a :: rest)) := xr_put S w ci hin hc ty0 hty hnm k hk hl hfin .long hd rfl rfl hp hdg kk
theorem xr_putz (S : CallFix p m c cc nL s args Ts own) (w : xOK D cy A H0 s L g H locs) {C : String} {T : u_T} {N : Nat} (ci : Nat) (hin : ∀ w ∈ u_ws C T N, w ∈ Ts) (hc : vwCl[ci]? = some (C, T, N)) (ty0 : Nat → FieldType) (hty : ∀ k, k < N → parseFieldDescriptor (T k).2.2.1 = some (ty0 k)) (hnm : ∀ a, a < N → ∀ b, b < N → a ≠ b → (T a).2.1 ≠ (T b).2.1) (k : Nat) (hk : k < N) {index : Nat} (hl : Cond.fieldLink own index (T k).1 (T k).2.1 (T k).2.2.1 ∈ Ts) (hfin : (T k).2.2.2 = false) (hd : parseFieldDescriptor (T k).2.2.1 = some .boolean) {a : Nat} {x : Int32} {g1 : xG} (hp : xp_z g ci a k x = some g1) (hdg : decode cc pc = .ok (.putfield index, 3))
    (kk : ∀ (H1 : Heap) (locs1 : List Loc), xOK D cy A H0 s L g1 H1 locs1 → W p l e R s m args below meth c H1 locs1 cells slots Q (F0 m (pc + 3) ls rest)) : W p l e R s m args below meth c H locs cells slots Q (F0 m pc ls (.int x :: .ref a :: rest)) := by
  unfold xp_z at hp
  split at hp
  · rename_i hx
    refine xr_put S w ci hin hc ty0 hty hnm k hk hl hfin .boolean hd ?_ ?_ hp hdg kk
    · rcases hx with rfl | rfl <;> decide
    · rcases hx with rfl | rfl <;> decide
  · cases hp
theorem xr_putr (S : CallFix p m c cc nL s args Ts own) (w : xOK D cy A H0 s L g H locs) {C : String} {T : u_T} {N : Nat} (ci : Nat) (hin : ∀ w ∈ u_ws C T N, w ∈ Ts) (hc : vwCl[ci]? = some (C, T, N)) (ty0 : Nat → FieldType) (hty : ∀ k, k < N → parseFieldDescriptor (T k).2.2.1 = some (ty0 k)) (hnm : ∀ a, a < N → ∀ b, b < N → a ≠ b → (T a).2.1 ≠ (T b).2.1) (k : Nat) (hk : k < N) {index : Nat} (hl : Cond.fieldLink own index (T k).1 (T k).2.1 (T k).2.2.1 ∈ Ts) (hfin : (T k).2.2.2 = false) (nm : String) (hd : parseFieldDescriptor (T k).2.2.1 = some (.object nm)) {a : Nat} {x : Nat} {g1 : xG} (hp : xp_r g ci a k x = some g1) (hdg : decode cc pc = .ok (.putfield index, 3))
    (kk : ∀ (H1 : Heap) (locs1 : List Loc), xOK D cy A H0 s L g1 H1 locs1 → W p l e R s m args below meth c H1 locs1 cells slots Q (F0 m (pc + 3) ls rest)) : W p l e R s m args below meth c H locs cells slots Q (F0 m pc ls (.ref x :: .ref a :: rest)) := xr_put S w ci hin hc ty0 hty hnm k hk hl hfin (.object nm) hd rfl rfl hp hdg kk
theorem xr_getiS (S : CallFix p m c cc nL s args Ts own) (w : xOK D cy A H0 s L g H locs) {C : String} {T : u_T} {N : Nat} (ci : Nat) (hin : ∀ w ∈ u_ws C T N, w ∈ Ts) (hc : vwCl[ci]? = some (C, T, N)) (k : Nat) (hk : k < N) {index : Nat} {ref : String} (hl : Cond.fieldLink own index ref (T k).2.1 (T k).2.2.1 ∈ Ts) (hsf : Cond.sameField ref (T k).1 (T k).2.1 (T k).2.2.1 ∈ Ts) {a : Nat} {x : Int32} (hv : xg_i g ci a k = some x) (hdg : decode cc pc = .ok (.getfield index, 3))
    (kk : W p l e R s m args below meth c H locs cells slots Q (F0 m (pc + 3) ls (.int x :: rest))) : W p l e R s m args below meth c H locs cells slots Q (F0 m pc ls (.ref a :: rest)) := by
  obtain ⟨hx, hb, hml, hown, hts⟩ := S
  obtain ⟨fs, hg, hf⟩ := xg_f_at (xv_i_at hv)
  have hc9 : ci < vwCl.length := (List.getElem?_eq_some_iff.mp hc).1
  have hne : g a ≠ xdead := by
    rw [hg]
    intro q
    have h9 : ci = 99 := by injection q with q; injection q
    rw [h9] at hc9
    exact absurd hc9 (by decide)
  obtain ⟨-, q0, hq⟩ := w.at hne
  rw [hg] at hq
  exact va_get (ref := ref) hx hb hts hin hown w.2.2.1 w.1 q0 hq hc k hk (hts _ hl) (fun x9 h9 => u_same (hts _ hsf) x9 h9) hf hdg kk
theorem xr_putiS (S : CallFix p m c cc nL s args Ts own) (w : xOK D cy A H0 s L g H locs) {C : String} {T : u_T} {N : Nat} (ci : Nat) (hin : ∀ w ∈ u_ws C T N, w ∈ Ts) (hc : vwCl[ci]? = some (C, T, N)) (ty0 : Nat → FieldType) (hty : ∀ k, k < N → parseFieldDescriptor (T k).2.2.1 = some (ty0 k)) (hnm : ∀ a, a < N → ∀ b, b < N → a ≠ b → (T a).2.1 ≠ (T b).2.1) (k : Nat) (hk : k < N) {index : Nat} {ref : String} (hl : Cond.fieldLink own index ref (T k).2.1 (T k).2.2.1 ∈ Ts) (hsf : Cond.sameField ref (T k).1 (T k).2.1 (T k).2.2.1 ∈ Ts) (hfin : (T k).2.2.2 = false) (hd : parseFieldDescriptor (T k).2.2.1 = some .int) {a : Nat} {x : Int32} {g1 : xG} (hp : xp_i g ci a k x = some g1) (hdg : decode cc pc = .ok (.putfield index, 3))
    (kk : ∀ (H1 : Heap) (locs1 : List Loc), xOK D cy A H0 s L g1 H1 locs1 → W p l e R s m args below meth c H1 locs1 cells slots Q (F0 m (pc + 3) ls rest)) : W p l e R s m args below meth c H locs cells slots Q (F0 m pc ls (.int x :: .ref a :: rest)) := by
  obtain ⟨hx, hb, hml, hown, hts⟩ := S
  obtain ⟨fs, hg, hlt, rfl⟩ := xp_at hp
  have hc9 : ci < vwCl.length := (List.getElem?_eq_some_iff.mp hc).1
  have hne : g a ≠ xdead := by
    rw [hg]
    intro q
    have h9 : ci = 99 := by injection q with q; injection q
    rw [h9] at hc9
    exact absurd hc9 (by decide)
  obtain ⟨ha, q0, hq⟩ := w.at hne
  have hq' := hq
  rw [hg] at hq
  exact va_put (ref := ref) hx hb hts hin ty0 hty hnm hown w.2.2.1 w.1 w.2.1 w.2.2.2.1 q0 hq hc k hk (hts _ hl) (fun x9 h9 => u_same (hts _ hsf) x9 h9) hfin hd rfl rfl hlt hdg (fun H1 locs1 hP hD hS => kk H1 locs1 (w.up (e := .inr (ci, fs.set k (.int x))) ha hq' hP hD hS))
theorem xr_iald (S : CallFix p m c cc nL s args Ts own) (w : xOK D cy A H0 s L g H locs) {a : Nat} {i x : Int32} (hv : xa_i 1 g a i = some x) (hdg : decode cc pc = .ok (.iaload, 1))
    (kk : W p l e R s m args below meth c H locs cells slots Q (F0 m (pc + 1) ls (.int x :: rest))) : W p l e R s m args below meth c H locs cells slots Q (F0 m pc ls (.int i :: .ref a :: rest)) := by
  obtain ⟨hx, hb, hml, hown, hts⟩ := S
  obtain ⟨n, f, hg, hi, rfl⟩ := xa_i_at hv
  have hne : g a ≠ xdead := by
    rw [hg]
    intro q
    cases q
  obtain ⟨-, q0, hq⟩ := w.at hne
  rw [hg] at hq
  exact va_iald hx hb w.2.2.1 w.1 q0 1 hq rfl hi hdg kk
theorem xr_bald (S : CallFix p m c cc nL s args Ts own) (w : xOK D cy A H0 s L g H locs) {a : Nat} {i x : Int32} (hv : xa_i 0 g a i = some x) (hdg : decode cc pc = .ok (.baload, 1))
    (kk : W p l e R s m args below meth c H locs cells slots Q (F0 m (pc + 1) ls (.int x :: rest))) : W p l e R s m args below meth c H locs cells slots Q (F0 m pc ls (.int i :: .ref a :: rest)) := by
  obtain ⟨hx, hb, hml, hown, hts⟩ := S
  obtain ⟨n, f, hg, hi, rfl⟩ := xa_i_at hv
  have hne : g a ≠ xdead := by
    rw [hg]
    intro q
    cases q
  obtain ⟨-, q0, hq⟩ := w.at hne
  rw [hg] at hq
  exact va_bald hx hb w.2.2.1 w.1 q0 0 hq rfl hi hdg kk
theorem xr_zald (S : CallFix p m c cc nL s args Ts own) (w : xOK D cy A H0 s L g H locs) {a : Nat} {i x : Int32} (hv : xa_i 3 g a i = some x) (hdg : decode cc pc = .ok (.baload, 1))
    (kk : W p l e R s m args below meth c H locs cells slots Q (F0 m (pc + 1) ls (.int x :: rest))) : W p l e R s m args below meth c H locs cells slots Q (F0 m pc ls (.int i :: .ref a :: rest)) := by
  obtain ⟨hx, hb, hml, hown, hts⟩ := S
  obtain ⟨n, f, hg, hi, rfl⟩ := xa_i_at hv
  have hne : g a ≠ xdead := by
    rw [hg]
    intro q
    cases q
  obtain ⟨-, q0, hq⟩ := w.at hne
  rw [hg] at hq
  exact va_zald hx hb w.2.2.1 w.1 q0 3 hq rfl hi hdg kk
theorem xr_lald (S : CallFix p m c cc nL s args Ts own) (w : xOK D cy A H0 s L g H locs) {a : Nat} {i : Int32} {x : Int64} (hv : xa_l g a i = some x) (hdg : decode cc pc = .ok (.laload, 1))
    (kk : W p l e R s m args below meth c H locs cells slots Q (F0 m (pc + 1) ls (.long x :: rest))) : W p l e R s m args below meth c H locs cells slots Q (F0 m pc ls (.int i :: .ref a :: rest)) := by
  obtain ⟨hx, hb, hml, hown, hts⟩ := S
  obtain ⟨n, f, hg, hi, rfl⟩ := xa_l_at hv
  have hne : g a ≠ xdead := by
    rw [hg]
    intro q
    cases q
  obtain ⟨-, q0, hq⟩ := w.at hne
  rw [hg] at hq
  exact va_lald hx hb w.2.2.1 w.1 q0 2 hq rfl hi hdg kk
theorem xr_aald (S : CallFix p m c cc nL s args Ts own) (w : xOK D cy A H0 s L g H locs) (t : Nat) (CA : String) (ht : ∀ cy : Nat → ClassId, (xT cy)[t]? = some (cy t, .object CA)) {a x : Nat} {i : Int32} (hv : xa_r t g a i = some x) (hdg : decode cc pc = .ok (.aaload, 1))
    (kk : W p l e R s m args below meth c H locs cells slots Q (F0 m (pc + 1) ls (.ref x :: rest))) : W p l e R s m args below meth c H locs cells slots Q (F0 m pc ls (.int i :: .ref a :: rest)) := by
  obtain ⟨hx, hb, hml, hown, hts⟩ := S
  obtain ⟨n, f, hg, hi, hf⟩ := xa_r_at hv
  have hne : g a ≠ xdead := by
    rw [hg]
    intro q
    cases q
  obtain ⟨-, q0, hq⟩ := w.at hne
  rw [hg] at hq
  refine va_aldq hx hb w.2.2.1 w.1 q0 t hq (ht cy) hi hdg ?_
  rw [hf]
  exact kk
theorem xr_iast (S : CallFix p m c cc nL s args Ts own) (w : xOK D cy A H0 s L g H locs) {a : Nat} {i x : Int32} {g1 : xG} (hv : xs_i 1 g a i x = some g1) (hdg : decode cc pc = .ok (.iastore, 1))
    (kk : ∀ (H1 : Heap) (locs1 : List Loc), xOK D cy A H0 s L g1 H1 locs1 → W p l e R s m args below meth c H1 locs1 cells slots Q (F0 m (pc + 1) ls rest)) : W p l e R s m args below meth c H locs cells slots Q (F0 m pc ls (.int x :: .int i :: .ref a :: rest)) := by
  obtain ⟨hx, hb, hml, hown, hts⟩ := S
  obtain ⟨n, f, hg, hi, rfl⟩ := xs_i_at hv
  have hne : g a ≠ xdead := by
    rw [hg]
    intro q
    cases q
  obtain ⟨ha, q0, hq⟩ := w.at hne
  have hq' := hq
  rw [hg] at hq
  refine va_iast hx hb w.2.2.1 w.1 w.2.1 w.2.2.2.1 q0 1 hq rfl hi hdg (fun H1 locs1 hP hD hS => kk H1 locs1 (w.up (e := .inl (1, n, .inl (upd f i.toNatClampNeg (xnar 1 x)))) ha hq' hP hD hS))
theorem xr_bast (S : CallFix p m c cc nL s args Ts own) (w : xOK D cy A H0 s L g H locs) {a : Nat} {i x : Int32} {g1 : xG} (hv : xs_i 0 g a i x = some g1) (hdg : decode cc pc = .ok (.bastore, 1))
    (kk : ∀ (H1 : Heap) (locs1 : List Loc), xOK D cy A H0 s L g1 H1 locs1 → W p l e R s m args below meth c H1 locs1 cells slots Q (F0 m (pc + 1) ls rest)) : W p l e R s m args below meth c H locs cells slots Q (F0 m pc ls (.int x :: .int i :: .ref a :: rest)) := by
  obtain ⟨hx, hb, hml, hown, hts⟩ := S
  obtain ⟨n, f, hg, hi, rfl⟩ := xs_i_at hv
  have hne : g a ≠ xdead := by
    rw [hg]
    intro q
    cases q
  obtain ⟨ha, q0, hq⟩ := w.at hne
  have hq' := hq
  rw [hg] at hq
  refine va_bast hx hb w.2.2.1 w.1 w.2.1 w.2.2.2.1 q0 0 hq rfl hi hdg (fun H1 locs1 hP hD hS => kk H1 locs1 (w.up (e := .inl (0, n, .inl (upd f i.toNatClampNeg (xnar 0 x)))) ha hq' hP hD hS))
theorem xr_zast (S : CallFix p m c cc nL s args Ts own) (w : xOK D cy A H0 s L g H locs) {a : Nat} {i x : Int32} {g1 : xG} (hv : xs_i 3 g a i x = some g1) (hdg : decode cc pc = .ok (.bastore, 1))
    (kk : ∀ (H1 : Heap) (locs1 : List Loc), xOK D cy A H0 s L g1 H1 locs1 → W p l e R s m args below meth c H1 locs1 cells slots Q (F0 m (pc + 1) ls rest)) : W p l e R s m args below meth c H locs cells slots Q (F0 m pc ls (.int x :: .int i :: .ref a :: rest)) := by
  obtain ⟨hx, hb, hml, hown, hts⟩ := S
  obtain ⟨n, f, hg, hi, rfl⟩ := xs_i_at hv
  have hne : g a ≠ xdead := by
    rw [hg]
    intro q
    cases q
  obtain ⟨ha, q0, hq⟩ := w.at hne
  have hq' := hq
  rw [hg] at hq
  refine va_zast hx hb w.2.2.1 w.1 w.2.1 w.2.2.2.1 q0 3 hq rfl hi hdg (fun H1 locs1 hP hD hS => kk H1 locs1 (w.up (e := .inl (3, n, .inl (upd f i.toNatClampNeg (xnar 3 x)))) ha hq' hP hD hS))
theorem xr_last (S : CallFix p m c cc nL s args Ts own) (w : xOK D cy A H0 s L g H locs) {a : Nat} {i : Int32} {x : Int64} {g1 : xG} (hv : xs_l g a i x = some g1) (hdg : decode cc pc = .ok (.lastore, 1))
    (kk : ∀ (H1 : Heap) (locs1 : List Loc), xOK D cy A H0 s L g1 H1 locs1 → W p l e R s m args below meth c H1 locs1 cells slots Q (F0 m (pc + 1) ls rest)) : W p l e R s m args below meth c H locs cells slots Q (F0 m pc ls (.long x :: .int i :: .ref a :: rest)) := by
  obtain ⟨hx, hb, hml, hown, hts⟩ := S
  obtain ⟨n, f, hg, hi, rfl⟩ := xs_l_at hv
  have hne : g a ≠ xdead := by
    rw [hg]
    intro q
    cases q
  obtain ⟨ha, q0, hq⟩ := w.at hne
  have hq' := hq
  rw [hg] at hq
  refine va_last hx hb w.2.2.1 w.1 w.2.1 w.2.2.2.1 q0 2 hq rfl hi hdg (fun H1 locs1 hP hD hS => kk H1 locs1 (w.up (e := .inl (2, n, .inr (.inl (vp_updL f i.toNatClampNeg x)))) ha hq' hP hD hS))
theorem xr_aast (S : CallFix p m c cc nL s args Ts own) (w : xOK D cy A H0 s L g H locs) (t ci : Nat) {r : vw_C} (ht : ∀ cy : Nat → ClassId, (xT cy)[t]? = some (cy t, .object r.1)) (hc : vwCl[ci]? = some r) {a v : Nat} {i : Int32} {g1 : xG} (hv : xs_r t ci g a i v = some g1) (hdg : decode cc pc = .ok (.aastore, 1))
    (kk : ∀ (H1 : Heap) (locs1 : List Loc), xOK D cy A H0 s L g1 H1 locs1 → W p l e R s m args below meth c H1 locs1 cells slots Q (F0 m (pc + 1) ls rest)) : W p l e R s m args below meth c H locs cells slots Q (F0 m pc ls (.ref v :: .int i :: .ref a :: rest)) := by
  obtain ⟨hx, hb, hml, hown, hts⟩ := S
  obtain ⟨n, f, fs, hg, hgv, hi, rfl⟩ := xs_r_at hv
  have hne : g a ≠ xdead := by
    rw [hg]
    intro q
    cases q
  have hc9 : ci < vwCl.length := (List.getElem?_eq_some_iff.mp hc).1
  have hnv : g v ≠ xdead := by
    rw [hgv]
    intro q
    have h9 : ci = 99 := by injection q with q; injection q
    rw [h9] at hc9
    exact absurd hc9 (by decide)
  obtain ⟨ha, q0, hq⟩ := w.at hne
  obtain ⟨-, q1, hqv⟩ := w.at hnv
  have hq' := hq
  rw [hg] at hq
  rw [hgv] at hqv
  refine va_astq hx hb w.2.2.1 w.1 w.2.1 w.2.2.2.1 q0 t q1 ci hq (ht cy) hqv hc hi hdg (fun H1 locs1 hP hD hS => kk H1 locs1 (w.up (e := .inl (t, n, .inr (.inr (.inr (.inr (va_up f i.toNatClampNeg (some v))))))) ha hq' hP hD hS))
theorem xr_alen (S : CallFix p m c cc nL s args Ts own) (w : xOK D cy A H0 s L g H locs) (t : Nat) (ty : FieldType) (ht : ∀ cy : Nat → ClassId, (xT cy)[t]? = some (cy t, ty)) {a : Nat} {x : Int32} (hv : xn_a t g a = some x) (hdg : decode cc pc = .ok (.arraylength, 1))
    (kk : W p l e R s m args below meth c H locs cells slots Q (F0 m (pc + 1) ls (.int x :: rest))) : W p l e R s m args below meth c H locs cells slots Q (F0 m pc ls (.ref a :: rest)) := by
  obtain ⟨hx, hb, hml, hown, hts⟩ := S
  obtain ⟨n, y, hg, hn⟩ := xn_a_at hv
  have hne : g a ≠ xdead := by
    rw [hg]
    intro q
    cases q
  obtain ⟨-, q0, hq⟩ := w.at hne
  rw [hg] at hq
  exact va_alen hx hb w.2.2.1 w.1 q0 t hq (ht cy) hn hdg kk
theorem xr_lceq (S : CallFix p m c cc nL s args Ts own) {x y : Int64} {off : Int} {tgt : Nat} (h1 : decode cc pc = .ok (.lcmp, 1)) (h2 : decode cc (pc + 1) = .ok (.ifCond .eq off, 3)) (ht : ((pc + 1 : Nat) : Int) + off = (tgt : Int))
    (kt : x = y → W p l e R s m args below meth c H locs cells slots Q (F0 m tgt ls rest)) (kf : ¬ x = y → W p l e R s m args below meth c H locs cells slots Q (F0 m (pc + 4) ls rest)) : W p l e R s m args below meth c H locs cells slots Q (F0 m pc ls (.long y :: .long x :: rest)) := by
  have key : lg_cmp x y = 0 ↔ x = y := by
    unfold lg_cmp
    constructor
    · intro h
      split at h
      · exact absurd h (by decide)
      · split at h
        · assumption
        · exact absurd h (by decide)
    · intro h
      subst h
      simp
  refine W.lcmp S.1 S.2.1 h1 ?_
  refine lv_if_eq S.1 S.2.1 h2 ht (fun q => kt ?_) (fun q => kf ?_)
  · first | exact key.mp q | exact fun z => q (key.mpr z)
  · first | exact key.mp q | exact fun z => q (key.mpr z)
theorem xr_lcne (S : CallFix p m c cc nL s args Ts own) {x y : Int64} {off : Int} {tgt : Nat} (h1 : decode cc pc = .ok (.lcmp, 1)) (h2 : decode cc (pc + 1) = .ok (.ifCond .ne off, 3)) (ht : ((pc + 1 : Nat) : Int) + off = (tgt : Int))
    (kt : ¬ x = y → W p l e R s m args below meth c H locs cells slots Q (F0 m tgt ls rest)) (kf : x = y → W p l e R s m args below meth c H locs cells slots Q (F0 m (pc + 4) ls rest)) : W p l e R s m args below meth c H locs cells slots Q (F0 m pc ls (.long y :: .long x :: rest)) := by
  have key : lg_cmp x y = 0 ↔ x = y := by
    unfold lg_cmp
    constructor
    · intro h
      split at h
      · exact absurd h (by decide)
      · split at h
        · assumption
        · exact absurd h (by decide)
    · intro h
      subst h
      simp
  refine W.lcmp S.1 S.2.1 h1 ?_
  refine lv_if_ne S.1 S.2.1 h2 ht (fun q => kt ?_) (fun q => kf ?_)
  · first | exact key.mp q | exact fun z => q (key.mpr z)
  · first | exact key.mp q | exact fun z => q (key.mpr z)
theorem xr_ldc2 (S : CallFix p m c cc nL s args Ts own) {index : Nat} {v : Int64} (hl : Cond.constantLong own index v ∈ Ts) (hdg : decode cc pc = .ok (.ldc2_w index, 3)) (kk : W p l e R s m args below meth c H locs cells slots Q (F0 m (pc + 3) ls (.long v :: rest))) : W p l e R s m args below meth c H locs cells slots Q (F0 m pc ls rest) :=
  W.ldc2 S.1 S.2.1 S.2.2.2.1 (S.2.2.2.2 _ hl) rfl hdg kk
end XROWS
/-- a method's start, its world's end -/
abbrev xPc (D : va_G) (cy : Nat → ClassId) (L : List Nat) (g : xG) (sz : Nat) (av : List Value) : Array Value → State → Prop := va_Pc av (fun U => (U.heap.size = sz ∧ va_P D vwCl (xW cy L g) U.heap ∧ va_K D vwCl (xT cy) U ∧ va_D (fun _ => True) (xW cy L g) ∧ ∀ a, a ∉ L → g a = xdead) ∧ xE U)
abbrev xB (D : va_G) (cy : Nat → ClassId) (L : List Nat) (A : Nat → Prop) (g : xG) (t : State) : Prop := va_P D vwCl (xW cy L g) t.heap ∧ va_K D vwCl (xT cy) t ∧ va_D A (xW cy L g) ∧ ∀ a, a ∉ L → g a = xdead
abbrev xA (cy : Nat → ClassId) (L : List Nat) (g : xG) (sz : Nat) : Nat → Prop := va_A (xW cy L g) sz
def xMv (l : Launch) (y : MethodName) (ws : List Cond) (rm : Room) (D : va_G) (cy : Nat → ClassId) (L : List Nat) (g : xG) (av : List Value) (g1 : xG) : Prop := ∀ sz : Nat, Met l y ws rm (xPc D cy L g sz av) (va_Qv (fun g2 : xG => g2 = g1) (xB D cy L (xA cy L g sz)) (xA cy L g sz)) 0 0 (xA cy L g sz)
def xMi (l : Launch) (y : MethodName) (ws : List Cond) (rm : Room) (D : va_G) (cy : Nat → ClassId) (L : List Nat) (g : xG) (av : List Value) (r1 : Int32) (g1 : xG) : Prop := ∀ sz : Nat, Met l y ws rm (xPc D cy L g sz av) (va_Qi (fun (r : Int32) (g2 : xG) => r = r1 ∧ g2 = g1) (xB D cy L (xA cy L g sz)) (xA cy L g sz)) 0 0 (xA cy L g sz)
def xMl (l : Launch) (y : MethodName) (ws : List Cond) (rm : Room) (D : va_G) (cy : Nat → ClassId) (L : List Nat) (g : xG) (av : List Value) (r1 : Int64) (g1 : xG) : Prop := ∀ sz : Nat, Met l y ws rm (xPc D cy L g sz av) (va_Ql (fun (r : Int64) (g2 : xG) => r = r1 ∧ g2 = g1) (xB D cy L (xA cy L g sz)) (xA cy L g sz)) 0 0 (xA cy L g sz)
def xMr (l : Launch) (y : MethodName) (ws : List Cond) (rm : Room) (D : va_G) (cy : Nat → ClassId) (L : List Nat) (g : xG) (av : List Value) (r1 : Nat) (g1 : xG) : Prop := ∀ sz : Nat, Met l y ws rm (xPc D cy L g sz av) (va_Qr (fun g2 : xG => g2 = g1) (fun (g2 : xG) (a : Nat) (t : State) => a = r1 ∧ xB D cy L (xA cy L g sz) g2 t) (xA cy L g sz)) 0 0 (xA cy L g sz)
theorem xPc_blind {D : va_G} {cy : Nat → ClassId} {L : List Nat} {g : xG} {sz : Nat} {av : List Value} : FrameBlind (xPc D cy L g sz av) := fun a U g9 mk q => by
  obtain ⟨q0, ⟨q1, q2, q3, q4⟩, q5⟩ := q
  exact ⟨q0, ⟨q1, q2, va_K.moved (u := U) (U := U.calling g9 mk a) (Vm.Alike.refl U.vm) q3, q4⟩, q5.same rfl⟩
section XCALLS
variable {p : Program} {l : Launch} {e : Env} {R : Room} {s : State} {m : MethodId} {args : Array Value} {below : List Frame} {meth : Method} {c : Code} {H : Heap} {locs : List Loc} {cells slots : Nat} {Q : State → Prop}
variable {cc : ByteArray} {nL pc : Nat} {ls : Array Slot} {rest st0 : List Value} {D : va_G} {cy : Nat → ClassId} {A : Nat → Prop} {H0 : Heap} {L : List Nat} {g : xG} {Ts : List Cond} {own : String}
theorem xOK.free (w : xOK D cy A H0 s L g H locs) (hA : ∀ q, H0.size ≤ q → A q) : ∀ q, xA cy L g H.size q → A q := fun q h => by
  rcases h with ⟨k, e9, h⟩ | h
  · exact w.2.1.2 k (q, e9) h
  · exact hA q (Nat.le_trans w.2.2.2.1.1 h)
theorem xOK.pre (w : xOK D cy A H0 s L g H locs) (hN : xE s) {av : List Value} : ∀ U : State, U.heap = H → s.WarmedH U.vm → xPc D cy L g H.size av av.toArray U := fun U hU hW =>
  ⟨rfl, ⟨by rw [hU], by rw [hU]; exact w.1, va_K.moved hW.alike w.2.2.1, w.2.1.weaken (fun _ _ _ _ => trivial), w.2.2.2.2⟩, hN.warm hW⟩
theorem xB.ok (w : xOK D cy A H0 s L g H locs) (hA : ∀ q, H0.size ≤ q → A q) {g1 : xG} {t : State} {H1 : Heap} {locs1 : List Loc} (ht : t.heap = H1) (hvm : s.vm.Alike t.vm) (h : xB D cy L (xA cy L g H.size) g1 t) (hS : va_S A H0 H1 locs1) : xOK D cy A H0 s L g1 H1 locs1 := by
  obtain ⟨h1, h2, h3, h4⟩ := h
  rw [ht] at h1
  exact ⟨h1, h3.weaken (fun _ q _ hq => w.free hA q.1 hq), va_K.moved hvm.symm h2, hS, h4⟩
theorem xOK.recv (w : xOK D cy A H0 s L g H locs) {ci b : Nat} {r : vw_C} (hc : vwCl[ci]? = some r) {u : Unit} (hk : xk g ci b = some u) : ∃ cell : Cell, H[b]? = some cell ∧ cell.vm.isStatics = false ∧ s.vm.findClass r.1 = some cell.cls := by
  obtain ⟨fs, hg⟩ := xk_at hk
  have hc9 : ci < vwCl.length := (List.getElem?_eq_some_iff.mp hc).1
  have hne : g b ≠ xdead := by
    rw [hg]
    intro q
    have h9 : ci = 99 := by injection q with q; injection q
    rw [h9] at hc9
    exact absurd hc9 (by decide)
  obtain ⟨-, q0, hq⟩ := w.at hne
  rw [hg] at hq
  exact va_recv w.2.2.1 w.1 hc hq
theorem xr_callV_v (S : CallFix p m c cc nL s args Ts own) (w : xOK D cy A H0 s L g H locs) (hA : ∀ q, H0.size ≤ q → A q) (hN : xE s) {y : MethodName} {bytes : ByteArray} {maxL index n : Nat} {ret : Option FieldType} {ws : List Cond} {rm : Room} {As : List Value} {C : String} {T : u_T} {N b : Nat} (ci : Nat) (hc : vwCl[ci]? = some (C, T, N)) {u : Unit} (hk : xk g ci b = some u) {g1 : xG} (hM : xMv l y ws rm D cy L g (.ref b :: As) g1) (cw : CallW R s args own C index y bytes maxL ret ws rm 0 0 n) (hst : st0 = As.reverse ++ .ref b :: rest) (hn : As.length = n) (hls : ls.size = nL) (hW : (rest.map fun v => v.category).sum ≤ 8) (hdg : decode cc pc = .ok (.invokevirtual index, 3)) (hroom : cells ≤ R.cells ∧ slots ≤ R.slots)
    (kk : ∀ (H1 : Heap) (locs1 : List Loc), xOK D cy A H0 s L g1 H1 locs1 → W p l e R s m args below meth c H1 locs1 cells slots Q (F0 m (pc + 3) ls rest)) : W p l e R s m args below meth c H locs cells slots Q (F0 m pc ls st0) := by
  refine va_callv (mc := 0) (ms := 0) (va_runV S (hM H.size) cw ⟨xPc_blind, w.recv hc hk, w.pre hN⟩ rfl hn hls hst (lv_room hW) hdg hroom) w.2.2.2.1 (fun q _ h => w.free hA q h) (w.free hA) (fun u2 t H1 locs1 ht hvm hw hB hz1 hk1 hS => ?_)
  obtain rfl := hw
  exact kk H1 locs1 (xB.ok w hA ht hvm hB hS)
theorem xr_callV_i (S : CallFix p m c cc nL s args Ts own) (w : xOK D cy A H0 s L g H locs) (hA : ∀ q, H0.size ≤ q → A q) (hN : xE s) {y : MethodName} {bytes : ByteArray} {maxL index n : Nat} {ret : Option FieldType} {ws : List Cond} {rm : Room} {As : List Value} {C : String} {T : u_T} {N b : Nat} (ci : Nat) (hc : vwCl[ci]? = some (C, T, N)) {u : Unit} (hk : xk g ci b = some u) {r : Int32} {g1 : xG} (hM : xMi l y ws rm D cy L g (.ref b :: As) r g1) (cw : CallW R s args own C index y bytes maxL ret ws rm 0 0 n) (hst : st0 = As.reverse ++ .ref b :: rest) (hn : As.length = n) (hls : ls.size = nL) (hW : (rest.map fun v => v.category).sum ≤ 8) (hdg : decode cc pc = .ok (.invokevirtual index, 3)) (hroom : cells ≤ R.cells ∧ slots ≤ R.slots)
    (kk : ∀ (H1 : Heap) (locs1 : List Loc), xOK D cy A H0 s L g1 H1 locs1 → W p l e R s m args below meth c H1 locs1 cells slots Q (F0 m (pc + 3) ls (.int r :: rest))) : W p l e R s m args below meth c H locs cells slots Q (F0 m pc ls st0) := by
  refine va_calli (mc := 0) (ms := 0) (va_runV S (hM H.size) cw ⟨xPc_blind, w.recv hc hk, w.pre hN⟩ rfl hn hls hst (lv_room hW) hdg hroom) w.2.2.2.1 (fun q _ h => w.free hA q h) (w.free hA) (fun r2 u2 t H1 locs1 ht hvm hw hB hz1 hk1 hS => ?_)
  obtain ⟨rfl, rfl⟩ := hw
  exact kk H1 locs1 (xB.ok w hA ht hvm hB hS)
theorem xr_callV_l (S : CallFix p m c cc nL s args Ts own) (w : xOK D cy A H0 s L g H locs) (hA : ∀ q, H0.size ≤ q → A q) (hN : xE s) {y : MethodName} {bytes : ByteArray} {maxL index n : Nat} {ret : Option FieldType} {ws : List Cond} {rm : Room} {As : List Value} {C : String} {T : u_T} {N b : Nat} (ci : Nat) (hc : vwCl[ci]? = some (C, T, N)) {u : Unit} (hk : xk g ci b = some u) {r : Int64} {g1 : xG} (hM : xMl l y ws rm D cy L g (.ref b :: As) r g1) (cw : CallW R s args own C index y bytes maxL ret ws rm 0 0 n) (hst : st0 = As.reverse ++ .ref b :: rest) (hn : As.length = n) (hls : ls.size = nL) (hW : (rest.map fun v => v.category).sum ≤ 8) (hdg : decode cc pc = .ok (.invokevirtual index, 3)) (hroom : cells ≤ R.cells ∧ slots ≤ R.slots)
    (kk : ∀ (H1 : Heap) (locs1 : List Loc), xOK D cy A H0 s L g1 H1 locs1 → W p l e R s m args below meth c H1 locs1 cells slots Q (F0 m (pc + 3) ls (.long r :: rest))) : W p l e R s m args below meth c H locs cells slots Q (F0 m pc ls st0) := by
  refine va_calll (mc := 0) (ms := 0) (va_runV S (hM H.size) cw ⟨xPc_blind, w.recv hc hk, w.pre hN⟩ rfl hn hls hst (lv_room hW) hdg hroom) w.2.2.2.1 (fun q _ h => w.free hA q h) (w.free hA) (fun r2 u2 t H1 locs1 ht hvm hw hB hz1 hk1 hS => ?_)
  obtain ⟨rfl, rfl⟩ := hw
  exact kk H1 locs1 (xB.ok w hA ht hvm hB hS)
theorem xr_callV_r (S : CallFix p m c cc nL s args Ts own) (w : xOK D cy A H0 s L g H locs) (hA : ∀ q, H0.size ≤ q → A q) (hN : xE s) {y : MethodName} {bytes : ByteArray} {maxL index n : Nat} {ret : Option FieldType} {ws : List Cond} {rm : Room} {As : List Value} {C : String} {T : u_T} {N b : Nat} (ci : Nat) (hc : vwCl[ci]? = some (C, T, N)) {u : Unit} (hk : xk g ci b = some u) {r : Nat} {g1 : xG} (hM : xMr l y ws rm D cy L g (.ref b :: As) r g1) (cw : CallW R s args own C index y bytes maxL ret ws rm 0 0 n) (hst : st0 = As.reverse ++ .ref b :: rest) (hn : As.length = n) (hls : ls.size = nL) (hW : (rest.map fun v => v.category).sum ≤ 8) (hdg : decode cc pc = .ok (.invokevirtual index, 3)) (hroom : cells ≤ R.cells ∧ slots ≤ R.slots)
    (kk : ∀ (H1 : Heap) (locs1 : List Loc), xOK D cy A H0 s L g1 H1 locs1 → W p l e R s m args below meth c H1 locs1 cells slots Q (F0 m (pc + 3) ls (.ref r :: rest))) : W p l e R s m args below meth c H locs cells slots Q (F0 m pc ls st0) := by
  refine va_callr (mc := 0) (ms := 0) (va_runV S (hM H.size) cw ⟨xPc_blind, w.recv hc hk, w.pre hN⟩ rfl hn hls hst (lv_room hW) hdg hroom) w.2.2.2.1 (fun q _ h => w.free hA q h) (w.free hA) (fun u2 ra t H1 locs1 ht hvm hw hB hz1 hk1 hS => ?_)
  obtain rfl := hw
  obtain ⟨rfl, hB⟩ := hB
  exact kk H1 locs1 (xB.ok w hA ht hvm hB hS)
theorem xr_callS_v (S : CallFix p m c cc nL s args Ts own) (w : xOK D cy A H0 s L g H locs) (hA : ∀ q, H0.size ≤ q → A q) (hN : xE s) {y : MethodName} {bytes : ByteArray} {maxL index n : Nat} {ret : Option FieldType} {ws : List Cond} {rm : Room} {As : List Value} {g1 : xG} (hM : xMv l y ws rm D cy L g As g1) (cw : CallB R s args own index y bytes maxL ret ws rm 0 0 n ∧ (Cond.static y).before args s = true) (hst : st0 = As.reverse ++ rest) (hn : As.length = n) (hls : ls.size = nL) (hW : (rest.map fun v => v.category).sum ≤ 8) (hdg : decode cc pc = .ok (.invokestatic index, 3)) (hroom : cells ≤ R.cells ∧ slots ≤ R.slots)
    (kk : ∀ (H1 : Heap) (locs1 : List Loc), xOK D cy A H0 s L g1 H1 locs1 → W p l e R s m args below meth c H1 locs1 cells slots Q (F0 m (pc + 3) ls rest)) : W p l e R s m args below meth c H locs cells slots Q (F0 m pc ls st0) := by
  refine va_callv (mc := 0) (ms := 0) (va_runS S (hM H.size) cw ⟨xPc_blind, w.pre hN⟩ rfl hn hls hst (lv_room hW) hdg hroom) w.2.2.2.1 (fun q _ h => w.free hA q h) (w.free hA) (fun u2 t H1 locs1 ht hvm hw hB hz1 hk1 hS => ?_)
  obtain rfl := hw
  exact kk H1 locs1 (xB.ok w hA ht hvm hB hS)
theorem xr_callS_i (S : CallFix p m c cc nL s args Ts own) (w : xOK D cy A H0 s L g H locs) (hA : ∀ q, H0.size ≤ q → A q) (hN : xE s) {y : MethodName} {bytes : ByteArray} {maxL index n : Nat} {ret : Option FieldType} {ws : List Cond} {rm : Room} {As : List Value} {r : Int32} {g1 : xG} (hM : xMi l y ws rm D cy L g As r g1) (cw : CallB R s args own index y bytes maxL ret ws rm 0 0 n ∧ (Cond.static y).before args s = true) (hst : st0 = As.reverse ++ rest) (hn : As.length = n) (hls : ls.size = nL) (hW : (rest.map fun v => v.category).sum ≤ 8) (hdg : decode cc pc = .ok (.invokestatic index, 3)) (hroom : cells ≤ R.cells ∧ slots ≤ R.slots)
    (kk : ∀ (H1 : Heap) (locs1 : List Loc), xOK D cy A H0 s L g1 H1 locs1 → W p l e R s m args below meth c H1 locs1 cells slots Q (F0 m (pc + 3) ls (.int r :: rest))) : W p l e R s m args below meth c H locs cells slots Q (F0 m pc ls st0) := by
  refine va_calli (mc := 0) (ms := 0) (va_runS S (hM H.size) cw ⟨xPc_blind, w.pre hN⟩ rfl hn hls hst (lv_room hW) hdg hroom) w.2.2.2.1 (fun q _ h => w.free hA q h) (w.free hA) (fun r2 u2 t H1 locs1 ht hvm hw hB hz1 hk1 hS => ?_)
  obtain ⟨rfl, rfl⟩ := hw
  exact kk H1 locs1 (xB.ok w hA ht hvm hB hS)
theorem xr_callS_l (S : CallFix p m c cc nL s args Ts own) (w : xOK D cy A H0 s L g H locs) (hA : ∀ q, H0.size ≤ q → A q) (hN : xE s) {y : MethodName} {bytes : ByteArray} {maxL index n : Nat} {ret : Option FieldType} {ws : List Cond} {rm : Room} {As : List Value} {r : Int64} {g1 : xG} (hM : xMl l y ws rm D cy L g As r g1) (cw : CallB R s args own index y bytes maxL ret ws rm 0 0 n ∧ (Cond.static y).before args s = true) (hst : st0 = As.reverse ++ rest) (hn : As.length = n) (hls : ls.size = nL) (hW : (rest.map fun v => v.category).sum ≤ 8) (hdg : decode cc pc = .ok (.invokestatic index, 3)) (hroom : cells ≤ R.cells ∧ slots ≤ R.slots)
    (kk : ∀ (H1 : Heap) (locs1 : List Loc), xOK D cy A H0 s L g1 H1 locs1 → W p l e R s m args below meth c H1 locs1 cells slots Q (F0 m (pc + 3) ls (.long r :: rest))) : W p l e R s m args below meth c H locs cells slots Q (F0 m pc ls st0) := by
  refine va_calll (mc := 0) (ms := 0) (va_runS S (hM H.size) cw ⟨xPc_blind, w.pre hN⟩ rfl hn hls hst (lv_room hW) hdg hroom) w.2.2.2.1 (fun q _ h => w.free hA q h) (w.free hA) (fun r2 u2 t H1 locs1 ht hvm hw hB hz1 hk1 hS => ?_)
  obtain ⟨rfl, rfl⟩ := hw
  exact kk H1 locs1 (xB.ok w hA ht hvm hB hS)
theorem xr_callSN_l (S : CallFix p m c cc nL s args Ts own) (w : xOK D cy A H0 s L g H locs) (hA : ∀ q, H0.size ≤ q → A q) (hN : xE s) {y : MethodName} {bytes : ByteArray} {maxL index n : Nat} {ret : Option FieldType} {ws : List Cond} {rm : Room} {As : List Value} {r : Int64} {g1 : xG} (hM : xMl l y ws rm D cy L g As r g1) {host : String} (cw : va_CN R s args own index y host bytes maxL ret ws rm 0 0 n ∧ (Cond.static y).before args s = true ∧ True) (hst : st0 = As.reverse ++ rest) (hn : As.length = n) (hls : ls.size = nL) (hW : (rest.map fun v => v.category).sum ≤ 8) (hdg : decode cc pc = .ok (.invokestatic index, 3)) (hroom : cells ≤ R.cells ∧ slots ≤ R.slots)
    (kk : ∀ (H1 : Heap) (locs1 : List Loc), xOK D cy A H0 s L g1 H1 locs1 → W p l e R s m args below meth c H1 locs1 cells slots Q (F0 m (pc + 3) ls (.long r :: rest))) : W p l e R s m args below meth c H locs cells slots Q (F0 m pc ls st0) := by
  refine va_calll (mc := 0) (ms := 0) (va_runSN S (hM H.size) cw ⟨xPc_blind, w.pre hN⟩ rfl hn hls hst (lv_room hW) hdg hroom) w.2.2.2.1 (fun q _ h => w.free hA q h) (w.free hA) (fun r2 u2 t H1 locs1 ht hvm hw hB hz1 hk1 hS => ?_)
  obtain ⟨rfl, rfl⟩ := hw
  exact kk H1 locs1 (xB.ok w hA ht hvm hB hS)
theorem xr_cast (S : CallFix p m c cc nL s args Ts own) (w : xOK D cy A H0 s L g H locs) {C : String} {T : u_T} {N : Nat} (ci : Nat) (hc : vwCl[ci]? = some (C, T, N)) {index : Nat} (hl : Cond.classLink own index C ∈ Ts) {a : Nat} {u : Unit} (hk : xk g ci a = some u) (hdg : decode cc pc = .ok (.checkcast index, 3))
    (kk : W p l e R s m args below meth c H locs cells slots Q (F0 m (pc + 3) ls (.ref a :: rest))) : W p l e R s m args below meth c H locs cells slots Q (F0 m pc ls (.ref a :: rest)) :=
  va_castS S.1 S.2.1 S.2.2.2.1 (S.2.2.2.2 _ hl) (w.2.2.1.1 ci _ hc).2 (w.recv hc hk) hdg kk
end XCALLS
section XWIDE
variable {p : Program} {l : Launch} {e : Env} {R : Room} {s : State} {m : MethodId} {args : Array Value} {below : List Frame} {meth : Method} {c : Code} {H : Heap} {locs : List Loc} {cells slots : Nat} {Q : State → Prop}
variable {cc : ByteArray} {nL pc : Nat} {ls : Array Slot} {rest st0 : List Value} {D : va_G} {cy : Nat → ClassId} {A : Nat → Prop} {H0 : Heap} {L : List Nat} {g : xG} {Ts : List Cond} {own : String}
theorem x_room {W9 : Nat} {st : List Value} (h : (st.map fun v => v.category).sum ≤ W9) : 2 * (F0 m pc ls rest).monitorRoom + (st.map fun v => v.category).sum ≤ W9 := by
  rw [show (F0 m pc ls rest).monitorRoom = 0 from rfl]
  omega
/-- a call with more than eight words on the stack below its arguments -/
theorem xa_runV {y : MethodName} {bytes : ByteArray} {maxL mc ms n index : Nat} {ret : Option FieldType} {ws : List Cond} {rm : Room} {Pc : Array Value → State → Prop} {Qc : Array Value → State → Outcome → State → Prop} {free : Addr → Prop} {C : String} {b : Addr} {As : List Value} {g : JFrame} (W9 : Nat) (S : CallFix p m c cc nL s args Ts own) (hM : Met l y ws rm Pc Qc mc ms free) (cw : CallW R s args own C index y bytes maxL ret ws rm mc ms n) (hW9 : W9 + (maxL + 11) + rm.locals ≤ R.locals) (hp : PreV s H C b Pc As)
    (hg : g.method = m) (hn : As.length = n) (hsize : g.locals.size = nL) (hstack : g.stack = As.reverse ++ .ref b :: rest) (hW : 2 * g.monitorRoom + (rest.map fun v => v.category).sum ≤ W9) (hdg : decode cc g.pc = .ok (.invokevirtual index, 3)) (hf : cells + mc ≤ R.cells ∧ slots + ms ≤ R.slots) :
    va_Run p l e R s m args below meth c H locs cells slots mc ms g rest (Qc (Value.ref b :: As).toArray) (free) := by
  obtain ⟨⟨hrc, hrs, hfr, -, hws, hcw, hcode, hini, hy, hlen, hl⟩, hin, hse⟩ := cw
  have hK : Back l R p e below s args y 3 W9 (PreOf R mc ms Pc) (PostOf Qc mc ms free) := back_of (bytes := bytes) (maxL := maxL) (ret := ret) hM hp.1 hrc hrs hfr hW9 hws hcw (fun a' U hW => word_at hW (Or.inl (by first | rfl | simp [Cond.onTables, Cond.keeps, Cond.steady])) hini)
  obtain ⟨hx, hb, hml, ho, -⟩ := S
  obtain ⟨-, ⟨cellB, hcB, hoB, hclB⟩, hPc⟩ := hp
  intro T hT X
  obtain ⟨v, vm₁, ⟨U', l2, c2, s2⟩, hW₁, X', ⟨g', mk, t, L, e1, e2, hq, h1, hL, h2, h3⟩, st⟩ := callV X hx (C := C) (bytes := bytes) (maxL := maxL) (ret := ret) ho hl hin hse hcode hy hK (by rw [hT]; exact hcB) hoB hclB hg (hsize.trans hml.symm) (argsL := As) (rest := rest) (fun sig h => hn.trans (hlen sig h)) hstack hW (by rw [hb]; exact hdg)
    (fun vm₁ hW₁ => ⟨hf.1, hf.2, hPc (T.setVm vm₁) hT hW₁⟩)
  dsimp only [Pt.U, Pt.locs, Pt.cells, Pt.slots] at X' e1 e2 h1 h2 h3 st
  subst h1; subst h2; subst h3
  exact ⟨v, (T.setVm vm₁).calling g' mk (Value.ref b :: As).toArray, t, U', L, hT, X', hL, e1, e2, hq, st⟩
theorem xr_callVW_l (S : CallFix p m c cc nL s args Ts own) (w : xOK D cy A H0 s L g H locs) (hA : ∀ q, H0.size ≤ q → A q) (hN : xE s) {y : MethodName} {bytes : ByteArray} {maxL index n : Nat} {ret : Option FieldType} {ws : List Cond} {rm : Room} {As : List Value} {C : String} {T : u_T} {N b : Nat} (ci : Nat) (hc : vwCl[ci]? = some (C, T, N)) {u : Unit} (hk : xk g ci b = some u) {r : Int64} {g1 : xG} (hM : xMl l y ws rm D cy L g (.ref b :: As) r g1) (cw : CallW R s args own C index y bytes maxL ret ws rm 0 0 n) (hW9 : 16 + (maxL + 11) + rm.locals ≤ R.locals) (hst : st0 = As.reverse ++ .ref b :: rest) (hn : As.length = n) (hls : ls.size = nL) (hW : (rest.map fun v => v.category).sum ≤ 16) (hdg : decode cc pc = .ok (.invokevirtual index, 3)) (hroom : cells ≤ R.cells ∧ slots ≤ R.slots)
    (kk : ∀ (H1 : Heap) (locs1 : List Loc), xOK D cy A H0 s L g1 H1 locs1 → W p l e R s m args below meth c H1 locs1 cells slots Q (F0 m (pc + 3) ls (.long r :: rest))) : W p l e R s m args below meth c H locs cells slots Q (F0 m pc ls st0) := by
  refine va_calll (mc := 0) (ms := 0) (xa_runV 16 S (hM H.size) cw hW9 ⟨xPc_blind, w.recv hc hk, w.pre hN⟩ rfl hn hls hst (x_room hW) hdg hroom) w.2.2.2.1 (fun q _ h => w.free hA q h) (w.free hA) (fun r2 u2 t H1 locs1 ht hvm hw hB hz1 hk1 hS => ?_)
  obtain ⟨rfl, rfl⟩ := hw
  exact kk H1 locs1 (xB.ok w hA ht hvm hB hS)
end XWIDE
theorem xm_v {l : Launch} {y : MethodName} {ws ws' : List Cond} {rm : Room} {D : va_G} {cy : Nat → ClassId} {L : List Nat} {g : xG} {av : List Value} {g1 : xG} {cc : ByteArray} {maxL : Nat} (own : String) (hrc : rm.cells = 0) (hrs : rm.slots = 0) (hown : y.cls = own) (hy : plainName y.cls = true) (hw : ws = Cond.code y cc maxL none :: ws') (hlen : (lg_sl av).length ≤ maxL)
    (body : ∀ (p : Program) (e : Env) (s : State) (m : MethodId) (args : Array Value) (below : List Frame) (meth : Method) (c : Code) (Q : State → Prop) (A : Nat → Prop), CallFix p m c cc maxL s args ws own → xOK D cy A s.heap s L g s.heap [] → (∀ q, s.heap.size ≤ q → A q) → xE s → (∀ (H : Heap) (locs : List Loc) (pc : Nat) (ls : Array Slot) (g2 : xG), some g2 = some g1 → xOK D cy A s.heap s L g2 H locs → decode cc pc = .ok (.return_, 1) → W p l e rm s m args below meth c H locs 0 0 Q (F0 m pc ls [])) → ∀ ls : Array Slot, lv_has ls maxL (lv_args 0 av) → W p l e rm s m args below meth c s.heap [] 0 0 Q (F0 m 0 ls [])) : xMv l y ws rm D cy L g av g1 := by
  intro sz
  refine Met.ofW (cc := cc) (maxL := maxL) (ret := none) hy hw ?_
  intro p e s m args below meth c s₁ B hml hv
  obtain ⟨rfl, ⟨hsz, hP, hK, hD0, hd⟩, hN⟩ := hv
  have hr := B.returns
  have hts := atoms_spec (ws := ws) B.pre
  have hown : s.vm.findClass own = some m.cls := by rw [← hown]; exact findClass_of_methodNamed B.named
  have hlocks := B.notSynchronized
  have S : CallFix p m c cc maxL s av.toArray ws own := ⟨B.exec, B.bytes, hml, hown, hts⟩
  subst hsz
  rw [lg_entry_eq]
  exact body p e s m av.toArray below meth c _ (xA cy L g s.heap.size) S ⟨hP, hD0.self, hK, va_S.rf, hd⟩ (fun q h => Or.inr h) hN (fun H locs pc ls g2 h w hdg => by
    obtain rfl := Option.some.inj h
    exact W.vret S.1 S.2.1 hr (fun t ht hW => ⟨⟨g2, rfl, rfl, by rw [ht]; exact w.1, va_K.moved hW.alike w.2.2.1, w.2.1, w.2.2.2.2⟩, w.2.2.2.1.F ht⟩) w.2.2.2.1.2.2 hdg) _ (lv_entry av hlen)
theorem xm_i {l : Launch} {y : MethodName} {ws ws' : List Cond} {rm : Room} {D : va_G} {cy : Nat → ClassId} {L : List Nat} {g : xG} {av : List Value} {r1 : Int32} {g1 : xG} {cc : ByteArray} {maxL : Nat} (own : String) (hrc : rm.cells = 0) (hrs : rm.slots = 0) (hown : y.cls = own) (hy : plainName y.cls = true) (hw : ws = Cond.code y cc maxL (some .int) :: ws') (hlen : (lg_sl av).length ≤ maxL)
    (body : ∀ (p : Program) (e : Env) (s : State) (m : MethodId) (args : Array Value) (below : List Frame) (meth : Method) (c : Code) (Q : State → Prop) (A : Nat → Prop), CallFix p m c cc maxL s args ws own → xOK D cy A s.heap s L g s.heap [] → (∀ q, s.heap.size ≤ q → A q) → xE s → (∀ (H : Heap) (locs : List Loc) (pc : Nat) (ls : Array Slot) (v : Int32) (g2 : xG), some (v, g2) = some (r1, g1) → xOK D cy A s.heap s L g2 H locs → decode cc pc = .ok (.ireturn, 1) → W p l e rm s m args below meth c H locs 0 0 Q (F0 m pc ls [.int v])) → ∀ ls : Array Slot, lv_has ls maxL (lv_args 0 av) → W p l e rm s m args below meth c s.heap [] 0 0 Q (F0 m 0 ls [])) : xMi l y ws rm D cy L g av r1 g1 := by
  intro sz
  refine Met.ofW (cc := cc) (maxL := maxL) (ret := (some .int)) hy hw ?_
  intro p e s m args below meth c s₁ B hml hv
  obtain ⟨rfl, ⟨hsz, hP, hK, hD0, hd⟩, hN⟩ := hv
  have hr := B.returns
  have hts := atoms_spec (ws := ws) B.pre
  have hown : s.vm.findClass own = some m.cls := by rw [← hown]; exact findClass_of_methodNamed B.named
  have hlocks := B.notSynchronized
  have S : CallFix p m c cc maxL s av.toArray ws own := ⟨B.exec, B.bytes, hml, hown, hts⟩
  subst hsz
  rw [lg_entry_eq]
  exact body p e s m av.toArray below meth c _ (xA cy L g s.heap.size) S ⟨hP, hD0.self, hK, va_S.rf, hd⟩ (fun q h => Or.inr h) hN (fun H locs pc ls v g2 h w hdg => by
    obtain ⟨rfl, rfl⟩ := Prod.mk.inj (Option.some.inj h)
    exact W.iret S.1 S.2.1 hr (fun t ht hW => ⟨⟨v, g2, rfl, ⟨rfl, rfl⟩, by rw [ht]; exact w.1, va_K.moved hW.alike w.2.2.1, w.2.1, w.2.2.2.2⟩, w.2.2.2.1.F ht⟩) w.2.2.2.1.2.2 hdg) _ (lv_entry av hlen)
theorem xm_z {l : Launch} {y : MethodName} {ws ws' : List Cond} {rm : Room} {D : va_G} {cy : Nat → ClassId} {L : List Nat} {g : xG} {av : List Value} {r1 : Int32} {g1 : xG} {cc : ByteArray} {maxL : Nat} (own : String) (hrc : rm.cells = 0) (hrs : rm.slots = 0) (hown : y.cls = own) (hy : plainName y.cls = true) (hw : ws = Cond.code y cc maxL (some .boolean) :: ws') (hlen : (lg_sl av).length ≤ maxL)
    (body : ∀ (p : Program) (e : Env) (s : State) (m : MethodId) (args : Array Value) (below : List Frame) (meth : Method) (c : Code) (Q : State → Prop) (A : Nat → Prop), CallFix p m c cc maxL s args ws own → xOK D cy A s.heap s L g s.heap [] → (∀ q, s.heap.size ≤ q → A q) → xE s → (∀ (H : Heap) (locs : List Loc) (pc : Nat) (ls : Array Slot) (v v2 : Int32) (g2 : xG), xz v = some v2 → some (v2, g2) = some (r1, g1) → xOK D cy A s.heap s L g2 H locs → decode cc pc = .ok (.ireturn, 1) → W p l e rm s m args below meth c H locs 0 0 Q (F0 m pc ls [.int v])) → ∀ ls : Array Slot, lv_has ls maxL (lv_args 0 av) → W p l e rm s m args below meth c s.heap [] 0 0 Q (F0 m 0 ls [])) : xMi l y ws rm D cy L g av r1 g1 := by
  intro sz
  refine Met.ofW (cc := cc) (maxL := maxL) (ret := (some .boolean)) hy hw ?_
  intro p e s m args below meth c s₁ B hml hv
  obtain ⟨rfl, ⟨hsz, hP, hK, hD0, hd⟩, hN⟩ := hv
  have hr := B.returns
  have hts := atoms_spec (ws := ws) B.pre
  have hown : s.vm.findClass own = some m.cls := by rw [← hown]; exact findClass_of_methodNamed B.named
  have hlocks := B.notSynchronized
  have S : CallFix p m c cc maxL s av.toArray ws own := ⟨B.exec, B.bytes, hml, hown, hts⟩
  subst hsz
  rw [lg_entry_eq]
  exact body p e s m av.toArray below meth c _ (xA cy L g s.heap.size) S ⟨hP, hD0.self, hK, va_S.rf, hd⟩ (fun q h => Or.inr h) hN (fun H locs pc ls v v2 g2 hz0 h w hdg => by
    obtain ⟨rfl, hz⟩ := xz_ok hz0
    obtain ⟨rfl, rfl⟩ := Prod.mk.inj (Option.some.inj h)
    exact W.zret (ty := .boolean) S.1 S.2.1 hr (by rcases hz with rfl | rfl <;> decide) (fun t ht hW => ⟨⟨v, g2, rfl, ⟨rfl, rfl⟩, by rw [ht]; exact w.1, va_K.moved hW.alike w.2.2.1, w.2.1, w.2.2.2.2⟩, w.2.2.2.1.F ht⟩) w.2.2.2.1.2.2 hdg) _ (lv_entry av hlen)
theorem xm_l {l : Launch} {y : MethodName} {ws ws' : List Cond} {rm : Room} {D : va_G} {cy : Nat → ClassId} {L : List Nat} {g : xG} {av : List Value} {r1 : Int64} {g1 : xG} {cc : ByteArray} {maxL : Nat} (own : String) (hrc : rm.cells = 0) (hrs : rm.slots = 0) (hown : y.cls = own) (hy : plainName y.cls = true) (hw : ws = Cond.code y cc maxL (some .long) :: ws') (hlen : (lg_sl av).length ≤ maxL)
    (body : ∀ (p : Program) (e : Env) (s : State) (m : MethodId) (args : Array Value) (below : List Frame) (meth : Method) (c : Code) (Q : State → Prop) (A : Nat → Prop), CallFix p m c cc maxL s args ws own → xOK D cy A s.heap s L g s.heap [] → (∀ q, s.heap.size ≤ q → A q) → xE s → (∀ (H : Heap) (locs : List Loc) (pc : Nat) (ls : Array Slot) (v : Int64) (g2 : xG), some (v, g2) = some (r1, g1) → xOK D cy A s.heap s L g2 H locs → decode cc pc = .ok (.lreturn, 1) → W p l e rm s m args below meth c H locs 0 0 Q (F0 m pc ls [.long v])) → ∀ ls : Array Slot, lv_has ls maxL (lv_args 0 av) → W p l e rm s m args below meth c s.heap [] 0 0 Q (F0 m 0 ls [])) : xMl l y ws rm D cy L g av r1 g1 := by
  intro sz
  refine Met.ofW (cc := cc) (maxL := maxL) (ret := (some .long)) hy hw ?_
  intro p e s m args below meth c s₁ B hml hv
  obtain ⟨rfl, ⟨hsz, hP, hK, hD0, hd⟩, hN⟩ := hv
  have hr := B.returns
  have hts := atoms_spec (ws := ws) B.pre
  have hown : s.vm.findClass own = some m.cls := by rw [← hown]; exact findClass_of_methodNamed B.named
  have hlocks := B.notSynchronized
  have S : CallFix p m c cc maxL s av.toArray ws own := ⟨B.exec, B.bytes, hml, hown, hts⟩
  subst hsz
  rw [lg_entry_eq]
  exact body p e s m av.toArray below meth c _ (xA cy L g s.heap.size) S ⟨hP, hD0.self, hK, va_S.rf, hd⟩ (fun q h => Or.inr h) hN (fun H locs pc ls v g2 h w hdg => by
    obtain ⟨rfl, rfl⟩ := Prod.mk.inj (Option.some.inj h)
    exact W.lret S.1 S.2.1 hr (fun t ht hW => ⟨⟨v, g2, rfl, ⟨rfl, rfl⟩, by rw [ht]; exact w.1, va_K.moved hW.alike w.2.2.1, w.2.1, w.2.2.2.2⟩, w.2.2.2.1.F ht⟩) w.2.2.2.1.2.2 hdg) _ (lv_entry av hlen)
theorem xm_r {l : Launch} {y : MethodName} {ws ws' : List Cond} {rm : Room} {D : va_G} {cy : Nat → ClassId} {L : List Nat} {g : xG} {av : List Value} {r1 : Nat} {nm : String} {g1 : xG} {cc : ByteArray} {maxL : Nat} (own : String) (hrc : rm.cells = 0) (hrs : rm.slots = 0) (hown : y.cls = own) (hy : plainName y.cls = true) (hw : ws = Cond.code y cc maxL (some (.object nm)) :: ws') (hlen : (lg_sl av).length ≤ maxL)
    (body : ∀ (p : Program) (e : Env) (s : State) (m : MethodId) (args : Array Value) (below : List Frame) (meth : Method) (c : Code) (Q : State → Prop) (A : Nat → Prop), CallFix p m c cc maxL s args ws own → xOK D cy A s.heap s L g s.heap [] → (∀ q, s.heap.size ≤ q → A q) → xE s → (∀ (H : Heap) (locs : List Loc) (pc : Nat) (ls : Array Slot) (v : Nat) (g2 : xG), some (v, g2) = some (r1, g1) → xOK D cy A s.heap s L g2 H locs → decode cc pc = .ok (.areturn, 1) → W p l e rm s m args below meth c H locs 0 0 Q (F0 m pc ls [.ref v])) → ∀ ls : Array Slot, lv_has ls maxL (lv_args 0 av) → W p l e rm s m args below meth c s.heap [] 0 0 Q (F0 m 0 ls [])) : xMr l y ws rm D cy L g av r1 g1 := by
  intro sz
  refine Met.ofW (cc := cc) (maxL := maxL) (ret := (some (.object nm))) hy hw ?_
  intro p e s m args below meth c s₁ B hml hv
  obtain ⟨rfl, ⟨hsz, hP, hK, hD0, hd⟩, hN⟩ := hv
  have hr := B.returns
  have hts := atoms_spec (ws := ws) B.pre
  have hown : s.vm.findClass own = some m.cls := by rw [← hown]; exact findClass_of_methodNamed B.named
  have hlocks := B.notSynchronized
  have S : CallFix p m c cc maxL s av.toArray ws own := ⟨B.exec, B.bytes, hml, hown, hts⟩
  subst hsz
  rw [lg_entry_eq]
  exact body p e s m av.toArray below meth c _ (xA cy L g s.heap.size) S ⟨hP, hD0.self, hK, va_S.rf, hd⟩ (fun q h => Or.inr h) hN (fun H locs pc ls v g2 h w hdg => by
    obtain ⟨rfl, rfl⟩ := Prod.mk.inj (Option.some.inj h)
    exact W.aret S.1 S.2.1 hr (Or.inl ⟨_, rfl⟩) (Or.inr ⟨_, rfl⟩) (fun t ht hW => ⟨⟨g2, v, rfl, rfl, rfl, by rw [ht]; exact w.1, va_K.moved hW.alike w.2.2.1, w.2.1, w.2.2.2.2⟩, w.2.2.2.1.F ht⟩) w.2.2.2.1.2.2 hdg) _ (lv_entry av hlen)
def f_J15_checkIndex_7cf53 (a0 a1 : Int32) : Option Int32 := if a0 < 0 then none else if a0 < a1 then some a0 else none
set_option maxHeartbeats 4000000 in
theorem c_J3_checkIndex (l : Launch) (D : va_G) (cy : Nat → ClassId) (L : List Nat) (g : xG) (a0 a1 : Int32) (h0 : ¬ a0 < 0) (h1 : a0 < a1) : xMi l yJ3_checkIndex_8e157 wsJ3_checkIndex_8e157 ({ frames := 0, cells := 0, slots := 0, locals := 0 }) D cy L g [.int a0, .int a1, .null] a0 g := by
  refine xm_i (cc := cJ3_checkIndex_8e157) (maxL := 3) RJ3 rfl rfl rfl (by decide +kernel) rfl (Nat.le_of_ble_eq_true rfl) ?_
  intro p e s m args below meth c Q A S w hA hN ret ls hl
  have hl : lv_has ls 3 [(0, .int a0), (1, .int a1), (2, .null)] := hl
  refine lv_iload_n S.1 S.2.1 dJ3_checkIndex_8e157_0 rfl (lv_at hl 0 rfl) ?_
  refine lv_if_lt (tgt := 9) S.1 S.2.1 dJ3_checkIndex_8e157_1 (by decide) (fun c1 => absurd c1 h0) (fun c1 => ?_)
  refine lv_iload_n S.1 S.2.1 dJ3_checkIndex_8e157_4 rfl (lv_at hl 0 rfl) ?_
  refine lv_iload_n S.1 S.2.1 dJ3_checkIndex_8e157_5 rfl (lv_at hl 1 rfl) ?_
  refine lv_icmp_lt (tgt := 16) S.1 S.2.1 dJ3_checkIndex_8e157_6 (by decide) (fun c2 => ?_) (fun c2 => absurd h1 c2)
  refine lv_iload_n S.1 S.2.1 dJ3_checkIndex_8e157_16 rfl (lv_at hl 0 rfl) ?_
  exact ret _ _ _ _ _ _ rfl w dJ3_checkIndex_8e157_17
set_option maxHeartbeats 4000000 in
theorem c_J15_checkIndex_7cf53 (l : Launch) (D : va_G) (cy : Nat → ClassId) (L : List Nat) (g : xG) (a0 a1 : Int32) {r1 : Int32} (h : f_J15_checkIndex_7cf53 a0 a1 = some r1) : xMi l yJ15_checkIndex_7cf53 wsJ15_checkIndex_7cf53 ({ frames := 1, cells := 0, slots := 0, locals := 22 }) D cy L g [.int a0, .int a1] r1 g := by
  unfold f_J15_checkIndex_7cf53 at h
  by_cases h0 : a0 < 0
  · rw [if_pos h0] at h; cases h
  · rw [if_neg h0] at h
    by_cases h1 : a0 < a1
    · rw [if_pos h1] at h
      refine xm_i (cc := cJ15_checkIndex_7cf53) (maxL := 2) RJ15 rfl rfl rfl (by decide +kernel) rfl (Nat.le_of_ble_eq_true rfl) ?_
      intro p e s m args below meth c Q A S w hA hN ret ls hl
      have hl : lv_has ls 2 [(0, .int a0), (1, .int a1)] := hl
      refine lv_iload_n S.1 S.2.1 dJ15_checkIndex_7cf53_0 rfl (lv_at hl 0 rfl) ?_
      refine lv_iload_n S.1 S.2.1 dJ15_checkIndex_7cf53_1 rfl (lv_at hl 1 rfl) ?_
      refine lv_null S.1 S.2.1 dJ15_checkIndex_7cf53_2 ?_
      refine xr_callS_i S w hA hN (As := [.int a0, .int a1, .null]) (c_J3_checkIndex l D cy L g a0 a1 h0 h1) (va_cwS 3 S.2.2.2.2 gJ15_checkIndex_7cf53_J3_checkIndex_8e157 rfl rfl rfl (by decide +kernel) ⟨Nat.le_of_ble_eq_true rfl, Nat.le_of_ble_eq_true rfl⟩) rfl rfl hl.1 (Nat.le_of_ble_eq_true rfl) dJ15_checkIndex_7cf53_3 ⟨Nat.le_of_ble_eq_true rfl, Nat.le_of_ble_eq_true rfl⟩ (fun H locs w => ?_)
      exact ret _ _ _ _ _ _ (congrArg (fun z => some (z, g)) (Option.some.inj h)) w dJ15_checkIndex_7cf53_6
    · rw [if_neg h1] at h; cases h
