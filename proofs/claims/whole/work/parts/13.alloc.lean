/-! METHODS THAT MAKE THINGS: the addresses in use grow. P says of what comes back all that may come back. -/
/-- the shared empty row that a new list begins with -/
def xS (t : Nat) (A : Nat → Prop) (s : State) (H : Heap) : Prop := va_Z "java/util/ArrayList" "DEFAULTCAPACITY_EMPTY_ELEMENTDATA" "[Ljava/lang/Object;" (.ref t) A s H ∧ va_T (.object "java/lang/Object") t 0 (fun _ => .null) A s H
theorem xS.at {t : Nat} {A : Nat → Prop} {s : State} {H0 H : Heap} {locs : List Loc} (h : xS t A s H0) (hS : va_S A H0 H locs) : xS t A s H := ⟨h.1.kept (fun a h1 h2 => hS.2.1 a h1 h2), h.2.kept (fun a h1 h2 => hS.2.1 a h1 h2)⟩
theorem xS.moved {t : Nat} {A : Nat → Prop} {u U : State} {H : Heap} (hvm : u.vm.Alike U.vm) (h : xS t A u H) : xS t A U H := ⟨h.1.moved hvm, h.2.moved hvm⟩
theorem xS.narrow {t : Nat} {A B : Nat → Prop} {U : State} {H : Heap} (h : xS t A U H) (hAB : ∀ q, B q → A q) : xS t B U H := ⟨h.1.narrow hAB, h.2.narrow hAB⟩
abbrev xPcA (D : va_G) (cy : Nat → ClassId) (t : Nat) (L : List Nat) (g : xG) (sz : Nat) (av : List Value) : Array Value → State → Prop := va_Pc av (fun U => (U.heap.size = sz ∧ va_P D vwCl (xW cy L g) U.heap ∧ va_K D vwCl (xT cy) U ∧ va_D (fun _ => True) (xW cy L g) ∧ ∀ a, a ∉ L → g a = xdead) ∧ xE U ∧ xZ (xA cy L g sz) U U.heap ∧ xS t (xA cy L g sz) U U.heap)
theorem xPcA_blind {D : va_G} {cy : Nat → ClassId} {t : Nat} {L : List Nat} {g : xG} {sz : Nat} {av : List Value} : FrameBlind (xPcA D cy t L g sz av) := fun a U g9 mk q => by
  obtain ⟨q0, ⟨q1, q2, q3, q4⟩, q5, q6, q7⟩ := q
  exact ⟨q0, ⟨q1, q2, va_K.moved (u := U) (U := U.calling g9 mk a) (Vm.Alike.refl U.vm) q3, q4⟩, q5.same rfl, xZ.moved (u := U) (U := U.calling g9 mk a) (Vm.Alike.refl U.vm) q6, xS.moved (u := U) (U := U.calling g9 mk a) (Vm.Alike.refl U.vm) q7⟩
def xYv (l : Launch) (y : MethodName) (ws : List Cond) (rm : Room) (D : va_G) (cy : Nat → ClassId) (t : Nat) (L : List Nat) (g : xG) (av : List Value) (P : List Nat → xG → Prop) (mc ms : Nat) : Prop := ∀ sz : Nat, Met l y ws rm (xPcA D cy t L g sz av) (va_Qv (fun u : List Nat × xG => P u.1 u.2) (fun (u : List Nat × xG) (w : State) => xB D cy u.1 (xA cy L g sz) u.2 w) (xA cy L g sz)) mc ms (xA cy L g sz)
def xYi (l : Launch) (y : MethodName) (ws : List Cond) (rm : Room) (D : va_G) (cy : Nat → ClassId) (t : Nat) (L : List Nat) (g : xG) (av : List Value) (P : Int32 → List Nat → xG → Prop) (mc ms : Nat) : Prop := ∀ sz : Nat, Met l y ws rm (xPcA D cy t L g sz av) (va_Qi (fun (r : Int32) (u : List Nat × xG) => P r u.1 u.2) (fun (u : List Nat × xG) (w : State) => xB D cy u.1 (xA cy L g sz) u.2 w) (xA cy L g sz)) mc ms (xA cy L g sz)
def xYr (l : Launch) (y : MethodName) (ws : List Cond) (rm : Room) (D : va_G) (cy : Nat → ClassId) (t : Nat) (L : List Nat) (g : xG) (av : List Value) (P : Nat → List Nat → xG → Prop) (mc ms : Nat) : Prop := ∀ sz : Nat, Met l y ws rm (xPcA D cy t L g sz av) (va_Qr (fun _ : List Nat × xG => True) (fun (u : List Nat × xG) (a : Nat) (w : State) => P a u.1 u.2 ∧ xB D cy u.1 (xA cy L g sz) u.2 w) (xA cy L g sz)) mc ms (xA cy L g sz)
def xYx (l : Launch) (y : MethodName) (ws : List Cond) (rm : Room) (D : va_G) (cy : Nat → ClassId) (t : Nat) (L : List Nat) (g : xG) (av : List Value) (P : (Nat ⊕ Int32) → List Nat → xG → Prop) (mc ms : Nat) : Prop := ∀ sz : Nat, vx_Met l y ws rm (xPcA D cy t L g sz av) (va_Qi (fun (r : Int32) (u : List Nat × xG) => P (.inr r) u.1 u.2) (fun (u : List Nat × xG) (w : State) => xB D cy u.1 (xA cy L g sz) u.2 w) (xA cy L g sz)) (xXC D cy L g (fun k => P (.inl k) L g) (xA cy L g sz)) mc ms (xA cy L g sz)
section XALLOC
variable {p : Program} {l : Launch} {e : Env} {R : Room} {s : State} {m : MethodId} {args : Array Value} {below : List Frame} {meth : Method} {c : Code} {H : Heap} {locs : List Loc} {cells slots : Nat} {Q : State → Prop}
variable {cc : ByteArray} {nL pc : Nat} {ls : Array Slot} {rest st0 : List Value} {D : va_G} {cy : Nat → ClassId} {A : Nat → Prop} {L : List Nat} {g : xG} {Ts : List Cond} {own : String} {t : Nat}
theorem xOK.preA (w : xOK D cy A s.heap s L g H locs) (hA : ∀ q, s.heap.size ≤ q → A q) (hN : xE s) (hZ : xZ A s s.heap) (hT : xS t A s s.heap) {av : List Value} : ∀ U : State, U.heap = H → s.WarmedH U.vm → xPcA D cy t L g H.size av av.toArray U := fun U hU hW =>
  ⟨rfl, ⟨by rw [hU], by rw [hU]; exact w.1, va_K.moved hW.alike w.2.2.1, w.2.1.weaken (fun _ _ _ _ => trivial), w.2.2.2.2⟩, hN.warm hW, by rw [hU]; exact ((hZ.at w.2.2.2.1).narrow (w.free hA)).moved hW.alike, by rw [hU]; exact ((hT.at w.2.2.2.1).narrow (w.free hA)).moved hW.alike⟩
theorem xB.okA (w : xOK D cy A s.heap s L g H locs) (hA : ∀ q, s.heap.size ≤ q → A q) {L1 : List Nat} {g1 : xG} {tt : State} {H1 : Heap} {locs1 : List Loc} (ht : tt.heap = H1) (hvm : s.vm.Alike tt.vm) (h : xB D cy L1 (xA cy L g H.size) g1 tt) (hS : va_S A s.heap H1 locs1) : xOK D cy A s.heap s L1 g1 H1 locs1 := by
  obtain ⟨h1, h2, h3, h4⟩ := h
  rw [ht] at h1
  exact ⟨h1, h3.weaken (fun _ q _ hq => w.free hA q.1 hq), va_K.moved hvm.symm h2, hS, h4⟩
theorem xW_mem {a : Nat} (h : a ∈ L) : ∃ (k : Nat) (e9 : va_E), (xW cy L g)[k]? = some (a, e9) := by
  obtain ⟨k, hk⟩ := va_pl_get (X := []) (f := fun a => xt cy (g a)) h
  exact ⟨k, _, hk⟩
theorem xOK.push (w : xOK D cy A s.heap s L g H locs) {q : Nat} {e9 : va_E} {H1 : Heap} {locs1 : List Loc} (hq : q ∉ L) (hP : va_P D vwCl (xW cy L g ++ [(q, xt cy e9)]) H1) (hD : va_D A (xW cy L g ++ [(q, xt cy e9)])) (hS : va_S A s.heap H1 locs1) : xOK D cy A s.heap s (L ++ [q]) (va_up g q e9) H1 locs1 := by
  have e1 : xW cy L g ++ [(q, xt cy e9)] = xW cy (L ++ [q]) (va_up g q e9) := by
    refine (va_pl_push hq).trans (va_pl_congr fun b => ?_)
    by_cases hb : b = q <;> simp [va_up, hb]
  rw [e1] at hP hD
  refine ⟨hP, hD, w.2.2.1, hS, fun b hb => ?_⟩
  have hne : b ≠ q := fun z => hb (List.mem_append_right _ (by rw [z]; exact List.mem_singleton.mpr rfl))
  rw [va_up_ne _ _ hne]
  exact w.2.2.2.2 b (fun z => hb (List.mem_append_left _ z))
theorem xOK.fresh {q : Nat} {e9 : va_E} (hD : va_D A (xW cy L g ++ [(q, e9)])) : q ∉ L := fun h => by
  obtain ⟨k, e8, hk⟩ := xW_mem (cy := cy) (g := g) h
  have hl := (List.getElem?_eq_some_iff.mp hk).1
  have h2 : (xW cy L g ++ [(q, e9)])[(xW cy L g).length]? = some (q, e9) := by simp
  have := hD.1 k (xW cy L g).length (q, e8) (q, e9) (by rw [List.getElem?_append_left hl]; exact hk) h2 rfl
  omega
theorem xr_new (S : CallFix p m c cc nL s args Ts own) (w : xOK D cy A s.heap s L g H locs) (hA : ∀ q, s.heap.size ≤ q → A q) {C : String} {T : u_T} {N : Nat} (ci : Nat) (hin : ∀ w ∈ u_ws C T N, w ∈ Ts) (hc : vwCl[ci]? = some (C, T, N)) (ty : Nat → FieldType) (hty : ∀ k, k < N → parseFieldDescriptor (T k).2.2.1 = some (ty k)) {index : Nat} (h1 : Cond.classLink own index C ∈ Ts) (h2 : Cond.instantiable C N ∈ Ts) (h3 : Cond.initialized C ∈ Ts) (fs : List Value) (hfs : ∀ j, j < N → defaultValue (ty j) = vp_V fs j) (hdg : decode cc pc = .ok (.new index, 3)) (hroom : cells + 1 ≤ R.cells ∧ slots + N ≤ R.slots)
    (kk : ∀ (q : Nat) (L1 : List Nat) (g1 : xG) (H1 : Heap), q ∉ L → L1 = L ++ [q] → g1 = va_up g q (.inr (ci, fs)) → xOK D cy A s.heap s L1 g1 H1 locs → W p l e R s m args below meth c H1 locs (cells + 1) (slots + N) Q (F0 m (pc + 3) ls (.ref q :: rest))) : W p l e R s m args below meth c H locs cells slots Q (F0 m pc ls rest) := by
  obtain ⟨hx, hb, hml, hown, hts⟩ := S
  refine va_new hx hb hts hin ty hty hown (hts _ h1) (hts _ h2) (hts _ h3) w.2.2.1 w.1 w.2.1 w.2.2.2.1 hA hc hfs hroom.1 hroom.2 hdg (fun q H1 hP hD hS => ?_)
  have hq := xOK.fresh hD
  exact kk q _ _ H1 hq rfl rfl (w.push (e9 := .inr (ci, fs)) hq hP hD hS)
theorem x_tys {U : State} {cA cB : ClassId} {ty : FieldType} (h1 : va_RA U cA ty) (h2 : va_RA U cB ty) : cA = cB := by
  cases ty with
  | object C =>
    obtain ⟨_, _, -, -, -, e1⟩ := h1
    obtain ⟨_, _, -, -, -, e2⟩ := h2
    exact Option.some.inj (e1.symm.trans e2)
  | _ => exact Option.some.inj (Eq.trans (Eq.symm h1) h2)
theorem x_last {tys : List (ClassId × FieldType)} {x : ClassId × FieldType} : (tys ++ [x])[tys.length]? = some x := by simp
theorem xr_newa (S : CallFix p m c cc nL s args Ts own) (w : xOK D cy A s.heap s L g H locs) (hA : ∀ q, s.heap.size ≤ q → A q) (tc : Nat) (atype : ArrayType) (harr : Cond.arrayClass (newarray.typeOf atype) ∈ Ts) (ty : FieldType) (hty : newarray.typeOf atype = ty) (htc : ∀ cy : Nat → ClassId, (xT cy)[tc]? = some (cy tc, ty)) {n : Int32} (N' : Nat) (b0 : (Nat → Int32) ⊕ (Nat → Int64) ⊕ (Nat → UInt32) ⊕ (Nat → UInt64) ⊕ (Nat → Option Nat)) (ha : ∀ cA : ClassId, vp_cell cA (N', b0) = arrV cA N' (fun _ => defaultValue ty)) (hn : ¬ n < 0) (hN : n.toNatClampNeg = N') (hbytes : N' * componentBytes ty ≤ 536870912) (hdg : decode cc pc = .ok (.newarray atype, 2)) (hroom : cells + 1 ≤ R.cells ∧ slots + N' ≤ R.slots)
    (kk : ∀ (q : Nat) (L1 : List Nat) (g1 : xG) (H1 : Heap), q ∉ L → L1 = L ++ [q] → g1 = va_up g q (.inl (tc, N', b0)) → xOK D cy A s.heap s L1 g1 H1 locs → W p l e R s m args below meth c H1 locs (cells + 1) (slots + N') Q (F0 m (pc + 2) ls (.ref q :: rest))) : W p l e R s m args below meth c H locs cells slots Q (F0 m pc ls (.int n :: rest)) := by
  obtain ⟨hx, hb, hml, hown, hts⟩ := S
  refine va_newa (atype := atype) hx hb (hts _ harr) hty w.2.2.1 w.1 w.2.1 w.2.2.2.1 hA (a0 := (N', b0)) ha hn hN hbytes hroom.1 hroom.2 hdg (fun q cA H1 hK hP hD hS => ?_)
  have hcA : cA = cy tc := x_tys (hK.2 _ _ x_last).2 (w.2.2.1.2 tc _ (htc cy)).2
  subst hcA
  have hq := xOK.fresh hD
  exact kk q _ _ H1 hq rfl rfl (w.push (e9 := .inl (tc, N', b0)) hq hP hD hS)
theorem xr_newq (S : CallFix p m c cc nL s args Ts own) (w : xOK D cy A s.heap s L g H locs) (hA : ∀ q, s.heap.size ≤ q → A q) (tc : Nat) (C : String) {index : Nat} (hcl : Cond.classLink own index C ∈ Ts) (hAO : va_AO C s) (htc : ∀ cy : Nat → ClassId, (xT cy)[tc]? = some (cy tc, .object C)) {n : Int32} (N' : Nat) (hn : ¬ n < 0) (hN : n.toNatClampNeg = N') (hbytes : N' * 4 ≤ 536870912) (hdg : decode cc pc = .ok (.anewarray index, 3)) (hroom : cells + 1 ≤ R.cells ∧ slots + N' ≤ R.slots)
    (kk : ∀ (q : Nat) (L1 : List Nat) (g1 : xG) (H1 : Heap), q ∉ L → L1 = L ++ [q] → g1 = va_up g q (.inl (tc, N', .inr (.inr (.inr (.inr (fun _ => none)))))) → xOK D cy A s.heap s L1 g1 H1 locs → W p l e R s m args below meth c H1 locs (cells + 1) (slots + N') Q (F0 m (pc + 3) ls (.ref q :: rest))) : W p l e R s m args below meth c H locs cells slots Q (F0 m pc ls (.int n :: rest)) := by
  obtain ⟨hx, hb, hml, hown, hts⟩ := S
  refine va_newq hx hb hown (hts _ hcl) hAO w.2.2.1 w.1 w.2.1 w.2.2.2.1 hA hn hN hbytes hroom.1 hroom.2 hdg (fun q cA H1 hK hP hD hS => ?_)
  have hcA : cA = cy tc := x_tys (hK.2 _ _ x_last).2 (w.2.2.1.2 tc _ (htc cy)).2
  subst hcA
  have hq := xOK.fresh hD
  exact kk q _ _ H1 hq rfl rfl (w.push (e9 := .inl (tc, N', .inr (.inr (.inr (.inr (fun _ => none)))))) hq hP hD hS)
/-- a final field, in its class's constructor -/
theorem xr_putF (S : CallFix p m c cc nL s args Ts own) (w : xOK D cy A s.heap s L g H locs) (hini : meth.name = "<init>") {C : String} {T : u_T} {N : Nat} (ci : Nat) (hin : ∀ w ∈ u_ws C T N, w ∈ Ts) (hc : vwCl[ci]? = some (C, T, N)) (ty0 : Nat → FieldType) (hty : ∀ k, k < N → parseFieldDescriptor (T k).2.2.1 = some (ty0 k)) (hnm : ∀ a, a < N → ∀ b, b < N → a ≠ b → (T a).2.1 ≠ (T b).2.1) (k : Nat) (hk : k < N) {index : Nat} (hl : Cond.fieldLink own index (T k).1 (T k).2.1 (T k).2.2.1 ∈ Ts) (hfin : (T k).2.2.2 = true) (hdecl : (T k).1 = own) (ty : FieldType) (hd : parseFieldDescriptor (T k).2.2.1 = some ty) {a : Nat} {v : Value} (hn : narrow ty v = v) (hfit : fits ty v = true) {g1 : xG} (hp : xp g ci a k v = some g1) (hdg : decode cc pc = .ok (.putfield index, 3))
    (kk : ∀ (H1 : Heap) (locs1 : List Loc), xOK D cy A s.heap s L g1 H1 locs1 → W p l e R s m args below meth c H1 locs1 cells slots Q (F0 m (pc + 3) ls rest)) : W p l e R s m args below meth c H locs cells slots Q (F0 m pc ls (v :: .ref a :: rest)) := by
  obtain ⟨hx, hb, hml, hown, hts⟩ := S
  obtain ⟨fs, hg, hlt, rfl⟩ := xp_at hp
  have hc9 : ci < vwCl.length := (List.getElem?_eq_some_iff.mp hc).1
  have hne : g a ≠ xdead := by
    rw [hg]
    intro q
    have h9 : ci = 99 := by injection q with q; injection q
    rw [h9] at hc9
    exact absurd hc9 (by decide)
  obtain ⟨ha, q0, hq⟩ := w.at hne
  have hq' := hq
  rw [hg] at hq
  exact va_putF (ref := (T k).1) hx hb hts hin ty0 hty hnm hown w.2.2.1 w.1 w.2.1 w.2.2.2.1 q0 hq hc k hk (hts _ hl) (fun _ h => h) hfin hini hdecl hd hn hfit hlt hdg (fun H1 locs1 hP hD hS => kk H1 locs1 (w.up (e := .inr (ci, fs.set k v)) ha hq' hP hD hS))
theorem xr_obj (S : CallFix p m c cc nL s args Ts own) {idx : Nat} (h1 : Cond.methodLink own idx objectInit ∈ Ts) (h2 : Cond.instanceMethod objectInit ∈ Ts) (h3 : Cond.code objectInit ⟨#[0xb1]⟩ 1 none ∈ Ts) {a : Nat} (hls : ls.size = nL) (hdg : decode cc pc = .ok (.invokespecial idx, 3)) (hframes : 1 ≤ R.frames) (hlocals : (rest.map fun v => v.category).sum + 12 ≤ R.locals)
    (kk : W p l e R s m args below meth c H locs cells slots Q (F0 m (pc + 3) ls rest)) : W p l e R s m args below meth c H locs cells slots Q (F0 m pc ls (.ref a :: rest)) := by
  obtain ⟨hx, hb, hml, hown, hts⟩ := S
  exact W.objInit hx hb hown (hts _ h1) (hts _ h2) (hts _ h3) (g := F0 m pc ls (.ref a :: rest)) rfl (hls.trans hml.symm) rfl hdg hframes (by rw [show (F0 m pc ls (.ref a :: rest)).monitorRoom = 0 from rfl]; omega) kk
/-- the length of a row of objects, the shared empty one too -/
def xn_t (t : Nat) (g : xG) (a : Nat) : Option Int32 := if a = t then some 0 else xn_a 6 g a
def xcap (x : Int32) : Option Nat := if 0 ≤ x ∧ x.toNatClampNeg ≤ 64 then some x.toNatClampNeg else none
theorem xcap_ok {x : Int32} {n : Nat} (h : xcap x = some n) : ¬ x < 0 ∧ x.toNatClampNeg = n ∧ n ≤ 64 := by
  unfold xcap at h
  split at h
  · rename_i hc
    have h2 := Option.some.inj h
    exact ⟨Int32.not_lt.mpr hc.1, h2, by rw [← h2]; exact hc.2⟩
  · cases h
theorem xr_alenT (S : CallFix p m c cc nL s args Ts own) (w : xOK D cy A s.heap s L g H locs) (hT : xS t A s s.heap) {a : Nat} {x : Int32} (hv : xn_t t g a = some x) (hdg : decode cc pc = .ok (.arraylength, 1))
    (kk : W p l e R s m args below meth c H locs cells slots Q (F0 m (pc + 1) ls (.int x :: rest))) : W p l e R s m args below meth c H locs cells slots Q (F0 m pc ls (.ref a :: rest)) := by
  unfold xn_t at hv
  split at hv
  · rename_i ha
    subst ha
    exact va_tlen S.1 S.2.1 hT.2 w.2.2.2.1 (Option.some.inj hv) hdg kk
  · exact xr_alen S w 6 (.object "java/lang/Object") (fun _ => rfl) hv hdg kk
theorem xr_getsT (S : CallFix p m c cc nL s args Ts own) (w : xOK D cy A s.heap s L g H locs) (hT : xS t A s s.heap) {index : Nat} (hl : Cond.fieldLink own index "java/util/ArrayList" "DEFAULTCAPACITY_EMPTY_ELEMENTDATA" "[Ljava/lang/Object;" ∈ Ts) (hdg : decode cc pc = .ok (.getstatic index, 3))
    (kk : W p l e R s m args below meth c H locs cells slots Q (F0 m (pc + 3) ls (.ref t :: rest))) : W p l e R s m args below meth c H locs cells slots Q (F0 m pc ls rest) :=
  va_gets S.1 S.2.1 hT.1 w.2.2.2.1 S.2.2.2.1 (S.2.2.2.2 _ hl) (fun _ h => h) hdg kk
theorem xr_acmp (S : CallFix p m c cc nL s args Ts own) {x y : Nat} {off : Int} {tgt : Nat} (hdg : decode cc pc = .ok (.if_acmp .eq off, 3)) (ht : (pc : Int) + off = (tgt : Int))
    (kt : x = y → W p l e R s m args below meth c H locs cells slots Q (F0 m tgt ls rest)) (kf : ¬ x = y → W p l e R s m args below meth c H locs cells slots Q (F0 m (pc + 3) ls rest)) : W p l e R s m args below meth c H locs cells slots Q (F0 m pc ls (.ref y :: .ref x :: rest)) :=
  lv_acmp_eq (rx := some x) (ry := some y) S.1 S.2.1 hdg ht (fun q => kt (Option.some.inj q)) (fun q => kf (fun z => q (congrArg some z)))
theorem xr_acmpn (S : CallFix p m c cc nL s args Ts own) {x : Nat} {off : Int} {tgt : Nat} (hdg : decode cc pc = .ok (.if_acmp .ne off, 3)) (ht : (pc : Int) + off = (tgt : Int))
    (kf : W p l e R s m args below meth c H locs cells slots Q (F0 m (pc + 3) ls rest)) : W p l e R s m args below meth c H locs cells slots Q (F0 m pc ls (.ref x :: .ref x :: rest)) :=
  lv_acmp_ne (rx := some x) (ry := some x) S.1 S.2.1 hdg ht (fun q => absurd rfl q) (fun _ => kf)
theorem xr_newqv (S : CallFix p m c cc nL s args Ts own) (w : xOK D cy A s.heap s L g H locs) (hA : ∀ q, s.heap.size ≤ q → A q) (hT : xS t A s s.heap) {index : Nat} (hcl : Cond.classLink own index "java/lang/Object" ∈ Ts) (hAO : va_AO "java/lang/Object" s) {n : Int32} {N' : Nat} (hN : xcap n = some N') (hdg : decode cc pc = .ok (.anewarray index, 3)) (hroom : cells + 1 ≤ R.cells ∧ slots + 64 ≤ R.slots)
    (kk : ∀ (q : Nat) (L1 : List Nat) (g1 : xG) (H1 : Heap), q ∉ L → q ≠ t → L1 = L ++ [q] → g1 = va_up g q (.inl (6, N', .inr (.inr (.inr (.inr (fun _ => none)))))) → xOK D cy A s.heap s L1 g1 H1 locs → W p l e R s m args below meth c H1 locs (cells + 1) (slots + 64) Q (F0 m (pc + 3) ls (.ref q :: rest))) : W p l e R s m args below meth c H locs cells slots Q (F0 m pc ls (.int n :: rest)) := by
  obtain ⟨h1, h2, h3⟩ := xcap_ok hN
  refine xr_newq S w hA 6 "java/lang/Object" hcl hAO (fun _ => rfl) N' h1 h2 (by omega) hdg ⟨hroom.1, by omega⟩ (fun q L1 g1 H1 e1 e2 e3 w1 => ?_)
  have hqt : q ≠ t := fun z => hT.2.out (by
    rw [← z]
    have hm : q ∈ L1 := by rw [e2]; exact List.mem_append_right _ (List.mem_singleton.mpr rfl)
    obtain ⟨k, e8, hk⟩ := xW_mem (cy := cy) (g := g1) hm
    exact w1.2.1.2 k _ hk)
  exact W.widen (Nat.le_refl _) (by omega) (kk q L1 g1 H1 e1 hqt e2 e3 w1)
theorem xr_aastO (S : CallFix p m c cc nL s args Ts own) (w : xOK D cy A s.heap s L g H locs) (hca : va_Nw (.castable "TellTale$Evidence" "java/lang/Object") s) {a v : Nat} {i : Int32} {g1 : xG} (hv : xs_r 6 1 g a i v = some g1) (hdg : decode cc pc = .ok (.aastore, 1))
    (kk : ∀ (H1 : Heap) (locs1 : List Loc), xOK D cy A s.heap s L g1 H1 locs1 → W p l e R s m args below meth c H1 locs1 cells slots Q (F0 m (pc + 1) ls rest)) : W p l e R s m args below meth c H locs cells slots Q (F0 m pc ls (.ref v :: .int i :: .ref a :: rest)) := by
  obtain ⟨hx, hb, hml, hown, hts⟩ := S
  obtain ⟨n, f, fs, hg, hgv, hi, rfl⟩ := xs_r_at hv
  have hne : g a ≠ xdead := by
    rw [hg]
    intro q
    cases q
  have hnv : g v ≠ xdead := by
    rw [hgv]
    intro q
    injection q with q
    injection q with q1 q2
    exact absurd q1 (by decide)
  obtain ⟨ha, q0, hq⟩ := w.at hne
  obtain ⟨-, q1, hqv⟩ := w.at hnv
  have hq' := hq
  rw [hg] at hq
  rw [hgv] at hqv
  refine va_astqO hx hb w.2.2.1 w.1 w.2.1 w.2.2.2.1 q0 6 q1 1 (r := (RX0, TX0, 2)) hq rfl hca hqv rfl hi hdg (fun H1 locs1 hP hD hS => kk H1 locs1 (w.up (e := .inl (6, n, .inr (.inr (.inr (.inr (va_up f i.toNatClampNeg (some v))))))) ha hq' hP hD hS))
theorem xr_callYV_v (S : CallFix p m c cc nL s args Ts own) (w : xOK D cy A s.heap s L g H locs) (hA : ∀ q, s.heap.size ≤ q → A q) (hN : xE s) (hZ : xZ A s s.heap) (hT : xS t A s s.heap) {y : MethodName} {bytes : ByteArray} {maxL index n mc ms : Nat} {ws : List Cond} {rm : Room} {As : List Value} {C : String} {T : u_T} {N b : Nat} (ci : Nat) (hc : vwCl[ci]? = some (C, T, N)) {u : Unit} (hk : xk g ci b = some u) {P : List Nat → xG → Prop} (hM : xYv l y ws rm D cy t L g (.ref b :: As) P mc ms) {ret : Option FieldType} (cw : CallW R s args own C index y bytes maxL ret ws rm mc ms n) (hst : st0 = As.reverse ++ .ref b :: rest) (hn : As.length = n) (hls : ls.size = nL) (hW : (rest.map fun v => v.category).sum ≤ 8) (hdg : decode cc pc = .ok (.invokevirtual index, 3)) (hroom : cells + mc ≤ R.cells ∧ slots + ms ≤ R.slots)
    (kk : ∀ (L1 : List Nat) (g1 : xG) (H1 : Heap) (locs1 : List Loc), P L1 g1 → xOK D cy A s.heap s L1 g1 H1 locs1 → W p l e R s m args below meth c H1 locs1 (cells + mc) (slots + ms) Q (F0 m (pc + 3) ls rest)) : W p l e R s m args below meth c H locs cells slots Q (F0 m pc ls st0) := by
  refine va_callv (mc := mc) (ms := ms) (va_runV S (hM H.size) cw ⟨xPcA_blind, w.recv hc hk, w.preA hA hN hZ hT⟩ rfl hn hls hst (lv_room hW) hdg hroom) w.2.2.2.1 (fun q _ h => w.free hA q h) (w.free hA) (fun u2 tt H1 locs1 ht hvm hw hB hz1 hk1 hS => ?_)
  exact kk u2.1 u2.2 H1 locs1 hw (xB.okA w hA ht hvm hB hS)
theorem xr_callYV_i (S : CallFix p m c cc nL s args Ts own) (w : xOK D cy A s.heap s L g H locs) (hA : ∀ q, s.heap.size ≤ q → A q) (hN : xE s) (hZ : xZ A s s.heap) (hT : xS t A s s.heap) {y : MethodName} {bytes : ByteArray} {maxL index n mc ms : Nat} {ws : List Cond} {rm : Room} {As : List Value} {C : String} {T : u_T} {N b : Nat} (ci : Nat) (hc : vwCl[ci]? = some (C, T, N)) {u : Unit} (hk : xk g ci b = some u) {P : Int32 → List Nat → xG → Prop} (hM : xYi l y ws rm D cy t L g (.ref b :: As) P mc ms) {ret : Option FieldType} (cw : CallW R s args own C index y bytes maxL ret ws rm mc ms n) (hst : st0 = As.reverse ++ .ref b :: rest) (hn : As.length = n) (hls : ls.size = nL) (hW : (rest.map fun v => v.category).sum ≤ 8) (hdg : decode cc pc = .ok (.invokevirtual index, 3)) (hroom : cells + mc ≤ R.cells ∧ slots + ms ≤ R.slots)
    (kk : ∀ (r : Int32) (L1 : List Nat) (g1 : xG) (H1 : Heap) (locs1 : List Loc), P r L1 g1 → xOK D cy A s.heap s L1 g1 H1 locs1 → W p l e R s m args below meth c H1 locs1 (cells + mc) (slots + ms) Q (F0 m (pc + 3) ls (.int r :: rest))) : W p l e R s m args below meth c H locs cells slots Q (F0 m pc ls st0) := by
  refine va_calli (mc := mc) (ms := ms) (va_runV S (hM H.size) cw ⟨xPcA_blind, w.recv hc hk, w.preA hA hN hZ hT⟩ rfl hn hls hst (lv_room hW) hdg hroom) w.2.2.2.1 (fun q _ h => w.free hA q h) (w.free hA) (fun r2 u2 tt H1 locs1 ht hvm hw hB hz1 hk1 hS => ?_)
  exact kk r2 u2.1 u2.2 H1 locs1 hw (xB.okA w hA ht hvm hB hS)
theorem xr_callYV_r (S : CallFix p m c cc nL s args Ts own) (w : xOK D cy A s.heap s L g H locs) (hA : ∀ q, s.heap.size ≤ q → A q) (hN : xE s) (hZ : xZ A s s.heap) (hT : xS t A s s.heap) {y : MethodName} {bytes : ByteArray} {maxL index n mc ms : Nat} {ws : List Cond} {rm : Room} {As : List Value} {C : String} {T : u_T} {N b : Nat} (ci : Nat) (hc : vwCl[ci]? = some (C, T, N)) {u : Unit} (hk : xk g ci b = some u) {P : Nat → List Nat → xG → Prop} (hM : xYr l y ws rm D cy t L g (.ref b :: As) P mc ms) {ret : Option FieldType} (cw : CallW R s args own C index y bytes maxL ret ws rm mc ms n) (hst : st0 = As.reverse ++ .ref b :: rest) (hn : As.length = n) (hls : ls.size = nL) (hW : (rest.map fun v => v.category).sum ≤ 8) (hdg : decode cc pc = .ok (.invokevirtual index, 3)) (hroom : cells + mc ≤ R.cells ∧ slots + ms ≤ R.slots)
    (kk : ∀ (r : Nat) (L1 : List Nat) (g1 : xG) (H1 : Heap) (locs1 : List Loc), P r L1 g1 → xOK D cy A s.heap s L1 g1 H1 locs1 → W p l e R s m args below meth c H1 locs1 (cells + mc) (slots + ms) Q (F0 m (pc + 3) ls (.ref r :: rest))) : W p l e R s m args below meth c H locs cells slots Q (F0 m pc ls st0) := by
  refine va_callr (mc := mc) (ms := ms) (va_runV S (hM H.size) cw ⟨xPcA_blind, w.recv hc hk, w.preA hA hN hZ hT⟩ rfl hn hls hst (lv_room hW) hdg hroom) w.2.2.2.1 (fun q _ h => w.free hA q h) (w.free hA) (fun u2 ra tt H1 locs1 ht hvm hw hB hz1 hk1 hS => ?_)
  exact kk ra u2.1 u2.2 H1 locs1 hB.1 (xB.okA w hA ht hvm hB.2 hS)
theorem xr_callYS_r (S : CallFix p m c cc nL s args Ts own) (w : xOK D cy A s.heap s L g H locs) (hA : ∀ q, s.heap.size ≤ q → A q) (hN : xE s) (hZ : xZ A s s.heap) (hT : xS t A s s.heap) {y : MethodName} {bytes : ByteArray} {maxL index n mc ms : Nat} {ws : List Cond} {rm : Room} {As : List Value} {P : Nat → List Nat → xG → Prop} (hM : xYr l y ws rm D cy t L g As P mc ms) {ret : Option FieldType} (cw : CallB R s args own index y bytes maxL ret ws rm mc ms n ∧ (Cond.static y).before args s = true) (hst : st0 = As.reverse ++ rest) (hn : As.length = n) (hls : ls.size = nL) (hW : (rest.map fun v => v.category).sum ≤ 8) (hdg : decode cc pc = .ok (.invokestatic index, 3)) (hroom : cells + mc ≤ R.cells ∧ slots + ms ≤ R.slots)
    (kk : ∀ (r : Nat) (L1 : List Nat) (g1 : xG) (H1 : Heap) (locs1 : List Loc), P r L1 g1 → xOK D cy A s.heap s L1 g1 H1 locs1 → W p l e R s m args below meth c H1 locs1 (cells + mc) (slots + ms) Q (F0 m (pc + 3) ls (.ref r :: rest))) : W p l e R s m args below meth c H locs cells slots Q (F0 m pc ls st0) := by
  refine va_callr (mc := mc) (ms := ms) (va_runS S (hM H.size) cw ⟨xPcA_blind, w.preA hA hN hZ hT⟩ rfl hn hls hst (lv_room hW) hdg hroom) w.2.2.2.1 (fun q _ h => w.free hA q h) (w.free hA) (fun u2 ra tt H1 locs1 ht hvm hw hB hz1 hk1 hS => ?_)
  exact kk ra u2.1 u2.2 H1 locs1 hB.1 (xB.okA w hA ht hvm hB.2 hS)
theorem xr_callYS_i (S : CallFix p m c cc nL s args Ts own) (w : xOK D cy A s.heap s L g H locs) (hA : ∀ q, s.heap.size ≤ q → A q) (hN : xE s) (hZ : xZ A s s.heap) (hT : xS t A s s.heap) {y : MethodName} {bytes : ByteArray} {maxL index n mc ms : Nat} {ws : List Cond} {rm : Room} {As : List Value} {P : Int32 → List Nat → xG → Prop} (hM : xYi l y ws rm D cy t L g As P mc ms) {ret : Option FieldType} (cw : CallB R s args own index y bytes maxL ret ws rm mc ms n ∧ (Cond.static y).before args s = true) (hst : st0 = As.reverse ++ rest) (hn : As.length = n) (hls : ls.size = nL) (hW : (rest.map fun v => v.category).sum ≤ 8) (hdg : decode cc pc = .ok (.invokestatic index, 3)) (hroom : cells + mc ≤ R.cells ∧ slots + ms ≤ R.slots)
    (kk : ∀ (r : Int32) (L1 : List Nat) (g1 : xG) (H1 : Heap) (locs1 : List Loc), P r L1 g1 → xOK D cy A s.heap s L1 g1 H1 locs1 → W p l e R s m args below meth c H1 locs1 (cells + mc) (slots + ms) Q (F0 m (pc + 3) ls (.int r :: rest))) : W p l e R s m args below meth c H locs cells slots Q (F0 m pc ls st0) := by
  refine va_calli (mc := mc) (ms := ms) (va_runS S (hM H.size) cw ⟨xPcA_blind, w.preA hA hN hZ hT⟩ rfl hn hls hst (lv_room hW) hdg hroom) w.2.2.2.1 (fun q _ h => w.free hA q h) (w.free hA) (fun r2 u2 tt H1 locs1 ht hvm hw hB hz1 hk1 hS => ?_)
  exact kk r2 u2.1 u2.2 H1 locs1 hw (xB.okA w hA ht hvm hB hS)
theorem xr_callYI_v (S : CallFix p m c cc nL s args Ts own) (w : xOK D cy A s.heap s L g H locs) (hA : ∀ q, s.heap.size ≤ q → A q) (hN : xE s) (hZ : xZ A s s.heap) (hT : xS t A s s.heap) {y : MethodName} {bytes : ByteArray} {maxL index n mc ms : Nat} {ws : List Cond} {rm : Room} {As : List Value} {b : Nat} {P : List Nat → xG → Prop} (hM : xYv l y ws rm D cy t L g (.ref b :: As) P mc ms) (cw : CallB R s args own index y bytes maxL none ws rm mc ms n ∧ y.name = "<init>" ∧ (Cond.instanceMethod y).before args s = true) (hst : st0 = As.reverse ++ .ref b :: rest) (hn : As.length = n) (hls : ls.size = nL) (hW : (rest.map fun v => v.category).sum ≤ 8) (hdg : decode cc pc = .ok (.invokespecial index, 3)) (hroom : cells + mc ≤ R.cells ∧ slots + ms ≤ R.slots)
    (kk : ∀ (L1 : List Nat) (g1 : xG) (H1 : Heap) (locs1 : List Loc), P L1 g1 → xOK D cy A s.heap s L1 g1 H1 locs1 → W p l e R s m args below meth c H1 locs1 (cells + mc) (slots + ms) Q (F0 m (pc + 3) ls rest)) : W p l e R s m args below meth c H locs cells slots Q (F0 m pc ls st0) := by
  refine va_callv (mc := mc) (ms := ms) (va_runI S (hM H.size) cw ⟨xPcA_blind, w.preA hA hN hZ hT⟩ rfl hn hls hst (lv_room hW) hdg hroom) w.2.2.2.1 (fun q _ h => w.free hA q h) (w.free hA) (fun u2 tt H1 locs1 ht hvm hw hB hz1 hk1 hS => ?_)
  exact kk u2.1 u2.2 H1 locs1 hw (xB.okA w hA ht hvm hB hS)
theorem xr_callYIN_v (S : CallFix p m c cc nL s args Ts own) (w : xOK D cy A s.heap s L g H locs) (hA : ∀ q, s.heap.size ≤ q → A q) (hN : xE s) (hZ : xZ A s s.heap) (hT : xS t A s s.heap) {y : MethodName} {bytes : ByteArray} {maxL index n mc ms : Nat} {ws : List Cond} {rm : Room} {As : List Value} {b : Nat} {P : List Nat → xG → Prop} (hM : xYv l y ws rm D cy t L g (.ref b :: As) P mc ms) {host : String} (cw : va_CN R s args own index y host bytes maxL none ws rm mc ms n ∧ y.name = "<init>" ∧ (Cond.instanceMethod y).before args s = true) (hst : st0 = As.reverse ++ .ref b :: rest) (hn : As.length = n) (hls : ls.size = nL) (hW : (rest.map fun v => v.category).sum ≤ 8) (hdg : decode cc pc = .ok (.invokespecial index, 3)) (hroom : cells + mc ≤ R.cells ∧ slots + ms ≤ R.slots)
    (kk : ∀ (L1 : List Nat) (g1 : xG) (H1 : Heap) (locs1 : List Loc), P L1 g1 → xOK D cy A s.heap s L1 g1 H1 locs1 → W p l e R s m args below meth c H1 locs1 (cells + mc) (slots + ms) Q (F0 m (pc + 3) ls rest)) : W p l e R s m args below meth c H locs cells slots Q (F0 m pc ls st0) := by
  refine va_callv (mc := mc) (ms := ms) (va_runIN S (hM H.size) cw ⟨xPcA_blind, w.preA hA hN hZ hT⟩ rfl hn hls hst (lv_room hW) hdg hroom) w.2.2.2.1 (fun q _ h => w.free hA q h) (w.free hA) (fun u2 tt H1 locs1 ht hvm hw hB hz1 hk1 hS => ?_)
  exact kk u2.1 u2.2 H1 locs1 hw (xB.okA w hA ht hvm hB hS)
end XALLOC
theorem xma_v {l : Launch} {y : MethodName} {ws ws' : List Cond} {rm : Room} {D : va_G} {cy : Nat → ClassId} {t : Nat} {L : List Nat} {g : xG} {av : List Value} {P : List Nat → xG → Prop} {cc : ByteArray} {maxL mc ms : Nat} (own : String) (hrc : rm.cells = mc) (hrs : rm.slots = ms) (hown : y.cls = own) (hy : plainName y.cls = true) (hw : ws = Cond.code y cc maxL none :: ws') (hlen : (lg_sl av).length ≤ maxL)
    (body : ∀ (p : Program) (e : Env) (s : State) (m : MethodId) (args : Array Value) (below : List Frame) (meth : Method) (c : Code) (Q : State → Prop) (A : Nat → Prop), CallFix p m c cc maxL s args ws own → xOK D cy A s.heap s L g s.heap [] → (∀ q, s.heap.size ≤ q → A q) → xE s → xZ A s s.heap → xS t A s s.heap → meth.name = y.name → (∀ (H : Heap) (locs : List Loc) (cells slots pc : Nat) (ls : Array Slot) (L2 : List Nat) (g2 : xG), P L2 g2 → xOK D cy A s.heap s L2 g2 H locs → decode cc pc = .ok (.return_, 1) → cells ≤ mc ∧ slots ≤ ms → W p l e rm s m args below meth c H locs cells slots Q (F0 m pc ls [])) → ∀ ls : Array Slot, lv_has ls maxL (lv_args 0 av) → W p l e rm s m args below meth c s.heap [] 0 0 Q (F0 m 0 ls [])) : xYv l y ws rm D cy t L g av P mc ms := by
  intro sz
  refine Met.ofW (cc := cc) (maxL := maxL) (ret := none) hy hw ?_
  intro p e s m args below meth c s₁ B hml hv
  obtain ⟨rfl, ⟨hsz, hP, hK, hD0, hd⟩, hN, hZ, hT⟩ := hv
  have hr := B.returns
  have hts := atoms_spec (ws := ws) B.pre
  have hown : s.vm.findClass own = some m.cls := by rw [← hown]; exact findClass_of_methodNamed B.named
  have hlocks := B.notSynchronized
  have S : CallFix p m c cc maxL s av.toArray ws own := ⟨B.exec, B.bytes, hml, hown, hts⟩
  subst hsz
  rw [lg_entry_eq]
  refine body p e s m av.toArray below meth c _ (xA cy L g s.heap.size) S ⟨hP, hD0.self, hK, va_S.rf, hd⟩ (fun q h => Or.inr h) hN hZ hT ((name_of_methodNamed B.named B.method).1) ?_ _ (lv_entry av hlen)
  · intro H locs cells slots pc ls L2 g2 h w hdg hcs
    refine W.widen hcs.1 hcs.2 ?_
    exact W.vret S.1 S.2.1 hr (fun tt ht hW => ⟨⟨(L2, g2), rfl, h, by rw [ht]; exact w.1, va_K.moved hW.alike w.2.2.1, w.2.1, w.2.2.2.2⟩, w.2.2.2.1.F ht⟩) w.2.2.2.1.2.2 hdg
theorem xma_i {l : Launch} {y : MethodName} {ws ws' : List Cond} {rm : Room} {D : va_G} {cy : Nat → ClassId} {t : Nat} {L : List Nat} {g : xG} {av : List Value} {P : Int32 → List Nat → xG → Prop} {cc : ByteArray} {maxL mc ms : Nat} (own : String) (hrc : rm.cells = mc) (hrs : rm.slots = ms) (hown : y.cls = own) (hy : plainName y.cls = true) (hw : ws = Cond.code y cc maxL (some .int) :: ws') (hlen : (lg_sl av).length ≤ maxL)
    (body : ∀ (p : Program) (e : Env) (s : State) (m : MethodId) (args : Array Value) (below : List Frame) (meth : Method) (c : Code) (Q : State → Prop) (A : Nat → Prop), CallFix p m c cc maxL s args ws own → xOK D cy A s.heap s L g s.heap [] → (∀ q, s.heap.size ≤ q → A q) → xE s → xZ A s s.heap → xS t A s s.heap → meth.name = y.name → (∀ (H : Heap) (locs : List Loc) (cells slots pc : Nat) (ls : Array Slot) (v : Int32) (L2 : List Nat) (g2 : xG), P v L2 g2 → xOK D cy A s.heap s L2 g2 H locs → decode cc pc = .ok (.ireturn, 1) → cells ≤ mc ∧ slots ≤ ms → W p l e rm s m args below meth c H locs cells slots Q (F0 m pc ls [.int v])) → ∀ ls : Array Slot, lv_has ls maxL (lv_args 0 av) → W p l e rm s m args below meth c s.heap [] 0 0 Q (F0 m 0 ls [])) : xYi l y ws rm D cy t L g av P mc ms := by
  intro sz
  refine Met.ofW (cc := cc) (maxL := maxL) (ret := (some .int)) hy hw ?_
  intro p e s m args below meth c s₁ B hml hv
  obtain ⟨rfl, ⟨hsz, hP, hK, hD0, hd⟩, hN, hZ, hT⟩ := hv
  have hr := B.returns
  have hts := atoms_spec (ws := ws) B.pre
  have hown : s.vm.findClass own = some m.cls := by rw [← hown]; exact findClass_of_methodNamed B.named
  have hlocks := B.notSynchronized
  have S : CallFix p m c cc maxL s av.toArray ws own := ⟨B.exec, B.bytes, hml, hown, hts⟩
  subst hsz
  rw [lg_entry_eq]
  refine body p e s m av.toArray below meth c _ (xA cy L g s.heap.size) S ⟨hP, hD0.self, hK, va_S.rf, hd⟩ (fun q h => Or.inr h) hN hZ hT ((name_of_methodNamed B.named B.method).1) ?_ _ (lv_entry av hlen)
  · intro H locs cells slots pc ls v L2 g2 h w hdg hcs
    refine W.widen hcs.1 hcs.2 ?_
    exact W.iret S.1 S.2.1 hr (fun tt ht hW => ⟨⟨v, (L2, g2), rfl, h, by rw [ht]; exact w.1, va_K.moved hW.alike w.2.2.1, w.2.1, w.2.2.2.2⟩, w.2.2.2.1.F ht⟩) w.2.2.2.1.2.2 hdg
theorem xma_z {l : Launch} {y : MethodName} {ws ws' : List Cond} {rm : Room} {D : va_G} {cy : Nat → ClassId} {t : Nat} {L : List Nat} {g : xG} {av : List Value} {P : Int32 → List Nat → xG → Prop} {cc : ByteArray} {maxL mc ms : Nat} (own : String) (hrc : rm.cells = mc) (hrs : rm.slots = ms) (hown : y.cls = own) (hy : plainName y.cls = true) (hw : ws = Cond.code y cc maxL (some .boolean) :: ws') (hlen : (lg_sl av).length ≤ maxL)
    (body : ∀ (p : Program) (e : Env) (s : State) (m : MethodId) (args : Array Value) (below : List Frame) (meth : Method) (c : Code) (Q : State → Prop) (A : Nat → Prop), CallFix p m c cc maxL s args ws own → xOK D cy A s.heap s L g s.heap [] → (∀ q, s.heap.size ≤ q → A q) → xE s → xZ A s s.heap → xS t A s s.heap → meth.name = y.name → (∀ (H : Heap) (locs : List Loc) (cells slots pc : Nat) (ls : Array Slot) (v v2 : Int32) (L2 : List Nat) (g2 : xG), xz v = some v2 → P v2 L2 g2 → xOK D cy A s.heap s L2 g2 H locs → decode cc pc = .ok (.ireturn, 1) → cells ≤ mc ∧ slots ≤ ms → W p l e rm s m args below meth c H locs cells slots Q (F0 m pc ls [.int v])) → ∀ ls : Array Slot, lv_has ls maxL (lv_args 0 av) → W p l e rm s m args below meth c s.heap [] 0 0 Q (F0 m 0 ls [])) : xYi l y ws rm D cy t L g av P mc ms := by
  intro sz
  refine Met.ofW (cc := cc) (maxL := maxL) (ret := (some .boolean)) hy hw ?_
  intro p e s m args below meth c s₁ B hml hv
  obtain ⟨rfl, ⟨hsz, hP, hK, hD0, hd⟩, hN, hZ, hT⟩ := hv
  have hr := B.returns
  have hts := atoms_spec (ws := ws) B.pre
  have hown : s.vm.findClass own = some m.cls := by rw [← hown]; exact findClass_of_methodNamed B.named
  have hlocks := B.notSynchronized
  have S : CallFix p m c cc maxL s av.toArray ws own := ⟨B.exec, B.bytes, hml, hown, hts⟩
  subst hsz
  rw [lg_entry_eq]
  refine body p e s m av.toArray below meth c _ (xA cy L g s.heap.size) S ⟨hP, hD0.self, hK, va_S.rf, hd⟩ (fun q h => Or.inr h) hN hZ hT ((name_of_methodNamed B.named B.method).1) ?_ _ (lv_entry av hlen)
  · intro H locs cells slots pc ls v v2 L2 g2 hz0 h w hdg hcs
    obtain ⟨rfl, hz⟩ := xz_ok hz0
    refine W.widen hcs.1 hcs.2 ?_
    exact W.zret (ty := .boolean) S.1 S.2.1 hr (by rcases hz with rfl | rfl <;> decide) (fun tt ht hW => ⟨⟨v, (L2, g2), rfl, h, by rw [ht]; exact w.1, va_K.moved hW.alike w.2.2.1, w.2.1, w.2.2.2.2⟩, w.2.2.2.1.F ht⟩) w.2.2.2.1.2.2 hdg
theorem xma_r {l : Launch} {y : MethodName} {ws ws' : List Cond} {rm : Room} {D : va_G} {cy : Nat → ClassId} {t : Nat} {L : List Nat} {g : xG} {av : List Value} {P : Nat → List Nat → xG → Prop} {cc : ByteArray} {maxL mc ms : Nat} {rt : FieldType} (hrt : (∃ n, rt = .object n) ∨ ∃ z, rt = .array z) (own : String) (hrc : rm.cells = mc) (hrs : rm.slots = ms) (hown : y.cls = own) (hy : plainName y.cls = true) (hw : ws = Cond.code y cc maxL (some rt) :: ws') (hlen : (lg_sl av).length ≤ maxL)
    (body : ∀ (p : Program) (e : Env) (s : State) (m : MethodId) (args : Array Value) (below : List Frame) (meth : Method) (c : Code) (Q : State → Prop) (A : Nat → Prop), CallFix p m c cc maxL s args ws own → xOK D cy A s.heap s L g s.heap [] → (∀ q, s.heap.size ≤ q → A q) → xE s → xZ A s s.heap → xS t A s s.heap → meth.name = y.name → (∀ (H : Heap) (locs : List Loc) (cells slots pc : Nat) (ls : Array Slot) (v : Nat) (L2 : List Nat) (g2 : xG), P v L2 g2 → xOK D cy A s.heap s L2 g2 H locs → decode cc pc = .ok (.areturn, 1) → cells ≤ mc ∧ slots ≤ ms → W p l e rm s m args below meth c H locs cells slots Q (F0 m pc ls [.ref v])) → ∀ ls : Array Slot, lv_has ls maxL (lv_args 0 av) → W p l e rm s m args below meth c s.heap [] 0 0 Q (F0 m 0 ls [])) : xYr l y ws rm D cy t L g av P mc ms := by
  intro sz
  refine Met.ofW (cc := cc) (maxL := maxL) (ret := (some rt)) hy hw ?_
  intro p e s m args below meth c s₁ B hml hv
  obtain ⟨rfl, ⟨hsz, hP, hK, hD0, hd⟩, hN, hZ, hT⟩ := hv
  have hr := B.returns
  have hts := atoms_spec (ws := ws) B.pre
  have hown : s.vm.findClass own = some m.cls := by rw [← hown]; exact findClass_of_methodNamed B.named
  have hlocks := B.notSynchronized
  have S : CallFix p m c cc maxL s av.toArray ws own := ⟨B.exec, B.bytes, hml, hown, hts⟩
  subst hsz
  rw [lg_entry_eq]
  refine body p e s m av.toArray below meth c _ (xA cy L g s.heap.size) S ⟨hP, hD0.self, hK, va_S.rf, hd⟩ (fun q h => Or.inr h) hN hZ hT ((name_of_methodNamed B.named B.method).1) ?_ _ (lv_entry av hlen)
  · intro H locs cells slots pc ls v L2 g2 h w hdg hcs
    refine W.widen hcs.1 hcs.2 ?_
    exact W.aret S.1 S.2.1 hr hrt (Or.inr ⟨_, rfl⟩) (fun tt ht hW => ⟨⟨(L2, g2), v, rfl, trivial, h, by rw [ht]; exact w.1, va_K.moved hW.alike w.2.2.1, w.2.1, w.2.2.2.2⟩, w.2.2.2.1.F ht⟩) w.2.2.2.1.2.2 hdg
theorem xma_x {l : Launch} (hst : l.stackTraces = false) {y : MethodName} {ws ws' : List Cond} {rm : Room} {D : va_G} {cy : Nat → ClassId} {t : Nat} {L : List Nat} {g : xG} {av : List Value} {P : (Nat ⊕ Int32) → List Nat → xG → Prop} {cc : ByteArray} {maxL mc ms : Nat} (own : String) (hrc : rm.cells = mc) (hrs : rm.slots = ms) (hown : y.cls = own) (hy : plainName y.cls = true) (hw : ws = Cond.code y cc maxL (some .int) :: ws') (hlen : (lg_sl av).length ≤ maxL)
    (body : ∀ (p : Program) (e : Env) (s : State) (m : MethodId) (args : Array Value) (below : List Frame) (meth : Method) (c : Code) (Q : State → Prop) (A : Nat → Prop), CallFix p m c cc maxL s args ws own → xOK D cy A s.heap s L g s.heap [] → (∀ q, s.heap.size ≤ q → A q) → xE s → xZ A s s.heap → xS t A s s.heap → meth.name = y.name → (∀ (H : Heap) (locs : List Loc) (cells slots pc : Nat) (ls : Array Slot) (v : Int32) (L2 : List Nat) (g2 : xG), P (.inr v) L2 g2 → xOK D cy A s.heap s L2 g2 H locs → decode cc pc = .ok (.ireturn, 1) → cells ≤ mc ∧ slots ≤ ms → W p l e rm s m args below meth c H locs cells slots Q (F0 m pc ls [.int v])) → (∀ (H : Heap) (locs : List Loc) (cells slots pc : Nat) (ls : Array Slot) (rest : List Value) (q : Addr) (ce : Cell) (k : Nat), P (.inl k) L g → xOK D cy A s.heap s L g H locs → H[q]? = some ce → ce.vm = .none → s.vm.findClass (xEn k) = some ce.cls → cells ≤ mc ∧ slots ≤ ms → vx_W p l e rm s m args below meth c H locs cells slots Q (F0 m pc ls rest) q) → ∀ ls : Array Slot, lv_has ls maxL (lv_args 0 av) → W p l e rm s m args below meth c s.heap [] 0 0 Q (F0 m 0 ls [])) : xYx l y ws rm D cy t L g av P mc ms := by
  intro sz
  refine vx_ofW (cc := cc) (maxL := maxL) (ret := (some .int)) hy hw ?_
  intro p e s m args below meth c s₁ B hml htab hv
  obtain ⟨rfl, ⟨hsz, hP, hK, hD0, hd⟩, hN, hZ, hT⟩ := hv
  have hr := B.returns
  have hts := atoms_spec (ws := ws) B.pre
  have hown : s.vm.findClass own = some m.cls := by rw [← hown]; exact findClass_of_methodNamed B.named
  have hlocks := B.notSynchronized
  have S : CallFix p m c cc maxL s av.toArray ws own := ⟨B.exec, B.bytes, hml, hown, hts⟩
  subst hsz
  rw [lg_entry_eq]
  refine body p e s m av.toArray below meth c _ (xA cy L g s.heap.size) S ⟨hP, hD0.self, hK, va_S.rf, hd⟩ (fun q h => Or.inr h) hN hZ hT ((name_of_methodNamed B.named B.method).1) ?_ ?_ _ (lv_entry av hlen)
  · intro H locs cells slots pc ls v L2 g2 h w hdg hcs
    refine vx_ret (W.widen hcs.1 hcs.2 ?_)
    exact W.iret S.1 S.2.1 hr (fun tt ht hW => ⟨⟨v, (L2, g2), rfl, h, by rw [ht]; exact w.1, va_K.moved hW.alike w.2.2.1, w.2.1, w.2.2.2.2⟩, w.2.2.2.1.F ht⟩) w.2.2.2.1.2.2 hdg
  · intro H locs cells slots pc ls rest q ce k h w hce hcv hcl hcs
    exact vx_out (fun x hx => (htab x hx).elim) hlocks hce hcv hcl (fun tt ht hvm => ⟨k, h, ⟨rfl, by rw [ht]; exact w.1, va_K.moved hvm w.2.2.1, w.2.1, w.2.2.2.2⟩, w.2.2.2.1.F ht⟩) w.2.2.2.1.2.2 hcs.1 hcs.2
theorem xmh_i {l : Launch} {y : MethodName} {ws ws' : List Cond} {rm : Room} {D : va_G} {cy : Nat → ClassId} {t : Nat} {L : List Nat} {g : xG} {av : List Value} {P : Int32 → List Nat → xG → Prop} {cc : ByteArray} {maxL mc ms : Nat} {hh : List (Nat × Nat × Nat × Nat)} (own : String) (hrc : rm.cells = mc) (hrs : rm.slots = ms) (hown : y.cls = own) (hy : plainName y.cls = true) (hw : ws = Cond.codeWith y cc maxL (some .int) hh :: ws') (hlen : (lg_sl av).length ≤ maxL)
    (body : ∀ (p : Program) (e : Env) (s : State) (m : MethodId) (args : Array Value) (below : List Frame) (meth : Method) (c : Code) (Q : State → Prop) (A : Nat → Prop), CallFix p m c cc maxL s args ws own → xOK D cy A s.heap s L g s.heap [] → (∀ q, s.heap.size ≤ q → A q) → xE s → xZ A s s.heap → xS t A s s.heap → c.exceptionTable.toList = tableOf hh → (∀ (H : Heap) (locs : List Loc) (cells slots pc : Nat) (ls : Array Slot) (v : Int32) (L2 : List Nat) (g2 : xG), P v L2 g2 → xOK D cy A s.heap s L2 g2 H locs → decode cc pc = .ok (.ireturn, 1) → cells ≤ mc ∧ slots ≤ ms → W p l e rm s m args below meth c H locs cells slots Q (F0 m pc ls [.int v])) → ∀ ls : Array Slot, lv_has ls maxL (lv_args 0 av) → W p l e rm s m args below meth c s.heap [] 0 0 Q (F0 m 0 ls [])) : xYi l y ws rm D cy t L g av P mc ms := by
  intro sz
  refine va_MetW (hh := hh) (cc := cc) (maxL := maxL) (ret := (some .int)) hy hw ?_
  intro p e s m args below meth c s₁ B hml hv
  obtain ⟨rfl, ⟨hsz, hP, hK, hD0, hd⟩, hN, hZ, hT⟩ := hv
  have hr := B.returns
  have hts := atoms_spec (ws := ws) B.pre
  have hown : s.vm.findClass own = some m.cls := by rw [← hown]; exact findClass_of_methodNamed B.named
  have hlocks := B.notSynchronized
  have S : CallFix p m c cc maxL s av.toArray ws own := ⟨B.exec, B.bytes, hml, hown, hts⟩
  subst hsz
  rw [lg_entry_eq]
  refine body p e s m av.toArray below meth c _ (xA cy L g s.heap.size) S ⟨hP, hD0.self, hK, va_S.rf, hd⟩ (fun q h => Or.inr h) hN hZ hT (vx_table (x := y) B (hts _ (by rw [hw]; exact List.mem_cons_self))) ?_ _ (lv_entry av hlen)
  · intro H locs cells slots pc ls v L2 g2 h w hdg hcs
    refine W.widen hcs.1 hcs.2 ?_
    exact W.iret S.1 S.2.1 hr (fun tt ht hW => ⟨⟨v, (L2, g2), rfl, h, by rw [ht]; exact w.1, va_K.moved hW.alike w.2.2.1, w.2.1, w.2.2.2.2⟩, w.2.2.2.1.F ht⟩) w.2.2.2.1.2.2 hdg
section XLAW
variable {p : Program} {l : Launch} {e : Env} {R : Room} {s : State} {m : MethodId} {args : Array Value} {below : List Frame} {meth : Method} {c : Code} {H : Heap} {locs : List Loc} {cells slots : Nat} {Q : State → Prop}
variable {cc : ByteArray} {nL pc : Nat} {ls : Array Slot} {rest st0 : List Value} {D : va_G} {cy : Nat → ClassId} {A : Nat → Prop} {L : List Nat} {g : xG} {Ts : List Cond} {own : String} {t : Nat}
theorem xr_callYX (S : CallFix p m c cc nL s args Ts own) (w : xOK D cy A s.heap s L g H locs) (hA : ∀ q, s.heap.size ≤ q → A q) (hN : xE s) (hZ : xZ A s s.heap) (hT : xS t A s s.heap) {y : MethodName} {bytes : ByteArray} {maxL index n mc ms : Nat} {ws : List Cond} {rm : Room} {As : List Value} {ret : Option FieldType} {C : String} {T : u_T} {N b : Nat} (ci : Nat) (hc : vwCl[ci]? = some (C, T, N)) {u : Unit} (hk : xk g ci b = some u) {P : (Nat ⊕ Int32) → List Nat → xG → Prop} (hM : xYx l y ws rm D cy t L g (.ref b :: As) P mc ms) (cw : CallW R s args own C index y bytes maxL ret ws rm mc ms n) (hst : st0 = As.reverse ++ .ref b :: rest) (hn : As.length = n) (hls : ls.size = nL) (hW : (rest.map fun v => v.category).sum ≤ 8) (hdg : decode cc pc = .ok (.invokevirtual index, 3)) (hroom : cells + mc ≤ R.cells ∧ slots + ms ≤ R.slots)
    (kx : ∀ (k : Nat) (H1 : Heap) (locs1 : List Loc) (q : Addr) (ce : Cell), P (.inl k) L g → xOK D cy A s.heap s L g H1 locs1 → H1[q]? = some ce → ce.vm = .none → s.vm.findClass (xEn k) = some ce.cls → vx_W p l e R s m args below meth c H1 locs1 (cells + mc) (slots + ms) Q (F0 m pc ls rest) q)
    (kk : ∀ (r : Int32) (L1 : List Nat) (g1 : xG) (H1 : Heap) (locs1 : List Loc), P (.inr r) L1 g1 → xOK D cy A s.heap s L1 g1 H1 locs1 → W p l e R s m args below meth c H1 locs1 (cells + mc) (slots + ms) Q (F0 m (pc + 3) ls (.int r :: rest))) : W p l e R s m args below meth c H locs cells slots Q (F0 m pc ls st0) := by
  refine vx_calli (mc := mc) (ms := ms) (vx_runV S (hM H.size) cw ⟨xPcA_blind, w.recv hc hk, w.preA hA hN hZ hT⟩ rfl hn hls hst (lv_room hW) hdg hroom) w.2.2.2.1 (fun q _ h => w.free hA q h) (w.free hA) (fun q _ h => w.free hA q h) (fun E ce q9 k tt H1 locs1 ht hvm hk hB hz1 hk1 hS hce hcv hcl => ?_) (fun r2 u2 tt H1 locs1 ht hvm hw hB hz1 hk1 hS => ?_)
  · obtain ⟨rfl, hB⟩ := hB
    exact kx k H1 locs1 q9 ce hk (xB.okA w hA ht hvm hB hS) hce hcv hcl
  · exact kk r2 u2.1 u2.2 H1 locs1 hw (xB.okA w hA ht hvm hB hS)
theorem xr_callYSW_i (S : CallFix p m c cc nL s args Ts own) (w : xOK D cy A s.heap s L g H locs) (hA : ∀ q, s.heap.size ≤ q → A q) (hN : xE s) (hZ : xZ A s s.heap) (hT : xS t A s s.heap) {y : MethodName} {bytes : ByteArray} {maxL index n mc ms : Nat} {ws : List Cond} {rm : Room} {As : List Value} {hh : List (Nat × Nat × Nat × Nat)} {ret : Option FieldType} {P : Int32 → List Nat → xG → Prop} (hM : xYi l y ws rm D cy t L g As P mc ms) (cw : vx_CSW R s args own index y bytes maxL ret hh ws rm mc ms n) (hst : st0 = As.reverse ++ rest) (hn : As.length = n) (hls : ls.size = nL) (hW : (rest.map fun v => v.category).sum ≤ 8) (hdg : decode cc pc = .ok (.invokestatic index, 3)) (hroom : cells + mc ≤ R.cells ∧ slots + ms ≤ R.slots)
    (kk : ∀ (r : Int32) (L1 : List Nat) (g1 : xG) (H1 : Heap) (locs1 : List Loc), P r L1 g1 → xOK D cy A s.heap s L1 g1 H1 locs1 → W p l e R s m args below meth c H1 locs1 (cells + mc) (slots + ms) Q (F0 m (pc + 3) ls (.int r :: rest))) : W p l e R s m args below meth c H locs cells slots Q (F0 m pc ls st0) := by
  refine va_calli (mc := mc) (ms := ms) (vx_runSW S (hM H.size) cw ⟨xPcA_blind, w.preA hA hN hZ hT⟩ rfl hn hls hst (lv_room hW) hdg hroom) w.2.2.2.1 (fun q _ h => w.free hA q h) (w.free hA) (fun r2 u2 tt H1 locs1 ht hvm hw hB hz1 hk1 hS => ?_)
  exact kk r2 u2.1 u2.2 H1 locs1 hw (xB.okA w hA ht hvm hB hS)
end XLAW
