/-! METHODS THAT THROW: IllegalArgumentException is 1, IllegalStateException 2 -/
def xEn (k : Nat) : String := if k = 1 then "java/lang/IllegalArgumentException" else "java/lang/IllegalStateException"
abbrev xEs : List String := ["java/lang/RuntimeException", "java/lang/Exception"]
/-- the statics that a throw looks at -/
def xZ (A : Nat → Prop) (s : State) (H : Heap) : Prop := vx_Zq Bundle.tN "UNASSIGNED_STACK" Bundle.steD A s H ∧ vx_Zq Bundle.tN "SUPPRESSED_SENTINEL" Bundle.listD A s H
abbrev xPcX (D : va_G) (cy : Nat → ClassId) (L : List Nat) (g : xG) (sz : Nat) (av : List Value) : Array Value → State → Prop := va_Pc av (fun U => (U.heap.size = sz ∧ va_P D vwCl (xW cy L g) U.heap ∧ va_K D vwCl (xT cy) U ∧ va_D (fun _ => True) (xW cy L g) ∧ ∀ a, a ∉ L → g a = xdead) ∧ xE U ∧ xZ (xA cy L g sz) U U.heap)
theorem xPcX_blind {D : va_G} {cy : Nat → ClassId} {L : List Nat} {g : xG} {sz : Nat} {av : List Value} : FrameBlind (xPcX D cy L g sz av) := fun a U g9 mk q => by
  obtain ⟨q0, ⟨q1, q2, q3, q4⟩, q5, q6, q7⟩ := q
  exact ⟨q0, ⟨q1, q2, va_K.moved (u := U) (U := U.calling g9 mk a) (Vm.Alike.refl U.vm) q3, q4⟩, q5.same rfl, vx_Zq.moved (u := U) (U := U.calling g9 mk a) (Vm.Alike.refl U.vm) q6, vx_Zq.moved (u := U) (U := U.calling g9 mk a) (Vm.Alike.refl U.vm) q7⟩
abbrev xXC (D : va_G) (cy : Nat → ClassId) (L : List Nat) (g : xG) (P : Nat → Prop) (A : Nat → Prop) : String → State → State → Prop := vx_X P (fun (E : String) (k : Nat) (t : State) => E = xEn k ∧ xB D cy L A g t) A
def xXv (l : Launch) (y : MethodName) (ws : List Cond) (rm : Room) (D : va_G) (cy : Nat → ClassId) (L : List Nat) (g : xG) (av : List Value) (o : Nat ⊕ xG) (mc ms : Nat) : Prop := ∀ sz : Nat, vx_Met l y ws rm (xPcX D cy L g sz av) (va_Qv (fun g2 : xG => o = .inr g2) (xB D cy L (xA cy L g sz)) (xA cy L g sz)) (xXC D cy L g (fun k => o = .inl k) (xA cy L g sz)) mc ms (xA cy L g sz)
def xXi (l : Launch) (y : MethodName) (ws : List Cond) (rm : Room) (D : va_G) (cy : Nat → ClassId) (L : List Nat) (g : xG) (av : List Value) (o : Nat ⊕ (Int32 × xG)) (mc ms : Nat) : Prop := ∀ sz : Nat, vx_Met l y ws rm (xPcX D cy L g sz av) (va_Qi (fun (r : Int32) (g2 : xG) => o = .inr (r, g2)) (xB D cy L (xA cy L g sz)) (xA cy L g sz)) (xXC D cy L g (fun k => o = .inl k) (xA cy L g sz)) mc ms (xA cy L g sz)
def xXl (l : Launch) (y : MethodName) (ws : List Cond) (rm : Room) (D : va_G) (cy : Nat → ClassId) (L : List Nat) (g : xG) (av : List Value) (o : Nat ⊕ (Int64 × xG)) (mc ms : Nat) : Prop := ∀ sz : Nat, vx_Met l y ws rm (xPcX D cy L g sz av) (va_Ql (fun (r : Int64) (g2 : xG) => o = .inr (r, g2)) (xB D cy L (xA cy L g sz)) (xA cy L g sz)) (xXC D cy L g (fun k => o = .inl k) (xA cy L g sz)) mc ms (xA cy L g sz)
theorem xZ.at {A : Nat → Prop} {s : State} {H0 H : Heap} {locs : List Loc} (h : xZ A s H0) (hS : va_S A H0 H locs) : xZ A s H := ⟨h.1.kept (fun a h1 h2 => hS.2.1 a h1 h2), h.2.kept (fun a h1 h2 => hS.2.1 a h1 h2)⟩
theorem xZ.moved {A : Nat → Prop} {u U : State} {H : Heap} (hvm : u.vm.Alike U.vm) (h : xZ A u H) : xZ A U H := ⟨h.1.moved hvm, h.2.moved hvm⟩
theorem xZ.narrow {A B : Nat → Prop} {U : State} {H : Heap} (h : xZ A U H) (hAB : ∀ q, B q → A q) : xZ B U H := ⟨h.1.narrow hAB, h.2.narrow hAB⟩
section XCX
variable {p : Program} {l : Launch} {e : Env} {R : Room} {s : State} {m : MethodId} {args : Array Value} {below : List Frame} {meth : Method} {c : Code} {H : Heap} {locs : List Loc} {cells slots : Nat} {Q : State → Prop}
variable {cc : ByteArray} {nL pc : Nat} {ls : Array Slot} {rest st0 : List Value} {D : va_G} {cy : Nat → ClassId} {A : Nat → Prop} {L : List Nat} {g : xG} {Ts : List Cond} {own : String}
theorem xOK.preX (w : xOK D cy A s.heap s L g H locs) (hA : ∀ q, s.heap.size ≤ q → A q) (hN : xE s) (hZ : xZ A s s.heap) {av : List Value} : ∀ U : State, U.heap = H → s.WarmedH U.vm → xPcX D cy L g H.size av av.toArray U := fun U hU hW =>
  ⟨rfl, ⟨by rw [hU], by rw [hU]; exact w.1, va_K.moved hW.alike w.2.2.1, w.2.1.weaken (fun _ _ _ _ => trivial), w.2.2.2.2⟩, hN.warm hW, by rw [hU]; exact ((hZ.at w.2.2.2.1).narrow (w.free hA)).moved hW.alike⟩
theorem xr_callXV_v (S : CallFix p m c cc nL s args Ts own) (w : xOK D cy A s.heap s L g H locs) (hA : ∀ q, s.heap.size ≤ q → A q) (hN : xE s) (hZ : xZ A s s.heap) {y : MethodName} {bytes : ByteArray} {maxL index n mc ms : Nat} {ret : Option FieldType} {ws : List Cond} {rm : Room} {As : List Value} {C : String} {T : u_T} {N b : Nat} (ci : Nat) (hc : vwCl[ci]? = some (C, T, N)) {u : Unit} (hk : xk g ci b = some u) {o : Nat ⊕ xG} (hM : xXv l y ws rm D cy L g (.ref b :: As) o mc ms) (cw : CallW R s args own C index y bytes maxL ret ws rm mc ms n) (hst : st0 = As.reverse ++ .ref b :: rest) (hn : As.length = n) (hls : ls.size = nL) (hW : (rest.map fun v => v.category).sum ≤ 8) (hdg : decode cc pc = .ok (.invokevirtual index, 3)) (hroom : cells + mc ≤ R.cells ∧ slots + ms ≤ R.slots)
    (kx : ∀ (k : Nat) (H1 : Heap) (locs1 : List Loc) (q : Addr) (ce : Cell), o = .inl k → xOK D cy A s.heap s L g H1 locs1 → H1[q]? = some ce → ce.vm = .none → s.vm.findClass (xEn k) = some ce.cls → vx_W p l e R s m args below meth c H1 locs1 (cells + mc) (slots + ms) Q (F0 m pc ls rest) q)
    (kk : ∀ (g2 : xG) (H1 : Heap) (locs1 : List Loc), o = .inr g2 → xOK D cy A s.heap s L g2 H1 locs1 → W p l e R s m args below meth c H1 locs1 (cells + mc) (slots + ms) Q (F0 m (pc + 3) ls rest)) : W p l e R s m args below meth c H locs cells slots Q (F0 m pc ls st0) := by
  refine vx_callv (mc := mc) (ms := ms) (vx_runV S (hM H.size) cw ⟨xPcX_blind, w.recv hc hk, w.preX hA hN hZ⟩ rfl hn hls hst (lv_room hW) hdg hroom) w.2.2.2.1 (fun q _ h => w.free hA q h) (w.free hA) (fun q _ h => w.free hA q h) (fun E ce q9 k t H1 locs1 ht hvm hk hB hz1 hk1 hS hce hcv hcl => ?_) (fun u2 t H1 locs1 ht hvm hw hB hz1 hk1 hS => ?_)
  · obtain ⟨rfl, hB⟩ := hB
    exact kx k H1 locs1 q9 ce hk (xB.ok w hA ht hvm hB hS) hce hcv hcl
  · exact kk u2 H1 locs1 hw (xB.ok w hA ht hvm hB hS)
theorem xr_callXV_i (S : CallFix p m c cc nL s args Ts own) (w : xOK D cy A s.heap s L g H locs) (hA : ∀ q, s.heap.size ≤ q → A q) (hN : xE s) (hZ : xZ A s s.heap) {y : MethodName} {bytes : ByteArray} {maxL index n mc ms : Nat} {ret : Option FieldType} {ws : List Cond} {rm : Room} {As : List Value} {C : String} {T : u_T} {N b : Nat} (ci : Nat) (hc : vwCl[ci]? = some (C, T, N)) {u : Unit} (hk : xk g ci b = some u) {o : Nat ⊕ (Int32 × xG)} (hM : xXi l y ws rm D cy L g (.ref b :: As) o mc ms) (cw : CallW R s args own C index y bytes maxL ret ws rm mc ms n) (hst : st0 = As.reverse ++ .ref b :: rest) (hn : As.length = n) (hls : ls.size = nL) (hW : (rest.map fun v => v.category).sum ≤ 8) (hdg : decode cc pc = .ok (.invokevirtual index, 3)) (hroom : cells + mc ≤ R.cells ∧ slots + ms ≤ R.slots)
    (kx : ∀ (k : Nat) (H1 : Heap) (locs1 : List Loc) (q : Addr) (ce : Cell), o = .inl k → xOK D cy A s.heap s L g H1 locs1 → H1[q]? = some ce → ce.vm = .none → s.vm.findClass (xEn k) = some ce.cls → vx_W p l e R s m args below meth c H1 locs1 (cells + mc) (slots + ms) Q (F0 m pc ls rest) q)
    (kk : ∀ (r : Int32) (g2 : xG) (H1 : Heap) (locs1 : List Loc), o = .inr (r, g2) → xOK D cy A s.heap s L g2 H1 locs1 → W p l e R s m args below meth c H1 locs1 (cells + mc) (slots + ms) Q (F0 m (pc + 3) ls (.int r :: rest))) : W p l e R s m args below meth c H locs cells slots Q (F0 m pc ls st0) := by
  refine vx_calli (mc := mc) (ms := ms) (vx_runV S (hM H.size) cw ⟨xPcX_blind, w.recv hc hk, w.preX hA hN hZ⟩ rfl hn hls hst (lv_room hW) hdg hroom) w.2.2.2.1 (fun q _ h => w.free hA q h) (w.free hA) (fun q _ h => w.free hA q h) (fun E ce q9 k t H1 locs1 ht hvm hk hB hz1 hk1 hS hce hcv hcl => ?_) (fun r2 u2 t H1 locs1 ht hvm hw hB hz1 hk1 hS => ?_)
  · obtain ⟨rfl, hB⟩ := hB
    exact kx k H1 locs1 q9 ce hk (xB.ok w hA ht hvm hB hS) hce hcv hcl
  · exact kk r2 u2 H1 locs1 hw (xB.ok w hA ht hvm hB hS)
theorem xr_callXV_l (S : CallFix p m c cc nL s args Ts own) (w : xOK D cy A s.heap s L g H locs) (hA : ∀ q, s.heap.size ≤ q → A q) (hN : xE s) (hZ : xZ A s s.heap) {y : MethodName} {bytes : ByteArray} {maxL index n mc ms : Nat} {ret : Option FieldType} {ws : List Cond} {rm : Room} {As : List Value} {C : String} {T : u_T} {N b : Nat} (ci : Nat) (hc : vwCl[ci]? = some (C, T, N)) {u : Unit} (hk : xk g ci b = some u) {o : Nat ⊕ (Int64 × xG)} (hM : xXl l y ws rm D cy L g (.ref b :: As) o mc ms) (cw : CallW R s args own C index y bytes maxL ret ws rm mc ms n) (hst : st0 = As.reverse ++ .ref b :: rest) (hn : As.length = n) (hls : ls.size = nL) (hW : (rest.map fun v => v.category).sum ≤ 8) (hdg : decode cc pc = .ok (.invokevirtual index, 3)) (hroom : cells + mc ≤ R.cells ∧ slots + ms ≤ R.slots)
    (kx : ∀ (k : Nat) (H1 : Heap) (locs1 : List Loc) (q : Addr) (ce : Cell), o = .inl k → xOK D cy A s.heap s L g H1 locs1 → H1[q]? = some ce → ce.vm = .none → s.vm.findClass (xEn k) = some ce.cls → vx_W p l e R s m args below meth c H1 locs1 (cells + mc) (slots + ms) Q (F0 m pc ls rest) q)
    (kk : ∀ (r : Int64) (g2 : xG) (H1 : Heap) (locs1 : List Loc), o = .inr (r, g2) → xOK D cy A s.heap s L g2 H1 locs1 → W p l e R s m args below meth c H1 locs1 (cells + mc) (slots + ms) Q (F0 m (pc + 3) ls (.long r :: rest))) : W p l e R s m args below meth c H locs cells slots Q (F0 m pc ls st0) := by
  refine vx_calll (mc := mc) (ms := ms) (vx_runV S (hM H.size) cw ⟨xPcX_blind, w.recv hc hk, w.preX hA hN hZ⟩ rfl hn hls hst (lv_room hW) hdg hroom) w.2.2.2.1 (fun q _ h => w.free hA q h) (w.free hA) (fun q _ h => w.free hA q h) (fun E ce q9 k t H1 locs1 ht hvm hk hB hz1 hk1 hS hce hcv hcl => ?_) (fun r2 u2 t H1 locs1 ht hvm hw hB hz1 hk1 hS => ?_)
  · obtain ⟨rfl, hB⟩ := hB
    exact kx k H1 locs1 q9 ce hk (xB.ok w hA ht hvm hB hS) hce hcv hcl
  · exact kk r2 u2 H1 locs1 hw (xB.ok w hA ht hvm hB hS)
theorem xr_callXS_v (S : CallFix p m c cc nL s args Ts own) (w : xOK D cy A s.heap s L g H locs) (hA : ∀ q, s.heap.size ≤ q → A q) (hN : xE s) (hZ : xZ A s s.heap) {y : MethodName} {bytes : ByteArray} {maxL index n mc ms : Nat} {ret : Option FieldType} {ws : List Cond} {rm : Room} {As : List Value} {o : Nat ⊕ xG} (hM : xXv l y ws rm D cy L g As o mc ms) (cw : CallB R s args own index y bytes maxL ret ws rm mc ms n ∧ (Cond.static y).before args s = true) (hst : st0 = As.reverse ++ rest) (hn : As.length = n) (hls : ls.size = nL) (hW : (rest.map fun v => v.category).sum ≤ 8) (hdg : decode cc pc = .ok (.invokestatic index, 3)) (hroom : cells + mc ≤ R.cells ∧ slots + ms ≤ R.slots)
    (kx : ∀ (k : Nat) (H1 : Heap) (locs1 : List Loc) (q : Addr) (ce : Cell), o = .inl k → xOK D cy A s.heap s L g H1 locs1 → H1[q]? = some ce → ce.vm = .none → s.vm.findClass (xEn k) = some ce.cls → vx_W p l e R s m args below meth c H1 locs1 (cells + mc) (slots + ms) Q (F0 m pc ls rest) q)
    (kk : ∀ (g2 : xG) (H1 : Heap) (locs1 : List Loc), o = .inr g2 → xOK D cy A s.heap s L g2 H1 locs1 → W p l e R s m args below meth c H1 locs1 (cells + mc) (slots + ms) Q (F0 m (pc + 3) ls rest)) : W p l e R s m args below meth c H locs cells slots Q (F0 m pc ls st0) := by
  refine vx_callv (mc := mc) (ms := ms) (vx_runS S (hM H.size) cw ⟨xPcX_blind, w.preX hA hN hZ⟩ rfl hn hls hst (lv_room hW) hdg hroom) w.2.2.2.1 (fun q _ h => w.free hA q h) (w.free hA) (fun q _ h => w.free hA q h) (fun E ce q9 k t H1 locs1 ht hvm hk hB hz1 hk1 hS hce hcv hcl => ?_) (fun u2 t H1 locs1 ht hvm hw hB hz1 hk1 hS => ?_)
  · obtain ⟨rfl, hB⟩ := hB
    exact kx k H1 locs1 q9 ce hk (xB.ok w hA ht hvm hB hS) hce hcv hcl
  · exact kk u2 H1 locs1 hw (xB.ok w hA ht hvm hB hS)
end XCX
theorem xmx_v {l : Launch} (hst : l.stackTraces = false) {y : MethodName} {ws ws' : List Cond} {rm : Room} {D : va_G} {cy : Nat → ClassId} {L : List Nat} {g : xG} {av : List Value} {o : Nat ⊕ xG} {cc : ByteArray} {maxL mc ms : Nat} (own : String) (hrc : rm.cells = mc) (hrs : rm.slots = ms) (hown : y.cls = own) (hy : plainName y.cls = true) (hw : ws = Cond.code y cc maxL none :: ws') (hlen : (lg_sl av).length ≤ maxL)
    (body : ∀ (p : Program) (e : Env) (s : State) (m : MethodId) (args : Array Value) (below : List Frame) (meth : Method) (c : Code) (Q : State → Prop) (A : Nat → Prop), CallFix p m c cc maxL s args ws own → xOK D cy A s.heap s L g s.heap [] → (∀ q, s.heap.size ≤ q → A q) → xE s → xZ A s s.heap → (∀ (H : Heap) (locs : List Loc) (cells slots pc : Nat) (ls : Array Slot) (g2 : xG), some (.inr g2) = some o → xOK D cy A s.heap s L g2 H locs → decode cc pc = .ok (.return_, 1) → cells ≤ mc ∧ slots ≤ ms → W p l e rm s m args below meth c H locs cells slots Q (F0 m pc ls [])) → (∀ (H : Heap) (locs : List Loc) (cells slots pc : Nat) (ls : Array Slot) (rest : List Value) (q : Addr) (ce : Cell) (k : Nat), some (.inl k) = some o → xOK D cy A s.heap s L g H locs → H[q]? = some ce → ce.vm = .none → s.vm.findClass (xEn k) = some ce.cls → cells ≤ mc ∧ slots ≤ ms → vx_W p l e rm s m args below meth c H locs cells slots Q (F0 m pc ls rest) q) → (∀ (H : Heap) (locs : List Loc) (cells slots pc : Nat) (ls : Array Slot) (rest : List Value) (k ik ic : Nat), some (.inl k) = some o → xOK D cy A s.heap s L g H locs → ls.size = maxL → (Cond.classLink own ik (xEn k)).before args s = true → (Cond.initialized (xEn k)).before args s = true → (∀ w ∈ vx_at0 own ic (xEn k) xEs, w.before args s = true) → (∀ w ∈ Cond.classLink own ik (xEn k) :: Cond.initialized (xEn k) :: vx_at0 own ic (xEn k) xEs, vx_ot w = true) → decode cc pc = .ok (.new ik, 3) → decode cc (pc + 3) = .ok (.dup, 1) → decode cc (pc + 4) = .ok (.invokespecial ic, 3) → decode cc (pc + 7) = .ok (.athrow, 1) → (5 < rm.frames ∧ (rest.map fun v => v.category).sum + 81 ≤ rm.locals) → (cells + 1 ≤ mc ∧ slots + 6 ≤ ms) → W p l e rm s m args below meth c H locs cells slots Q (F0 m pc ls rest)) → ∀ ls : Array Slot, lv_has ls maxL (lv_args 0 av) → W p l e rm s m args below meth c s.heap [] 0 0 Q (F0 m 0 ls [])) : xXv l y ws rm D cy L g av o mc ms := by
  intro sz
  refine vx_ofW (cc := cc) (maxL := maxL) (ret := none) hy hw ?_
  intro p e s m args below meth c s₁ B hml htab hv
  obtain ⟨rfl, ⟨hsz, hP, hK, hD0, hd⟩, hN, hZ⟩ := hv
  have hr := B.returns
  have hts := atoms_spec (ws := ws) B.pre
  have hown : s.vm.findClass own = some m.cls := by rw [← hown]; exact findClass_of_methodNamed B.named
  have hlocks := B.notSynchronized
  have S : CallFix p m c cc maxL s av.toArray ws own := ⟨B.exec, B.bytes, hml, hown, hts⟩
  subst hsz
  rw [lg_entry_eq]
  refine body p e s m av.toArray below meth c _ (xA cy L g s.heap.size) S ⟨hP, hD0.self, hK, va_S.rf, hd⟩ (fun q h => Or.inr h) hN hZ ?_ ?_ ?_ _ (lv_entry av hlen)
  · intro H locs cells slots pc ls g2 h w hdg hcs
    refine vx_ret (W.widen hcs.1 hcs.2 ?_)
    exact W.vret S.1 S.2.1 hr (fun t ht hW => ⟨⟨g2, rfl, (Option.some.inj h).symm, by rw [ht]; exact w.1, va_K.moved hW.alike w.2.2.1, w.2.1, w.2.2.2.2⟩, w.2.2.2.1.F ht⟩) w.2.2.2.1.2.2 hdg
  · intro H locs cells slots pc ls rest q ce k h w hce hcv hcl hcs
    exact vx_out (fun x hx => (htab x hx).elim) hlocks hce hcv hcl (fun t ht hvm => ⟨k, (Option.some.inj h).symm, ⟨rfl, by rw [ht]; exact w.1, va_K.moved hvm w.2.2.1, w.2.1, w.2.2.2.2⟩, w.2.2.2.1.F ht⟩) w.2.2.2.1.2.2 hcs.1 hcs.2
  · intro H locs cells slots pc ls rest k ik ic h w hls hk1 hk2 hk3 hk4 d0 d3 d4 d7 hrm hcs
    refine vx_throw0 S.1 S.2.1 hst (cls := xEn k) (names := xEs) S.2.2.2.1 (by unfold xEn; split <;> decide) (by decide) hk1 hk2 hk3 hk4 hZ.1 hZ.2 w.2.2.2.1 (by rw [hls, hml]) d0 d3 d4 d7 (fun x hx => (htab x hx).elim) hrm.1 hrm.2 (by rw [hrc]; exact hcs.1) (by rw [hrs]; exact hcs.2) hlocks (fun t hvm hz hq => ?_) w.2.2.2.1.2.2 hcs.1 hcs.2
    refine ⟨k, (Option.some.inj h).symm, ⟨rfl, w.1.kept (fun j x hx => hq x.1 ((w.1 j x hx).lt)), va_K.moved hvm w.2.2.1, w.2.1, w.2.2.2.2⟩, Nat.le_trans w.2.2.2.1.1 hz, fun q h1 h2 => ?_⟩
    rw [hq q (Nat.lt_of_lt_of_le h1 w.2.2.2.1.1)]
    exact w.2.2.2.1.2.1 q h1 h2
theorem xmx_i {l : Launch} (hst : l.stackTraces = false) {y : MethodName} {ws ws' : List Cond} {rm : Room} {D : va_G} {cy : Nat → ClassId} {L : List Nat} {g : xG} {av : List Value} {o : Nat ⊕ (Int32 × xG)} {cc : ByteArray} {maxL mc ms : Nat} (own : String) (hrc : rm.cells = mc) (hrs : rm.slots = ms) (hown : y.cls = own) (hy : plainName y.cls = true) (hw : ws = Cond.code y cc maxL (some .int) :: ws') (hlen : (lg_sl av).length ≤ maxL)
    (body : ∀ (p : Program) (e : Env) (s : State) (m : MethodId) (args : Array Value) (below : List Frame) (meth : Method) (c : Code) (Q : State → Prop) (A : Nat → Prop), CallFix p m c cc maxL s args ws own → xOK D cy A s.heap s L g s.heap [] → (∀ q, s.heap.size ≤ q → A q) → xE s → xZ A s s.heap → (∀ (H : Heap) (locs : List Loc) (cells slots pc : Nat) (ls : Array Slot) (v : Int32) (g2 : xG), some (.inr (v, g2)) = some o → xOK D cy A s.heap s L g2 H locs → decode cc pc = .ok (.ireturn, 1) → cells ≤ mc ∧ slots ≤ ms → W p l e rm s m args below meth c H locs cells slots Q (F0 m pc ls [.int v])) → (∀ (H : Heap) (locs : List Loc) (cells slots pc : Nat) (ls : Array Slot) (rest : List Value) (q : Addr) (ce : Cell) (k : Nat), some (.inl k) = some o → xOK D cy A s.heap s L g H locs → H[q]? = some ce → ce.vm = .none → s.vm.findClass (xEn k) = some ce.cls → cells ≤ mc ∧ slots ≤ ms → vx_W p l e rm s m args below meth c H locs cells slots Q (F0 m pc ls rest) q) → (∀ (H : Heap) (locs : List Loc) (cells slots pc : Nat) (ls : Array Slot) (rest : List Value) (k ik ic : Nat), some (.inl k) = some o → xOK D cy A s.heap s L g H locs → ls.size = maxL → (Cond.classLink own ik (xEn k)).before args s = true → (Cond.initialized (xEn k)).before args s = true → (∀ w ∈ vx_at0 own ic (xEn k) xEs, w.before args s = true) → (∀ w ∈ Cond.classLink own ik (xEn k) :: Cond.initialized (xEn k) :: vx_at0 own ic (xEn k) xEs, vx_ot w = true) → decode cc pc = .ok (.new ik, 3) → decode cc (pc + 3) = .ok (.dup, 1) → decode cc (pc + 4) = .ok (.invokespecial ic, 3) → decode cc (pc + 7) = .ok (.athrow, 1) → (5 < rm.frames ∧ (rest.map fun v => v.category).sum + 81 ≤ rm.locals) → (cells + 1 ≤ mc ∧ slots + 6 ≤ ms) → W p l e rm s m args below meth c H locs cells slots Q (F0 m pc ls rest)) → ∀ ls : Array Slot, lv_has ls maxL (lv_args 0 av) → W p l e rm s m args below meth c s.heap [] 0 0 Q (F0 m 0 ls [])) : xXi l y ws rm D cy L g av o mc ms := by
  intro sz
  refine vx_ofW (cc := cc) (maxL := maxL) (ret := (some .int)) hy hw ?_
  intro p e s m args below meth c s₁ B hml htab hv
  obtain ⟨rfl, ⟨hsz, hP, hK, hD0, hd⟩, hN, hZ⟩ := hv
  have hr := B.returns
  have hts := atoms_spec (ws := ws) B.pre
  have hown : s.vm.findClass own = some m.cls := by rw [← hown]; exact findClass_of_methodNamed B.named
  have hlocks := B.notSynchronized
  have S : CallFix p m c cc maxL s av.toArray ws own := ⟨B.exec, B.bytes, hml, hown, hts⟩
  subst hsz
  rw [lg_entry_eq]
  refine body p e s m av.toArray below meth c _ (xA cy L g s.heap.size) S ⟨hP, hD0.self, hK, va_S.rf, hd⟩ (fun q h => Or.inr h) hN hZ ?_ ?_ ?_ _ (lv_entry av hlen)
  · intro H locs cells slots pc ls v g2 h w hdg hcs
    refine vx_ret (W.widen hcs.1 hcs.2 ?_)
    exact W.iret S.1 S.2.1 hr (fun t ht hW => ⟨⟨v, g2, rfl, (Option.some.inj h).symm, by rw [ht]; exact w.1, va_K.moved hW.alike w.2.2.1, w.2.1, w.2.2.2.2⟩, w.2.2.2.1.F ht⟩) w.2.2.2.1.2.2 hdg
  · intro H locs cells slots pc ls rest q ce k h w hce hcv hcl hcs
    exact vx_out (fun x hx => (htab x hx).elim) hlocks hce hcv hcl (fun t ht hvm => ⟨k, (Option.some.inj h).symm, ⟨rfl, by rw [ht]; exact w.1, va_K.moved hvm w.2.2.1, w.2.1, w.2.2.2.2⟩, w.2.2.2.1.F ht⟩) w.2.2.2.1.2.2 hcs.1 hcs.2
  · intro H locs cells slots pc ls rest k ik ic h w hls hk1 hk2 hk3 hk4 d0 d3 d4 d7 hrm hcs
    refine vx_throw0 S.1 S.2.1 hst (cls := xEn k) (names := xEs) S.2.2.2.1 (by unfold xEn; split <;> decide) (by decide) hk1 hk2 hk3 hk4 hZ.1 hZ.2 w.2.2.2.1 (by rw [hls, hml]) d0 d3 d4 d7 (fun x hx => (htab x hx).elim) hrm.1 hrm.2 (by rw [hrc]; exact hcs.1) (by rw [hrs]; exact hcs.2) hlocks (fun t hvm hz hq => ?_) w.2.2.2.1.2.2 hcs.1 hcs.2
    refine ⟨k, (Option.some.inj h).symm, ⟨rfl, w.1.kept (fun j x hx => hq x.1 ((w.1 j x hx).lt)), va_K.moved hvm w.2.2.1, w.2.1, w.2.2.2.2⟩, Nat.le_trans w.2.2.2.1.1 hz, fun q h1 h2 => ?_⟩
    rw [hq q (Nat.lt_of_lt_of_le h1 w.2.2.2.1.1)]
    exact w.2.2.2.1.2.1 q h1 h2
theorem xmx_z {l : Launch} (hst : l.stackTraces = false) {y : MethodName} {ws ws' : List Cond} {rm : Room} {D : va_G} {cy : Nat → ClassId} {L : List Nat} {g : xG} {av : List Value} {o : Nat ⊕ (Int32 × xG)} {cc : ByteArray} {maxL mc ms : Nat} (own : String) (hrc : rm.cells = mc) (hrs : rm.slots = ms) (hown : y.cls = own) (hy : plainName y.cls = true) (hw : ws = Cond.code y cc maxL (some .boolean) :: ws') (hlen : (lg_sl av).length ≤ maxL)
    (body : ∀ (p : Program) (e : Env) (s : State) (m : MethodId) (args : Array Value) (below : List Frame) (meth : Method) (c : Code) (Q : State → Prop) (A : Nat → Prop), CallFix p m c cc maxL s args ws own → xOK D cy A s.heap s L g s.heap [] → (∀ q, s.heap.size ≤ q → A q) → xE s → xZ A s s.heap → (∀ (H : Heap) (locs : List Loc) (cells slots pc : Nat) (ls : Array Slot) (v v2 : Int32) (g2 : xG), xz v = some v2 → some (.inr (v2, g2)) = some o → xOK D cy A s.heap s L g2 H locs → decode cc pc = .ok (.ireturn, 1) → cells ≤ mc ∧ slots ≤ ms → W p l e rm s m args below meth c H locs cells slots Q (F0 m pc ls [.int v])) → (∀ (H : Heap) (locs : List Loc) (cells slots pc : Nat) (ls : Array Slot) (rest : List Value) (q : Addr) (ce : Cell) (k : Nat), some (.inl k) = some o → xOK D cy A s.heap s L g H locs → H[q]? = some ce → ce.vm = .none → s.vm.findClass (xEn k) = some ce.cls → cells ≤ mc ∧ slots ≤ ms → vx_W p l e rm s m args below meth c H locs cells slots Q (F0 m pc ls rest) q) → (∀ (H : Heap) (locs : List Loc) (cells slots pc : Nat) (ls : Array Slot) (rest : List Value) (k ik ic : Nat), some (.inl k) = some o → xOK D cy A s.heap s L g H locs → ls.size = maxL → (Cond.classLink own ik (xEn k)).before args s = true → (Cond.initialized (xEn k)).before args s = true → (∀ w ∈ vx_at0 own ic (xEn k) xEs, w.before args s = true) → (∀ w ∈ Cond.classLink own ik (xEn k) :: Cond.initialized (xEn k) :: vx_at0 own ic (xEn k) xEs, vx_ot w = true) → decode cc pc = .ok (.new ik, 3) → decode cc (pc + 3) = .ok (.dup, 1) → decode cc (pc + 4) = .ok (.invokespecial ic, 3) → decode cc (pc + 7) = .ok (.athrow, 1) → (5 < rm.frames ∧ (rest.map fun v => v.category).sum + 81 ≤ rm.locals) → (cells + 1 ≤ mc ∧ slots + 6 ≤ ms) → W p l e rm s m args below meth c H locs cells slots Q (F0 m pc ls rest)) → ∀ ls : Array Slot, lv_has ls maxL (lv_args 0 av) → W p l e rm s m args below meth c s.heap [] 0 0 Q (F0 m 0 ls [])) : xXi l y ws rm D cy L g av o mc ms := by
  intro sz
  refine vx_ofW (cc := cc) (maxL := maxL) (ret := (some .boolean)) hy hw ?_
  intro p e s m args below meth c s₁ B hml htab hv
  obtain ⟨rfl, ⟨hsz, hP, hK, hD0, hd⟩, hN, hZ⟩ := hv
  have hr := B.returns
  have hts := atoms_spec (ws := ws) B.pre
  have hown : s.vm.findClass own = some m.cls := by rw [← hown]; exact findClass_of_methodNamed B.named
  have hlocks := B.notSynchronized
  have S : CallFix p m c cc maxL s av.toArray ws own := ⟨B.exec, B.bytes, hml, hown, hts⟩
  subst hsz
  rw [lg_entry_eq]
  refine body p e s m av.toArray below meth c _ (xA cy L g s.heap.size) S ⟨hP, hD0.self, hK, va_S.rf, hd⟩ (fun q h => Or.inr h) hN hZ ?_ ?_ ?_ _ (lv_entry av hlen)
  · intro H locs cells slots pc ls v v2 g2 hz0 h w hdg hcs
    obtain ⟨rfl, hz⟩ := xz_ok hz0
    refine vx_ret (W.widen hcs.1 hcs.2 ?_)
    exact W.zret (ty := .boolean) S.1 S.2.1 hr (by rcases hz with rfl | rfl <;> decide) (fun t ht hW => ⟨⟨v, g2, rfl, (Option.some.inj h).symm, by rw [ht]; exact w.1, va_K.moved hW.alike w.2.2.1, w.2.1, w.2.2.2.2⟩, w.2.2.2.1.F ht⟩) w.2.2.2.1.2.2 hdg
  · intro H locs cells slots pc ls rest q ce k h w hce hcv hcl hcs
    exact vx_out (fun x hx => (htab x hx).elim) hlocks hce hcv hcl (fun t ht hvm => ⟨k, (Option.some.inj h).symm, ⟨rfl, by rw [ht]; exact w.1, va_K.moved hvm w.2.2.1, w.2.1, w.2.2.2.2⟩, w.2.2.2.1.F ht⟩) w.2.2.2.1.2.2 hcs.1 hcs.2
  · intro H locs cells slots pc ls rest k ik ic h w hls hk1 hk2 hk3 hk4 d0 d3 d4 d7 hrm hcs
    refine vx_throw0 S.1 S.2.1 hst (cls := xEn k) (names := xEs) S.2.2.2.1 (by unfold xEn; split <;> decide) (by decide) hk1 hk2 hk3 hk4 hZ.1 hZ.2 w.2.2.2.1 (by rw [hls, hml]) d0 d3 d4 d7 (fun x hx => (htab x hx).elim) hrm.1 hrm.2 (by rw [hrc]; exact hcs.1) (by rw [hrs]; exact hcs.2) hlocks (fun t hvm hz hq => ?_) w.2.2.2.1.2.2 hcs.1 hcs.2
    refine ⟨k, (Option.some.inj h).symm, ⟨rfl, w.1.kept (fun j x hx => hq x.1 ((w.1 j x hx).lt)), va_K.moved hvm w.2.2.1, w.2.1, w.2.2.2.2⟩, Nat.le_trans w.2.2.2.1.1 hz, fun q h1 h2 => ?_⟩
    rw [hq q (Nat.lt_of_lt_of_le h1 w.2.2.2.1.1)]
    exact w.2.2.2.1.2.1 q h1 h2
theorem xmx_l {l : Launch} (hst : l.stackTraces = false) {y : MethodName} {ws ws' : List Cond} {rm : Room} {D : va_G} {cy : Nat → ClassId} {L : List Nat} {g : xG} {av : List Value} {o : Nat ⊕ (Int64 × xG)} {cc : ByteArray} {maxL mc ms : Nat} (own : String) (hrc : rm.cells = mc) (hrs : rm.slots = ms) (hown : y.cls = own) (hy : plainName y.cls = true) (hw : ws = Cond.code y cc maxL (some .long) :: ws') (hlen : (lg_sl av).length ≤ maxL)
    (body : ∀ (p : Program) (e : Env) (s : State) (m : MethodId) (args : Array Value) (below : List Frame) (meth : Method) (c : Code) (Q : State → Prop) (A : Nat → Prop), CallFix p m c cc maxL s args ws own → xOK D cy A s.heap s L g s.heap [] → (∀ q, s.heap.size ≤ q → A q) → xE s → xZ A s s.heap → (∀ (H : Heap) (locs : List Loc) (cells slots pc : Nat) (ls : Array Slot) (v : Int64) (g2 : xG), some (.inr (v, g2)) = some o → xOK D cy A s.heap s L g2 H locs → decode cc pc = .ok (.lreturn, 1) → cells ≤ mc ∧ slots ≤ ms → W p l e rm s m args below meth c H locs cells slots Q (F0 m pc ls [.long v])) → (∀ (H : Heap) (locs : List Loc) (cells slots pc : Nat) (ls : Array Slot) (rest : List Value) (q : Addr) (ce : Cell) (k : Nat), some (.inl k) = some o → xOK D cy A s.heap s L g H locs → H[q]? = some ce → ce.vm = .none → s.vm.findClass (xEn k) = some ce.cls → cells ≤ mc ∧ slots ≤ ms → vx_W p l e rm s m args below meth c H locs cells slots Q (F0 m pc ls rest) q) → (∀ (H : Heap) (locs : List Loc) (cells slots pc : Nat) (ls : Array Slot) (rest : List Value) (k ik ic : Nat), some (.inl k) = some o → xOK D cy A s.heap s L g H locs → ls.size = maxL → (Cond.classLink own ik (xEn k)).before args s = true → (Cond.initialized (xEn k)).before args s = true → (∀ w ∈ vx_at0 own ic (xEn k) xEs, w.before args s = true) → (∀ w ∈ Cond.classLink own ik (xEn k) :: Cond.initialized (xEn k) :: vx_at0 own ic (xEn k) xEs, vx_ot w = true) → decode cc pc = .ok (.new ik, 3) → decode cc (pc + 3) = .ok (.dup, 1) → decode cc (pc + 4) = .ok (.invokespecial ic, 3) → decode cc (pc + 7) = .ok (.athrow, 1) → (5 < rm.frames ∧ (rest.map fun v => v.category).sum + 81 ≤ rm.locals) → (cells + 1 ≤ mc ∧ slots + 6 ≤ ms) → W p l e rm s m args below meth c H locs cells slots Q (F0 m pc ls rest)) → ∀ ls : Array Slot, lv_has ls maxL (lv_args 0 av) → W p l e rm s m args below meth c s.heap [] 0 0 Q (F0 m 0 ls [])) : xXl l y ws rm D cy L g av o mc ms := by
  intro sz
  refine vx_ofW (cc := cc) (maxL := maxL) (ret := (some .long)) hy hw ?_
  intro p e s m args below meth c s₁ B hml htab hv
  obtain ⟨rfl, ⟨hsz, hP, hK, hD0, hd⟩, hN, hZ⟩ := hv
  have hr := B.returns
  have hts := atoms_spec (ws := ws) B.pre
  have hown : s.vm.findClass own = some m.cls := by rw [← hown]; exact findClass_of_methodNamed B.named
  have hlocks := B.notSynchronized
  have S : CallFix p m c cc maxL s av.toArray ws own := ⟨B.exec, B.bytes, hml, hown, hts⟩
  subst hsz
  rw [lg_entry_eq]
  refine body p e s m av.toArray below meth c _ (xA cy L g s.heap.size) S ⟨hP, hD0.self, hK, va_S.rf, hd⟩ (fun q h => Or.inr h) hN hZ ?_ ?_ ?_ _ (lv_entry av hlen)
  · intro H locs cells slots pc ls v g2 h w hdg hcs
    refine vx_ret (W.widen hcs.1 hcs.2 ?_)
    exact W.lret S.1 S.2.1 hr (fun t ht hW => ⟨⟨v, g2, rfl, (Option.some.inj h).symm, by rw [ht]; exact w.1, va_K.moved hW.alike w.2.2.1, w.2.1, w.2.2.2.2⟩, w.2.2.2.1.F ht⟩) w.2.2.2.1.2.2 hdg
  · intro H locs cells slots pc ls rest q ce k h w hce hcv hcl hcs
    exact vx_out (fun x hx => (htab x hx).elim) hlocks hce hcv hcl (fun t ht hvm => ⟨k, (Option.some.inj h).symm, ⟨rfl, by rw [ht]; exact w.1, va_K.moved hvm w.2.2.1, w.2.1, w.2.2.2.2⟩, w.2.2.2.1.F ht⟩) w.2.2.2.1.2.2 hcs.1 hcs.2
  · intro H locs cells slots pc ls rest k ik ic h w hls hk1 hk2 hk3 hk4 d0 d3 d4 d7 hrm hcs
    refine vx_throw0 S.1 S.2.1 hst (cls := xEn k) (names := xEs) S.2.2.2.1 (by unfold xEn; split <;> decide) (by decide) hk1 hk2 hk3 hk4 hZ.1 hZ.2 w.2.2.2.1 (by rw [hls, hml]) d0 d3 d4 d7 (fun x hx => (htab x hx).elim) hrm.1 hrm.2 (by rw [hrc]; exact hcs.1) (by rw [hrs]; exact hcs.2) hlocks (fun t hvm hz hq => ?_) w.2.2.2.1.2.2 hcs.1 hcs.2
    refine ⟨k, (Option.some.inj h).symm, ⟨rfl, w.1.kept (fun j x hx => hq x.1 ((w.1 j x hx).lt)), va_K.moved hvm w.2.2.1, w.2.1, w.2.2.2.2⟩, Nat.le_trans w.2.2.2.1.1 hz, fun q h1 h2 => ?_⟩
    rw [hq q (Nat.lt_of_lt_of_le h1 w.2.2.2.1.1)]
    exact w.2.2.2.1.2.1 q h1 h2
theorem hat_X7_need {args : Array Value} {s : State} {Ts : List Cond} (hts : ∀ w ∈ Ts, w.before args s = true) (hin : ∀ w ∈ (vx_at0 RX7 191 "java/lang/IllegalArgumentException" xEs).filter goodWord, w ∈ Ts) (hN : xE s) : ∀ w ∈ vx_at0 RX7 191 (xEn 1) xEs, w.before args s = true := by
  obtain ⟨-, -, -, -, -, -, -, -, e1, e2, e3, e4, e5, -⟩ := hN
  refine vx_hat (fun w hw => hts w (hin w hw)) (B := [.castable "java/lang/IllegalArgumentException" "java/lang/IllegalArgumentException", .declares ⟨"java/lang/RuntimeException", "<init>", "()V"⟩, .declares ⟨"java/lang/Exception", "<init>", "()V"⟩, .declares ⟨"java/lang/Throwable", "<init>", "()V"⟩]) (by decide +kernel) (vx_c (va_Nw.use rfl e1) (vx_c (va_Nw.use rfl e3) (vx_c (va_Nw.use rfl e4) (vx_c (va_Nw.use rfl e5) vx_n))))
theorem hgood_X7_need : ∀ w ∈ Cond.classLink RX7 189 (xEn 1) :: Cond.initialized (xEn 1) :: vx_at0 RX7 191 (xEn 1) xEs, vx_ot w = true := by decide +kernel
theorem xin_X7_need : ∀ w ∈ (vx_at0 RX7 191 "java/lang/IllegalArgumentException" xEs).filter goodWord, w ∈ wsX7_need := fun w h => List.mem_cons_of_mem _ (List.mem_append_right _ h)
abbrev xRn : Room := { frames := 6, cells := 1, slots := 6, locals := 90 }
set_option maxHeartbeats 4000000 in
theorem c_X7_need (l : Launch) (hst : l.stackTraces = false) (D : va_G) (cy : Nat → ClassId) (L : List Nat) (g : xG) (a0 : Int32) : xXv l yX7_need wsX7_need xRn D cy L g [.int a0] (if a0 = 0 then .inl 1 else .inr g) 1 6 := by
  refine xmx_v hst (cc := cX7_need) (maxL := 1) RX7 rfl rfl rfl (by decide +kernel) rfl (Nat.le_of_ble_eq_true rfl) ?_
  intro p e s m args below meth c Q A S w hA hN hZ ret out thr ls hl
  have hl : lv_has ls 1 [(0, .int a0)] := hl
  refine lv_iload_n S.1 S.2.1 dX7_need_0 rfl (lv_at hl 0 rfl) ?_
  refine lv_if_ne (tgt := 12) S.1 S.2.1 dX7_need_1 (by decide) (fun c1 => ?_) (fun c1 => ?_)
  · exact ret _ _ _ _ _ _ _ (by rw [if_neg c1]) w dX7_need_12 ⟨Nat.zero_le _, Nat.zero_le _⟩
  · exact thr _ _ _ _ _ _ _ 1 189 191 (by rw [if_pos c1]) w hl.1 (S.2.2.2.2 _ (by decide +kernel)) (S.2.2.2.2 _ (by decide +kernel)) (hat_X7_need S.2.2.2.2 xin_X7_need hN) hgood_X7_need dX7_need_4 dX7_need_7 dX7_need_8 dX7_need_11 ⟨Nat.le_of_ble_eq_true rfl, Nat.le_of_ble_eq_true rfl⟩ ⟨Nat.le_of_ble_eq_true rfl, Nat.le_of_ble_eq_true rfl⟩
theorem hat_X7_needState {args : Array Value} {s : State} {Ts : List Cond} (hts : ∀ w ∈ Ts, w.before args s = true) (hin : ∀ w ∈ (vx_at0 RX7 217 "java/lang/IllegalStateException" xEs).filter goodWord, w ∈ Ts) (hN : xE s) : ∀ w ∈ vx_at0 RX7 217 (xEn 2) xEs, w.before args s = true := by
  obtain ⟨-, -, -, -, -, -, -, -, e1, e2, e3, e4, e5, -⟩ := hN
  refine vx_hat (fun w hw => hts w (hin w hw)) (B := [.castable "java/lang/IllegalStateException" "java/lang/IllegalStateException", .declares ⟨"java/lang/RuntimeException", "<init>", "()V"⟩, .declares ⟨"java/lang/Exception", "<init>", "()V"⟩, .declares ⟨"java/lang/Throwable", "<init>", "()V"⟩]) (by decide +kernel) (vx_c (va_Nw.use rfl e2) (vx_c (va_Nw.use rfl e3) (vx_c (va_Nw.use rfl e4) (vx_c (va_Nw.use rfl e5) vx_n))))
theorem hgood_X7_needState : ∀ w ∈ Cond.classLink RX7 215 (xEn 2) :: Cond.initialized (xEn 2) :: vx_at0 RX7 217 (xEn 2) xEs, vx_ot w = true := by decide +kernel
theorem xin_X7_needState : ∀ w ∈ (vx_at0 RX7 217 "java/lang/IllegalStateException" xEs).filter goodWord, w ∈ wsX7_needState := fun w h => List.mem_cons_of_mem _ (List.mem_append_right _ h)
set_option maxHeartbeats 4000000 in
theorem c_X7_needState (l : Launch) (hst : l.stackTraces = false) (D : va_G) (cy : Nat → ClassId) (L : List Nat) (g : xG) (a0 : Int32) : xXv l yX7_needState wsX7_needState xRn D cy L g [.int a0] (if a0 = 0 then .inl 2 else .inr g) 1 6 := by
  refine xmx_v hst (cc := cX7_needState) (maxL := 1) RX7 rfl rfl rfl (by decide +kernel) rfl (Nat.le_of_ble_eq_true rfl) ?_
  intro p e s m args below meth c Q A S w hA hN hZ ret out thr ls hl
  have hl : lv_has ls 1 [(0, .int a0)] := hl
  refine lv_iload_n S.1 S.2.1 dX7_needState_0 rfl (lv_at hl 0 rfl) ?_
  refine lv_if_ne (tgt := 12) S.1 S.2.1 dX7_needState_1 (by decide) (fun c1 => ?_) (fun c1 => ?_)
  · exact ret _ _ _ _ _ _ _ (by rw [if_neg c1]) w dX7_needState_12 ⟨Nat.zero_le _, Nat.zero_le _⟩
  · exact thr _ _ _ _ _ _ _ 2 215 217 (by rw [if_pos c1]) w hl.1 (S.2.2.2.2 _ (by decide +kernel)) (S.2.2.2.2 _ (by decide +kernel)) (hat_X7_needState S.2.2.2.2 xin_X7_needState hN) hgood_X7_needState dX7_needState_4 dX7_needState_7 dX7_needState_8 dX7_needState_11 ⟨Nat.le_of_ble_eq_true rfl, Nat.le_of_ble_eq_true rfl⟩ ⟨Nat.le_of_ble_eq_true rfl, Nat.le_of_ble_eq_true rfl⟩
section XNEED
variable {p : Program} {l : Launch} {e : Env} {R : Room} {s : State} {m : MethodId} {args : Array Value} {below : List Frame} {meth : Method} {c : Code} {H : Heap} {locs : List Loc} {cells slots : Nat} {Q : State → Prop}
variable {cc : ByteArray} {nL pc : Nat} {ls : Array Slot} {rest st0 : List Value} {D : va_G} {cy : Nat → ClassId} {A : Nat → Prop} {L : List Nat} {g : xG} {Ts : List Cond} {own : String}
theorem xr_need1 (S : CallFix p m c cc nL s args Ts own) (hst : l.stackTraces = false) (w : xOK D cy A s.heap s L g H locs) (hA : ∀ q, s.heap.size ≤ q → A q) (hN : xE s) (hZ : xZ A s s.heap) {v : Int32} {index : Nat} (hg : GoodIn Ts (va_wsS own index yX7_need wsX7_need)) (hR : xRn.frames + 1 ≤ R.frames ∧ 8 + (1 + 11) + xRn.locals ≤ R.locals) (hls : ls.size = nL) (hW : (rest.map fun v => v.category).sum ≤ 8) (hdg : decode cc pc = .ok (.invokestatic index, 3)) (hroom : cells + 1 ≤ R.cells ∧ slots + 6 ≤ R.slots) (hv : ¬ v = 0)
    (kk : ∀ (H1 : Heap) (locs1 : List Loc), xOK D cy A s.heap s L g H1 locs1 → W p l e R s m args below meth c H1 locs1 (cells + 1) (slots + 6) Q (F0 m (pc + 3) ls rest)) : W p l e R s m args below meth c H locs cells slots Q (F0 m pc ls (.int v :: rest)) := by
  have hM := c_X7_need l hst D cy L g v
  rw [if_neg hv] at hM
  refine xr_callXS_v S w hA hN hZ (As := [.int v]) (rest := rest) hM (va_cwS 1 S.2.2.2.2 hg rfl rfl rfl (by decide +kernel) hR) rfl rfl hls hW hdg hroom (fun k H1 locs1 q ce ho => ?_) (fun g2 H1 locs1 ho w => ?_)
  · cases ho
  · cases ho
    exact kk H1 locs1 w
theorem xr_need0 (S : CallFix p m c cc nL s args Ts own) (hst : l.stackTraces = false) (w : xOK D cy A s.heap s L g H locs) (hA : ∀ q, s.heap.size ≤ q → A q) (hN : xE s) (hZ : xZ A s s.heap) {v : Int32} {index : Nat} (hg : GoodIn Ts (va_wsS own index yX7_need wsX7_need)) (hR : xRn.frames + 1 ≤ R.frames ∧ 8 + (1 + 11) + xRn.locals ≤ R.locals) (hls : ls.size = nL) (hW : (rest.map fun v => v.category).sum ≤ 8) (hdg : decode cc pc = .ok (.invokestatic index, 3)) (hroom : cells + 1 ≤ R.cells ∧ slots + 6 ≤ R.slots) (hv : v = 0)
    (kx : ∀ (H1 : Heap) (locs1 : List Loc) (q : Addr) (ce : Cell), xOK D cy A s.heap s L g H1 locs1 → H1[q]? = some ce → ce.vm = .none → s.vm.findClass (xEn 1) = some ce.cls → vx_W p l e R s m args below meth c H1 locs1 (cells + 1) (slots + 6) Q (F0 m pc ls rest) q) : W p l e R s m args below meth c H locs cells slots Q (F0 m pc ls (.int v :: rest)) := by
  have hM := c_X7_need l hst D cy L g v
  rw [if_pos hv] at hM
  refine xr_callXS_v S w hA hN hZ (As := [.int v]) (rest := rest) hM (va_cwS 1 S.2.2.2.2 hg rfl rfl rfl (by decide +kernel) hR) rfl rfl hls hW hdg hroom (fun k H1 locs1 q ce ho w hc hv hcl => ?_) (fun g2 H1 locs1 ho w => ?_)
  · cases ho
    exact kx H1 locs1 q ce w hc hv hcl
  · cases ho
theorem xr_needState1 (S : CallFix p m c cc nL s args Ts own) (hst : l.stackTraces = false) (w : xOK D cy A s.heap s L g H locs) (hA : ∀ q, s.heap.size ≤ q → A q) (hN : xE s) (hZ : xZ A s s.heap) {v : Int32} {index : Nat} (hg : GoodIn Ts (va_wsS own index yX7_needState wsX7_needState)) (hR : xRn.frames + 1 ≤ R.frames ∧ 8 + (1 + 11) + xRn.locals ≤ R.locals) (hls : ls.size = nL) (hW : (rest.map fun v => v.category).sum ≤ 8) (hdg : decode cc pc = .ok (.invokestatic index, 3)) (hroom : cells + 1 ≤ R.cells ∧ slots + 6 ≤ R.slots) (hv : ¬ v = 0)
    (kk : ∀ (H1 : Heap) (locs1 : List Loc), xOK D cy A s.heap s L g H1 locs1 → W p l e R s m args below meth c H1 locs1 (cells + 1) (slots + 6) Q (F0 m (pc + 3) ls rest)) : W p l e R s m args below meth c H locs cells slots Q (F0 m pc ls (.int v :: rest)) := by
  have hM := c_X7_needState l hst D cy L g v
  rw [if_neg hv] at hM
  refine xr_callXS_v S w hA hN hZ (As := [.int v]) (rest := rest) hM (va_cwS 1 S.2.2.2.2 hg rfl rfl rfl (by decide +kernel) hR) rfl rfl hls hW hdg hroom (fun k H1 locs1 q ce ho => ?_) (fun g2 H1 locs1 ho w => ?_)
  · cases ho
  · cases ho
    exact kk H1 locs1 w
theorem xr_needState0 (S : CallFix p m c cc nL s args Ts own) (hst : l.stackTraces = false) (w : xOK D cy A s.heap s L g H locs) (hA : ∀ q, s.heap.size ≤ q → A q) (hN : xE s) (hZ : xZ A s s.heap) {v : Int32} {index : Nat} (hg : GoodIn Ts (va_wsS own index yX7_needState wsX7_needState)) (hR : xRn.frames + 1 ≤ R.frames ∧ 8 + (1 + 11) + xRn.locals ≤ R.locals) (hls : ls.size = nL) (hW : (rest.map fun v => v.category).sum ≤ 8) (hdg : decode cc pc = .ok (.invokestatic index, 3)) (hroom : cells + 1 ≤ R.cells ∧ slots + 6 ≤ R.slots) (hv : v = 0)
    (kx : ∀ (H1 : Heap) (locs1 : List Loc) (q : Addr) (ce : Cell), xOK D cy A s.heap s L g H1 locs1 → H1[q]? = some ce → ce.vm = .none → s.vm.findClass (xEn 2) = some ce.cls → vx_W p l e R s m args below meth c H1 locs1 (cells + 1) (slots + 6) Q (F0 m pc ls rest) q) : W p l e R s m args below meth c H locs cells slots Q (F0 m pc ls (.int v :: rest)) := by
  have hM := c_X7_needState l hst D cy L g v
  rw [if_pos hv] at hM
  refine xr_callXS_v S w hA hN hZ (As := [.int v]) (rest := rest) hM (va_cwS 1 S.2.2.2.2 hg rfl rfl rfl (by decide +kernel) hR) rfl rfl hls hW hdg hroom (fun k H1 locs1 q ce ho w hc hv hcl => ?_) (fun g2 H1 locs1 ho w => ?_)
  · cases ho
    exact kx H1 locs1 q ce w hc hv hcl
  · cases ho
end XNEED
