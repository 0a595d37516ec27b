/-! THE CLAIM OUT OF ONE WALK OF THE LAW'S BODY. Your part is whole_start (and what it stands on); all else here is the same for every law, but numbers. -/
def R_law : String := "TellTaleLaw"
def lw_P (b : Addr) (xs : List Int32) (args : Array Value) (s : State) : Prop := args = #[.ref b] ∧ s.IntsAt b xs ∧ xs.length ≤ 256 ∧ (Jvm.Cond.and given_1 narrow_1).before args s = true
def lw_Q (_ : Array Value) (s : State) (o : Outcome) (t : State) : Prop := o = .returned (some (.int 1)) ∧ Framed s o t [] 600128 7301098
def lw_Z (below : List Frame) (a : Array Value) (s : State) : State → Prop := fun t => ∃ o, t.status = .running ∧ Ended t below o ∧ lw_Q a s o t
/-- the law's own end, with 1 on the stack, nothing written that was there before, its room as the claim has it -/
theorem lw_ret {p : Program} {l : Launch} {e : Env} {s : State} {m : MethodId} {below : List Frame} {meth : Method} {c : Code} {b : Nat} (hx : p.tables.exec = Jvm.exec) (hb : c.code = code) (hr : meth.sig.returnType = ret) (hlocks : meth.locks = false) {pc : Nat} {H : Heap} {ls : Array Slot} (hdg : decode code pc = .ok (.ireturn, 1)) : W p l e room_1 s m #[Value.ref b] below meth c H [] 600128 7301098 (lw_Z below #[Value.ref b] s) (F0 m pc ls [.int 1]) := by
  intro T hT X
  obtain ⟨fs, hret, hrun, hended, hW, hframe⟩ := X.leave (v := some (.int 1)) (hlocks := hlocks) (fun h => by rw [hr] at h; cases h)
  have hmeth' : T.vm.method? m = some meth := X.method'
  refine ⟨T.setFrames fs, ?_, .returned (some (.int 1)), hrun, hended, rfl, ⟨_, rfl⟩, hW, hframe⟩
  jvm_step X.here [X.here.top, hx, hb, hdg, hmeth', hr, ret, narrow_b1]
  (try refine ⟨rfl, ?_⟩); (try refine ⟨rfl, ?_⟩)
  first | (intro acts; rw [hret _ acts rfl rfl rfl]) | rw [hret _ _ rfl rfl rfl]
  exact Steps.refl _
/-- what holds at the law's entry: the machine, the code, the tables' words (any of lw_tbl by 'hts w (by decide +kernel)'), the script of L ints xs at the cell b, what the Statement gives of the start (any of its parts by flat_of_before) -/
def lw_At (p : Program) (s : State) (m : MethodId) (meth : Method) (c : Code) (b L : Nat) (xs : Nat → Int32) : Prop :=
  p.tables.exec = Jvm.exec ∧ c.code = code ∧ meth.sig.returnType = ret ∧ c.maxLocals = 8 ∧ s.vm.findClass R_law = some m.cls ∧ (∀ w ∈ lw_tbl, w.before #[Value.ref b] s = true) ∧ va_X b L xs s s.heap ∧ b < s.heap.size ∧ meth.locks = false ∧ (Jvm.Cond.and given_1 narrow_1).before #[Value.ref b] s = true
theorem xk_L_law_8 : Cond.classLink RL 8 RX7 ∈ wsL_law := by decide +kernel
theorem xst_L_law_8 : Cond.instantiable RX7 7 ∈ wsL_law := by decide +kernel
theorem xni_L_law_8 : Cond.initialized RX7 ∈ wsL_law := by decide +kernel
theorem xi_L_law_X7 : ∀ w ∈ wsX70, w ∈ wsL_law := by decide +kernel
theorem xk_L_law_85 : Cond.classLink RL 85 RX8 ∈ wsL_law := by decide +kernel
theorem xst_L_law_85 : Cond.instantiable RX8 35 ∈ wsL_law := by decide +kernel
theorem xni_L_law_85 : Cond.initialized RX8 ∈ wsL_law := by decide +kernel
theorem xi_L_law_X8 : ∀ w ∈ wsX80, w ∈ wsL_law := by decide +kernel
theorem xar_L_law_long : Cond.arrayClass (newarray.typeOf .long) ∈ wsL_law := by decide +kernel
def w_L_law (t Ln : Nat) (xs : Nat → Int32) (L : List Nat) (g : xG) : Prop :=
  ∀ (q398 : Nat) (L398 : List Nat) (g398 : xG), q398 ∉ L → L398 = L ++ [q398] → g398 = va_up g q398 (.inr (8, [.int 0, .null, .null, .null, .int 0, .null, .null])) →
  w_X7_init t (fun L399 g399 =>
    ∀ (q400 : Nat) (L400 : List Nat) (g400 : xG), q400 ∉ L399 → L400 = L399 ++ [q400] → g400 = va_up g399 q400 (.inr (9, [.int 0, .int 0, .null, .null, .null, .null, .null, .null, .null, .null, .int 0, .int 0, .null, .null, .null, .null, .null, .null, .null, .int 0, .null, .null, .null, .null, .null, .null, .null, .null, .int 0, .null, .null, .int 0, .null, .null, .null])) →
    w_X8_init (fun L401 g401 =>
      ∀ (q402 : Nat) (L402 : List Nat) (g402 : xG), q402 ∉ L401 → L402 = L401 ++ [q402] → g402 = va_up g401 q402 (.inl (2, 1, .inr (.inl (fun _ => 0)))) →
      w_L_law_23 t Ln xs 65 L402 g402 q398 q400 q402 0
    ) L400 g400 q400
  ) L398 g398 q398
theorem x_eqt {args : Array Value} {s : State} {tm : Term} {z : Int32} (h : (Cond.eq tm (.int z)).before args s = true) : tm.eval args s none [] s = some (.int z) := by
  cases hv : tm.eval args s none [] s with
  | none => simp [Cond.before, Cond.holds, Cond.value, hv] at h
  | some w =>
    have hz : (Term.int z).eval args s none [] s = some (.int z) := rfl
    simp only [Cond.before, Cond.holds, Cond.value, hv, hz] at h
    cases w <;> simp_all
theorem x_arrB {args : Array Value} {s : State} (h : (Cond.arrayClass .byte).before args s = true) : ∃ cA : ClassId, ArrOfT s cA .byte ∧ va_RA s cA .byte := by
  obtain ⟨c, k, comp, h1, h2, h3⟩ := Cond.arrayClass_spec h
  exact ⟨c, fun n z => ⟨fun k h => (by cases h), k, h2, comp, h3⟩, h1⟩
theorem x_arrI {args : Array Value} {s : State} (h : (Cond.arrayClass .int).before args s = true) : ∃ cA : ClassId, ArrOfT s cA .int ∧ va_RA s cA .int := by
  obtain ⟨c, k, comp, h1, h2, h3⟩ := Cond.arrayClass_spec h
  exact ⟨c, fun n z => ⟨fun k h => (by cases h), k, h2, comp, h3⟩, h1⟩
theorem x_arrJ {args : Array Value} {s : State} (h : (Cond.arrayClass .long).before args s = true) : ∃ cA : ClassId, ArrOfT s cA .long ∧ va_RA s cA .long := by
  obtain ⟨c, k, comp, h1, h2, h3⟩ := Cond.arrayClass_spec h
  exact ⟨c, fun n z => ⟨fun k h => (by cases h), k, h2, comp, h3⟩, h1⟩
theorem x_arrZ {args : Array Value} {s : State} (h : (Cond.arrayClass .boolean).before args s = true) : ∃ cA : ClassId, ArrOfT s cA .boolean ∧ va_RA s cA .boolean := by
  obtain ⟨c, k, comp, h1, h2, h3⟩ := Cond.arrayClass_spec h
  exact ⟨c, fun n z => ⟨fun k h => (by cases h), k, h2, comp, h3⟩, h1⟩
theorem x_arrO {args : Array Value} {s : State} {C : String} (h : (Cond.arrayOver (.object C)).before args s = true) : ∃ cA : ClassId, ArrOfT s cA (.object C) ∧ va_RA s cA (.object C) := by
  obtain ⟨comp, c, k, h1, -, h2, h3, h4⟩ := Cond.arrayOver_spec h
  exact ⟨c, fun n z => ⟨fun k h => (by cases h), k, h2, comp, h3⟩, k, comp, h2, h3, h1, h4⟩
theorem xw_0 : Cond.methodLinkNest RX5 17 yX1_init RX7 ∈ lw_tbl := by decide +kernel
theorem xw_1 : Cond.methodLinkNest RX7 31 yX3_init RX7 ∈ lw_tbl := by decide +kernel
theorem xw_2 : Cond.methodLinkNest RX7 38 yX2_init RX7 ∈ lw_tbl := by decide +kernel
theorem xw_3 : Cond.methodLinkNest RX4 11 yX3_init RX7 ∈ lw_tbl := by decide +kernel
theorem xw_4 : Cond.methodLinkNest RX4 20 yX2_init RX7 ∈ lw_tbl := by decide +kernel
theorem xw_5 : Cond.methodLinkNest RX4 27 yX6_init RX7 ∈ lw_tbl := by decide +kernel
theorem xw_6 : Cond.methodLinkNest RX2 29 yX7_headBehind RX7 ∈ lw_tbl := by decide +kernel
theorem xw_7 : Cond.methodLinkNest RX7 324 yX0_init RX7 ∈ lw_tbl := by decide +kernel
theorem xw_8 : Cond.castable "java/lang/IllegalArgumentException" "java/lang/IllegalArgumentException" ∈ lw_tbl := by decide +kernel
theorem xw_9 : Cond.castable "java/lang/IllegalStateException" "java/lang/IllegalStateException" ∈ lw_tbl := by decide +kernel
theorem xw_10 : Cond.declares ⟨"java/lang/RuntimeException", "<init>", "()V"⟩ ∈ lw_tbl := by decide +kernel
theorem xw_11 : Cond.declares ⟨"java/lang/Exception", "<init>", "()V"⟩ ∈ lw_tbl := by decide +kernel
theorem xw_12 : Cond.declares ⟨"java/lang/Throwable", "<init>", "()V"⟩ ∈ lw_tbl := by decide +kernel
theorem xw_13 : Cond.arrayOver (.object "TellTale$Letter") ∈ lw_tbl := by decide +kernel
theorem xw_14 : Cond.arrayOver (.object "TellTale$Node") ∈ lw_tbl := by decide +kernel
theorem xw_15 : Cond.arrayOver (.object "java/lang/Object") ∈ lw_tbl := by decide +kernel
theorem xw_16 : Cond.castable "TellTale$Evidence" "java/lang/Object" ∈ lw_tbl := by decide +kernel
theorem xw_17 : Cond.declares ⟨"java/lang/Object", "getClass", "()Ljava/lang/Class;"⟩ ∈ lw_tbl := by decide +kernel
theorem xw_a0 : Cond.arrayClass .byte ∈ lw_tbl := by decide +kernel
theorem xw_a1 : Cond.arrayClass .int ∈ lw_tbl := by decide +kernel
theorem xw_a2 : Cond.arrayClass .long ∈ lw_tbl := by decide +kernel
theorem xw_a3 : Cond.arrayClass .boolean ∈ lw_tbl := by decide +kernel
theorem xw_s0 : Cond.laysStatic "java/util/ArrayList" "DEFAULTCAPACITY_EMPTY_ELEMENTDATA" "[Ljava/lang/Object;" ∈ lw_tbl := by decide +kernel
theorem xw_s1 : Cond.initialized "java/util/ArrayList" ∈ lw_tbl := by decide +kernel
theorem xw_s2 : Cond.laysStatic Bundle.tN "UNASSIGNED_STACK" Bundle.steD ∈ lw_tbl := by decide +kernel
theorem xw_s3 : Cond.laysStatic Bundle.tN "SUPPRESSED_SENTINEL" Bundle.listD ∈ lw_tbl := by decide +kernel
theorem xw_s4 : Cond.initialized Bundle.tN ∈ lw_tbl := by decide +kernel
theorem xwi_Jx4a65c : Cond.instantiable RJx4a65c 3 ∈ lw_tbl := by decide +kernel
theorem xwi_X0 : Cond.instantiable RX0 2 ∈ lw_tbl := by decide +kernel
theorem xwi_X1 : Cond.instantiable RX1 7 ∈ lw_tbl := by decide +kernel
theorem xwi_X2 : Cond.instantiable RX2 5 ∈ lw_tbl := by decide +kernel
theorem xwi_X3 : Cond.instantiable RX3 7 ∈ lw_tbl := by decide +kernel
theorem xwi_X4 : Cond.instantiable RX4 8 ∈ lw_tbl := by decide +kernel
theorem xwi_X5 : Cond.instantiable RX5 4 ∈ lw_tbl := by decide +kernel
theorem xwi_X6 : Cond.instantiable RX6 5 ∈ lw_tbl := by decide +kernel
theorem xwi_X7 : Cond.instantiable RX7 7 ∈ lw_tbl := by decide +kernel
theorem xwi_X8 : Cond.instantiable RX8 35 ∈ lw_tbl := by decide +kernel
theorem xw_f0 : Cond.not (.castable "java/lang/IllegalStateException" "java/lang/IllegalArgumentException") ∈ flatC (Jvm.Cond.and given_1 narrow_1) := by decide +kernel
theorem xw_f1 : Cond.isRef (.mirror "[Ljava/lang/Object;") ∈ flatC (Jvm.Cond.and given_1 narrow_1) := by decide +kernel
theorem xw_f2 : Cond.isRef (.static Bundle.tN "UNASSIGNED_STACK" Bundle.steD) ∈ flatC (Jvm.Cond.and given_1 narrow_1) := by decide +kernel
theorem xw_f3 : Cond.isRef (.static Bundle.tN "SUPPRESSED_SENTINEL" Bundle.listD) ∈ flatC (Jvm.Cond.and given_1 narrow_1) := by decide +kernel
theorem xw_f4 : Cond.arrayOf (.static "java/util/ArrayList" "DEFAULTCAPACITY_EMPTY_ELEMENTDATA" "[Ljava/lang/Object;") (.object "java/lang/Object") ∈ flatC (Jvm.Cond.and given_1 narrow_1) := by decide +kernel
theorem xw_f5 : Cond.eq (.length (.static "java/util/ArrayList" "DEFAULTCAPACITY_EMPTY_ELEMENTDATA" "[Ljava/lang/Object;")) (.int 0) ∈ flatC (Jvm.Cond.and given_1 narrow_1) := by decide +kernel
set_option maxHeartbeats 40000000 in
set_option maxRecDepth 100000 in
theorem whole_open {p : Program} {e : Env} {s : State} {m : MethodId} {below : List Frame} {meth : Method} {c : Code} (l : Launch) (hflags : l.flags = flags0) {b Ln : Nat} {xs : Nat → Int32} (C0 : lw_At p s m meth c b Ln xs) (hpure : ∀ t : Nat, w_L_law t Ln xs [] (fun _ => xdead)) : W p l e room_1 s m #[Value.ref b] below meth c s.heap [] 0 0 (lw_Z below #[Value.ref b] s) (entryFrame m ([Value.ref b] : List Value).toArray 8) := by
  obtain ⟨hx, hb, hr, hml, hown, hts, hX, hbl, hlocks, hgv⟩ := id C0
  have hst : l.stackTraces = false := by
    unfold Launch.stackTraces
    rw [hflags]
    decide +kernel
  have hgs := flat_of_before _ hgv
  have hA : ∀ q : Nat, s.heap.size ≤ q → (fun q : Nat => s.heap.size ≤ q) q := fun _ h => h
  have hbA : ¬ (fun q : Nat => s.heap.size ≤ q) b := Nat.not_le.mpr hbl
  have hnA : ∀ a : Nat, a < s.heap.size → ¬ (fun q : Nat => s.heap.size ≤ q) a := fun a h => Nat.not_le.mpr h
  obtain ⟨c0, iS0, hKn0⟩ := u_known (C := RJx4a65c) (T := TJx4a65c) (N := 3) (n := 3) hts inJx4a65c (hts _ xwi_Jx4a65c)
  obtain ⟨c1, iS1, hKn1⟩ := u_known (C := RX0) (T := TX0) (N := 2) (n := 2) hts inX0 (hts _ xwi_X0)
  obtain ⟨c2, iS2, hKn2⟩ := u_known (C := RX1) (T := TX1) (N := 7) (n := 7) hts inX1 (hts _ xwi_X1)
  obtain ⟨c3, iS3, hKn3⟩ := u_known (C := RX2) (T := TX2) (N := 5) (n := 5) hts inX2 (hts _ xwi_X2)
  obtain ⟨c4, iS4, hKn4⟩ := u_known (C := RX3) (T := TX3) (N := 7) (n := 7) hts inX3 (hts _ xwi_X3)
  obtain ⟨c5, iS5, hKn5⟩ := u_known (C := RX4) (T := TX4) (N := 8) (n := 8) hts inX4 (hts _ xwi_X4)
  obtain ⟨c6, iS6, hKn6⟩ := u_known (C := RX5) (T := TX5) (N := 4) (n := 4) hts inX5 (hts _ xwi_X5)
  obtain ⟨c7, iS7, hKn7⟩ := u_known (C := RX6) (T := TX6) (N := 5) (n := 5) hts inX6 (hts _ xwi_X6)
  obtain ⟨c8, iS8, hKn8⟩ := u_known (C := RX7) (T := TX7) (N := 7) (n := 7) hts inX7 (hts _ xwi_X7)
  obtain ⟨c9, iS9, hKn9⟩ := u_known (C := RX8) (T := TX8) (N := 35) (n := 35) hts inX8 (hts _ xwi_X8)
  obtain ⟨dC, dI, hKc⟩ : ∃ (dC : Nat → ClassId) (dI : Nat → Nat → Nat), ∀ (k : Nat) (q : vw_C), vwCl[k]? = some q → u_Kn s q.1 q.2.1 q.2.2 (dC k) (dI k) := by
    refine ⟨fun k => if k = 0 then c0 else if k = 1 then c1 else if k = 2 then c2 else if k = 3 then c3 else if k = 4 then c4 else if k = 5 then c5 else if k = 6 then c6 else if k = 7 then c7 else if k = 8 then c8 else c9, fun k => if k = 0 then iS0 else if k = 1 then iS1 else if k = 2 then iS2 else if k = 3 then iS3 else if k = 4 then iS4 else if k = 5 then iS5 else if k = 6 then iS6 else if k = 7 then iS7 else if k = 8 then iS8 else iS9, ?_⟩
    intro k q hq
    match k, hq with
    | 0, hq => cases hq; exact hKn0
    | 1, hq => cases hq; exact hKn1
    | 2, hq => cases hq; exact hKn2
    | 3, hq => cases hq; exact hKn3
    | 4, hq => cases hq; exact hKn4
    | 5, hq => cases hq; exact hKn5
    | 6, hq => cases hq; exact hKn6
    | 7, hq => cases hq; exact hKn7
    | 8, hq => cases hq; exact hKn8
    | 9, hq => cases hq; exact hKn9
    | k + 10, hq => simp [vwCl] at hq
  obtain ⟨y0, hy0⟩ := x_arrB (hts _ xw_a0)
  obtain ⟨y1, hy1⟩ := x_arrI (hts _ xw_a1)
  obtain ⟨y2, hy2⟩ := x_arrJ (hts _ xw_a2)
  obtain ⟨y3, hy3⟩ := x_arrZ (hts _ xw_a3)
  obtain ⟨y4, hy4⟩ := x_arrO (hts _ xw_13)
  obtain ⟨y5, hy5⟩ := x_arrO (hts _ xw_14)
  obtain ⟨y6, hy6⟩ := x_arrO (hts _ xw_15)
  obtain ⟨cy, hK⟩ : ∃ cy : Nat → ClassId, va_K (dC, dI) vwCl (xT cy) s := by
    refine ⟨fun k => if k = 0 then y0 else if k = 1 then y1 else if k = 2 then y2 else if k = 3 then y3 else if k = 4 then y4 else if k = 5 then y5 else y6, hKc, ?_⟩
    intro k q hq
    match k, hq with
    | 0, hq => cases hq; exact hy0
    | 1, hq => cases hq; exact hy1
    | 2, hq => cases hq; exact hy2
    | 3, hq => cases hq; exact hy3
    | 4, hq => cases hq; exact hy4
    | 5, hq => cases hq; exact hy5
    | 6, hq => cases hq; exact hy6
    | k + 7, hq => simp at hq
  have hN : xE s := ⟨va_Nw.of rfl (hts _ xw_0), va_Nw.of rfl (hts _ xw_1), va_Nw.of rfl (hts _ xw_2), va_Nw.of rfl (hts _ xw_3), va_Nw.of rfl (hts _ xw_4), va_Nw.of rfl (hts _ xw_5), va_Nw.of rfl (hts _ xw_6), va_Nw.of rfl (hts _ xw_7), va_Nw.of rfl (hts _ xw_8), va_Nw.of rfl (hts _ xw_9), va_Nw.of rfl (hts _ xw_10), va_Nw.of rfl (hts _ xw_11), va_Nw.of rfl (hts _ xw_12), va_AO.of (hts _ xw_13), va_AO.of (hts _ xw_14), va_AO.of (hts _ xw_15), va_Nw.of rfl (hts _ xw_16), va_Dc.of (hts _ xw_17), va_Mi.of (hgs _ xw_f1), va_Nc.of (hgs _ xw_f0)⟩
  have hZ : xZ (fun q : Nat => s.heap.size ≤ q) s s.heap := ⟨vx_Zqof (hts _ xw_s2) (hts _ xw_s4) (hgs _ xw_f2) hnA, vx_Zqof (hts _ xw_s3) (hts _ xw_s4) (hgs _ xw_f3) hnA⟩
  obtain ⟨t, ht0, hT1⟩ := va_Tof (f := fun _ => .null) (N := 0) (by decide) (hgs _ xw_f4) (x_eqt (hgs _ xw_f5)) (fun j hj => absurd hj (Nat.not_lt_zero j)) hnA
  have hT : xS t (fun q : Nat => s.heap.size ≤ q) s s.heap := ⟨va_Zof (hts _ xw_s0) (hts _ xw_s1) ht0 hnA, hT1⟩
  have S : CallFix p m c code 8 s #[Value.ref b] wsL_law RL := ⟨hx, hb, hml, hown, fun w h => hts w (wsL_law_in w h)⟩
  have w : xOK (dC, dI) cy (fun q : Nat => s.heap.size ≤ q) s.heap s [] (fun _ => xdead) s.heap [] := ⟨fun k q h => by simp [va_pl] at h, ⟨fun i j p q h => by simp [va_pl] at h, fun k q h => by simp [va_pl] at h⟩, hK, va_S.rf, fun _ _ => rfl⟩
  have lret : ∀ (H : Heap) (locs : List Loc) (cz sl : Nat) (ls : Array Slot) (pc : Nat) {L : List Nat} {g : xG}, xOK (dC, dI) cy (fun q : Nat => s.heap.size ≤ q) s.heap s L g H locs → decode code pc = .ok (.ireturn, 1) → cz ≤ 600128 ∧ sl ≤ 7301098 → W p l e room_1 s m #[Value.ref b] below meth c H locs cz sl (lw_Z below #[Value.ref b] s) (F0 m pc ls [.int 1]) := fun H locs cz sl ls pc {L} {g} w hdg hcs =>
    W.widen hcs.1 hcs.2 (va_forget (fun q hq => w.2.2.2.1.2.2 q hq) (lw_ret hx hb hr hlocks hdg))
  have h := hpure t
  have hl := lv_entry ([.ref b]) (n := 8) (Nat.le_of_ble_eq_true rfl)
  rw [lg_entry_eq]
  generalize (lg_sl ([.ref b]) ++ List.replicate (8 - (lg_sl ([.ref b])).length) Slot.unset).toArray = ls at hl ⊢
  have hl : lv_has ls 8 [(0, .ref b)] := hl
  generalize hD : (dC, dI) = D at w lret
  generalize hAe : (fun q : Nat => s.heap.size ≤ q) = A at hA hbA hZ hT w lret
  rw [w_L_law] at h
  refine xr_new S w hA 8 xi_L_law_X7 rfl tyX7 tyX7_ok xk_L_law_8 xst_L_law_8 xni_L_law_8 [.int 0, .null, .null, .null, .int 0, .null, .null] (fun j hj => by rcases (show j = 0 ∨ j = 1 ∨ j = 2 ∨ j = 3 ∨ j = 4 ∨ j = 5 ∨ j = 6 by omega) with rfl | rfl | rfl | rfl | rfl | rfl | rfl <;> rfl) dL_law_0 ⟨Nat.le_of_ble_eq_true rfl, Nat.le_of_ble_eq_true rfl⟩ (fun q398 L398 g398 H e398a e398b e398c w => ?_)
  replace h := h q398 L398 g398 e398a e398b e398c
  refine lv_dup S.1 S.2.1 dL_law_3 rfl ?_
  refine xr_callYI_v S w hA hN hZ hT (c_X7_init l D cy t L398 g398 q398 _ h) (cwI 0 S.2.2.2.2 gL_law_X7_init rfl rfl rfl (S.2.2.2.2 _ (by decide +kernel)) (S.2.2.2.2 _ (by decide +kernel)) (S.2.2.2.2 _ (by decide +kernel)) rfl (by decide +kernel) ⟨Nat.le_of_ble_eq_true rfl, Nat.le_of_ble_eq_true rfl⟩) rfl rfl hl.1 (Nat.le_of_ble_eq_true rfl) dL_law_4 ⟨Nat.le_of_ble_eq_true rfl, Nat.le_of_ble_eq_true rfl⟩ (fun L399 g399 H locs h w => ?_)
  refine lv_astore_n (lv' := [(1, .ref q398), (0, .ref b)]) S.1 S.2.1 dL_law_7 rfl hl (by decide) rfl (fun ls hl => ?_)
  refine xr_new S w hA 9 xi_L_law_X8 rfl tyX8 tyX8_ok xk_L_law_85 xst_L_law_85 xni_L_law_85 [.int 0, .int 0, .null, .null, .null, .null, .null, .null, .null, .null, .int 0, .int 0, .null, .null, .null, .null, .null, .null, .null, .int 0, .null, .null, .null, .null, .null, .null, .null, .null, .int 0, .null, .null, .int 0, .null, .null, .null] (fun j hj => by rcases (show j = 0 ∨ j = 1 ∨ j = 2 ∨ j = 3 ∨ j = 4 ∨ j = 5 ∨ j = 6 ∨ j = 7 ∨ j = 8 ∨ j = 9 ∨ j = 10 ∨ j = 11 ∨ j = 12 ∨ j = 13 ∨ j = 14 ∨ j = 15 ∨ j = 16 ∨ j = 17 ∨ j = 18 ∨ j = 19 ∨ j = 20 ∨ j = 21 ∨ j = 22 ∨ j = 23 ∨ j = 24 ∨ j = 25 ∨ j = 26 ∨ j = 27 ∨ j = 28 ∨ j = 29 ∨ j = 30 ∨ j = 31 ∨ j = 32 ∨ j = 33 ∨ j = 34 by omega) with rfl | rfl | rfl | rfl | rfl | rfl | rfl | rfl | rfl | rfl | rfl | rfl | rfl | rfl | rfl | rfl | rfl | rfl | rfl | rfl | rfl | rfl | rfl | rfl | rfl | rfl | rfl | rfl | rfl | rfl | rfl | rfl | rfl | rfl | rfl <;> rfl) dL_law_8 ⟨Nat.le_of_ble_eq_true rfl, Nat.le_of_ble_eq_true rfl⟩ (fun q400 L400 g400 H e400a e400b e400c w => ?_)
  replace h := h q400 L400 g400 e400a e400b e400c
  refine lv_dup S.1 S.2.1 dL_law_11 rfl ?_
  refine xr_callYI_v S w hA hN hZ hT (c_X8_init l D cy t L400 g400 q400 _ h) (cwI 0 S.2.2.2.2 gL_law_X8_init rfl rfl rfl (S.2.2.2.2 _ (by decide +kernel)) (S.2.2.2.2 _ (by decide +kernel)) (S.2.2.2.2 _ (by decide +kernel)) rfl (by decide +kernel) ⟨Nat.le_of_ble_eq_true rfl, Nat.le_of_ble_eq_true rfl⟩) rfl rfl hl.1 (Nat.le_of_ble_eq_true rfl) dL_law_12 ⟨Nat.le_of_ble_eq_true rfl, Nat.le_of_ble_eq_true rfl⟩ (fun L401 g401 H locs h w => ?_)
  refine lv_astore_n (lv' := [(2, .ref q400), (1, .ref q398), (0, .ref b)]) S.1 S.2.1 dL_law_15 rfl hl (by decide) rfl (fun ls hl => ?_)
  refine lv_iconst (v := 1) S.1 S.2.1 dL_law_16 (by decide) ?_
  refine xr_newa S w hA 2 .long xar_L_law_long .long rfl (fun _ => rfl) 1 (.inr (.inl (fun _ => 0))) (fun _ => rfl) (by decide) (by decide) (by decide) dL_law_17 ⟨Nat.le_of_ble_eq_true rfl, Nat.le_of_ble_eq_true rfl⟩ (fun q402 L402 g402 H e402a e402b e402c w => ?_)
  replace h := h q402 L402 g402 e402a e402b e402c
  refine lv_astore_n (lv' := [(3, .ref q402), (2, .ref q400), (1, .ref q398), (0, .ref b)]) S.1 S.2.1 dL_law_19 rfl hl (by decide) rfl (fun ls hl => ?_)
  refine lv_iconst (v := 0) S.1 S.2.1 dL_law_20 (by decide) ?_
  refine lv_istore (lv' := [(4, .int 0), (3, .ref q402), (2, .ref q400), (1, .ref q398), (0, .ref b)]) S.1 S.2.1 dL_law_21 hl (by decide) rfl (fun ls hl => ?_)
  refine law_loop hst S hX hbl hA hbA hN hZ hT lret 65 L402 g402 q398 q400 q402 0 h _ _ ?_ ?_ _ _ _ w (lv_sub hl [4, 3, 2, 1, 0] rfl)
  · exact Nat.le_of_ble_eq_true rfl
  · exact Nat.le_of_ble_eq_true rfl
