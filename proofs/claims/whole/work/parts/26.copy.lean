/-! Arrays.copyOf of a row of pieces of evidence, by its own class -/
def w_J7_copyOf_1904c (t : Nat) (P : Nat → List Nat → xG → Prop) (L : List Nat) (g : xG) (a0 : Nat) (a1 : Int32) : Prop :=
  ∃ (n : Nat) (f : Nat → Option Nat) (N1 : Nat), g a0 = .inl (6, n, .inr (.inr (.inr (.inr f)))) ∧ xcap a1 = some N1 ∧ n ≤ N1 ∧ (∀ i, i < n → ∀ y, f i = some y → ∃ fs, g y = .inr (1, fs)) ∧
  ∀ (q : Nat) (L1 : List Nat) (g1 : xG), q ∉ L → q ≠ t → L1 = L ++ [q] → g1 = va_up g q (.inl (6, N1, .inr (.inr (.inr (.inr (va_cpy f (fun _ => none) 0 0 n)))))) → P q L1 g1
theorem xk_J7a : Cond.classLink RJ7 2 "java/lang/Object" ∈ wsJ7_copyOf_6403c := by decide +kernel
theorem xk_J7b : Cond.classLink RJ7 110 "[Ljava/lang/Object;" ∈ wsJ7_copyOf_6403c := by decide +kernel
theorem x_len32 {n : Nat} {x : Int32} (h0 : ¬ x < 0) (h : n ≤ x.toNatClampNeg) (hx : x.toNatClampNeg ≤ 64) : (if x < Int32.ofNat n then x else Int32.ofNat n) = Int32.ofNat n := by
  by_cases c : x < Int32.ofNat n
  · rw [if_pos c]
    obtain ⟨j, hj, rfl⟩ := nI_of h0
    rw [nI_clamp hj] at h hx
    have h2 : j < n := (nI_ltI hj (by omega)).mp c
    omega
  · rw [if_neg c]
set_option maxHeartbeats 4000000 in
set_option maxRecDepth 100000 in
theorem c_J7_copyOf_6403c (l : Launch) (D : va_G) (cy : Nat → ClassId) (t : Nat) (L : List Nat) (g : xG) (a0 : Nat) (a1 : Int32) (mi : Nat) (P : Nat → List Nat → xG → Prop) (h : w_J7_copyOf_1904c t P L g a0 a1) : ∀ sz : Nat, Met l yJ7_copyOf_6403c wsJ7_copyOf_6403c ({ frames := 1, cells := 1, slots := 64, locals := 40 }) (va_Pc [.ref a0, .int a1, .ref mi] (fun U => ((U.heap.size = sz ∧ va_P D vwCl (xW cy L g) U.heap ∧ va_K D vwCl (xT cy) U ∧ va_D (fun _ => True) (xW cy L g) ∧ ∀ a, a ∉ L → g a = xdead) ∧ xE U ∧ xZ (xA cy L g sz) U U.heap ∧ xS t (xA cy L g sz) U U.heap) ∧ va_Mi "[Ljava/lang/Object;" mi U)) (va_Qr (fun _ : List Nat × xG => True) (fun (u : List Nat × xG) (a : Nat) (w : State) => P a u.1 u.2 ∧ xB D cy u.1 (xA cy L g sz) u.2 w) (xA cy L g sz)) 1 64 (xA cy L g sz) := by
  intro sz
  refine Met.ofW (cc := cJ7_copyOf_6403c) (maxL := 4) (ret := (some (.array (.object "java/lang/Object")))) (by decide +kernel) rfl ?_
  intro p e s m args below meth c s₁ B hml hv
  obtain ⟨rfl, ⟨⟨hsz, hP, hK, hD0, hd⟩, hN, hZ, hT⟩, hMi⟩ := hv
  have hr := B.returns
  have hts := atoms_spec (ws := wsJ7_copyOf_6403c) B.pre
  have hown : s.vm.findClass RJ7 = some m.cls := findClass_of_methodNamed B.named
  have hlocks := B.notSynchronized
  have S : CallFix p m c cJ7_copyOf_6403c 4 s (([.ref a0, .int a1, .ref mi] : List Value).toArray) wsJ7_copyOf_6403c RJ7 := ⟨B.exec, B.bytes, hml, hown, hts⟩
  subst hsz
  rw [lg_entry_eq]
  have hA : ∀ q, s.heap.size ≤ q → xA cy L g s.heap.size q := fun q h => Or.inr h
  have w : xOK D cy (xA cy L g s.heap.size) s.heap s L g s.heap [] := ⟨hP, hD0.self, hK, va_S.rf, hd⟩
  generalize hAe : xA cy L g s.heap.size = A at hA w hT ⊢
  have hl := lv_entry ([.ref a0, .int a1, .ref mi]) (n := 4) (Nat.le_of_ble_eq_true rfl)
  generalize (lg_sl ([.ref a0, .int a1, .ref mi]) ++ List.replicate (4 - (lg_sl ([.ref a0, .int a1, .ref mi])).length) Slot.unset).toArray = ls at hl ⊢
  have hl : lv_has ls 4 [(0, .ref a0), (1, .int a1), (2, .ref mi)] := hl
  obtain ⟨n, f, N1, hg0, hcap, hnN, hel, h⟩ := h
  obtain ⟨hc1, hc2, hc3⟩ := xcap_ok hcap
  refine lv_aload_n S.1 S.2.1 dJ7_copyOf_6403c_0 rfl (lv_at hl 2 rfl) ?_
  refine va_ldcM S.1 S.2.1 S.2.2.2.1 (hts _ xk_J7b) hMi dJ7_copyOf_6403c_1 ?_
  refine xr_acmpn (tgt := 13) S dJ7_copyOf_6403c_3 (by decide) ?_
  refine lv_iload_n S.1 S.2.1 dJ7_copyOf_6403c_6 rfl (lv_at hl 1 rfl) ?_
  obtain ⟨-, -, -, -, -, -, -, -, -, -, -, -, -, -, -, hAO, hca, -⟩ := hN
  refine xr_newqv S w hA hT xk_J7a hAO hcap dJ7_copyOf_6403c_7 ⟨Nat.le_of_ble_eq_true rfl, Nat.le_of_ble_eq_true rfl⟩ (fun q L1 g1 H e1 eqt e2 e3 w => ?_)
  have ha0 : a0 ≠ q := fun z => e1 (by
    rw [← z]
    exact Classical.byContradiction fun k => by
      have := hd a0 k
      rw [hg0] at this
      cases this)
  have hg1 : g1 a0 = .inl (6, n, .inr (.inr (.inr (.inr f)))) := by rw [e3, va_up_ne _ _ ha0]; exact hg0
  have hgq : g1 q = .inl (6, N1, .inr (.inr (.inr (.inr (fun _ => none))))) := by rw [e3, va_up_self]
  refine lv_goto (tgt := 24) S.1 S.2.1 dJ7_copyOf_6403c_10 (by decide) ?_
  refine lv_astore_n (lv' := [(3, .ref q), (0, .ref a0), (1, .int a1), (2, .ref mi)]) S.1 S.2.1 dJ7_copyOf_6403c_24 rfl hl (by decide) rfl (fun ls hl => ?_)
  refine lv_aload_n S.1 S.2.1 dJ7_copyOf_6403c_25 rfl (lv_at hl 1 rfl) ?_
  refine lv_iconst (v := 0) S.1 S.2.1 dJ7_copyOf_6403c_26 (by decide) ?_
  refine lv_aload_n S.1 S.2.1 dJ7_copyOf_6403c_27 rfl (lv_at hl 0 rfl) ?_
  refine lv_iconst (v := 0) S.1 S.2.1 dJ7_copyOf_6403c_28 (by decide) ?_
  refine lv_aload_n S.1 S.2.1 dJ7_copyOf_6403c_29 rfl (lv_at hl 1 rfl) ?_
  refine xr_alen S w 6 (.object "java/lang/Object") (fun _ => rfl) (x := Int32.ofNat n) (by unfold xn_a; rw [hg1]; rfl) dJ7_copyOf_6403c_30 ?_
  refine lv_iload_n S.1 S.2.1 dJ7_copyOf_6403c_31 rfl (lv_at hl 2 rfl) ?_
  refine va_mmin S.1 S.2.1 (S.2.2.1.trans hl.1.symm) S.2.2.2.1 (S.2.2.2.2 _ (by decide +kernel)) (S.2.2.2.2 _ (by decide +kernel)) (S.2.2.2.2 _ (by decide +kernel)) (S.2.2.2.2 _ (by decide +kernel)) (Nat.le_of_ble_eq_true rfl) (Nat.le_of_ble_eq_true rfl) (Nat.le_of_ble_eq_true rfl) (Nat.le_of_ble_eq_true rfl) dJ7_copyOf_6403c_32 ?_
  rw [x_len32 hc1 (by rw [hc2]; exact hnN) (by rw [hc2]; exact hc3)]
  have hn31 : n < 2 ^ 31 := by omega
  have hnc : (Int32.ofNat n).toNatClampNeg = n := nI_clamp hn31
  obtain ⟨hq1, k1, hk1⟩ := w.at (a := q) (by rw [hgq]; intro z; cases z)
  obtain ⟨hq0, k0, hk0⟩ := w.at (a := a0) (by rw [hg1]; intro z; cases z)
  have hk1' := hk1
  rw [hgq] at hk1
  rw [hg1] at hk0
  refine va_copyq S.1 S.2.1 (S.2.2.1.trans hl.1.symm) S.2.2.2.1 (S.2.2.2.2 _ (by decide +kernel)) (S.2.2.2.2 _ (by decide +kernel)) (S.2.2.2.2 _ (by decide +kernel)) (S.2.2.2.2 _ (by decide +kernel)) w.2.2.1 w.1 w.2.1 w.2.2.2.1 k0 k1 6 6 (C := "TellTale$Evidence") hk0 hk1 rfl rfl (by decide) (by decide) (nI_pos hn31) (by rw [hnc]; exact Nat.le_of_eq (Nat.zero_add n)) (by rw [hnc]; exact Nat.le_trans (Nat.le_of_eq (Nat.zero_add n)) hnN) ?_ (fun comp c0 z1 z2 => vb_asgC hca comp c0 z1 z2) (Nat.le_of_ble_eq_true rfl) (Nat.le_of_ble_eq_true rfl) dJ7_copyOf_6403c_35 (fun H1 locs1 hP1 hD1 hS1 => ?_)
  · intro i hi y hy
    rw [hnc] at hi
    rw [show (0 : Int32).toNatClampNeg + i = i from Nat.zero_add i] at hy
    obtain ⟨fs, hfs⟩ := hel i hi y hy
    have hyq : y ≠ q := fun z => e1 (by
      rw [← z]
      exact Classical.byContradiction fun k => by
        have := hd y k
        rw [hfs] at this
        injection this with q1
        injection q1 with q2
        exact absurd q2 (by decide))
    exact w.recv (ci := 1) (r := (RX0, TX0, 2)) rfl (u := ()) (by unfold xk; rw [e3, va_up_ne _ _ hyq, hfs]; rfl)
  · rw [hnc] at hP1 hD1
    have w := w.up (e := .inl (6, N1, .inr (.inr (.inr (.inr (va_cpy f (fun _ => none) 0 0 n)))))) hq1 hk1' hP1 hD1 hS1
    refine lv_aload_n S.1 S.2.1 dJ7_copyOf_6403c_38 rfl (lv_at hl 0 rfl) ?_
    have hfin := h q L1 (va_up g1 q (.inl (6, N1, .inr (.inr (.inr (.inr (va_cpy f (fun _ => none) 0 0 n))))))) e1 eqt e2 (by rw [e3, bx_uu])
    exact W.aret S.1 S.2.1 hr (Or.inr ⟨_, rfl⟩) (Or.inr ⟨_, rfl⟩) (fun tt ht hW => ⟨⟨(L1, _), q, rfl, trivial, hfin, by rw [ht]; exact w.1, va_K.moved hW.alike w.2.2.1, w.2.1, w.2.2.2.2⟩, w.2.2.2.1.F ht⟩) w.2.2.2.1.2.2 dJ7_copyOf_6403c_39
set_option maxHeartbeats 4000000 in
set_option maxRecDepth 100000 in
theorem c_J7_copyOf_1904c (l : Launch) (D : va_G) (cy : Nat → ClassId) (t : Nat) (L : List Nat) (g : xG) (a0 : Nat) (a1 : Int32) (P : Nat → List Nat → xG → Prop) (h : w_J7_copyOf_1904c t P L g a0 a1) : xYr l yJ7_copyOf_1904c wsJ7_copyOf_1904c ({ frames := 2, cells := 1, slots := 64, locals := 80 }) D cy t L g [.ref a0, .int a1] P 1 64 := by
  refine xma_r (cc := cJ7_copyOf_1904c) (maxL := 2) (Or.inr ⟨_, rfl⟩) RJ7 rfl rfl rfl (by decide +kernel) rfl (Nat.le_of_ble_eq_true rfl) ?_
  intro p e s m args below meth c Q A S w hA hN hZ hT hmn ret ls hl
  have hl : lv_has ls 2 [(0, .ref a0), (1, .int a1)] := hl
  obtain ⟨n, f, N1, hg0, hx⟩ := id h
  refine lv_aload_n S.1 S.2.1 dJ7_copyOf_1904c_0 rfl (lv_at hl 0 rfl) ?_
  refine lv_iload_n S.1 S.2.1 dJ7_copyOf_1904c_1 rfl (lv_at hl 1 rfl) ?_
  refine lv_aload_n S.1 S.2.1 dJ7_copyOf_1904c_2 rfl (lv_at hl 0 rfl) ?_
  obtain ⟨-, -, -, -, -, -, -, -, -, -, -, -, -, -, -, -, -, hDc, ⟨mi, hMi⟩, -⟩ := id hN
  obtain ⟨hq0, k0, hk0⟩ := w.at (a := a0) (by rw [hg0]; intro z; cases z)
  rw [hg0] at hk0
  have hcell := w.1 k0 _ hk0
  have hRA := (w.2.2.1.2 6 _ rfl).2
  refine va_getC S.1 S.2.1 (S.2.2.1.trans hl.1.symm) S.2.2.2.1 (S.2.2.2.2 _ (by decide +kernel)) hDc.use (S.2.2.2.2 _ (by decide +kernel)) (S.2.2.2.2 _ (by decide +kernel)) (S.2.2.2.2 _ (by decide +kernel)) hMi ⟨_, hcell, rfl, ?_⟩ (Nat.le_of_ble_eq_true rfl) (Nat.le_of_ble_eq_true rfl) dJ7_copyOf_1904c_3 ?_
  · obtain ⟨_, _, -, -, -, e4⟩ := hRA
    exact e4
  refine va_callr (mc := 1) (ms := 64) (va_runS (As := [.ref a0, .int a1, .ref mi]) (rest := []) S (c_J7_copyOf_6403c l D cy t L g a0 a1 mi P h s.heap.size) (va_cwS 3 S.2.2.2.2 gJ7_copyOf_1904c_J7_copyOf_6403c rfl rfl rfl (by decide +kernel) ⟨Nat.le_of_ble_eq_true rfl, Nat.le_of_ble_eq_true rfl⟩) ⟨fun a U g9 mk q => ?_, fun U hU hW => ?_⟩ rfl rfl hl.1 rfl (lv_room (Nat.le_of_ble_eq_true rfl)) dJ7_copyOf_1904c_6 ⟨Nat.le_of_ble_eq_true rfl, Nat.le_of_ble_eq_true rfl⟩) w.2.2.2.1 (fun q _ h => w.free hA q h) (w.free hA) (fun u2 ra tt H1 locs1 ht hvm hw hB hz1 hk1 hS => ?_)
  · obtain ⟨q0, ⟨⟨q1, q2, q3, q4⟩, q5, q6, q7⟩, q8⟩ := q
    exact ⟨q0, ⟨⟨q1, q2, va_K.moved (u := U) (U := U.calling g9 mk a) (Vm.Alike.refl U.vm) q3, q4⟩, q5.same rfl, xZ.moved (u := U) (U := U.calling g9 mk a) (Vm.Alike.refl U.vm) q6, xS.moved (u := U) (U := U.calling g9 mk a) (Vm.Alike.refl U.vm) q7⟩, va_Mi.moved (u := U) (U := U.calling g9 mk a) (Vm.Alike.refl U.vm) q8⟩
  · have z := (w.preA hA hN hZ hT (av := [.ref a0, .int a1, .ref mi])) U hU hW
    exact ⟨z.1, z.2, hMi.moved hW.alike⟩
  · exact ret _ _ _ _ _ _ _ _ _ hB.1 (xB.okA w hA ht hvm hB.2 hS) dJ7_copyOf_1904c_9 ⟨Nat.le_of_ble_eq_true rfl, Nat.le_of_ble_eq_true rfl⟩
