/-- the script's place i -/
def xsc (Ln : Nat) (xs : Nat → Int32) (i : Int32) : Option Int32 := if 0 ≤ i ∧ i.toNatClampNeg < Ln then some (xs i.toNatClampNeg) else none
section XSCR
variable {p : Program} {l : Launch} {e : Env} {R : Room} {s : State} {m : MethodId} {args : Array Value} {below : List Frame} {meth : Method} {c : Code} {H : Heap} {locs : List Loc} {cells slots : Nat} {Q : State → Prop}
variable {cc : ByteArray} {nL pc : Nat} {ls : Array Slot} {rest : List Value} {D : va_G} {cy : Nat → ClassId} {A : Nat → Prop} {L : List Nat} {g : xG} {Ts : List Cond} {own : String}
theorem xr_sld (S : CallFix p m c cc nL s args Ts own) (w : xOK D cy A s.heap s L g H locs) {b Ln : Nat} {xs : Nat → Int32} (hX : va_X b Ln xs s s.heap) (hbl : b < s.heap.size) (hbA : ¬ A b) {i x : Int32} (hv : xsc Ln xs i = some x) (hdg : decode cc pc = .ok (.iaload, 1))
    (kk : W p l e R s m args below meth c H locs cells slots Q (F0 m (pc + 1) ls (.int x :: rest))) : W p l e R s m args below meth c H locs cells slots Q (F0 m pc ls (.int i :: .ref b :: rest)) := by
  unfold xsc at hv
  split at hv
  · rename_i hc
    obtain rfl := Option.some.inj hv
    exact va_sld S.1 S.2.1 hX hbl hbA w.2.2.2.1 (x_in hc.1 hc.2) hdg kk
  · cases hv
end XSCR
theorem xsw6 {x : Int32} (h0 : ¬ x = 0) (h1 : ¬ x = 1) (h2 : ¬ x = 2) (h3 : ¬ x = 3) (h4 : ¬ x = 4) (h5 : ¬ x = 5) : x.toInt < 0 ∨ 5 < x.toInt := by
  have := xsw_ne (k := 5) (by decide) h5
  have := xsw5 h0 h1 h2 h3 h4
  omega
theorem xsw7 {x : Int32} (h0 : ¬ x = 0) (h1 : ¬ x = 1) (h2 : ¬ x = 2) (h3 : ¬ x = 3) (h4 : ¬ x = 4) (h5 : ¬ x = 5) (h6 : ¬ x = 6) : x.toInt < 0 ∨ 6 < x.toInt := by
  have := xsw_ne (k := 6) (by decide) h6
  have := xsw6 h0 h1 h2 h3 h4 h5
  omega
theorem xsw8 {x : Int32} (h0 : ¬ x = 0) (h1 : ¬ x = 1) (h2 : ¬ x = 2) (h3 : ¬ x = 3) (h4 : ¬ x = 4) (h5 : ¬ x = 5) (h6 : ¬ x = 6) (h7 : ¬ x = 7) : x.toInt < 0 ∨ 7 < x.toInt := by
  have := xsw_ne (k := 7) (by decide) h7
  have := xsw7 h0 h1 h2 h3 h4 h5 h6
  omega
theorem xsw9 {x : Int32} (h0 : ¬ x = 0) (h1 : ¬ x = 1) (h2 : ¬ x = 2) (h3 : ¬ x = 3) (h4 : ¬ x = 4) (h5 : ¬ x = 5) (h6 : ¬ x = 6) (h7 : ¬ x = 7) (h8 : ¬ x = 8) : x.toInt < 0 ∨ 8 < x.toInt := by
  have := xsw_ne (k := 8) (by decide) h8
  have := xsw8 h0 h1 h2 h3 h4 h5 h6 h7
  omega
theorem xsw10 {x : Int32} (h0 : ¬ x = 0) (h1 : ¬ x = 1) (h2 : ¬ x = 2) (h3 : ¬ x = 3) (h4 : ¬ x = 4) (h5 : ¬ x = 5) (h6 : ¬ x = 6) (h7 : ¬ x = 7) (h8 : ¬ x = 8) (h9 : ¬ x = 9) : x.toInt < 0 ∨ 9 < x.toInt := by
  have := xsw_ne (k := 9) (by decide) h9
  have := xsw9 h0 h1 h2 h3 h4 h5 h6 h7 h8
  omega
theorem xsw11 {x : Int32} (h0 : ¬ x = 0) (h1 : ¬ x = 1) (h2 : ¬ x = 2) (h3 : ¬ x = 3) (h4 : ¬ x = 4) (h5 : ¬ x = 5) (h6 : ¬ x = 6) (h7 : ¬ x = 7) (h8 : ¬ x = 8) (h9 : ¬ x = 9) (h10 : ¬ x = 10) : x.toInt < 0 ∨ 10 < x.toInt := by
  have := xsw_ne (k := 10) (by decide) h10
  have := xsw10 h0 h1 h2 h3 h4 h5 h6 h7 h8 h9
  omega
theorem xsw12 {x : Int32} (h0 : ¬ x = 0) (h1 : ¬ x = 1) (h2 : ¬ x = 2) (h3 : ¬ x = 3) (h4 : ¬ x = 4) (h5 : ¬ x = 5) (h6 : ¬ x = 6) (h7 : ¬ x = 7) (h8 : ¬ x = 8) (h9 : ¬ x = 9) (h10 : ¬ x = 10) (h11 : ¬ x = 11) : x.toInt < 0 ∨ 11 < x.toInt := by
  have := xsw_ne (k := 11) (by decide) h11
  have := xsw11 h0 h1 h2 h3 h4 h5 h6 h7 h8 h9 h10
  omega
theorem xsw13 {x : Int32} (h0 : ¬ x = 0) (h1 : ¬ x = 1) (h2 : ¬ x = 2) (h3 : ¬ x = 3) (h4 : ¬ x = 4) (h5 : ¬ x = 5) (h6 : ¬ x = 6) (h7 : ¬ x = 7) (h8 : ¬ x = 8) (h9 : ¬ x = 9) (h10 : ¬ x = 10) (h11 : ¬ x = 11) (h12 : ¬ x = 12) : x.toInt < 0 ∨ 12 < x.toInt := by
  have := xsw_ne (k := 12) (by decide) h12
  have := xsw12 h0 h1 h2 h3 h4 h5 h6 h7 h8 h9 h10 h11
  omega
theorem xsw14 {x : Int32} (h0 : ¬ x = 0) (h1 : ¬ x = 1) (h2 : ¬ x = 2) (h3 : ¬ x = 3) (h4 : ¬ x = 4) (h5 : ¬ x = 5) (h6 : ¬ x = 6) (h7 : ¬ x = 7) (h8 : ¬ x = 8) (h9 : ¬ x = 9) (h10 : ¬ x = 10) (h11 : ¬ x = 11) (h12 : ¬ x = 12) (h13 : ¬ x = 13) : x.toInt < 0 ∨ 13 < x.toInt := by
  have := xsw_ne (k := 13) (by decide) h13
  have := xsw13 h0 h1 h2 h3 h4 h5 h6 h7 h8 h9 h10 h11 h12
  omega
theorem xsw15 {x : Int32} (h0 : ¬ x = 0) (h1 : ¬ x = 1) (h2 : ¬ x = 2) (h3 : ¬ x = 3) (h4 : ¬ x = 4) (h5 : ¬ x = 5) (h6 : ¬ x = 6) (h7 : ¬ x = 7) (h8 : ¬ x = 8) (h9 : ¬ x = 9) (h10 : ¬ x = 10) (h11 : ¬ x = 11) (h12 : ¬ x = 12) (h13 : ¬ x = 13) (h14 : ¬ x = 14) : x.toInt < 0 ∨ 14 < x.toInt := by
  have := xsw_ne (k := 14) (by decide) h14
  have := xsw14 h0 h1 h2 h3 h4 h5 h6 h7 h8 h9 h10 h11 h12 h13
  omega
theorem xsw16 {x : Int32} (h0 : ¬ x = 0) (h1 : ¬ x = 1) (h2 : ¬ x = 2) (h3 : ¬ x = 3) (h4 : ¬ x = 4) (h5 : ¬ x = 5) (h6 : ¬ x = 6) (h7 : ¬ x = 7) (h8 : ¬ x = 8) (h9 : ¬ x = 9) (h10 : ¬ x = 10) (h11 : ¬ x = 11) (h12 : ¬ x = 12) (h13 : ¬ x = 13) (h14 : ¬ x = 14) (h15 : ¬ x = 15) : x.toInt < 0 ∨ 15 < x.toInt := by
  have := xsw_ne (k := 15) (by decide) h15
  have := xsw15 h0 h1 h2 h3 h4 h5 h6 h7 h8 h9 h10 h11 h12 h13 h14
  omega
theorem xsw17 {x : Int32} (h0 : ¬ x = 0) (h1 : ¬ x = 1) (h2 : ¬ x = 2) (h3 : ¬ x = 3) (h4 : ¬ x = 4) (h5 : ¬ x = 5) (h6 : ¬ x = 6) (h7 : ¬ x = 7) (h8 : ¬ x = 8) (h9 : ¬ x = 9) (h10 : ¬ x = 10) (h11 : ¬ x = 11) (h12 : ¬ x = 12) (h13 : ¬ x = 13) (h14 : ¬ x = 14) (h15 : ¬ x = 15) (h16 : ¬ x = 16) : x.toInt < 0 ∨ 16 < x.toInt := by
  have := xsw_ne (k := 16) (by decide) h16
  have := xsw16 h0 h1 h2 h3 h4 h5 h6 h7 h8 h9 h10 h11 h12 h13 h14 h15
  omega
theorem xsw18 {x : Int32} (h0 : ¬ x = 0) (h1 : ¬ x = 1) (h2 : ¬ x = 2) (h3 : ¬ x = 3) (h4 : ¬ x = 4) (h5 : ¬ x = 5) (h6 : ¬ x = 6) (h7 : ¬ x = 7) (h8 : ¬ x = 8) (h9 : ¬ x = 9) (h10 : ¬ x = 10) (h11 : ¬ x = 11) (h12 : ¬ x = 12) (h13 : ¬ x = 13) (h14 : ¬ x = 14) (h15 : ¬ x = 15) (h16 : ¬ x = 16) (h17 : ¬ x = 17) : x.toInt < 0 ∨ 17 < x.toInt := by
  have := xsw_ne (k := 17) (by decide) h17
  have := xsw17 h0 h1 h2 h3 h4 h5 h6 h7 h8 h9 h10 h11 h12 h13 h14 h15 h16
  omega
theorem xsw19 {x : Int32} (h0 : ¬ x = 0) (h1 : ¬ x = 1) (h2 : ¬ x = 2) (h3 : ¬ x = 3) (h4 : ¬ x = 4) (h5 : ¬ x = 5) (h6 : ¬ x = 6) (h7 : ¬ x = 7) (h8 : ¬ x = 8) (h9 : ¬ x = 9) (h10 : ¬ x = 10) (h11 : ¬ x = 11) (h12 : ¬ x = 12) (h13 : ¬ x = 13) (h14 : ¬ x = 14) (h15 : ¬ x = 15) (h16 : ¬ x = 16) (h17 : ¬ x = 17) (h18 : ¬ x = 18) : x.toInt < 0 ∨ 18 < x.toInt := by
  have := xsw_ne (k := 18) (by decide) h18
  have := xsw18 h0 h1 h2 h3 h4 h5 h6 h7 h8 h9 h10 h11 h12 h13 h14 h15 h16 h17
  omega
theorem xsw20 {x : Int32} (h0 : ¬ x = 0) (h1 : ¬ x = 1) (h2 : ¬ x = 2) (h3 : ¬ x = 3) (h4 : ¬ x = 4) (h5 : ¬ x = 5) (h6 : ¬ x = 6) (h7 : ¬ x = 7) (h8 : ¬ x = 8) (h9 : ¬ x = 9) (h10 : ¬ x = 10) (h11 : ¬ x = 11) (h12 : ¬ x = 12) (h13 : ¬ x = 13) (h14 : ¬ x = 14) (h15 : ¬ x = 15) (h16 : ¬ x = 16) (h17 : ¬ x = 17) (h18 : ¬ x = 18) (h19 : ¬ x = 19) : x.toInt < 0 ∨ 19 < x.toInt := by
  have := xsw_ne (k := 19) (by decide) h19
  have := xsw19 h0 h1 h2 h3 h4 h5 h6 h7 h8 h9 h10 h11 h12 h13 h14 h15 h16 h17 h18
  omega
theorem xsw21 {x : Int32} (h0 : ¬ x = 0) (h1 : ¬ x = 1) (h2 : ¬ x = 2) (h3 : ¬ x = 3) (h4 : ¬ x = 4) (h5 : ¬ x = 5) (h6 : ¬ x = 6) (h7 : ¬ x = 7) (h8 : ¬ x = 8) (h9 : ¬ x = 9) (h10 : ¬ x = 10) (h11 : ¬ x = 11) (h12 : ¬ x = 12) (h13 : ¬ x = 13) (h14 : ¬ x = 14) (h15 : ¬ x = 15) (h16 : ¬ x = 16) (h17 : ¬ x = 17) (h18 : ¬ x = 18) (h19 : ¬ x = 19) (h20 : ¬ x = 20) : x.toInt < 0 ∨ 20 < x.toInt := by
  have := xsw_ne (k := 20) (by decide) h20
  have := xsw20 h0 h1 h2 h3 h4 h5 h6 h7 h8 h9 h10 h11 h12 h13 h14 h15 h16 h17 h18 h19
  omega
def w_L_law_23 (t Ln : Nat) (xs : Nat → Int32) : Nat → List Nat → xG → Nat → Nat → Nat → Int32 → Prop
  | 0, _, _, _, _, _, _ => False
  | n9 + 1, L, g, v1, v2, v3, v4 =>
  if ((Int32.ofNat Ln) - 4) < v4 then
    True
  else
    ∃ x1, (xsc Ln xs v4) = some x1 ∧
    if (x1 &&& 31) = 0 then
      ∃ x3, (xsc Ln xs (v4 + 1)) = some x3 ∧
      w_L_open (fun x5 L5 g5 =>
        ∃ x6, (xsc Ln xs (v4 + 1)) = some x6 ∧
        ∃ u9, (xk g5 9 v2) = some u9 ∧
        ∃ g10, (f_X8_open g5 v2 x6) = some g10 ∧
        ∃ u9, (xk g10 9 v2) = some u9 ∧
        ∃ x13, (f_X8_thrown g10 v2) = some x13 ∧
        if x13 = x5 then
          w_L_law_23 t Ln xs n9 L5 g10 v1 v2 v3 (v4 + 4)
        else
          False
      ) L g v1 x3
    else
    if (x1 &&& 31) = 1 then
      ∃ x14, (xsc Ln xs (v4 + 1)) = some x14 ∧
      ∃ x16, (xsc Ln xs (v4 + 2)) = some x16 ∧
      w_L_input (fun x18 L18 g18 =>
        ∃ x19, (xsc Ln xs (v4 + 1)) = some x19 ∧
        ∃ x21, (xsc Ln xs (v4 + 2)) = some x21 ∧
        ∃ u9, (xk g18 9 v2) = some u9 ∧
        ∃ x25 g26, (f_X8_input g18 v2 x19 x21) = some (x25, g26) ∧
        ∃ u9, (xk g26 9 v2) = some u9 ∧
        ∃ x29, (f_X8_thrown g26 v2) = some x29 ∧
        if x29 = x18 then
          if x18 = 0 then
            ∃ x30, (xa_l g26 v3 0) = some x30 ∧
            if x30 = (Int32.toInt64 x25) then
              w_L_law_23 t Ln xs n9 L18 g26 v1 v2 v3 (v4 + 4)
            else
              False
          else
            w_L_law_23 t Ln xs n9 L18 g26 v1 v2 v3 (v4 + 4)
        else
          False
      ) L g v1 x14 x16 v3
    else
    if (x1 &&& 31) = 2 then
      ∃ x32, (xsc Ln xs (v4 + 1)) = some x32 ∧
      w_L_deliver (fun x34 L34 g34 =>
        ∃ x35, (xsc Ln xs (v4 + 1)) = some x35 ∧
        ∃ u9, (xk g34 9 v2) = some u9 ∧
        ∃ x39 g40, (f_X8_deliver g34 v2 x35) = some (x39, g40) ∧
        ∃ u9, (xk g40 9 v2) = some u9 ∧
        ∃ x43, (f_X8_thrown g40 v2) = some x43 ∧
        if x43 = x34 then
          if x34 = 0 then
            ∃ x44, (xa_l g40 v3 0) = some x44 ∧
            if x39 = 0 then
              if x44 = 0 then
                w_L_law_23 t Ln xs n9 L34 g40 v1 v2 v3 (v4 + 4)
              else
                False
            else
              if x44 = 1 then
                w_L_law_23 t Ln xs n9 L34 g40 v1 v2 v3 (v4 + 4)
              else
                False
          else
            w_L_law_23 t Ln xs n9 L34 g40 v1 v2 v3 (v4 + 4)
        else
          False
      ) L g v1 x32 v3
    else
    if (x1 &&& 31) = 3 then
      ∃ x46, (xsc Ln xs (v4 + 1)) = some x46 ∧
      w_L_drop (fun x48 L48 g48 =>
        ∃ x49, (xsc Ln xs (v4 + 1)) = some x49 ∧
        ∃ u9, (xk g48 9 v2) = some u9 ∧
        ∃ x53 g54, (f_X8_drop g48 v2 x49) = some (x53, g54) ∧
        ∃ u9, (xk g54 9 v2) = some u9 ∧
        ∃ x57, (f_X8_thrown g54 v2) = some x57 ∧
        if x57 = x48 then
          if x48 = 0 then
            ∃ x58, (xa_l g54 v3 0) = some x58 ∧
            if x58 = (Int32.toInt64 x53) then
              w_L_law_23 t Ln xs n9 L48 g54 v1 v2 v3 (v4 + 4)
            else
              False
          else
            w_L_law_23 t Ln xs n9 L48 g54 v1 v2 v3 (v4 + 4)
        else
          False
      ) L g v1 x46 v3
    else
    if (x1 &&& 31) = 4 then
      ∃ x60, (xsc Ln xs (v4 + 1)) = some x60 ∧
      w_L_copy (fun x62 L62 g62 =>
        ∃ x63, (xsc Ln xs (v4 + 1)) = some x63 ∧
        ∃ u9, (xk g62 9 v2) = some u9 ∧
        ∃ x67 g68, (f_X8_copy g62 v2 x63) = some (x67, g68) ∧
        ∃ u9, (xk g68 9 v2) = some u9 ∧
        ∃ x71, (f_X8_thrown g68 v2) = some x71 ∧
        if x71 = x62 then
          if x62 = 0 then
            ∃ x72, (xa_l g68 v3 0) = some x72 ∧
            if x67 = 0 then
              if x72 = 0 then
                w_L_law_23 t Ln xs n9 L62 g68 v1 v2 v3 (v4 + 4)
              else
                False
            else
              if x72 = 1 then
                w_L_law_23 t Ln xs n9 L62 g68 v1 v2 v3 (v4 + 4)
              else
                False
          else
            w_L_law_23 t Ln xs n9 L62 g68 v1 v2 v3 (v4 + 4)
        else
          False
      ) L g v1 x60 v3
    else
    if (x1 &&& 31) = 5 then
      ∃ x74, (xsc Ln xs (v4 + 1)) = some x74 ∧
      ∃ x76, (xsc Ln xs (v4 + 2)) = some x76 ∧
      w_L_spoil (fun x78 L78 g78 =>
        ∃ x79, (xsc Ln xs (v4 + 1)) = some x79 ∧
        ∃ x81, (xsc Ln xs (v4 + 2)) = some x81 ∧
        ∃ u9, (xk g78 9 v2) = some u9 ∧
        ∃ x85 g86, (f_X8_spoil g78 v2 x79 x81) = some (x85, g86) ∧
        ∃ u9, (xk g86 9 v2) = some u9 ∧
        ∃ x89, (f_X8_thrown g86 v2) = some x89 ∧
        if x89 = x78 then
          if x78 = 0 then
            ∃ x90, (xa_l g86 v3 0) = some x90 ∧
            if x90 = (Int32.toInt64 x85) then
              w_L_law_23 t Ln xs n9 L78 g86 v1 v2 v3 (v4 + 4)
            else
              False
          else
            w_L_law_23 t Ln xs n9 L78 g86 v1 v2 v3 (v4 + 4)
        else
          False
      ) L g v1 x74 x76 v3
    else
    if (x1 &&& 31) = 6 then
      ∃ x92, (xsc Ln xs (v4 + 1)) = some x92 ∧
      w_L_forward (fun x94 L94 g94 =>
        ∃ x95, (xsc Ln xs (v4 + 1)) = some x95 ∧
        ∃ u9, (xk g94 9 v2) = some u9 ∧
        ∃ x99 g100, (f_X8_forward g94 v2 x95) = some (x99, g100) ∧
        ∃ u9, (xk g100 9 v2) = some u9 ∧
        ∃ x103, (f_X8_thrown g100 v2) = some x103 ∧
        if x103 = x94 then
          if x94 = 0 then
            ∃ x104, (xa_l g100 v3 0) = some x104 ∧
            if x104 = (Int32.toInt64 x99) then
              w_L_law_23 t Ln xs n9 L94 g100 v1 v2 v3 (v4 + 4)
            else
              False
          else
            w_L_law_23 t Ln xs n9 L94 g100 v1 v2 v3 (v4 + 4)
        else
          False
      ) L g v1 x92 v3
    else
    if (x1 &&& 31) = 7 then
      ∃ x106, (xsc Ln xs (v4 + 1)) = some x106 ∧
      ∃ x108, (xsc Ln xs (v4 + 2)) = some x108 ∧
      ∃ x110, (xsc Ln xs (v4 + 3)) = some x110 ∧
      w_L_lie (fun x112 L112 g112 =>
        ∃ x113, (xsc Ln xs (v4 + 1)) = some x113 ∧
        ∃ x115, (xsc Ln xs (v4 + 2)) = some x115 ∧
        ∃ x117, (xsc Ln xs (v4 + 3)) = some x117 ∧
        ∃ u9, (xk g112 9 v2) = some u9 ∧
        ∃ x121 g122, (f_X8_lie g112 v2 x113 x115 x117) = some (x121, g122) ∧
        ∃ u9, (xk g122 9 v2) = some u9 ∧
        ∃ x125, (f_X8_thrown g122 v2) = some x125 ∧
        if x125 = x112 then
          if x112 = 0 then
            ∃ x126, (xa_l g122 v3 0) = some x126 ∧
            if x126 = (Int32.toInt64 x121) then
              w_L_law_23 t Ln xs n9 L112 g122 v1 v2 v3 (v4 + 4)
            else
              False
          else
            w_L_law_23 t Ln xs n9 L112 g122 v1 v2 v3 (v4 + 4)
        else
          False
      ) L g v1 x106 x108 x110 v3
    else
    if (x1 &&& 31) = 8 then
      ∃ x128, (xsc Ln xs (v4 + 1)) = some x128 ∧
      ∃ x130, (xsc Ln xs (v4 + 2)) = some x130 ∧
      ∃ x132, (xsc Ln xs (v4 + 3)) = some x132 ∧
      w_L_bend (fun x134 L134 g134 =>
        ∃ x135, (xsc Ln xs (v4 + 1)) = some x135 ∧
        ∃ x137, (xsc Ln xs (v4 + 2)) = some x137 ∧
        ∃ x139, (xsc Ln xs (v4 + 3)) = some x139 ∧
        ∃ u9, (xk g134 9 v2) = some u9 ∧
        ∃ x143 g144, (f_X8_bend g134 v2 x135 x137 x139) = some (x143, g144) ∧
        ∃ u9, (xk g144 9 v2) = some u9 ∧
        ∃ x147, (f_X8_thrown g144 v2) = some x147 ∧
        if x147 = x134 then
          if x134 = 0 then
            ∃ x148, (xa_l g144 v3 0) = some x148 ∧
            if x148 = (Int32.toInt64 x143) then
              w_L_law_23 t Ln xs n9 L134 g144 v1 v2 v3 (v4 + 4)
            else
              False
          else
            w_L_law_23 t Ln xs n9 L134 g144 v1 v2 v3 (v4 + 4)
        else
          False
      ) L g v1 x128 x130 x132 v3
    else
    if (x1 &&& 31) = 9 then
      ∃ x150, (xsc Ln xs (v4 + 1)) = some x150 ∧
      ∃ x152, (xsc Ln xs (v4 + 2)) = some x152 ∧
      w_L_cut (fun x154 L154 g154 =>
        ∃ x155, (xsc Ln xs (v4 + 1)) = some x155 ∧
        ∃ x157, (xsc Ln xs (v4 + 2)) = some x157 ∧
        ∃ u9, (xk g154 9 v2) = some u9 ∧
        ∃ x161 g162, (f_X8_cut g154 v2 x155 x157) = some (x161, g162) ∧
        ∃ u9, (xk g162 9 v2) = some u9 ∧
        ∃ x165, (f_X8_thrown g162 v2) = some x165 ∧
        if x165 = x154 then
          if x154 = 0 then
            ∃ x166, (xa_l g162 v3 0) = some x166 ∧
            if x166 = (Int32.toInt64 x161) then
              w_L_law_23 t Ln xs n9 L154 g162 v1 v2 v3 (v4 + 4)
            else
              False
          else
            w_L_law_23 t Ln xs n9 L154 g162 v1 v2 v3 (v4 + 4)
        else
          False
      ) L g v1 x150 x152 v3
    else
    if (x1 &&& 31) = 10 then
      ∃ x168, (xsc Ln xs (v4 + 1)) = some x168 ∧
      ∃ x170, (xsc Ln xs (v4 + 2)) = some x170 ∧
      if x170 = 0 then
        w_L_hide (fun x172 L172 g172 =>
          ∃ x173, (xsc Ln xs (v4 + 1)) = some x173 ∧
          ∃ x175, (xsc Ln xs (v4 + 2)) = some x175 ∧
          if x175 = 0 then
            ∃ u9, (xk g172 9 v2) = some u9 ∧
            ∃ x179 g180, (f_X8_hide g172 v2 x173 0) = some (x179, g180) ∧
            ∃ u9, (xk g180 9 v2) = some u9 ∧
            ∃ x183, (f_X8_thrown g180 v2) = some x183 ∧
            if x183 = x172 then
              if x172 = 0 then
                ∃ x184, (xa_l g180 v3 0) = some x184 ∧
                if x179 = 0 then
                  if x184 = 0 then
                    w_L_law_23 t Ln xs n9 L172 g180 v1 v2 v3 (v4 + 4)
                  else
                    False
                else
                  if x184 = 1 then
                    w_L_law_23 t Ln xs n9 L172 g180 v1 v2 v3 (v4 + 4)
                  else
                    False
              else
                w_L_law_23 t Ln xs n9 L172 g180 v1 v2 v3 (v4 + 4)
            else
              False
          else
            ∃ u9, (xk g172 9 v2) = some u9 ∧
            ∃ x188 g189, (f_X8_hide g172 v2 x173 1) = some (x188, g189) ∧
            ∃ u9, (xk g189 9 v2) = some u9 ∧
            ∃ x192, (f_X8_thrown g189 v2) = some x192 ∧
            if x192 = x172 then
              if x172 = 0 then
                ∃ x193, (xa_l g189 v3 0) = some x193 ∧
                if x188 = 0 then
                  if x193 = 0 then
                    w_L_law_23 t Ln xs n9 L172 g189 v1 v2 v3 (v4 + 4)
                  else
                    False
                else
                  if x193 = 1 then
                    w_L_law_23 t Ln xs n9 L172 g189 v1 v2 v3 (v4 + 4)
                  else
                    False
              else
                w_L_law_23 t Ln xs n9 L172 g189 v1 v2 v3 (v4 + 4)
            else
              False
        ) L g v1 x168 0 v3
      else
        w_L_hide (fun x195 L195 g195 =>
          ∃ x196, (xsc Ln xs (v4 + 1)) = some x196 ∧
          ∃ x198, (xsc Ln xs (v4 + 2)) = some x198 ∧
          if x198 = 0 then
            ∃ u9, (xk g195 9 v2) = some u9 ∧
            ∃ x202 g203, (f_X8_hide g195 v2 x196 0) = some (x202, g203) ∧
            ∃ u9, (xk g203 9 v2) = some u9 ∧
            ∃ x206, (f_X8_thrown g203 v2) = some x206 ∧
            if x206 = x195 then
              if x195 = 0 then
                ∃ x207, (xa_l g203 v3 0) = some x207 ∧
                if x202 = 0 then
                  if x207 = 0 then
                    w_L_law_23 t Ln xs n9 L195 g203 v1 v2 v3 (v4 + 4)
                  else
                    False
                else
                  if x207 = 1 then
                    w_L_law_23 t Ln xs n9 L195 g203 v1 v2 v3 (v4 + 4)
                  else
                    False
              else
                w_L_law_23 t Ln xs n9 L195 g203 v1 v2 v3 (v4 + 4)
            else
              False
          else
            ∃ u9, (xk g195 9 v2) = some u9 ∧
            ∃ x211 g212, (f_X8_hide g195 v2 x196 1) = some (x211, g212) ∧
            ∃ u9, (xk g212 9 v2) = some u9 ∧
            ∃ x215, (f_X8_thrown g212 v2) = some x215 ∧
            if x215 = x195 then
              if x195 = 0 then
                ∃ x216, (xa_l g212 v3 0) = some x216 ∧
                if x211 = 0 then
                  if x216 = 0 then
                    w_L_law_23 t Ln xs n9 L195 g212 v1 v2 v3 (v4 + 4)
                  else
                    False
                else
                  if x216 = 1 then
                    w_L_law_23 t Ln xs n9 L195 g212 v1 v2 v3 (v4 + 4)
                  else
                    False
              else
                w_L_law_23 t Ln xs n9 L195 g212 v1 v2 v3 (v4 + 4)
            else
              False
        ) L g v1 x168 1 v3
    else
    if (x1 &&& 31) = 11 then
      ∃ x218, (xsc Ln xs (v4 + 1)) = some x218 ∧
      ∃ x220, (xsc Ln xs (v4 + 2)) = some x220 ∧
      w_L_audit t (fun x222 L222 g222 =>
        ∃ x223, (xsc Ln xs (v4 + 1)) = some x223 ∧
        ∃ x225, (xsc Ln xs (v4 + 2)) = some x225 ∧
        ∃ u9, (xk g222 9 v2) = some u9 ∧
        ∃ x229 g230, (f_X8_audit g222 v2 x223 x225) = some (x229, g230) ∧
        ∃ u9, (xk g230 9 v2) = some u9 ∧
        ∃ x233, (f_X8_thrown g230 v2) = some x233 ∧
        if x233 = x222 then
          if x222 = 0 then
            ∃ x234, (xa_l g230 v3 0) = some x234 ∧
            if x234 = (Int32.toInt64 x229) then
              w_L_law_23 t Ln xs n9 L222 g230 v1 v2 v3 (v4 + 4)
            else
              False
          else
            w_L_law_23 t Ln xs n9 L222 g230 v1 v2 v3 (v4 + 4)
        else
          False
      ) L g v1 x218 x220 v3
    else
    if (x1 &&& 31) = 12 then
      ∃ x236, (xsc Ln xs (v4 + 1)) = some x236 ∧
      ∃ x238, (xsc Ln xs (v4 + 2)) = some x238 ∧
      w_L_judge (fun x240 L240 g240 =>
        ∃ x241, (xsc Ln xs (v4 + 1)) = some x241 ∧
        ∃ x243, (xsc Ln xs (v4 + 2)) = some x243 ∧
        ∃ u9, (xk g240 9 v2) = some u9 ∧
        ∃ x247 g248, (f_X8_judge g240 v2 x241 x243) = some (x247, g248) ∧
        ∃ u9, (xk g248 9 v2) = some u9 ∧
        ∃ x251, (f_X8_thrown g248 v2) = some x251 ∧
        if x251 = x240 then
          if x240 = 0 then
            ∃ x252, (xa_l g248 v3 0) = some x252 ∧
            if x247 = 0 then
              if x252 = 0 then
                w_L_law_23 t Ln xs n9 L240 g248 v1 v2 v3 (v4 + 4)
              else
                False
            else
              if x252 = 1 then
                w_L_law_23 t Ln xs n9 L240 g248 v1 v2 v3 (v4 + 4)
              else
                False
          else
            w_L_law_23 t Ln xs n9 L240 g248 v1 v2 v3 (v4 + 4)
        else
          False
      ) L g v1 x236 x238 v3
    else
    if (x1 &&& 31) = 13 then
      ∃ x254, (xsc Ln xs (v4 + 1)) = some x254 ∧
      w_L_holds (fun x256 L256 g256 =>
        ∃ x257, (xsc Ln xs (v4 + 1)) = some x257 ∧
        ∃ u9, (xk g256 9 v2) = some u9 ∧
        ∃ x261 g262, (f_X8_holds g256 v2 x257) = some (x261, g262) ∧
        ∃ u9, (xk g262 9 v2) = some u9 ∧
        ∃ x265, (f_X8_thrown g262 v2) = some x265 ∧
        if x265 = x256 then
          if x256 = 0 then
            ∃ x266, (xa_l g262 v3 0) = some x266 ∧
            if x261 = 0 then
              if x266 = 0 then
                w_L_law_23 t Ln xs n9 L256 g262 v1 v2 v3 (v4 + 4)
              else
                False
            else
              if x266 = 1 then
                w_L_law_23 t Ln xs n9 L256 g262 v1 v2 v3 (v4 + 4)
              else
                False
          else
            w_L_law_23 t Ln xs n9 L256 g262 v1 v2 v3 (v4 + 4)
        else
          False
      ) L g v1 x254 v3
    else
    if (x1 &&& 31) = 14 then
      ∃ x268, (xsc Ln xs (v4 + 1)) = some x268 ∧
      ∃ x270, (xsc Ln xs (v4 + 2)) = some x270 ∧
      w_L_byteOf (fun x272 L272 g272 =>
        ∃ x273, (xsc Ln xs (v4 + 1)) = some x273 ∧
        ∃ x275, (xsc Ln xs (v4 + 2)) = some x275 ∧
        ∃ u9, (xk g272 9 v2) = some u9 ∧
        ∃ x279 g280, (f_X8_byteOf g272 v2 x273 x275) = some (x279, g280) ∧
        ∃ u9, (xk g280 9 v2) = some u9 ∧
        ∃ x283, (f_X8_thrown g280 v2) = some x283 ∧
        if x283 = x272 then
          if x272 = 0 then
            ∃ x284, (xa_l g280 v3 0) = some x284 ∧
            if x284 = (Int32.toInt64 x279) then
              w_L_law_23 t Ln xs n9 L272 g280 v1 v2 v3 (v4 + 4)
            else
              False
          else
            w_L_law_23 t Ln xs n9 L272 g280 v1 v2 v3 (v4 + 4)
        else
          False
      ) L g v1 x268 x270 v3
    else
    if (x1 &&& 31) = 15 then
      ∃ x286, (xsc Ln xs (v4 + 1)) = some x286 ∧
      ∃ x288, (xsc Ln xs (v4 + 2)) = some x288 ∧
      ∃ x290, (xsc Ln xs (v4 + 3)) = some x290 ∧
      w_L_smudge (fun x292 L292 g292 =>
        ∃ x293, (xsc Ln xs (v4 + 1)) = some x293 ∧
        ∃ x295, (xsc Ln xs (v4 + 2)) = some x295 ∧
        ∃ x297, (xsc Ln xs (v4 + 3)) = some x297 ∧
        ∃ u9, (xk g292 9 v2) = some u9 ∧
        ∃ x301 g302, (f_X8_smudge g292 v2 x293 x295 x297) = some (x301, g302) ∧
        ∃ u9, (xk g302 9 v2) = some u9 ∧
        ∃ x305, (f_X8_thrown g302 v2) = some x305 ∧
        if x305 = x292 then
          if x292 = 0 then
            ∃ x306, (xa_l g302 v3 0) = some x306 ∧
            if x306 = (Int32.toInt64 x301) then
              w_L_law_23 t Ln xs n9 L292 g302 v1 v2 v3 (v4 + 4)
            else
              False
          else
            w_L_law_23 t Ln xs n9 L292 g302 v1 v2 v3 (v4 + 4)
        else
          False
      ) L g v1 x286 x288 x290 v3
    else
    if (x1 &&& 31) = 16 then
      ∃ x308, (xsc Ln xs (v4 + 1)) = some x308 ∧
      ∃ x310, (xsc Ln xs (v4 + 2)) = some x310 ∧
      w_L_verdict (fun x312 L312 g312 =>
        ∃ x313, (xsc Ln xs (v4 + 1)) = some x313 ∧
        ∃ x315, (xsc Ln xs (v4 + 2)) = some x315 ∧
        ∃ u9, (xk g312 9 v2) = some u9 ∧
        ∃ x319 g320, (f_X8_verdict g312 v2 x313 x315) = some (x319, g320) ∧
        ∃ u9, (xk g320 9 v2) = some u9 ∧
        ∃ x323, (f_X8_thrown g320 v2) = some x323 ∧
        if x323 = x312 then
          if x312 = 0 then
            ∃ x324, (xa_l g320 v3 0) = some x324 ∧
            if x324 = (Int32.toInt64 x319) then
              w_L_law_23 t Ln xs n9 L312 g320 v1 v2 v3 (v4 + 4)
            else
              False
          else
            w_L_law_23 t Ln xs n9 L312 g320 v1 v2 v3 (v4 + 4)
        else
          False
      ) L g v1 x308 x310 v3
    else
    if (x1 &&& 31) = 17 then
      ∃ x326, (xsc Ln xs (v4 + 1)) = some x326 ∧
      ∃ x328, (xsc Ln xs (v4 + 2)) = some x328 ∧
      ∃ x330, (xsc Ln xs (v4 + 3)) = some x330 ∧
      w_L_entry (fun x332 L332 g332 =>
        ∃ x333, (xsc Ln xs (v4 + 1)) = some x333 ∧
        ∃ x335, (xsc Ln xs (v4 + 2)) = some x335 ∧
        ∃ x337, (xsc Ln xs (v4 + 3)) = some x337 ∧
        ∃ u9, (xk g332 9 v2) = some u9 ∧
        ∃ x341 g342, (f_X8_entry g332 v2 x333 x335 x337) = some (x341, g342) ∧
        ∃ u9, (xk g342 9 v2) = some u9 ∧
        ∃ x345, (f_X8_thrown g342 v2) = some x345 ∧
        if x345 = x332 then
          if x332 = 0 then
            ∃ x346, (xa_l g342 v3 0) = some x346 ∧
            if x346 = (Int32.toInt64 x341) then
              w_L_law_23 t Ln xs n9 L332 g342 v1 v2 v3 (v4 + 4)
            else
              False
          else
            w_L_law_23 t Ln xs n9 L332 g342 v1 v2 v3 (v4 + 4)
        else
          False
      ) L g v1 x326 x328 x330 v3
    else
    if (x1 &&& 31) = 18 then
      ∃ x348, (xsc Ln xs (v4 + 1)) = some x348 ∧
      ∃ x350, (xsc Ln xs (v4 + 2)) = some x350 ∧
      w_L_head (fun x352 L352 g352 =>
        ∃ x353, (xsc Ln xs (v4 + 1)) = some x353 ∧
        ∃ x355, (xsc Ln xs (v4 + 2)) = some x355 ∧
        ∃ u9, (xk g352 9 v2) = some u9 ∧
        ∃ x359 g360, (f_X8_head g352 v2 x353 x355) = some (x359, g360) ∧
        ∃ u9, (xk g360 9 v2) = some u9 ∧
        ∃ x363, (f_X8_thrown g360 v2) = some x363 ∧
        if x363 = x352 then
          if x352 = 0 then
            ∃ x364, (xa_l g360 v3 0) = some x364 ∧
            if x364 = x359 then
              w_L_law_23 t Ln xs n9 L352 g360 v1 v2 v3 (v4 + 4)
            else
              False
          else
            w_L_law_23 t Ln xs n9 L352 g360 v1 v2 v3 (v4 + 4)
        else
          False
      ) L g v1 x348 x350 v3
    else
    if (x1 &&& 31) = 19 then
      ∃ x366, (xsc Ln xs (v4 + 1)) = some x366 ∧
      ∃ x368, (xsc Ln xs (v4 + 2)) = some x368 ∧
      w_L_about (fun x370 L370 g370 =>
        ∃ x371, (xsc Ln xs (v4 + 1)) = some x371 ∧
        ∃ x373, (xsc Ln xs (v4 + 2)) = some x373 ∧
        ∃ u9, (xk g370 9 v2) = some u9 ∧
        ∃ x377 g378, (f_X8_about g370 v2 x371 x373) = some (x377, g378) ∧
        ∃ u9, (xk g378 9 v2) = some u9 ∧
        ∃ x381, (f_X8_thrown g378 v2) = some x381 ∧
        if x381 = x370 then
          if x370 = 0 then
            ∃ x382, (xa_l g378 v3 0) = some x382 ∧
            if x382 = (Int32.toInt64 x377) then
              w_L_law_23 t Ln xs n9 L370 g378 v1 v2 v3 (v4 + 4)
            else
              False
          else
            w_L_law_23 t Ln xs n9 L370 g378 v1 v2 v3 (v4 + 4)
        else
          False
      ) L g v1 x366 x368 v3
    else
    if (x1 &&& 31) = 20 then
      ∃ x384, (xsc Ln xs (v4 + 1)) = some x384 ∧
      w_L_total (fun x386 L386 g386 =>
        ∃ x387, (xsc Ln xs (v4 + 1)) = some x387 ∧
        ∃ u9, (xk g386 9 v2) = some u9 ∧
        ∃ x391 g392, (f_X8_total g386 v2 x387) = some (x391, g392) ∧
        ∃ u9, (xk g392 9 v2) = some u9 ∧
        ∃ x395, (f_X8_thrown g392 v2) = some x395 ∧
        if x395 = x386 then
          if x386 = 0 then
            ∃ x396, (xa_l g392 v3 0) = some x396 ∧
            if x396 = (Int32.toInt64 x391) then
              w_L_law_23 t Ln xs n9 L386 g392 v1 v2 v3 (v4 + 4)
            else
              False
          else
            w_L_law_23 t Ln xs n9 L386 g392 v1 v2 v3 (v4 + 4)
        else
          False
      ) L g v1 x384 v3
    else
    w_L_law_23 t Ln xs n9 L g v1 v2 v3 (v4 + 4)
set_option maxHeartbeats 40000000 in
set_option maxRecDepth 100000 in
theorem law_loop {p : Program} {l : Launch} {e : Env} {s : State} {m : MethodId} {below : List Frame} {meth : Method} {c : Code} {Q : State → Prop} (hst : l.stackTraces = false) {D : va_G} {cy : Nat → ClassId} {t b Ln : Nat} {xs : Nat → Int32} {args : Array Value} (S : CallFix p m c code 8 s args wsL_law RL) (hX : va_X b Ln xs s s.heap) (hbl : b < s.heap.size) {A : Nat → Prop} (hA : ∀ q, s.heap.size ≤ q → A q) (hbA : ¬ A b) (hN : xE s) (hZ : xZ A s s.heap) (hT : xS t A s s.heap)
    (lret : ∀ (H : Heap) (locs : List Loc) (cz sl : Nat) (ls : Array Slot) (pc : Nat) {L : List Nat} {g : xG}, xOK D cy A s.heap s L g H locs → decode code pc = .ok (.ireturn, 1) → cz ≤ 600128 ∧ sl ≤ 7301098 → W p l e room_1 s m args below meth c H locs cz sl Q (F0 m pc ls [.int 1])) :
    ∀ (n9 : Nat) (L : List Nat) (g : xG) (v1 : Nat) (v2 : Nat) (v3 : Nat) (v4 : Int32), w_L_law_23 t Ln xs n9 L g v1 v2 v3 v4 → ∀ (cz sl : Nat), cz + 10 * n9 ≤ 600128 → sl + 2132 * n9 ≤ 7301098 → ∀ (H : Heap) (locs : List Loc) (ls : Array Slot), xOK D cy A s.heap s L g H locs → lv_has ls 8 [(0, .ref b), (1, .ref v1), (2, .ref v2), (3, .ref v3), (4, .int v4)] → W p l e room_1 s m args below meth c H locs cz sl Q (F0 m 23 ls []) := by
  intro n9
  induction n9 with
  | zero => intro L g v1 v2 v3 v4 h; exact h.elim
  | succ n9 ih =>
    intro L g v1 v2 v3 v4 h cz sl hcz hsl H locs ls w hl
    rw [w_L_law_23] at h
    refine lv_iload S.1 S.2.1 dL_law_23 (lv_at hl 4 rfl) ?_
    refine lv_aload_n S.1 S.2.1 dL_law_25 rfl (lv_at hl 0 rfl) ?_
    refine va_slen S.1 S.2.1 hX hbl hbA w.2.2.2.1 dL_law_26 ?_
    refine lv_iconst (v := 4) S.1 S.2.1 dL_law_27 (by decide) ?_
    refine lv_isub S.1 S.2.1 dL_law_28 ?_
    refine lv_icmp_gt (tgt := 1564) S.1 S.2.1 dL_law_29 (by decide) (fun c29 => ?_) (fun c29 => ?_)
    · rw [if_pos c29] at h
      refine lv_iconst (v := 1) S.1 S.2.1 dL_law_1564 (by decide) ?_
      exact lret _ _ _ _ _ _ w dL_law_1565 ⟨show _ ≤ 600128 from by omega, show _ ≤ 7301098 from by omega⟩
    · rw [if_neg c29] at h
      refine lv_aload_n S.1 S.2.1 dL_law_32 rfl (lv_at hl 0 rfl) ?_
      refine lv_iload S.1 S.2.1 dL_law_33 (lv_at hl 4 rfl) ?_
      obtain ⟨x1, h2, h⟩ := h
      refine xr_sld S w hX hbl hbA h2 dL_law_35 ?_
      refine lv_bipush (v := 31) S.1 S.2.1 dL_law_36 (by decide) ?_
      refine lv_iand S.1 S.2.1 dL_law_38 ?_
      by_cases c39_0 : (x1 &&& 31) = 0
      · rw [if_pos c39_0] at h
        rw [c39_0]
        refine lv_tableIn (off := 97) (tgt := 136) S.1 S.2.1 dL_law_39 (by decide) (by decide) (by decide) (by decide) ?_
        refine lv_aload_n S.1 S.2.1 dL_law_136 rfl (lv_at hl 1 rfl) ?_
        refine lv_aload_n S.1 S.2.1 dL_law_137 rfl (lv_at hl 0 rfl) ?_
        refine lv_iload S.1 S.2.1 dL_law_138 (lv_at hl 4 rfl) ?_
        refine lv_iconst (v := 1) S.1 S.2.1 dL_law_140 (by decide) ?_
        refine lv_iadd S.1 S.2.1 dL_law_141 ?_
        obtain ⟨x3, h4, h⟩ := h
        refine xr_sld S w hX hbl hbA h4 dL_law_142 ?_
        refine xr_callYSW_i S w hA hN hZ hT (c_L_open l hst D cy t L g v1 x3 _ h) (vx_cwSW 2 S.2.2.2.2 gL_law_L_open rfl rfl rfl (by decide +kernel) ⟨Nat.le_of_ble_eq_true rfl, Nat.le_of_ble_eq_true rfl⟩) rfl rfl hl.1 (Nat.le_of_ble_eq_true rfl) dL_law_143 ⟨show _ ≤ 600128 from by omega, show _ ≤ 7301098 from by omega⟩ (fun x5 L5 g5 H locs h w => ?_)
        refine lv_istore (lv' := [(5, .int x5), (0, .ref b), (1, .ref v1), (2, .ref v2), (3, .ref v3), (4, .int v4)]) S.1 S.2.1 dL_law_146 hl (by decide) rfl (fun ls hl => ?_)
        refine lv_aload_n S.1 S.2.1 dL_law_148 rfl (lv_at hl 3 rfl) ?_
        refine lv_aload_n S.1 S.2.1 dL_law_149 rfl (lv_at hl 1 rfl) ?_
        refine lv_iload S.1 S.2.1 dL_law_150 (lv_at hl 5 rfl) ?_
        refine lv_iconst (v := 1) S.1 S.2.1 dL_law_152 (by decide) ?_
        refine lv_iadd S.1 S.2.1 dL_law_153 ?_
        obtain ⟨x6, h7, h⟩ := h
        refine xr_sld S w hX hbl hbA h7 dL_law_154 ?_
        obtain ⟨_, h8, h⟩ := h
        obtain ⟨g10, h9, h⟩ := h
        refine xr_callV_v S w hA hN 9 rfl h8 (c_X8_open l D cy L5 g5 v2 x6 h9) (cwV 1 S.2.2.2.2 gL_law_X8_open rfl rfl rfl (by decide +kernel) ⟨Nat.le_of_ble_eq_true rfl, Nat.le_of_ble_eq_true rfl⟩) rfl rfl hl.1 (Nat.le_of_ble_eq_true rfl) dL_law_155 ⟨show _ ≤ 600128 from by omega, show _ ≤ 7301098 from by omega⟩ (fun H locs w => ?_)
        refine lv_aload_n S.1 S.2.1 dL_law_158 rfl (lv_at hl 3 rfl) ?_
        obtain ⟨_, h11, h⟩ := h
        obtain ⟨x13, h12, h⟩ := h
        refine xr_callV_i S w hA hN 9 rfl h11 (c_X8_thrown l D cy L5 g10 v2 h12) (cwV 0 S.2.2.2.2 gL_law_X8_thrown rfl rfl rfl (by decide +kernel) ⟨Nat.le_of_ble_eq_true rfl, Nat.le_of_ble_eq_true rfl⟩) rfl rfl hl.1 (Nat.le_of_ble_eq_true rfl) dL_law_159 ⟨show _ ≤ 600128 from by omega, show _ ≤ 7301098 from by omega⟩ (fun H locs w => ?_)
        refine lv_iload S.1 S.2.1 dL_law_162 (lv_at hl 0 rfl) ?_
        refine lv_icmp_eq (tgt := 169) S.1 S.2.1 dL_law_164 (by decide) (fun c164 => ?_) (fun c164 => ?_)
        · rw [if_pos c164] at h
          refine lv_goto (tgt := 1558) S.1 S.2.1 dL_law_169 (by decide) ?_
          refine lv_iinc (v := (v4 + 4)) (lv' := [(4, .int (v4 + 4)), (5, .int x5), (0, .ref b), (1, .ref v1), (2, .ref v2), (3, .ref v3)]) S.1 S.2.1 dL_law_1558 hl (k := 5) rfl rfl (by decide) rfl (fun ls hl => ?_)
          refine lv_goto (tgt := 23) S.1 S.2.1 dL_law_1561 (by decide) ?_
          exact ih L5 g10 v1 v2 v3 (v4 + 4) h _ _ (by omega) (by omega) _ _ _ w (lv_sub hl [2, 3, 4, 5, 0] rfl)
        · rw [if_neg c164] at h
          refine lv_iconst (v := 0) S.1 S.2.1 dL_law_167 (by decide) ?_
          exact h.elim
      rw [if_neg c39_0] at h
      by_cases c39_1 : (x1 &&& 31) = 1
      · rw [if_pos c39_1] at h
        rw [c39_1]
        refine lv_tableIn (off := 133) (tgt := 172) S.1 S.2.1 dL_law_39 (by decide) (by decide) (by decide) (by decide) ?_
        refine lv_aload_n S.1 S.2.1 dL_law_172 rfl (lv_at hl 1 rfl) ?_
        refine lv_aload_n S.1 S.2.1 dL_law_173 rfl (lv_at hl 0 rfl) ?_
        refine lv_iload S.1 S.2.1 dL_law_174 (lv_at hl 4 rfl) ?_
        refine lv_iconst (v := 1) S.1 S.2.1 dL_law_176 (by decide) ?_
        refine lv_iadd S.1 S.2.1 dL_law_177 ?_
        obtain ⟨x14, h15, h⟩ := h
        refine xr_sld S w hX hbl hbA h15 dL_law_178 ?_
        refine lv_aload_n S.1 S.2.1 dL_law_179 rfl (lv_at hl 0 rfl) ?_
        refine lv_iload S.1 S.2.1 dL_law_180 (lv_at hl 4 rfl) ?_
        refine lv_iconst (v := 2) S.1 S.2.1 dL_law_182 (by decide) ?_
        refine lv_iadd S.1 S.2.1 dL_law_183 ?_
        obtain ⟨x16, h17, h⟩ := h
        refine xr_sld S w hX hbl hbA h17 dL_law_184 ?_
        refine lv_aload_n S.1 S.2.1 dL_law_185 rfl (lv_at hl 3 rfl) ?_
        refine xr_callYSW_i S w hA hN hZ hT (c_L_input l hst D cy t L g v1 x14 x16 v3 _ h) (vx_cwSW 4 S.2.2.2.2 gL_law_L_input rfl rfl rfl (by decide +kernel) ⟨Nat.le_of_ble_eq_true rfl, Nat.le_of_ble_eq_true rfl⟩) rfl rfl hl.1 (Nat.le_of_ble_eq_true rfl) dL_law_186 ⟨show _ ≤ 600128 from by omega, show _ ≤ 7301098 from by omega⟩ (fun x18 L18 g18 H locs h w => ?_)
        refine lv_istore (lv' := [(5, .int x18), (0, .ref b), (1, .ref v1), (2, .ref v2), (3, .ref v3), (4, .int v4)]) S.1 S.2.1 dL_law_189 hl (by decide) rfl (fun ls hl => ?_)
        refine lv_aload_n S.1 S.2.1 dL_law_191 rfl (lv_at hl 3 rfl) ?_
        refine lv_aload_n S.1 S.2.1 dL_law_192 rfl (lv_at hl 1 rfl) ?_
        refine lv_iload S.1 S.2.1 dL_law_193 (lv_at hl 5 rfl) ?_
        refine lv_iconst (v := 1) S.1 S.2.1 dL_law_195 (by decide) ?_
        refine lv_iadd S.1 S.2.1 dL_law_196 ?_
        obtain ⟨x19, h20, h⟩ := h
        refine xr_sld S w hX hbl hbA h20 dL_law_197 ?_
        refine lv_aload_n S.1 S.2.1 dL_law_198 rfl (lv_at hl 1 rfl) ?_
        refine lv_iload S.1 S.2.1 dL_law_199 (lv_at hl 5 rfl) ?_
        refine lv_iconst (v := 2) S.1 S.2.1 dL_law_201 (by decide) ?_
        refine lv_iadd S.1 S.2.1 dL_law_202 ?_
        obtain ⟨x21, h22, h⟩ := h
        refine xr_sld S w hX hbl hbA h22 dL_law_203 ?_
        obtain ⟨_, h23, h⟩ := h
        obtain ⟨x25, g26, h24, h⟩ := h
        refine xr_callV_i S w hA hN 9 rfl h23 (c_X8_input l D cy L18 g18 v2 x19 x21 h24) (cwV 2 S.2.2.2.2 gL_law_X8_input rfl rfl rfl (by decide +kernel) ⟨Nat.le_of_ble_eq_true rfl, Nat.le_of_ble_eq_true rfl⟩) rfl rfl hl.1 (Nat.le_of_ble_eq_true rfl) dL_law_204 ⟨show _ ≤ 600128 from by omega, show _ ≤ 7301098 from by omega⟩ (fun H locs w => ?_)
        refine lv_istore (lv' := [(6, .int x25), (5, .int x18), (0, .ref b), (1, .ref v1), (2, .ref v2), (3, .ref v3), (4, .int v4)]) S.1 S.2.1 dL_law_207 hl (by decide) rfl (fun ls hl => ?_)
        refine lv_aload_n S.1 S.2.1 dL_law_209 rfl (lv_at hl 4 rfl) ?_
        obtain ⟨_, h27, h⟩ := h
        obtain ⟨x29, h28, h⟩ := h
        refine xr_callV_i S w hA hN 9 rfl h27 (c_X8_thrown l D cy L18 g26 v2 h28) (cwV 0 S.2.2.2.2 gL_law_X8_thrown rfl rfl rfl (by decide +kernel) ⟨Nat.le_of_ble_eq_true rfl, Nat.le_of_ble_eq_true rfl⟩) rfl rfl hl.1 (Nat.le_of_ble_eq_true rfl) dL_law_210 ⟨show _ ≤ 600128 from by omega, show _ ≤ 7301098 from by omega⟩ (fun H locs w => ?_)
        refine lv_iload S.1 S.2.1 dL_law_213 (lv_at hl 1 rfl) ?_
        refine lv_icmp_eq (tgt := 220) S.1 S.2.1 dL_law_215 (by decide) (fun c215 => ?_) (fun c215 => ?_)
        · rw [if_pos c215] at h
          refine lv_iload S.1 S.2.1 dL_law_220 (lv_at hl 1 rfl) ?_
          refine lv_if_ne (tgt := 237) S.1 S.2.1 dL_law_222 (by decide) (fun c222 => ?_) (fun c222 => ?_)
          · rw [if_neg c222] at h
            refine lv_goto (tgt := 1558) S.1 S.2.1 dL_law_237 (by decide) ?_
            refine lv_iinc (v := (v4 + 4)) (lv' := [(4, .int (v4 + 4)), (6, .int x25), (5, .int x18), (0, .ref b), (1, .ref v1), (2, .ref v2), (3, .ref v3)]) S.1 S.2.1 dL_law_1558 hl (k := 6) rfl rfl (by decide) rfl (fun ls hl => ?_)
            refine lv_goto (tgt := 23) S.1 S.2.1 dL_law_1561 (by decide) ?_
            exact ih L18 g26 v1 v2 v3 (v4 + 4) h _ _ (by omega) (by omega) _ _ _ w (lv_sub hl [3, 4, 5, 6, 0] rfl)
          · rw [if_pos c222] at h
            refine lv_aload_n S.1 S.2.1 dL_law_225 rfl (lv_at hl 5 rfl) ?_
            refine lv_iconst (v := 0) S.1 S.2.1 dL_law_226 (by decide) ?_
            obtain ⟨x30, h31, h⟩ := h
            refine xr_lald S w h31 dL_law_227 ?_
            refine lv_iload S.1 S.2.1 dL_law_228 (lv_at hl 0 rfl) ?_
            refine lv_i2l (v := (Int32.toInt64 x25)) S.1 S.2.1 dL_law_230 rfl ?_
            refine xr_lceq (tgt := 237) S dL_law_231 dL_law_232 (by decide) (fun c231 => ?_) (fun c231 => ?_)
            · rw [if_pos c231] at h
              refine lv_goto (tgt := 1558) S.1 S.2.1 dL_law_237 (by decide) ?_
              refine lv_iinc (v := (v4 + 4)) (lv' := [(4, .int (v4 + 4)), (6, .int x25), (5, .int x18), (0, .ref b), (1, .ref v1), (2, .ref v2), (3, .ref v3)]) S.1 S.2.1 dL_law_1558 hl (k := 6) rfl rfl (by decide) rfl (fun ls hl => ?_)
              refine lv_goto (tgt := 23) S.1 S.2.1 dL_law_1561 (by decide) ?_
              exact ih L18 g26 v1 v2 v3 (v4 + 4) h _ _ (by omega) (by omega) _ _ _ w (lv_sub hl [3, 4, 5, 6, 0] rfl)
            · rw [if_neg c231] at h
              refine lv_iconst (v := 0) S.1 S.2.1 dL_law_235 (by decide) ?_
              exact h.elim
        · rw [if_neg c215] at h
          refine lv_iconst (v := 0) S.1 S.2.1 dL_law_218 (by decide) ?_
          exact h.elim
      rw [if_neg c39_1] at h
      by_cases c39_2 : (x1 &&& 31) = 2
      · rw [if_pos c39_2] at h
        rw [c39_2]
        refine lv_tableIn (off := 201) (tgt := 240) S.1 S.2.1 dL_law_39 (by decide) (by decide) (by decide) (by decide) ?_
        refine lv_aload_n S.1 S.2.1 dL_law_240 rfl (lv_at hl 1 rfl) ?_
        refine lv_aload_n S.1 S.2.1 dL_law_241 rfl (lv_at hl 0 rfl) ?_
        refine lv_iload S.1 S.2.1 dL_law_242 (lv_at hl 4 rfl) ?_
        refine lv_iconst (v := 1) S.1 S.2.1 dL_law_244 (by decide) ?_
        refine lv_iadd S.1 S.2.1 dL_law_245 ?_
        obtain ⟨x32, h33, h⟩ := h
        refine xr_sld S w hX hbl hbA h33 dL_law_246 ?_
        refine lv_aload_n S.1 S.2.1 dL_law_247 rfl (lv_at hl 3 rfl) ?_
        refine xr_callYSW_i S w hA hN hZ hT (c_L_deliver l hst D cy t L g v1 x32 v3 _ h) (vx_cwSW 3 S.2.2.2.2 gL_law_L_deliver rfl rfl rfl (by decide +kernel) ⟨Nat.le_of_ble_eq_true rfl, Nat.le_of_ble_eq_true rfl⟩) rfl rfl hl.1 (Nat.le_of_ble_eq_true rfl) dL_law_248 ⟨show _ ≤ 600128 from by omega, show _ ≤ 7301098 from by omega⟩ (fun x34 L34 g34 H locs h w => ?_)
        refine lv_istore (lv' := [(5, .int x34), (0, .ref b), (1, .ref v1), (2, .ref v2), (3, .ref v3), (4, .int v4)]) S.1 S.2.1 dL_law_251 hl (by decide) rfl (fun ls hl => ?_)
        refine lv_aload_n S.1 S.2.1 dL_law_253 rfl (lv_at hl 3 rfl) ?_
        refine lv_aload_n S.1 S.2.1 dL_law_254 rfl (lv_at hl 1 rfl) ?_
        refine lv_iload S.1 S.2.1 dL_law_255 (lv_at hl 5 rfl) ?_
        refine lv_iconst (v := 1) S.1 S.2.1 dL_law_257 (by decide) ?_
        refine lv_iadd S.1 S.2.1 dL_law_258 ?_
        obtain ⟨x35, h36, h⟩ := h
        refine xr_sld S w hX hbl hbA h36 dL_law_259 ?_
        obtain ⟨_, h37, h⟩ := h
        obtain ⟨x39, g40, h38, h⟩ := h
        refine xr_callV_i S w hA hN 9 rfl h37 (c_X8_deliver l D cy L34 g34 v2 x35 h38) (cwV 1 S.2.2.2.2 gL_law_X8_deliver rfl rfl rfl (by decide +kernel) ⟨Nat.le_of_ble_eq_true rfl, Nat.le_of_ble_eq_true rfl⟩) rfl rfl hl.1 (Nat.le_of_ble_eq_true rfl) dL_law_260 ⟨show _ ≤ 600128 from by omega, show _ ≤ 7301098 from by omega⟩ (fun H locs w => ?_)
        refine lv_istore (lv' := [(6, .int x39), (5, .int x34), (0, .ref b), (1, .ref v1), (2, .ref v2), (3, .ref v3), (4, .int v4)]) S.1 S.2.1 dL_law_263 hl (by decide) rfl (fun ls hl => ?_)
        refine lv_aload_n S.1 S.2.1 dL_law_265 rfl (lv_at hl 4 rfl) ?_
        obtain ⟨_, h41, h⟩ := h
        obtain ⟨x43, h42, h⟩ := h
        refine xr_callV_i S w hA hN 9 rfl h41 (c_X8_thrown l D cy L34 g40 v2 h42) (cwV 0 S.2.2.2.2 gL_law_X8_thrown rfl rfl rfl (by decide +kernel) ⟨Nat.le_of_ble_eq_true rfl, Nat.le_of_ble_eq_true rfl⟩) rfl rfl hl.1 (Nat.le_of_ble_eq_true rfl) dL_law_266 ⟨show _ ≤ 600128 from by omega, show _ ≤ 7301098 from by omega⟩ (fun H locs w => ?_)
        refine lv_iload S.1 S.2.1 dL_law_269 (lv_at hl 1 rfl) ?_
        refine lv_icmp_eq (tgt := 276) S.1 S.2.1 dL_law_271 (by decide) (fun c271 => ?_) (fun c271 => ?_)
        · rw [if_pos c271] at h
          refine lv_iload S.1 S.2.1 dL_law_276 (lv_at hl 1 rfl) ?_
          refine lv_if_ne (tgt := 300) S.1 S.2.1 dL_law_278 (by decide) (fun c278 => ?_) (fun c278 => ?_)
          · rw [if_neg c278] at h
            refine lv_goto (tgt := 1558) S.1 S.2.1 dL_law_300 (by decide) ?_
            refine lv_iinc (v := (v4 + 4)) (lv' := [(4, .int (v4 + 4)), (6, .int x39), (5, .int x34), (0, .ref b), (1, .ref v1), (2, .ref v2), (3, .ref v3)]) S.1 S.2.1 dL_law_1558 hl (k := 6) rfl rfl (by decide) rfl (fun ls hl => ?_)
            refine lv_goto (tgt := 23) S.1 S.2.1 dL_law_1561 (by decide) ?_
            exact ih L34 g40 v1 v2 v3 (v4 + 4) h _ _ (by omega) (by omega) _ _ _ w (lv_sub hl [3, 4, 5, 6, 0] rfl)
          · rw [if_pos c278] at h
            refine lv_aload_n S.1 S.2.1 dL_law_281 rfl (lv_at hl 5 rfl) ?_
            refine lv_iconst (v := 0) S.1 S.2.1 dL_law_282 (by decide) ?_
            obtain ⟨x44, h45, h⟩ := h
            refine xr_lald S w h45 dL_law_283 ?_
            refine lv_iload S.1 S.2.1 dL_law_284 (lv_at hl 0 rfl) ?_
            refine lv_if_eq (tgt := 293) S.1 S.2.1 dL_law_286 (by decide) (fun c286 => ?_) (fun c286 => ?_)
            · rw [if_pos c286] at h
              refine lv_lconst (v := 0) S.1 S.2.1 dL_law_293 (by decide) ?_
              refine xr_lceq (tgt := 300) S dL_law_294 dL_law_295 (by decide) (fun c294 => ?_) (fun c294 => ?_)
              · rw [if_pos c294] at h
                refine lv_goto (tgt := 1558) S.1 S.2.1 dL_law_300 (by decide) ?_
                refine lv_iinc (v := (v4 + 4)) (lv' := [(4, .int (v4 + 4)), (6, .int x39), (5, .int x34), (0, .ref b), (1, .ref v1), (2, .ref v2), (3, .ref v3)]) S.1 S.2.1 dL_law_1558 hl (k := 6) rfl rfl (by decide) rfl (fun ls hl => ?_)
                refine lv_goto (tgt := 23) S.1 S.2.1 dL_law_1561 (by decide) ?_
                exact ih L34 g40 v1 v2 v3 (v4 + 4) h _ _ (by omega) (by omega) _ _ _ w (lv_sub hl [3, 4, 5, 6, 0] rfl)
              · rw [if_neg c294] at h
                refine lv_iconst (v := 0) S.1 S.2.1 dL_law_298 (by decide) ?_
                exact h.elim
            · rw [if_neg c286] at h
              refine lv_lconst (v := 1) S.1 S.2.1 dL_law_289 (by decide) ?_
              refine lv_goto (tgt := 294) S.1 S.2.1 dL_law_290 (by decide) ?_
              refine xr_lceq (tgt := 300) S dL_law_294 dL_law_295 (by decide) (fun c294 => ?_) (fun c294 => ?_)
              · rw [if_pos c294] at h
                refine lv_goto (tgt := 1558) S.1 S.2.1 dL_law_300 (by decide) ?_
                refine lv_iinc (v := (v4 + 4)) (lv' := [(4, .int (v4 + 4)), (6, .int x39), (5, .int x34), (0, .ref b), (1, .ref v1), (2, .ref v2), (3, .ref v3)]) S.1 S.2.1 dL_law_1558 hl (k := 6) rfl rfl (by decide) rfl (fun ls hl => ?_)
                refine lv_goto (tgt := 23) S.1 S.2.1 dL_law_1561 (by decide) ?_
                exact ih L34 g40 v1 v2 v3 (v4 + 4) h _ _ (by omega) (by omega) _ _ _ w (lv_sub hl [3, 4, 5, 6, 0] rfl)
              · rw [if_neg c294] at h
                refine lv_iconst (v := 0) S.1 S.2.1 dL_law_298 (by decide) ?_
                exact h.elim
        · rw [if_neg c271] at h
          refine lv_iconst (v := 0) S.1 S.2.1 dL_law_274 (by decide) ?_
          exact h.elim
      rw [if_neg c39_2] at h
      by_cases c39_3 : (x1 &&& 31) = 3
      · rw [if_pos c39_3] at h
        rw [c39_3]
        refine lv_tableIn (off := 264) (tgt := 303) S.1 S.2.1 dL_law_39 (by decide) (by decide) (by decide) (by decide) ?_
        refine lv_aload_n S.1 S.2.1 dL_law_303 rfl (lv_at hl 1 rfl) ?_
        refine lv_aload_n S.1 S.2.1 dL_law_304 rfl (lv_at hl 0 rfl) ?_
        refine lv_iload S.1 S.2.1 dL_law_305 (lv_at hl 4 rfl) ?_
        refine lv_iconst (v := 1) S.1 S.2.1 dL_law_307 (by decide) ?_
        refine lv_iadd S.1 S.2.1 dL_law_308 ?_
        obtain ⟨x46, h47, h⟩ := h
        refine xr_sld S w hX hbl hbA h47 dL_law_309 ?_
        refine lv_aload_n S.1 S.2.1 dL_law_310 rfl (lv_at hl 3 rfl) ?_
        refine xr_callYSW_i S w hA hN hZ hT (c_L_drop l hst D cy t L g v1 x46 v3 _ h) (vx_cwSW 3 S.2.2.2.2 gL_law_L_drop rfl rfl rfl (by decide +kernel) ⟨Nat.le_of_ble_eq_true rfl, Nat.le_of_ble_eq_true rfl⟩) rfl rfl hl.1 (Nat.le_of_ble_eq_true rfl) dL_law_311 ⟨show _ ≤ 600128 from by omega, show _ ≤ 7301098 from by omega⟩ (fun x48 L48 g48 H locs h w => ?_)
        refine lv_istore (lv' := [(5, .int x48), (0, .ref b), (1, .ref v1), (2, .ref v2), (3, .ref v3), (4, .int v4)]) S.1 S.2.1 dL_law_314 hl (by decide) rfl (fun ls hl => ?_)
        refine lv_aload_n S.1 S.2.1 dL_law_316 rfl (lv_at hl 3 rfl) ?_
        refine lv_aload_n S.1 S.2.1 dL_law_317 rfl (lv_at hl 1 rfl) ?_
        refine lv_iload S.1 S.2.1 dL_law_318 (lv_at hl 5 rfl) ?_
        refine lv_iconst (v := 1) S.1 S.2.1 dL_law_320 (by decide) ?_
        refine lv_iadd S.1 S.2.1 dL_law_321 ?_
        obtain ⟨x49, h50, h⟩ := h
        refine xr_sld S w hX hbl hbA h50 dL_law_322 ?_
        obtain ⟨_, h51, h⟩ := h
        obtain ⟨x53, g54, h52, h⟩ := h
        refine xr_callV_i S w hA hN 9 rfl h51 (c_X8_drop l D cy L48 g48 v2 x49 h52) (cwV 1 S.2.2.2.2 gL_law_X8_drop rfl rfl rfl (by decide +kernel) ⟨Nat.le_of_ble_eq_true rfl, Nat.le_of_ble_eq_true rfl⟩) rfl rfl hl.1 (Nat.le_of_ble_eq_true rfl) dL_law_323 ⟨show _ ≤ 600128 from by omega, show _ ≤ 7301098 from by omega⟩ (fun H locs w => ?_)
        refine lv_istore (lv' := [(6, .int x53), (5, .int x48), (0, .ref b), (1, .ref v1), (2, .ref v2), (3, .ref v3), (4, .int v4)]) S.1 S.2.1 dL_law_326 hl (by decide) rfl (fun ls hl => ?_)
        refine lv_aload_n S.1 S.2.1 dL_law_328 rfl (lv_at hl 4 rfl) ?_
        obtain ⟨_, h55, h⟩ := h
        obtain ⟨x57, h56, h⟩ := h
        refine xr_callV_i S w hA hN 9 rfl h55 (c_X8_thrown l D cy L48 g54 v2 h56) (cwV 0 S.2.2.2.2 gL_law_X8_thrown rfl rfl rfl (by decide +kernel) ⟨Nat.le_of_ble_eq_true rfl, Nat.le_of_ble_eq_true rfl⟩) rfl rfl hl.1 (Nat.le_of_ble_eq_true rfl) dL_law_329 ⟨show _ ≤ 600128 from by omega, show _ ≤ 7301098 from by omega⟩ (fun H locs w => ?_)
        refine lv_iload S.1 S.2.1 dL_law_332 (lv_at hl 1 rfl) ?_
        refine lv_icmp_eq (tgt := 339) S.1 S.2.1 dL_law_334 (by decide) (fun c334 => ?_) (fun c334 => ?_)
        · rw [if_pos c334] at h
          refine lv_iload S.1 S.2.1 dL_law_339 (lv_at hl 1 rfl) ?_
          refine lv_if_ne (tgt := 356) S.1 S.2.1 dL_law_341 (by decide) (fun c341 => ?_) (fun c341 => ?_)
          · rw [if_neg c341] at h
            refine lv_goto (tgt := 1558) S.1 S.2.1 dL_law_356 (by decide) ?_
            refine lv_iinc (v := (v4 + 4)) (lv' := [(4, .int (v4 + 4)), (6, .int x53), (5, .int x48), (0, .ref b), (1, .ref v1), (2, .ref v2), (3, .ref v3)]) S.1 S.2.1 dL_law_1558 hl (k := 6) rfl rfl (by decide) rfl (fun ls hl => ?_)
            refine lv_goto (tgt := 23) S.1 S.2.1 dL_law_1561 (by decide) ?_
            exact ih L48 g54 v1 v2 v3 (v4 + 4) h _ _ (by omega) (by omega) _ _ _ w (lv_sub hl [3, 4, 5, 6, 0] rfl)
          · rw [if_pos c341] at h
            refine lv_aload_n S.1 S.2.1 dL_law_344 rfl (lv_at hl 5 rfl) ?_
            refine lv_iconst (v := 0) S.1 S.2.1 dL_law_345 (by decide) ?_
            obtain ⟨x58, h59, h⟩ := h
            refine xr_lald S w h59 dL_law_346 ?_
            refine lv_iload S.1 S.2.1 dL_law_347 (lv_at hl 0 rfl) ?_
            refine lv_i2l (v := (Int32.toInt64 x53)) S.1 S.2.1 dL_law_349 rfl ?_
            refine xr_lceq (tgt := 356) S dL_law_350 dL_law_351 (by decide) (fun c350 => ?_) (fun c350 => ?_)
            · rw [if_pos c350] at h
              refine lv_goto (tgt := 1558) S.1 S.2.1 dL_law_356 (by decide) ?_
              refine lv_iinc (v := (v4 + 4)) (lv' := [(4, .int (v4 + 4)), (6, .int x53), (5, .int x48), (0, .ref b), (1, .ref v1), (2, .ref v2), (3, .ref v3)]) S.1 S.2.1 dL_law_1558 hl (k := 6) rfl rfl (by decide) rfl (fun ls hl => ?_)
              refine lv_goto (tgt := 23) S.1 S.2.1 dL_law_1561 (by decide) ?_
              exact ih L48 g54 v1 v2 v3 (v4 + 4) h _ _ (by omega) (by omega) _ _ _ w (lv_sub hl [3, 4, 5, 6, 0] rfl)
            · rw [if_neg c350] at h
              refine lv_iconst (v := 0) S.1 S.2.1 dL_law_354 (by decide) ?_
              exact h.elim
        · rw [if_neg c334] at h
          refine lv_iconst (v := 0) S.1 S.2.1 dL_law_337 (by decide) ?_
          exact h.elim
      rw [if_neg c39_3] at h
      by_cases c39_4 : (x1 &&& 31) = 4
      · rw [if_pos c39_4] at h
        rw [c39_4]
        refine lv_tableIn (off := 320) (tgt := 359) S.1 S.2.1 dL_law_39 (by decide) (by decide) (by decide) (by decide) ?_
        refine lv_aload_n S.1 S.2.1 dL_law_359 rfl (lv_at hl 1 rfl) ?_
        refine lv_aload_n S.1 S.2.1 dL_law_360 rfl (lv_at hl 0 rfl) ?_
        refine lv_iload S.1 S.2.1 dL_law_361 (lv_at hl 4 rfl) ?_
        refine lv_iconst (v := 1) S.1 S.2.1 dL_law_363 (by decide) ?_
        refine lv_iadd S.1 S.2.1 dL_law_364 ?_
        obtain ⟨x60, h61, h⟩ := h
        refine xr_sld S w hX hbl hbA h61 dL_law_365 ?_
        refine lv_aload_n S.1 S.2.1 dL_law_366 rfl (lv_at hl 3 rfl) ?_
        refine xr_callYSW_i S w hA hN hZ hT (c_L_copy l hst D cy t L g v1 x60 v3 _ h) (vx_cwSW 3 S.2.2.2.2 gL_law_L_copy rfl rfl rfl (by decide +kernel) ⟨Nat.le_of_ble_eq_true rfl, Nat.le_of_ble_eq_true rfl⟩) rfl rfl hl.1 (Nat.le_of_ble_eq_true rfl) dL_law_367 ⟨show _ ≤ 600128 from by omega, show _ ≤ 7301098 from by omega⟩ (fun x62 L62 g62 H locs h w => ?_)
        refine lv_istore (lv' := [(5, .int x62), (0, .ref b), (1, .ref v1), (2, .ref v2), (3, .ref v3), (4, .int v4)]) S.1 S.2.1 dL_law_370 hl (by decide) rfl (fun ls hl => ?_)
        refine lv_aload_n S.1 S.2.1 dL_law_372 rfl (lv_at hl 3 rfl) ?_
        refine lv_aload_n S.1 S.2.1 dL_law_373 rfl (lv_at hl 1 rfl) ?_
        refine lv_iload S.1 S.2.1 dL_law_374 (lv_at hl 5 rfl) ?_
        refine lv_iconst (v := 1) S.1 S.2.1 dL_law_376 (by decide) ?_
        refine lv_iadd S.1 S.2.1 dL_law_377 ?_
        obtain ⟨x63, h64, h⟩ := h
        refine xr_sld S w hX hbl hbA h64 dL_law_378 ?_
        obtain ⟨_, h65, h⟩ := h
        obtain ⟨x67, g68, h66, h⟩ := h
        refine xr_callV_i S w hA hN 9 rfl h65 (c_X8_copy l D cy L62 g62 v2 x63 h66) (cwV 1 S.2.2.2.2 gL_law_X8_copy rfl rfl rfl (by decide +kernel) ⟨Nat.le_of_ble_eq_true rfl, Nat.le_of_ble_eq_true rfl⟩) rfl rfl hl.1 (Nat.le_of_ble_eq_true rfl) dL_law_379 ⟨show _ ≤ 600128 from by omega, show _ ≤ 7301098 from by omega⟩ (fun H locs w => ?_)
        refine lv_istore (lv' := [(6, .int x67), (5, .int x62), (0, .ref b), (1, .ref v1), (2, .ref v2), (3, .ref v3), (4, .int v4)]) S.1 S.2.1 dL_law_382 hl (by decide) rfl (fun ls hl => ?_)
        refine lv_aload_n S.1 S.2.1 dL_law_384 rfl (lv_at hl 4 rfl) ?_
        obtain ⟨_, h69, h⟩ := h
        obtain ⟨x71, h70, h⟩ := h
        refine xr_callV_i S w hA hN 9 rfl h69 (c_X8_thrown l D cy L62 g68 v2 h70) (cwV 0 S.2.2.2.2 gL_law_X8_thrown rfl rfl rfl (by decide +kernel) ⟨Nat.le_of_ble_eq_true rfl, Nat.le_of_ble_eq_true rfl⟩) rfl rfl hl.1 (Nat.le_of_ble_eq_true rfl) dL_law_385 ⟨show _ ≤ 600128 from by omega, show _ ≤ 7301098 from by omega⟩ (fun H locs w => ?_)
        refine lv_iload S.1 S.2.1 dL_law_388 (lv_at hl 1 rfl) ?_
        refine lv_icmp_eq (tgt := 395) S.1 S.2.1 dL_law_390 (by decide) (fun c390 => ?_) (fun c390 => ?_)
        · rw [if_pos c390] at h
          refine lv_iload S.1 S.2.1 dL_law_395 (lv_at hl 1 rfl) ?_
          refine lv_if_ne (tgt := 419) S.1 S.2.1 dL_law_397 (by decide) (fun c397 => ?_) (fun c397 => ?_)
          · rw [if_neg c397] at h
            refine lv_goto (tgt := 1558) S.1 S.2.1 dL_law_419 (by decide) ?_
            refine lv_iinc (v := (v4 + 4)) (lv' := [(4, .int (v4 + 4)), (6, .int x67), (5, .int x62), (0, .ref b), (1, .ref v1), (2, .ref v2), (3, .ref v3)]) S.1 S.2.1 dL_law_1558 hl (k := 6) rfl rfl (by decide) rfl (fun ls hl => ?_)
            refine lv_goto (tgt := 23) S.1 S.2.1 dL_law_1561 (by decide) ?_
            exact ih L62 g68 v1 v2 v3 (v4 + 4) h _ _ (by omega) (by omega) _ _ _ w (lv_sub hl [3, 4, 5, 6, 0] rfl)
          · rw [if_pos c397] at h
            refine lv_aload_n S.1 S.2.1 dL_law_400 rfl (lv_at hl 5 rfl) ?_
            refine lv_iconst (v := 0) S.1 S.2.1 dL_law_401 (by decide) ?_
            obtain ⟨x72, h73, h⟩ := h
            refine xr_lald S w h73 dL_law_402 ?_
            refine lv_iload S.1 S.2.1 dL_law_403 (lv_at hl 0 rfl) ?_
            refine lv_if_eq (tgt := 412) S.1 S.2.1 dL_law_405 (by decide) (fun c405 => ?_) (fun c405 => ?_)
            · rw [if_pos c405] at h
              refine lv_lconst (v := 0) S.1 S.2.1 dL_law_412 (by decide) ?_
              refine xr_lceq (tgt := 419) S dL_law_413 dL_law_414 (by decide) (fun c413 => ?_) (fun c413 => ?_)
              · rw [if_pos c413] at h
                refine lv_goto (tgt := 1558) S.1 S.2.1 dL_law_419 (by decide) ?_
                refine lv_iinc (v := (v4 + 4)) (lv' := [(4, .int (v4 + 4)), (6, .int x67), (5, .int x62), (0, .ref b), (1, .ref v1), (2, .ref v2), (3, .ref v3)]) S.1 S.2.1 dL_law_1558 hl (k := 6) rfl rfl (by decide) rfl (fun ls hl => ?_)
                refine lv_goto (tgt := 23) S.1 S.2.1 dL_law_1561 (by decide) ?_
                exact ih L62 g68 v1 v2 v3 (v4 + 4) h _ _ (by omega) (by omega) _ _ _ w (lv_sub hl [3, 4, 5, 6, 0] rfl)
              · rw [if_neg c413] at h
                refine lv_iconst (v := 0) S.1 S.2.1 dL_law_417 (by decide) ?_
                exact h.elim
            · rw [if_neg c405] at h
              refine lv_lconst (v := 1) S.1 S.2.1 dL_law_408 (by decide) ?_
              refine lv_goto (tgt := 413) S.1 S.2.1 dL_law_409 (by decide) ?_
              refine xr_lceq (tgt := 419) S dL_law_413 dL_law_414 (by decide) (fun c413 => ?_) (fun c413 => ?_)
              · rw [if_pos c413] at h
                refine lv_goto (tgt := 1558) S.1 S.2.1 dL_law_419 (by decide) ?_
                refine lv_iinc (v := (v4 + 4)) (lv' := [(4, .int (v4 + 4)), (6, .int x67), (5, .int x62), (0, .ref b), (1, .ref v1), (2, .ref v2), (3, .ref v3)]) S.1 S.2.1 dL_law_1558 hl (k := 6) rfl rfl (by decide) rfl (fun ls hl => ?_)
                refine lv_goto (tgt := 23) S.1 S.2.1 dL_law_1561 (by decide) ?_
                exact ih L62 g68 v1 v2 v3 (v4 + 4) h _ _ (by omega) (by omega) _ _ _ w (lv_sub hl [3, 4, 5, 6, 0] rfl)
              · rw [if_neg c413] at h
                refine lv_iconst (v := 0) S.1 S.2.1 dL_law_417 (by decide) ?_
                exact h.elim
        · rw [if_neg c390] at h
          refine lv_iconst (v := 0) S.1 S.2.1 dL_law_393 (by decide) ?_
          exact h.elim
      rw [if_neg c39_4] at h
      by_cases c39_5 : (x1 &&& 31) = 5
      · rw [if_pos c39_5] at h
        rw [c39_5]
        refine lv_tableIn (off := 383) (tgt := 422) S.1 S.2.1 dL_law_39 (by decide) (by decide) (by decide) (by decide) ?_
        refine lv_aload_n S.1 S.2.1 dL_law_422 rfl (lv_at hl 1 rfl) ?_
        refine lv_aload_n S.1 S.2.1 dL_law_423 rfl (lv_at hl 0 rfl) ?_
        refine lv_iload S.1 S.2.1 dL_law_424 (lv_at hl 4 rfl) ?_
        refine lv_iconst (v := 1) S.1 S.2.1 dL_law_426 (by decide) ?_
        refine lv_iadd S.1 S.2.1 dL_law_427 ?_
        obtain ⟨x74, h75, h⟩ := h
        refine xr_sld S w hX hbl hbA h75 dL_law_428 ?_
        refine lv_aload_n S.1 S.2.1 dL_law_429 rfl (lv_at hl 0 rfl) ?_
        refine lv_iload S.1 S.2.1 dL_law_430 (lv_at hl 4 rfl) ?_
        refine lv_iconst (v := 2) S.1 S.2.1 dL_law_432 (by decide) ?_
        refine lv_iadd S.1 S.2.1 dL_law_433 ?_
        obtain ⟨x76, h77, h⟩ := h
        refine xr_sld S w hX hbl hbA h77 dL_law_434 ?_
        refine lv_aload_n S.1 S.2.1 dL_law_435 rfl (lv_at hl 3 rfl) ?_
        refine xr_callYSW_i S w hA hN hZ hT (c_L_spoil l hst D cy t L g v1 x74 x76 v3 _ h) (vx_cwSW 4 S.2.2.2.2 gL_law_L_spoil rfl rfl rfl (by decide +kernel) ⟨Nat.le_of_ble_eq_true rfl, Nat.le_of_ble_eq_true rfl⟩) rfl rfl hl.1 (Nat.le_of_ble_eq_true rfl) dL_law_436 ⟨show _ ≤ 600128 from by omega, show _ ≤ 7301098 from by omega⟩ (fun x78 L78 g78 H locs h w => ?_)
        refine lv_istore (lv' := [(5, .int x78), (0, .ref b), (1, .ref v1), (2, .ref v2), (3, .ref v3), (4, .int v4)]) S.1 S.2.1 dL_law_439 hl (by decide) rfl (fun ls hl => ?_)
        refine lv_aload_n S.1 S.2.1 dL_law_441 rfl (lv_at hl 3 rfl) ?_
        refine lv_aload_n S.1 S.2.1 dL_law_442 rfl (lv_at hl 1 rfl) ?_
        refine lv_iload S.1 S.2.1 dL_law_443 (lv_at hl 5 rfl) ?_
        refine lv_iconst (v := 1) S.1 S.2.1 dL_law_445 (by decide) ?_
        refine lv_iadd S.1 S.2.1 dL_law_446 ?_
        obtain ⟨x79, h80, h⟩ := h
        refine xr_sld S w hX hbl hbA h80 dL_law_447 ?_
        refine lv_aload_n S.1 S.2.1 dL_law_448 rfl (lv_at hl 1 rfl) ?_
        refine lv_iload S.1 S.2.1 dL_law_449 (lv_at hl 5 rfl) ?_
        refine lv_iconst (v := 2) S.1 S.2.1 dL_law_451 (by decide) ?_
        refine lv_iadd S.1 S.2.1 dL_law_452 ?_
        obtain ⟨x81, h82, h⟩ := h
        refine xr_sld S w hX hbl hbA h82 dL_law_453 ?_
        obtain ⟨_, h83, h⟩ := h
        obtain ⟨x85, g86, h84, h⟩ := h
        refine xr_callV_i S w hA hN 9 rfl h83 (c_X8_spoil l D cy L78 g78 v2 x79 x81 h84) (cwV 2 S.2.2.2.2 gL_law_X8_spoil rfl rfl rfl (by decide +kernel) ⟨Nat.le_of_ble_eq_true rfl, Nat.le_of_ble_eq_true rfl⟩) rfl rfl hl.1 (Nat.le_of_ble_eq_true rfl) dL_law_454 ⟨show _ ≤ 600128 from by omega, show _ ≤ 7301098 from by omega⟩ (fun H locs w => ?_)
        refine lv_istore (lv' := [(6, .int x85), (5, .int x78), (0, .ref b), (1, .ref v1), (2, .ref v2), (3, .ref v3), (4, .int v4)]) S.1 S.2.1 dL_law_457 hl (by decide) rfl (fun ls hl => ?_)
        refine lv_aload_n S.1 S.2.1 dL_law_459 rfl (lv_at hl 4 rfl) ?_
        obtain ⟨_, h87, h⟩ := h
        obtain ⟨x89, h88, h⟩ := h
        refine xr_callV_i S w hA hN 9 rfl h87 (c_X8_thrown l D cy L78 g86 v2 h88) (cwV 0 S.2.2.2.2 gL_law_X8_thrown rfl rfl rfl (by decide +kernel) ⟨Nat.le_of_ble_eq_true rfl, Nat.le_of_ble_eq_true rfl⟩) rfl rfl hl.1 (Nat.le_of_ble_eq_true rfl) dL_law_460 ⟨show _ ≤ 600128 from by omega, show _ ≤ 7301098 from by omega⟩ (fun H locs w => ?_)
        refine lv_iload S.1 S.2.1 dL_law_463 (lv_at hl 1 rfl) ?_
        refine lv_icmp_eq (tgt := 470) S.1 S.2.1 dL_law_465 (by decide) (fun c465 => ?_) (fun c465 => ?_)
        · rw [if_pos c465] at h
          refine lv_iload S.1 S.2.1 dL_law_470 (lv_at hl 1 rfl) ?_
          refine lv_if_ne (tgt := 487) S.1 S.2.1 dL_law_472 (by decide) (fun c472 => ?_) (fun c472 => ?_)
          · rw [if_neg c472] at h
            refine lv_goto (tgt := 1558) S.1 S.2.1 dL_law_487 (by decide) ?_
            refine lv_iinc (v := (v4 + 4)) (lv' := [(4, .int (v4 + 4)), (6, .int x85), (5, .int x78), (0, .ref b), (1, .ref v1), (2, .ref v2), (3, .ref v3)]) S.1 S.2.1 dL_law_1558 hl (k := 6) rfl rfl (by decide) rfl (fun ls hl => ?_)
            refine lv_goto (tgt := 23) S.1 S.2.1 dL_law_1561 (by decide) ?_
            exact ih L78 g86 v1 v2 v3 (v4 + 4) h _ _ (by omega) (by omega) _ _ _ w (lv_sub hl [3, 4, 5, 6, 0] rfl)
          · rw [if_pos c472] at h
            refine lv_aload_n S.1 S.2.1 dL_law_475 rfl (lv_at hl 5 rfl) ?_
            refine lv_iconst (v := 0) S.1 S.2.1 dL_law_476 (by decide) ?_
            obtain ⟨x90, h91, h⟩ := h
            refine xr_lald S w h91 dL_law_477 ?_
            refine lv_iload S.1 S.2.1 dL_law_478 (lv_at hl 0 rfl) ?_
            refine lv_i2l (v := (Int32.toInt64 x85)) S.1 S.2.1 dL_law_480 rfl ?_
            refine xr_lceq (tgt := 487) S dL_law_481 dL_law_482 (by decide) (fun c481 => ?_) (fun c481 => ?_)
            · rw [if_pos c481] at h
              refine lv_goto (tgt := 1558) S.1 S.2.1 dL_law_487 (by decide) ?_
              refine lv_iinc (v := (v4 + 4)) (lv' := [(4, .int (v4 + 4)), (6, .int x85), (5, .int x78), (0, .ref b), (1, .ref v1), (2, .ref v2), (3, .ref v3)]) S.1 S.2.1 dL_law_1558 hl (k := 6) rfl rfl (by decide) rfl (fun ls hl => ?_)
              refine lv_goto (tgt := 23) S.1 S.2.1 dL_law_1561 (by decide) ?_
              exact ih L78 g86 v1 v2 v3 (v4 + 4) h _ _ (by omega) (by omega) _ _ _ w (lv_sub hl [3, 4, 5, 6, 0] rfl)
            · rw [if_neg c481] at h
              refine lv_iconst (v := 0) S.1 S.2.1 dL_law_485 (by decide) ?_
              exact h.elim
        · rw [if_neg c465] at h
          refine lv_iconst (v := 0) S.1 S.2.1 dL_law_468 (by decide) ?_
          exact h.elim
      rw [if_neg c39_5] at h
      by_cases c39_6 : (x1 &&& 31) = 6
      · rw [if_pos c39_6] at h
        rw [c39_6]
        refine lv_tableIn (off := 451) (tgt := 490) S.1 S.2.1 dL_law_39 (by decide) (by decide) (by decide) (by decide) ?_
        refine lv_aload_n S.1 S.2.1 dL_law_490 rfl (lv_at hl 1 rfl) ?_
        refine lv_aload_n S.1 S.2.1 dL_law_491 rfl (lv_at hl 0 rfl) ?_
        refine lv_iload S.1 S.2.1 dL_law_492 (lv_at hl 4 rfl) ?_
        refine lv_iconst (v := 1) S.1 S.2.1 dL_law_494 (by decide) ?_
        refine lv_iadd S.1 S.2.1 dL_law_495 ?_
        obtain ⟨x92, h93, h⟩ := h
        refine xr_sld S w hX hbl hbA h93 dL_law_496 ?_
        refine lv_aload_n S.1 S.2.1 dL_law_497 rfl (lv_at hl 3 rfl) ?_
        refine xr_callYSW_i S w hA hN hZ hT (c_L_forward l hst D cy t L g v1 x92 v3 _ h) (vx_cwSW 3 S.2.2.2.2 gL_law_L_forward rfl rfl rfl (by decide +kernel) ⟨Nat.le_of_ble_eq_true rfl, Nat.le_of_ble_eq_true rfl⟩) rfl rfl hl.1 (Nat.le_of_ble_eq_true rfl) dL_law_498 ⟨show _ ≤ 600128 from by omega, show _ ≤ 7301098 from by omega⟩ (fun x94 L94 g94 H locs h w => ?_)
        refine lv_istore (lv' := [(5, .int x94), (0, .ref b), (1, .ref v1), (2, .ref v2), (3, .ref v3), (4, .int v4)]) S.1 S.2.1 dL_law_501 hl (by decide) rfl (fun ls hl => ?_)
        refine lv_aload_n S.1 S.2.1 dL_law_503 rfl (lv_at hl 3 rfl) ?_
        refine lv_aload_n S.1 S.2.1 dL_law_504 rfl (lv_at hl 1 rfl) ?_
        refine lv_iload S.1 S.2.1 dL_law_505 (lv_at hl 5 rfl) ?_
        refine lv_iconst (v := 1) S.1 S.2.1 dL_law_507 (by decide) ?_
        refine lv_iadd S.1 S.2.1 dL_law_508 ?_
        obtain ⟨x95, h96, h⟩ := h
        refine xr_sld S w hX hbl hbA h96 dL_law_509 ?_
        obtain ⟨_, h97, h⟩ := h
        obtain ⟨x99, g100, h98, h⟩ := h
        refine xr_callV_i S w hA hN 9 rfl h97 (c_X8_forward l D cy L94 g94 v2 x95 h98) (cwV 1 S.2.2.2.2 gL_law_X8_forward rfl rfl rfl (by decide +kernel) ⟨Nat.le_of_ble_eq_true rfl, Nat.le_of_ble_eq_true rfl⟩) rfl rfl hl.1 (Nat.le_of_ble_eq_true rfl) dL_law_510 ⟨show _ ≤ 600128 from by omega, show _ ≤ 7301098 from by omega⟩ (fun H locs w => ?_)
        refine lv_istore (lv' := [(6, .int x99), (5, .int x94), (0, .ref b), (1, .ref v1), (2, .ref v2), (3, .ref v3), (4, .int v4)]) S.1 S.2.1 dL_law_513 hl (by decide) rfl (fun ls hl => ?_)
        refine lv_aload_n S.1 S.2.1 dL_law_515 rfl (lv_at hl 4 rfl) ?_
        obtain ⟨_, h101, h⟩ := h
        obtain ⟨x103, h102, h⟩ := h
        refine xr_callV_i S w hA hN 9 rfl h101 (c_X8_thrown l D cy L94 g100 v2 h102) (cwV 0 S.2.2.2.2 gL_law_X8_thrown rfl rfl rfl (by decide +kernel) ⟨Nat.le_of_ble_eq_true rfl, Nat.le_of_ble_eq_true rfl⟩) rfl rfl hl.1 (Nat.le_of_ble_eq_true rfl) dL_law_516 ⟨show _ ≤ 600128 from by omega, show _ ≤ 7301098 from by omega⟩ (fun H locs w => ?_)
        refine lv_iload S.1 S.2.1 dL_law_519 (lv_at hl 1 rfl) ?_
        refine lv_icmp_eq (tgt := 526) S.1 S.2.1 dL_law_521 (by decide) (fun c521 => ?_) (fun c521 => ?_)
        · rw [if_pos c521] at h
          refine lv_iload S.1 S.2.1 dL_law_526 (lv_at hl 1 rfl) ?_
          refine lv_if_ne (tgt := 543) S.1 S.2.1 dL_law_528 (by decide) (fun c528 => ?_) (fun c528 => ?_)
          · rw [if_neg c528] at h
            refine lv_goto (tgt := 1558) S.1 S.2.1 dL_law_543 (by decide) ?_
            refine lv_iinc (v := (v4 + 4)) (lv' := [(4, .int (v4 + 4)), (6, .int x99), (5, .int x94), (0, .ref b), (1, .ref v1), (2, .ref v2), (3, .ref v3)]) S.1 S.2.1 dL_law_1558 hl (k := 6) rfl rfl (by decide) rfl (fun ls hl => ?_)
            refine lv_goto (tgt := 23) S.1 S.2.1 dL_law_1561 (by decide) ?_
            exact ih L94 g100 v1 v2 v3 (v4 + 4) h _ _ (by omega) (by omega) _ _ _ w (lv_sub hl [3, 4, 5, 6, 0] rfl)
          · rw [if_pos c528] at h
            refine lv_aload_n S.1 S.2.1 dL_law_531 rfl (lv_at hl 5 rfl) ?_
            refine lv_iconst (v := 0) S.1 S.2.1 dL_law_532 (by decide) ?_
            obtain ⟨x104, h105, h⟩ := h
            refine xr_lald S w h105 dL_law_533 ?_
            refine lv_iload S.1 S.2.1 dL_law_534 (lv_at hl 0 rfl) ?_
            refine lv_i2l (v := (Int32.toInt64 x99)) S.1 S.2.1 dL_law_536 rfl ?_
            refine xr_lceq (tgt := 543) S dL_law_537 dL_law_538 (by decide) (fun c537 => ?_) (fun c537 => ?_)
            · rw [if_pos c537] at h
              refine lv_goto (tgt := 1558) S.1 S.2.1 dL_law_543 (by decide) ?_
              refine lv_iinc (v := (v4 + 4)) (lv' := [(4, .int (v4 + 4)), (6, .int x99), (5, .int x94), (0, .ref b), (1, .ref v1), (2, .ref v2), (3, .ref v3)]) S.1 S.2.1 dL_law_1558 hl (k := 6) rfl rfl (by decide) rfl (fun ls hl => ?_)
              refine lv_goto (tgt := 23) S.1 S.2.1 dL_law_1561 (by decide) ?_
              exact ih L94 g100 v1 v2 v3 (v4 + 4) h _ _ (by omega) (by omega) _ _ _ w (lv_sub hl [3, 4, 5, 6, 0] rfl)
            · rw [if_neg c537] at h
              refine lv_iconst (v := 0) S.1 S.2.1 dL_law_541 (by decide) ?_
              exact h.elim
        · rw [if_neg c521] at h
          refine lv_iconst (v := 0) S.1 S.2.1 dL_law_524 (by decide) ?_
          exact h.elim
      rw [if_neg c39_6] at h
      by_cases c39_7 : (x1 &&& 31) = 7
      · rw [if_pos c39_7] at h
        rw [c39_7]
        refine lv_tableIn (off := 507) (tgt := 546) S.1 S.2.1 dL_law_39 (by decide) (by decide) (by decide) (by decide) ?_
        refine lv_aload_n S.1 S.2.1 dL_law_546 rfl (lv_at hl 1 rfl) ?_
        refine lv_aload_n S.1 S.2.1 dL_law_547 rfl (lv_at hl 0 rfl) ?_
        refine lv_iload S.1 S.2.1 dL_law_548 (lv_at hl 4 rfl) ?_
        refine lv_iconst (v := 1) S.1 S.2.1 dL_law_550 (by decide) ?_
        refine lv_iadd S.1 S.2.1 dL_law_551 ?_
        obtain ⟨x106, h107, h⟩ := h
        refine xr_sld S w hX hbl hbA h107 dL_law_552 ?_
        refine lv_aload_n S.1 S.2.1 dL_law_553 rfl (lv_at hl 0 rfl) ?_
        refine lv_iload S.1 S.2.1 dL_law_554 (lv_at hl 4 rfl) ?_
        refine lv_iconst (v := 2) S.1 S.2.1 dL_law_556 (by decide) ?_
        refine lv_iadd S.1 S.2.1 dL_law_557 ?_
        obtain ⟨x108, h109, h⟩ := h
        refine xr_sld S w hX hbl hbA h109 dL_law_558 ?_
        refine lv_aload_n S.1 S.2.1 dL_law_559 rfl (lv_at hl 0 rfl) ?_
        refine lv_iload S.1 S.2.1 dL_law_560 (lv_at hl 4 rfl) ?_
        refine lv_iconst (v := 3) S.1 S.2.1 dL_law_562 (by decide) ?_
        refine lv_iadd S.1 S.2.1 dL_law_563 ?_
        obtain ⟨x110, h111, h⟩ := h
        refine xr_sld S w hX hbl hbA h111 dL_law_564 ?_
        refine lv_aload_n S.1 S.2.1 dL_law_565 rfl (lv_at hl 3 rfl) ?_
        refine xr_callYSW_i S w hA hN hZ hT (c_L_lie l hst D cy t L g v1 x106 x108 x110 v3 _ h) (vx_cwSW 5 S.2.2.2.2 gL_law_L_lie rfl rfl rfl (by decide +kernel) ⟨Nat.le_of_ble_eq_true rfl, Nat.le_of_ble_eq_true rfl⟩) rfl rfl hl.1 (Nat.le_of_ble_eq_true rfl) dL_law_566 ⟨show _ ≤ 600128 from by omega, show _ ≤ 7301098 from by omega⟩ (fun x112 L112 g112 H locs h w => ?_)
        refine lv_istore (lv' := [(5, .int x112), (0, .ref b), (1, .ref v1), (2, .ref v2), (3, .ref v3), (4, .int v4)]) S.1 S.2.1 dL_law_569 hl (by decide) rfl (fun ls hl => ?_)
        refine lv_aload_n S.1 S.2.1 dL_law_571 rfl (lv_at hl 3 rfl) ?_
        refine lv_aload_n S.1 S.2.1 dL_law_572 rfl (lv_at hl 1 rfl) ?_
        refine lv_iload S.1 S.2.1 dL_law_573 (lv_at hl 5 rfl) ?_
        refine lv_iconst (v := 1) S.1 S.2.1 dL_law_575 (by decide) ?_
        refine lv_iadd S.1 S.2.1 dL_law_576 ?_
        obtain ⟨x113, h114, h⟩ := h
        refine xr_sld S w hX hbl hbA h114 dL_law_577 ?_
        refine lv_aload_n S.1 S.2.1 dL_law_578 rfl (lv_at hl 1 rfl) ?_
        refine lv_iload S.1 S.2.1 dL_law_579 (lv_at hl 5 rfl) ?_
        refine lv_iconst (v := 2) S.1 S.2.1 dL_law_581 (by decide) ?_
        refine lv_iadd S.1 S.2.1 dL_law_582 ?_
        obtain ⟨x115, h116, h⟩ := h
        refine xr_sld S w hX hbl hbA h116 dL_law_583 ?_
        refine lv_aload_n S.1 S.2.1 dL_law_584 rfl (lv_at hl 1 rfl) ?_
        refine lv_iload S.1 S.2.1 dL_law_585 (lv_at hl 5 rfl) ?_
        refine lv_iconst (v := 3) S.1 S.2.1 dL_law_587 (by decide) ?_
        refine lv_iadd S.1 S.2.1 dL_law_588 ?_
        obtain ⟨x117, h118, h⟩ := h
        refine xr_sld S w hX hbl hbA h118 dL_law_589 ?_
        obtain ⟨_, h119, h⟩ := h
        obtain ⟨x121, g122, h120, h⟩ := h
        refine xr_callV_i S w hA hN 9 rfl h119 (c_X8_lie l D cy L112 g112 v2 x113 x115 x117 h120) (cwV 3 S.2.2.2.2 gL_law_X8_lie rfl rfl rfl (by decide +kernel) ⟨Nat.le_of_ble_eq_true rfl, Nat.le_of_ble_eq_true rfl⟩) rfl rfl hl.1 (Nat.le_of_ble_eq_true rfl) dL_law_590 ⟨show _ ≤ 600128 from by omega, show _ ≤ 7301098 from by omega⟩ (fun H locs w => ?_)
        refine lv_istore (lv' := [(6, .int x121), (5, .int x112), (0, .ref b), (1, .ref v1), (2, .ref v2), (3, .ref v3), (4, .int v4)]) S.1 S.2.1 dL_law_593 hl (by decide) rfl (fun ls hl => ?_)
        refine lv_aload_n S.1 S.2.1 dL_law_595 rfl (lv_at hl 4 rfl) ?_
        obtain ⟨_, h123, h⟩ := h
        obtain ⟨x125, h124, h⟩ := h
        refine xr_callV_i S w hA hN 9 rfl h123 (c_X8_thrown l D cy L112 g122 v2 h124) (cwV 0 S.2.2.2.2 gL_law_X8_thrown rfl rfl rfl (by decide +kernel) ⟨Nat.le_of_ble_eq_true rfl, Nat.le_of_ble_eq_true rfl⟩) rfl rfl hl.1 (Nat.le_of_ble_eq_true rfl) dL_law_596 ⟨show _ ≤ 600128 from by omega, show _ ≤ 7301098 from by omega⟩ (fun H locs w => ?_)
        refine lv_iload S.1 S.2.1 dL_law_599 (lv_at hl 1 rfl) ?_
        refine lv_icmp_eq (tgt := 606) S.1 S.2.1 dL_law_601 (by decide) (fun c601 => ?_) (fun c601 => ?_)
        · rw [if_pos c601] at h
          refine lv_iload S.1 S.2.1 dL_law_606 (lv_at hl 1 rfl) ?_
          refine lv_if_ne (tgt := 623) S.1 S.2.1 dL_law_608 (by decide) (fun c608 => ?_) (fun c608 => ?_)
          · rw [if_neg c608] at h
            refine lv_goto (tgt := 1558) S.1 S.2.1 dL_law_623 (by decide) ?_
            refine lv_iinc (v := (v4 + 4)) (lv' := [(4, .int (v4 + 4)), (6, .int x121), (5, .int x112), (0, .ref b), (1, .ref v1), (2, .ref v2), (3, .ref v3)]) S.1 S.2.1 dL_law_1558 hl (k := 6) rfl rfl (by decide) rfl (fun ls hl => ?_)
            refine lv_goto (tgt := 23) S.1 S.2.1 dL_law_1561 (by decide) ?_
            exact ih L112 g122 v1 v2 v3 (v4 + 4) h _ _ (by omega) (by omega) _ _ _ w (lv_sub hl [3, 4, 5, 6, 0] rfl)
          · rw [if_pos c608] at h
            refine lv_aload_n S.1 S.2.1 dL_law_611 rfl (lv_at hl 5 rfl) ?_
            refine lv_iconst (v := 0) S.1 S.2.1 dL_law_612 (by decide) ?_
            obtain ⟨x126, h127, h⟩ := h
            refine xr_lald S w h127 dL_law_613 ?_
            refine lv_iload S.1 S.2.1 dL_law_614 (lv_at hl 0 rfl) ?_
            refine lv_i2l (v := (Int32.toInt64 x121)) S.1 S.2.1 dL_law_616 rfl ?_
            refine xr_lceq (tgt := 623) S dL_law_617 dL_law_618 (by decide) (fun c617 => ?_) (fun c617 => ?_)
            · rw [if_pos c617] at h
              refine lv_goto (tgt := 1558) S.1 S.2.1 dL_law_623 (by decide) ?_
              refine lv_iinc (v := (v4 + 4)) (lv' := [(4, .int (v4 + 4)), (6, .int x121), (5, .int x112), (0, .ref b), (1, .ref v1), (2, .ref v2), (3, .ref v3)]) S.1 S.2.1 dL_law_1558 hl (k := 6) rfl rfl (by decide) rfl (fun ls hl => ?_)
              refine lv_goto (tgt := 23) S.1 S.2.1 dL_law_1561 (by decide) ?_
              exact ih L112 g122 v1 v2 v3 (v4 + 4) h _ _ (by omega) (by omega) _ _ _ w (lv_sub hl [3, 4, 5, 6, 0] rfl)
            · rw [if_neg c617] at h
              refine lv_iconst (v := 0) S.1 S.2.1 dL_law_621 (by decide) ?_
              exact h.elim
        · rw [if_neg c601] at h
          refine lv_iconst (v := 0) S.1 S.2.1 dL_law_604 (by decide) ?_
          exact h.elim
      rw [if_neg c39_7] at h
      by_cases c39_8 : (x1 &&& 31) = 8
      · rw [if_pos c39_8] at h
        rw [c39_8]
        refine lv_tableIn (off := 587) (tgt := 626) S.1 S.2.1 dL_law_39 (by decide) (by decide) (by decide) (by decide) ?_
        refine lv_aload_n S.1 S.2.1 dL_law_626 rfl (lv_at hl 1 rfl) ?_
        refine lv_aload_n S.1 S.2.1 dL_law_627 rfl (lv_at hl 0 rfl) ?_
        refine lv_iload S.1 S.2.1 dL_law_628 (lv_at hl 4 rfl) ?_
        refine lv_iconst (v := 1) S.1 S.2.1 dL_law_630 (by decide) ?_
        refine lv_iadd S.1 S.2.1 dL_law_631 ?_
        obtain ⟨x128, h129, h⟩ := h
        refine xr_sld S w hX hbl hbA h129 dL_law_632 ?_
        refine lv_aload_n S.1 S.2.1 dL_law_633 rfl (lv_at hl 0 rfl) ?_
        refine lv_iload S.1 S.2.1 dL_law_634 (lv_at hl 4 rfl) ?_
        refine lv_iconst (v := 2) S.1 S.2.1 dL_law_636 (by decide) ?_
        refine lv_iadd S.1 S.2.1 dL_law_637 ?_
        obtain ⟨x130, h131, h⟩ := h
        refine xr_sld S w hX hbl hbA h131 dL_law_638 ?_
        refine lv_aload_n S.1 S.2.1 dL_law_639 rfl (lv_at hl 0 rfl) ?_
        refine lv_iload S.1 S.2.1 dL_law_640 (lv_at hl 4 rfl) ?_
        refine lv_iconst (v := 3) S.1 S.2.1 dL_law_642 (by decide) ?_
        refine lv_iadd S.1 S.2.1 dL_law_643 ?_
        obtain ⟨x132, h133, h⟩ := h
        refine xr_sld S w hX hbl hbA h133 dL_law_644 ?_
        refine lv_aload_n S.1 S.2.1 dL_law_645 rfl (lv_at hl 3 rfl) ?_
        refine xr_callYSW_i S w hA hN hZ hT (c_L_bend l hst D cy t L g v1 x128 x130 x132 v3 _ h) (vx_cwSW 5 S.2.2.2.2 gL_law_L_bend rfl rfl rfl (by decide +kernel) ⟨Nat.le_of_ble_eq_true rfl, Nat.le_of_ble_eq_true rfl⟩) rfl rfl hl.1 (Nat.le_of_ble_eq_true rfl) dL_law_646 ⟨show _ ≤ 600128 from by omega, show _ ≤ 7301098 from by omega⟩ (fun x134 L134 g134 H locs h w => ?_)
        refine lv_istore (lv' := [(5, .int x134), (0, .ref b), (1, .ref v1), (2, .ref v2), (3, .ref v3), (4, .int v4)]) S.1 S.2.1 dL_law_649 hl (by decide) rfl (fun ls hl => ?_)
        refine lv_aload_n S.1 S.2.1 dL_law_651 rfl (lv_at hl 3 rfl) ?_
        refine lv_aload_n S.1 S.2.1 dL_law_652 rfl (lv_at hl 1 rfl) ?_
        refine lv_iload S.1 S.2.1 dL_law_653 (lv_at hl 5 rfl) ?_
        refine lv_iconst (v := 1) S.1 S.2.1 dL_law_655 (by decide) ?_
        refine lv_iadd S.1 S.2.1 dL_law_656 ?_
        obtain ⟨x135, h136, h⟩ := h
        refine xr_sld S w hX hbl hbA h136 dL_law_657 ?_
        refine lv_aload_n S.1 S.2.1 dL_law_658 rfl (lv_at hl 1 rfl) ?_
        refine lv_iload S.1 S.2.1 dL_law_659 (lv_at hl 5 rfl) ?_
        refine lv_iconst (v := 2) S.1 S.2.1 dL_law_661 (by decide) ?_
        refine lv_iadd S.1 S.2.1 dL_law_662 ?_
        obtain ⟨x137, h138, h⟩ := h
        refine xr_sld S w hX hbl hbA h138 dL_law_663 ?_
        refine lv_aload_n S.1 S.2.1 dL_law_664 rfl (lv_at hl 1 rfl) ?_
        refine lv_iload S.1 S.2.1 dL_law_665 (lv_at hl 5 rfl) ?_
        refine lv_iconst (v := 3) S.1 S.2.1 dL_law_667 (by decide) ?_
        refine lv_iadd S.1 S.2.1 dL_law_668 ?_
        obtain ⟨x139, h140, h⟩ := h
        refine xr_sld S w hX hbl hbA h140 dL_law_669 ?_
        obtain ⟨_, h141, h⟩ := h
        obtain ⟨x143, g144, h142, h⟩ := h
        refine xr_callV_i S w hA hN 9 rfl h141 (c_X8_bend l D cy L134 g134 v2 x135 x137 x139 h142) (cwV 3 S.2.2.2.2 gL_law_X8_bend rfl rfl rfl (by decide +kernel) ⟨Nat.le_of_ble_eq_true rfl, Nat.le_of_ble_eq_true rfl⟩) rfl rfl hl.1 (Nat.le_of_ble_eq_true rfl) dL_law_670 ⟨show _ ≤ 600128 from by omega, show _ ≤ 7301098 from by omega⟩ (fun H locs w => ?_)
        refine lv_istore (lv' := [(6, .int x143), (5, .int x134), (0, .ref b), (1, .ref v1), (2, .ref v2), (3, .ref v3), (4, .int v4)]) S.1 S.2.1 dL_law_673 hl (by decide) rfl (fun ls hl => ?_)
        refine lv_aload_n S.1 S.2.1 dL_law_675 rfl (lv_at hl 4 rfl) ?_
        obtain ⟨_, h145, h⟩ := h
        obtain ⟨x147, h146, h⟩ := h
        refine xr_callV_i S w hA hN 9 rfl h145 (c_X8_thrown l D cy L134 g144 v2 h146) (cwV 0 S.2.2.2.2 gL_law_X8_thrown rfl rfl rfl (by decide +kernel) ⟨Nat.le_of_ble_eq_true rfl, Nat.le_of_ble_eq_true rfl⟩) rfl rfl hl.1 (Nat.le_of_ble_eq_true rfl) dL_law_676 ⟨show _ ≤ 600128 from by omega, show _ ≤ 7301098 from by omega⟩ (fun H locs w => ?_)
        refine lv_iload S.1 S.2.1 dL_law_679 (lv_at hl 1 rfl) ?_
        refine lv_icmp_eq (tgt := 686) S.1 S.2.1 dL_law_681 (by decide) (fun c681 => ?_) (fun c681 => ?_)
        · rw [if_pos c681] at h
          refine lv_iload S.1 S.2.1 dL_law_686 (lv_at hl 1 rfl) ?_
          refine lv_if_ne (tgt := 703) S.1 S.2.1 dL_law_688 (by decide) (fun c688 => ?_) (fun c688 => ?_)
          · rw [if_neg c688] at h
            refine lv_goto (tgt := 1558) S.1 S.2.1 dL_law_703 (by decide) ?_
            refine lv_iinc (v := (v4 + 4)) (lv' := [(4, .int (v4 + 4)), (6, .int x143), (5, .int x134), (0, .ref b), (1, .ref v1), (2, .ref v2), (3, .ref v3)]) S.1 S.2.1 dL_law_1558 hl (k := 6) rfl rfl (by decide) rfl (fun ls hl => ?_)
            refine lv_goto (tgt := 23) S.1 S.2.1 dL_law_1561 (by decide) ?_
            exact ih L134 g144 v1 v2 v3 (v4 + 4) h _ _ (by omega) (by omega) _ _ _ w (lv_sub hl [3, 4, 5, 6, 0] rfl)
          · rw [if_pos c688] at h
            refine lv_aload_n S.1 S.2.1 dL_law_691 rfl (lv_at hl 5 rfl) ?_
            refine lv_iconst (v := 0) S.1 S.2.1 dL_law_692 (by decide) ?_
            obtain ⟨x148, h149, h⟩ := h
            refine xr_lald S w h149 dL_law_693 ?_
            refine lv_iload S.1 S.2.1 dL_law_694 (lv_at hl 0 rfl) ?_
            refine lv_i2l (v := (Int32.toInt64 x143)) S.1 S.2.1 dL_law_696 rfl ?_
            refine xr_lceq (tgt := 703) S dL_law_697 dL_law_698 (by decide) (fun c697 => ?_) (fun c697 => ?_)
            · rw [if_pos c697] at h
              refine lv_goto (tgt := 1558) S.1 S.2.1 dL_law_703 (by decide) ?_
              refine lv_iinc (v := (v4 + 4)) (lv' := [(4, .int (v4 + 4)), (6, .int x143), (5, .int x134), (0, .ref b), (1, .ref v1), (2, .ref v2), (3, .ref v3)]) S.1 S.2.1 dL_law_1558 hl (k := 6) rfl rfl (by decide) rfl (fun ls hl => ?_)
              refine lv_goto (tgt := 23) S.1 S.2.1 dL_law_1561 (by decide) ?_
              exact ih L134 g144 v1 v2 v3 (v4 + 4) h _ _ (by omega) (by omega) _ _ _ w (lv_sub hl [3, 4, 5, 6, 0] rfl)
            · rw [if_neg c697] at h
              refine lv_iconst (v := 0) S.1 S.2.1 dL_law_701 (by decide) ?_
              exact h.elim
        · rw [if_neg c681] at h
          refine lv_iconst (v := 0) S.1 S.2.1 dL_law_684 (by decide) ?_
          exact h.elim
      rw [if_neg c39_8] at h
      by_cases c39_9 : (x1 &&& 31) = 9
      · rw [if_pos c39_9] at h
        rw [c39_9]
        refine lv_tableIn (off := 667) (tgt := 706) S.1 S.2.1 dL_law_39 (by decide) (by decide) (by decide) (by decide) ?_
        refine lv_aload_n S.1 S.2.1 dL_law_706 rfl (lv_at hl 1 rfl) ?_
        refine lv_aload_n S.1 S.2.1 dL_law_707 rfl (lv_at hl 0 rfl) ?_
        refine lv_iload S.1 S.2.1 dL_law_708 (lv_at hl 4 rfl) ?_
        refine lv_iconst (v := 1) S.1 S.2.1 dL_law_710 (by decide) ?_
        refine lv_iadd S.1 S.2.1 dL_law_711 ?_
        obtain ⟨x150, h151, h⟩ := h
        refine xr_sld S w hX hbl hbA h151 dL_law_712 ?_
        refine lv_aload_n S.1 S.2.1 dL_law_713 rfl (lv_at hl 0 rfl) ?_
        refine lv_iload S.1 S.2.1 dL_law_714 (lv_at hl 4 rfl) ?_
        refine lv_iconst (v := 2) S.1 S.2.1 dL_law_716 (by decide) ?_
        refine lv_iadd S.1 S.2.1 dL_law_717 ?_
        obtain ⟨x152, h153, h⟩ := h
        refine xr_sld S w hX hbl hbA h153 dL_law_718 ?_
        refine lv_aload_n S.1 S.2.1 dL_law_719 rfl (lv_at hl 3 rfl) ?_
        refine xr_callYSW_i S w hA hN hZ hT (c_L_cut l hst D cy t L g v1 x150 x152 v3 _ h) (vx_cwSW 4 S.2.2.2.2 gL_law_L_cut rfl rfl rfl (by decide +kernel) ⟨Nat.le_of_ble_eq_true rfl, Nat.le_of_ble_eq_true rfl⟩) rfl rfl hl.1 (Nat.le_of_ble_eq_true rfl) dL_law_720 ⟨show _ ≤ 600128 from by omega, show _ ≤ 7301098 from by omega⟩ (fun x154 L154 g154 H locs h w => ?_)
        refine lv_istore (lv' := [(5, .int x154), (0, .ref b), (1, .ref v1), (2, .ref v2), (3, .ref v3), (4, .int v4)]) S.1 S.2.1 dL_law_723 hl (by decide) rfl (fun ls hl => ?_)
        refine lv_aload_n S.1 S.2.1 dL_law_725 rfl (lv_at hl 3 rfl) ?_
        refine lv_aload_n S.1 S.2.1 dL_law_726 rfl (lv_at hl 1 rfl) ?_
        refine lv_iload S.1 S.2.1 dL_law_727 (lv_at hl 5 rfl) ?_
        refine lv_iconst (v := 1) S.1 S.2.1 dL_law_729 (by decide) ?_
        refine lv_iadd S.1 S.2.1 dL_law_730 ?_
        obtain ⟨x155, h156, h⟩ := h
        refine xr_sld S w hX hbl hbA h156 dL_law_731 ?_
        refine lv_aload_n S.1 S.2.1 dL_law_732 rfl (lv_at hl 1 rfl) ?_
        refine lv_iload S.1 S.2.1 dL_law_733 (lv_at hl 5 rfl) ?_
        refine lv_iconst (v := 2) S.1 S.2.1 dL_law_735 (by decide) ?_
        refine lv_iadd S.1 S.2.1 dL_law_736 ?_
        obtain ⟨x157, h158, h⟩ := h
        refine xr_sld S w hX hbl hbA h158 dL_law_737 ?_
        obtain ⟨_, h159, h⟩ := h
        obtain ⟨x161, g162, h160, h⟩ := h
        refine xr_callV_i S w hA hN 9 rfl h159 (c_X8_cut l D cy L154 g154 v2 x155 x157 h160) (cwV 2 S.2.2.2.2 gL_law_X8_cut rfl rfl rfl (by decide +kernel) ⟨Nat.le_of_ble_eq_true rfl, Nat.le_of_ble_eq_true rfl⟩) rfl rfl hl.1 (Nat.le_of_ble_eq_true rfl) dL_law_738 ⟨show _ ≤ 600128 from by omega, show _ ≤ 7301098 from by omega⟩ (fun H locs w => ?_)
        refine lv_istore (lv' := [(6, .int x161), (5, .int x154), (0, .ref b), (1, .ref v1), (2, .ref v2), (3, .ref v3), (4, .int v4)]) S.1 S.2.1 dL_law_741 hl (by decide) rfl (fun ls hl => ?_)
        refine lv_aload_n S.1 S.2.1 dL_law_743 rfl (lv_at hl 4 rfl) ?_
        obtain ⟨_, h163, h⟩ := h
        obtain ⟨x165, h164, h⟩ := h
        refine xr_callV_i S w hA hN 9 rfl h163 (c_X8_thrown l D cy L154 g162 v2 h164) (cwV 0 S.2.2.2.2 gL_law_X8_thrown rfl rfl rfl (by decide +kernel) ⟨Nat.le_of_ble_eq_true rfl, Nat.le_of_ble_eq_true rfl⟩) rfl rfl hl.1 (Nat.le_of_ble_eq_true rfl) dL_law_744 ⟨show _ ≤ 600128 from by omega, show _ ≤ 7301098 from by omega⟩ (fun H locs w => ?_)
        refine lv_iload S.1 S.2.1 dL_law_747 (lv_at hl 1 rfl) ?_
        refine lv_icmp_eq (tgt := 754) S.1 S.2.1 dL_law_749 (by decide) (fun c749 => ?_) (fun c749 => ?_)
        · rw [if_pos c749] at h
          refine lv_iload S.1 S.2.1 dL_law_754 (lv_at hl 1 rfl) ?_
          refine lv_if_ne (tgt := 771) S.1 S.2.1 dL_law_756 (by decide) (fun c756 => ?_) (fun c756 => ?_)
          · rw [if_neg c756] at h
            refine lv_goto (tgt := 1558) S.1 S.2.1 dL_law_771 (by decide) ?_
            refine lv_iinc (v := (v4 + 4)) (lv' := [(4, .int (v4 + 4)), (6, .int x161), (5, .int x154), (0, .ref b), (1, .ref v1), (2, .ref v2), (3, .ref v3)]) S.1 S.2.1 dL_law_1558 hl (k := 6) rfl rfl (by decide) rfl (fun ls hl => ?_)
            refine lv_goto (tgt := 23) S.1 S.2.1 dL_law_1561 (by decide) ?_
            exact ih L154 g162 v1 v2 v3 (v4 + 4) h _ _ (by omega) (by omega) _ _ _ w (lv_sub hl [3, 4, 5, 6, 0] rfl)
          · rw [if_pos c756] at h
            refine lv_aload_n S.1 S.2.1 dL_law_759 rfl (lv_at hl 5 rfl) ?_
            refine lv_iconst (v := 0) S.1 S.2.1 dL_law_760 (by decide) ?_
            obtain ⟨x166, h167, h⟩ := h
            refine xr_lald S w h167 dL_law_761 ?_
            refine lv_iload S.1 S.2.1 dL_law_762 (lv_at hl 0 rfl) ?_
            refine lv_i2l (v := (Int32.toInt64 x161)) S.1 S.2.1 dL_law_764 rfl ?_
            refine xr_lceq (tgt := 771) S dL_law_765 dL_law_766 (by decide) (fun c765 => ?_) (fun c765 => ?_)
            · rw [if_pos c765] at h
              refine lv_goto (tgt := 1558) S.1 S.2.1 dL_law_771 (by decide) ?_
              refine lv_iinc (v := (v4 + 4)) (lv' := [(4, .int (v4 + 4)), (6, .int x161), (5, .int x154), (0, .ref b), (1, .ref v1), (2, .ref v2), (3, .ref v3)]) S.1 S.2.1 dL_law_1558 hl (k := 6) rfl rfl (by decide) rfl (fun ls hl => ?_)
              refine lv_goto (tgt := 23) S.1 S.2.1 dL_law_1561 (by decide) ?_
              exact ih L154 g162 v1 v2 v3 (v4 + 4) h _ _ (by omega) (by omega) _ _ _ w (lv_sub hl [3, 4, 5, 6, 0] rfl)
            · rw [if_neg c765] at h
              refine lv_iconst (v := 0) S.1 S.2.1 dL_law_769 (by decide) ?_
              exact h.elim
        · rw [if_neg c749] at h
          refine lv_iconst (v := 0) S.1 S.2.1 dL_law_752 (by decide) ?_
          exact h.elim
      rw [if_neg c39_9] at h
      by_cases c39_10 : (x1 &&& 31) = 10
      · rw [if_pos c39_10] at h
        rw [c39_10]
        refine lv_tableIn (off := 735) (tgt := 774) S.1 S.2.1 dL_law_39 (by decide) (by decide) (by decide) (by decide) ?_
        refine lv_aload_n S.1 S.2.1 dL_law_774 rfl (lv_at hl 1 rfl) ?_
        refine lv_aload_n S.1 S.2.1 dL_law_775 rfl (lv_at hl 0 rfl) ?_
        refine lv_iload S.1 S.2.1 dL_law_776 (lv_at hl 4 rfl) ?_
        refine lv_iconst (v := 1) S.1 S.2.1 dL_law_778 (by decide) ?_
        refine lv_iadd S.1 S.2.1 dL_law_779 ?_
        obtain ⟨x168, h169, h⟩ := h
        refine xr_sld S w hX hbl hbA h169 dL_law_780 ?_
        refine lv_aload_n S.1 S.2.1 dL_law_781 rfl (lv_at hl 0 rfl) ?_
        refine lv_iload S.1 S.2.1 dL_law_782 (lv_at hl 4 rfl) ?_
        refine lv_iconst (v := 2) S.1 S.2.1 dL_law_784 (by decide) ?_
        refine lv_iadd S.1 S.2.1 dL_law_785 ?_
        obtain ⟨x170, h171, h⟩ := h
        refine xr_sld S w hX hbl hbA h171 dL_law_786 ?_
        refine lv_if_eq (tgt := 794) S.1 S.2.1 dL_law_787 (by decide) (fun c787 => ?_) (fun c787 => ?_)
        · rw [if_pos c787] at h
          refine lv_iconst (v := 0) S.1 S.2.1 dL_law_794 (by decide) ?_
          refine lv_aload_n S.1 S.2.1 dL_law_795 rfl (lv_at hl 3 rfl) ?_
          refine xr_callYSW_i S w hA hN hZ hT (c_L_hide l hst D cy t L g v1 x168 0 v3 _ h) (vx_cwSW 4 S.2.2.2.2 gL_law_L_hide rfl rfl rfl (by decide +kernel) ⟨Nat.le_of_ble_eq_true rfl, Nat.le_of_ble_eq_true rfl⟩) rfl rfl hl.1 (Nat.le_of_ble_eq_true rfl) dL_law_796 ⟨show _ ≤ 600128 from by omega, show _ ≤ 7301098 from by omega⟩ (fun x172 L172 g172 H locs h w => ?_)
          refine lv_istore (lv' := [(5, .int x172), (0, .ref b), (1, .ref v1), (2, .ref v2), (3, .ref v3), (4, .int v4)]) S.1 S.2.1 dL_law_799 hl (by decide) rfl (fun ls hl => ?_)
          refine lv_aload_n S.1 S.2.1 dL_law_801 rfl (lv_at hl 3 rfl) ?_
          refine lv_aload_n S.1 S.2.1 dL_law_802 rfl (lv_at hl 1 rfl) ?_
          refine lv_iload S.1 S.2.1 dL_law_803 (lv_at hl 5 rfl) ?_
          refine lv_iconst (v := 1) S.1 S.2.1 dL_law_805 (by decide) ?_
          refine lv_iadd S.1 S.2.1 dL_law_806 ?_
          obtain ⟨x173, h174, h⟩ := h
          refine xr_sld S w hX hbl hbA h174 dL_law_807 ?_
          refine lv_aload_n S.1 S.2.1 dL_law_808 rfl (lv_at hl 1 rfl) ?_
          refine lv_iload S.1 S.2.1 dL_law_809 (lv_at hl 5 rfl) ?_
          refine lv_iconst (v := 2) S.1 S.2.1 dL_law_811 (by decide) ?_
          refine lv_iadd S.1 S.2.1 dL_law_812 ?_
          obtain ⟨x175, h176, h⟩ := h
          refine xr_sld S w hX hbl hbA h176 dL_law_813 ?_
          refine lv_if_eq (tgt := 821) S.1 S.2.1 dL_law_814 (by decide) (fun c814 => ?_) (fun c814 => ?_)
          · rw [if_pos c814] at h
            refine lv_iconst (v := 0) S.1 S.2.1 dL_law_821 (by decide) ?_
            obtain ⟨_, h177, h⟩ := h
            obtain ⟨x179, g180, h178, h⟩ := h
            refine xr_callV_i S w hA hN 9 rfl h177 (c_X8_hide l D cy L172 g172 v2 x173 0 h178) (cwV 2 S.2.2.2.2 gL_law_X8_hide rfl rfl rfl (by decide +kernel) ⟨Nat.le_of_ble_eq_true rfl, Nat.le_of_ble_eq_true rfl⟩) rfl rfl hl.1 (Nat.le_of_ble_eq_true rfl) dL_law_822 ⟨show _ ≤ 600128 from by omega, show _ ≤ 7301098 from by omega⟩ (fun H locs w => ?_)
            refine lv_istore (lv' := [(6, .int x179), (5, .int x172), (0, .ref b), (1, .ref v1), (2, .ref v2), (3, .ref v3), (4, .int v4)]) S.1 S.2.1 dL_law_825 hl (by decide) rfl (fun ls hl => ?_)
            refine lv_aload_n S.1 S.2.1 dL_law_827 rfl (lv_at hl 4 rfl) ?_
            obtain ⟨_, h181, h⟩ := h
            obtain ⟨x183, h182, h⟩ := h
            refine xr_callV_i S w hA hN 9 rfl h181 (c_X8_thrown l D cy L172 g180 v2 h182) (cwV 0 S.2.2.2.2 gL_law_X8_thrown rfl rfl rfl (by decide +kernel) ⟨Nat.le_of_ble_eq_true rfl, Nat.le_of_ble_eq_true rfl⟩) rfl rfl hl.1 (Nat.le_of_ble_eq_true rfl) dL_law_828 ⟨show _ ≤ 600128 from by omega, show _ ≤ 7301098 from by omega⟩ (fun H locs w => ?_)
            refine lv_iload S.1 S.2.1 dL_law_831 (lv_at hl 1 rfl) ?_
            refine lv_icmp_eq (tgt := 838) S.1 S.2.1 dL_law_833 (by decide) (fun c833 => ?_) (fun c833 => ?_)
            · rw [if_pos c833] at h
              refine lv_iload S.1 S.2.1 dL_law_838 (lv_at hl 1 rfl) ?_
              refine lv_if_ne (tgt := 862) S.1 S.2.1 dL_law_840 (by decide) (fun c840 => ?_) (fun c840 => ?_)
              · rw [if_neg c840] at h
                refine lv_goto (tgt := 1558) S.1 S.2.1 dL_law_862 (by decide) ?_
                refine lv_iinc (v := (v4 + 4)) (lv' := [(4, .int (v4 + 4)), (6, .int x179), (5, .int x172), (0, .ref b), (1, .ref v1), (2, .ref v2), (3, .ref v3)]) S.1 S.2.1 dL_law_1558 hl (k := 6) rfl rfl (by decide) rfl (fun ls hl => ?_)
                refine lv_goto (tgt := 23) S.1 S.2.1 dL_law_1561 (by decide) ?_
                exact ih L172 g180 v1 v2 v3 (v4 + 4) h _ _ (by omega) (by omega) _ _ _ w (lv_sub hl [3, 4, 5, 6, 0] rfl)
              · rw [if_pos c840] at h
                refine lv_aload_n S.1 S.2.1 dL_law_843 rfl (lv_at hl 5 rfl) ?_
                refine lv_iconst (v := 0) S.1 S.2.1 dL_law_844 (by decide) ?_
                obtain ⟨x184, h185, h⟩ := h
                refine xr_lald S w h185 dL_law_845 ?_
                refine lv_iload S.1 S.2.1 dL_law_846 (lv_at hl 0 rfl) ?_
                refine lv_if_eq (tgt := 855) S.1 S.2.1 dL_law_848 (by decide) (fun c848 => ?_) (fun c848 => ?_)
                · rw [if_pos c848] at h
                  refine lv_lconst (v := 0) S.1 S.2.1 dL_law_855 (by decide) ?_
                  refine xr_lceq (tgt := 862) S dL_law_856 dL_law_857 (by decide) (fun c856 => ?_) (fun c856 => ?_)
                  · rw [if_pos c856] at h
                    refine lv_goto (tgt := 1558) S.1 S.2.1 dL_law_862 (by decide) ?_
                    refine lv_iinc (v := (v4 + 4)) (lv' := [(4, .int (v4 + 4)), (6, .int x179), (5, .int x172), (0, .ref b), (1, .ref v1), (2, .ref v2), (3, .ref v3)]) S.1 S.2.1 dL_law_1558 hl (k := 6) rfl rfl (by decide) rfl (fun ls hl => ?_)
                    refine lv_goto (tgt := 23) S.1 S.2.1 dL_law_1561 (by decide) ?_
                    exact ih L172 g180 v1 v2 v3 (v4 + 4) h _ _ (by omega) (by omega) _ _ _ w (lv_sub hl [3, 4, 5, 6, 0] rfl)
                  · rw [if_neg c856] at h
                    refine lv_iconst (v := 0) S.1 S.2.1 dL_law_860 (by decide) ?_
                    exact h.elim
                · rw [if_neg c848] at h
                  refine lv_lconst (v := 1) S.1 S.2.1 dL_law_851 (by decide) ?_
                  refine lv_goto (tgt := 856) S.1 S.2.1 dL_law_852 (by decide) ?_
                  refine xr_lceq (tgt := 862) S dL_law_856 dL_law_857 (by decide) (fun c856 => ?_) (fun c856 => ?_)
                  · rw [if_pos c856] at h
                    refine lv_goto (tgt := 1558) S.1 S.2.1 dL_law_862 (by decide) ?_
                    refine lv_iinc (v := (v4 + 4)) (lv' := [(4, .int (v4 + 4)), (6, .int x179), (5, .int x172), (0, .ref b), (1, .ref v1), (2, .ref v2), (3, .ref v3)]) S.1 S.2.1 dL_law_1558 hl (k := 6) rfl rfl (by decide) rfl (fun ls hl => ?_)
                    refine lv_goto (tgt := 23) S.1 S.2.1 dL_law_1561 (by decide) ?_
                    exact ih L172 g180 v1 v2 v3 (v4 + 4) h _ _ (by omega) (by omega) _ _ _ w (lv_sub hl [3, 4, 5, 6, 0] rfl)
                  · rw [if_neg c856] at h
                    refine lv_iconst (v := 0) S.1 S.2.1 dL_law_860 (by decide) ?_
                    exact h.elim
            · rw [if_neg c833] at h
              refine lv_iconst (v := 0) S.1 S.2.1 dL_law_836 (by decide) ?_
              exact h.elim
          · rw [if_neg c814] at h
            refine lv_iconst (v := 1) S.1 S.2.1 dL_law_817 (by decide) ?_
            refine lv_goto (tgt := 822) S.1 S.2.1 dL_law_818 (by decide) ?_
            obtain ⟨_, h186, h⟩ := h
            obtain ⟨x188, g189, h187, h⟩ := h
            refine xr_callV_i S w hA hN 9 rfl h186 (c_X8_hide l D cy L172 g172 v2 x173 1 h187) (cwV 2 S.2.2.2.2 gL_law_X8_hide rfl rfl rfl (by decide +kernel) ⟨Nat.le_of_ble_eq_true rfl, Nat.le_of_ble_eq_true rfl⟩) rfl rfl hl.1 (Nat.le_of_ble_eq_true rfl) dL_law_822 ⟨show _ ≤ 600128 from by omega, show _ ≤ 7301098 from by omega⟩ (fun H locs w => ?_)
            refine lv_istore (lv' := [(6, .int x188), (5, .int x172), (0, .ref b), (1, .ref v1), (2, .ref v2), (3, .ref v3), (4, .int v4)]) S.1 S.2.1 dL_law_825 hl (by decide) rfl (fun ls hl => ?_)
            refine lv_aload_n S.1 S.2.1 dL_law_827 rfl (lv_at hl 4 rfl) ?_
            obtain ⟨_, h190, h⟩ := h
            obtain ⟨x192, h191, h⟩ := h
            refine xr_callV_i S w hA hN 9 rfl h190 (c_X8_thrown l D cy L172 g189 v2 h191) (cwV 0 S.2.2.2.2 gL_law_X8_thrown rfl rfl rfl (by decide +kernel) ⟨Nat.le_of_ble_eq_true rfl, Nat.le_of_ble_eq_true rfl⟩) rfl rfl hl.1 (Nat.le_of_ble_eq_true rfl) dL_law_828 ⟨show _ ≤ 600128 from by omega, show _ ≤ 7301098 from by omega⟩ (fun H locs w => ?_)
            refine lv_iload S.1 S.2.1 dL_law_831 (lv_at hl 1 rfl) ?_
            refine lv_icmp_eq (tgt := 838) S.1 S.2.1 dL_law_833 (by decide) (fun c833 => ?_) (fun c833 => ?_)
            · rw [if_pos c833] at h
              refine lv_iload S.1 S.2.1 dL_law_838 (lv_at hl 1 rfl) ?_
              refine lv_if_ne (tgt := 862) S.1 S.2.1 dL_law_840 (by decide) (fun c840 => ?_) (fun c840 => ?_)
              · rw [if_neg c840] at h
                refine lv_goto (tgt := 1558) S.1 S.2.1 dL_law_862 (by decide) ?_
                refine lv_iinc (v := (v4 + 4)) (lv' := [(4, .int (v4 + 4)), (6, .int x188), (5, .int x172), (0, .ref b), (1, .ref v1), (2, .ref v2), (3, .ref v3)]) S.1 S.2.1 dL_law_1558 hl (k := 6) rfl rfl (by decide) rfl (fun ls hl => ?_)
                refine lv_goto (tgt := 23) S.1 S.2.1 dL_law_1561 (by decide) ?_
                exact ih L172 g189 v1 v2 v3 (v4 + 4) h _ _ (by omega) (by omega) _ _ _ w (lv_sub hl [3, 4, 5, 6, 0] rfl)
              · rw [if_pos c840] at h
                refine lv_aload_n S.1 S.2.1 dL_law_843 rfl (lv_at hl 5 rfl) ?_
                refine lv_iconst (v := 0) S.1 S.2.1 dL_law_844 (by decide) ?_
                obtain ⟨x193, h194, h⟩ := h
                refine xr_lald S w h194 dL_law_845 ?_
                refine lv_iload S.1 S.2.1 dL_law_846 (lv_at hl 0 rfl) ?_
                refine lv_if_eq (tgt := 855) S.1 S.2.1 dL_law_848 (by decide) (fun c848 => ?_) (fun c848 => ?_)
                · rw [if_pos c848] at h
                  refine lv_lconst (v := 0) S.1 S.2.1 dL_law_855 (by decide) ?_
                  refine xr_lceq (tgt := 862) S dL_law_856 dL_law_857 (by decide) (fun c856 => ?_) (fun c856 => ?_)
                  · rw [if_pos c856] at h
                    refine lv_goto (tgt := 1558) S.1 S.2.1 dL_law_862 (by decide) ?_
                    refine lv_iinc (v := (v4 + 4)) (lv' := [(4, .int (v4 + 4)), (6, .int x188), (5, .int x172), (0, .ref b), (1, .ref v1), (2, .ref v2), (3, .ref v3)]) S.1 S.2.1 dL_law_1558 hl (k := 6) rfl rfl (by decide) rfl (fun ls hl => ?_)
                    refine lv_goto (tgt := 23) S.1 S.2.1 dL_law_1561 (by decide) ?_
                    exact ih L172 g189 v1 v2 v3 (v4 + 4) h _ _ (by omega) (by omega) _ _ _ w (lv_sub hl [3, 4, 5, 6, 0] rfl)
                  · rw [if_neg c856] at h
                    refine lv_iconst (v := 0) S.1 S.2.1 dL_law_860 (by decide) ?_
                    exact h.elim
                · rw [if_neg c848] at h
                  refine lv_lconst (v := 1) S.1 S.2.1 dL_law_851 (by decide) ?_
                  refine lv_goto (tgt := 856) S.1 S.2.1 dL_law_852 (by decide) ?_
                  refine xr_lceq (tgt := 862) S dL_law_856 dL_law_857 (by decide) (fun c856 => ?_) (fun c856 => ?_)
                  · rw [if_pos c856] at h
                    refine lv_goto (tgt := 1558) S.1 S.2.1 dL_law_862 (by decide) ?_
                    refine lv_iinc (v := (v4 + 4)) (lv' := [(4, .int (v4 + 4)), (6, .int x188), (5, .int x172), (0, .ref b), (1, .ref v1), (2, .ref v2), (3, .ref v3)]) S.1 S.2.1 dL_law_1558 hl (k := 6) rfl rfl (by decide) rfl (fun ls hl => ?_)
                    refine lv_goto (tgt := 23) S.1 S.2.1 dL_law_1561 (by decide) ?_
                    exact ih L172 g189 v1 v2 v3 (v4 + 4) h _ _ (by omega) (by omega) _ _ _ w (lv_sub hl [3, 4, 5, 6, 0] rfl)
                  · rw [if_neg c856] at h
                    refine lv_iconst (v := 0) S.1 S.2.1 dL_law_860 (by decide) ?_
                    exact h.elim
            · rw [if_neg c833] at h
              refine lv_iconst (v := 0) S.1 S.2.1 dL_law_836 (by decide) ?_
              exact h.elim
        · rw [if_neg c787] at h
          refine lv_iconst (v := 1) S.1 S.2.1 dL_law_790 (by decide) ?_
          refine lv_goto (tgt := 795) S.1 S.2.1 dL_law_791 (by decide) ?_
          refine lv_aload_n S.1 S.2.1 dL_law_795 rfl (lv_at hl 3 rfl) ?_
          refine xr_callYSW_i S w hA hN hZ hT (c_L_hide l hst D cy t L g v1 x168 1 v3 _ h) (vx_cwSW 4 S.2.2.2.2 gL_law_L_hide rfl rfl rfl (by decide +kernel) ⟨Nat.le_of_ble_eq_true rfl, Nat.le_of_ble_eq_true rfl⟩) rfl rfl hl.1 (Nat.le_of_ble_eq_true rfl) dL_law_796 ⟨show _ ≤ 600128 from by omega, show _ ≤ 7301098 from by omega⟩ (fun x195 L195 g195 H locs h w => ?_)
          refine lv_istore (lv' := [(5, .int x195), (0, .ref b), (1, .ref v1), (2, .ref v2), (3, .ref v3), (4, .int v4)]) S.1 S.2.1 dL_law_799 hl (by decide) rfl (fun ls hl => ?_)
          refine lv_aload_n S.1 S.2.1 dL_law_801 rfl (lv_at hl 3 rfl) ?_
          refine lv_aload_n S.1 S.2.1 dL_law_802 rfl (lv_at hl 1 rfl) ?_
          refine lv_iload S.1 S.2.1 dL_law_803 (lv_at hl 5 rfl) ?_
          refine lv_iconst (v := 1) S.1 S.2.1 dL_law_805 (by decide) ?_
          refine lv_iadd S.1 S.2.1 dL_law_806 ?_
          obtain ⟨x196, h197, h⟩ := h
          refine xr_sld S w hX hbl hbA h197 dL_law_807 ?_
          refine lv_aload_n S.1 S.2.1 dL_law_808 rfl (lv_at hl 1 rfl) ?_
          refine lv_iload S.1 S.2.1 dL_law_809 (lv_at hl 5 rfl) ?_
          refine lv_iconst (v := 2) S.1 S.2.1 dL_law_811 (by decide) ?_
          refine lv_iadd S.1 S.2.1 dL_law_812 ?_
          obtain ⟨x198, h199, h⟩ := h
          refine xr_sld S w hX hbl hbA h199 dL_law_813 ?_
          refine lv_if_eq (tgt := 821) S.1 S.2.1 dL_law_814 (by decide) (fun c814 => ?_) (fun c814 => ?_)
          · rw [if_pos c814] at h
            refine lv_iconst (v := 0) S.1 S.2.1 dL_law_821 (by decide) ?_
            obtain ⟨_, h200, h⟩ := h
            obtain ⟨x202, g203, h201, h⟩ := h
            refine xr_callV_i S w hA hN 9 rfl h200 (c_X8_hide l D cy L195 g195 v2 x196 0 h201) (cwV 2 S.2.2.2.2 gL_law_X8_hide rfl rfl rfl (by decide +kernel) ⟨Nat.le_of_ble_eq_true rfl, Nat.le_of_ble_eq_true rfl⟩) rfl rfl hl.1 (Nat.le_of_ble_eq_true rfl) dL_law_822 ⟨show _ ≤ 600128 from by omega, show _ ≤ 7301098 from by omega⟩ (fun H locs w => ?_)
            refine lv_istore (lv' := [(6, .int x202), (5, .int x195), (0, .ref b), (1, .ref v1), (2, .ref v2), (3, .ref v3), (4, .int v4)]) S.1 S.2.1 dL_law_825 hl (by decide) rfl (fun ls hl => ?_)
            refine lv_aload_n S.1 S.2.1 dL_law_827 rfl (lv_at hl 4 rfl) ?_
            obtain ⟨_, h204, h⟩ := h
            obtain ⟨x206, h205, h⟩ := h
            refine xr_callV_i S w hA hN 9 rfl h204 (c_X8_thrown l D cy L195 g203 v2 h205) (cwV 0 S.2.2.2.2 gL_law_X8_thrown rfl rfl rfl (by decide +kernel) ⟨Nat.le_of_ble_eq_true rfl, Nat.le_of_ble_eq_true rfl⟩) rfl rfl hl.1 (Nat.le_of_ble_eq_true rfl) dL_law_828 ⟨show _ ≤ 600128 from by omega, show _ ≤ 7301098 from by omega⟩ (fun H locs w => ?_)
            refine lv_iload S.1 S.2.1 dL_law_831 (lv_at hl 1 rfl) ?_
            refine lv_icmp_eq (tgt := 838) S.1 S.2.1 dL_law_833 (by decide) (fun c833 => ?_) (fun c833 => ?_)
            · rw [if_pos c833] at h
              refine lv_iload S.1 S.2.1 dL_law_838 (lv_at hl 1 rfl) ?_
              refine lv_if_ne (tgt := 862) S.1 S.2.1 dL_law_840 (by decide) (fun c840 => ?_) (fun c840 => ?_)
              · rw [if_neg c840] at h
                refine lv_goto (tgt := 1558) S.1 S.2.1 dL_law_862 (by decide) ?_
                refine lv_iinc (v := (v4 + 4)) (lv' := [(4, .int (v4 + 4)), (6, .int x202), (5, .int x195), (0, .ref b), (1, .ref v1), (2, .ref v2), (3, .ref v3)]) S.1 S.2.1 dL_law_1558 hl (k := 6) rfl rfl (by decide) rfl (fun ls hl => ?_)
                refine lv_goto (tgt := 23) S.1 S.2.1 dL_law_1561 (by decide) ?_
                exact ih L195 g203 v1 v2 v3 (v4 + 4) h _ _ (by omega) (by omega) _ _ _ w (lv_sub hl [3, 4, 5, 6, 0] rfl)
              · rw [if_pos c840] at h
                refine lv_aload_n S.1 S.2.1 dL_law_843 rfl (lv_at hl 5 rfl) ?_
                refine lv_iconst (v := 0) S.1 S.2.1 dL_law_844 (by decide) ?_
                obtain ⟨x207, h208, h⟩ := h
                refine xr_lald S w h208 dL_law_845 ?_
                refine lv_iload S.1 S.2.1 dL_law_846 (lv_at hl 0 rfl) ?_
                refine lv_if_eq (tgt := 855) S.1 S.2.1 dL_law_848 (by decide) (fun c848 => ?_) (fun c848 => ?_)
                · rw [if_pos c848] at h
                  refine lv_lconst (v := 0) S.1 S.2.1 dL_law_855 (by decide) ?_
                  refine xr_lceq (tgt := 862) S dL_law_856 dL_law_857 (by decide) (fun c856 => ?_) (fun c856 => ?_)
                  · rw [if_pos c856] at h
                    refine lv_goto (tgt := 1558) S.1 S.2.1 dL_law_862 (by decide) ?_
                    refine lv_iinc (v := (v4 + 4)) (lv' := [(4, .int (v4 + 4)), (6, .int x202), (5, .int x195), (0, .ref b), (1, .ref v1), (2, .ref v2), (3, .ref v3)]) S.1 S.2.1 dL_law_1558 hl (k := 6) rfl rfl (by decide) rfl (fun ls hl => ?_)
                    refine lv_goto (tgt := 23) S.1 S.2.1 dL_law_1561 (by decide) ?_
                    exact ih L195 g203 v1 v2 v3 (v4 + 4) h _ _ (by omega) (by omega) _ _ _ w (lv_sub hl [3, 4, 5, 6, 0] rfl)
                  · rw [if_neg c856] at h
                    refine lv_iconst (v := 0) S.1 S.2.1 dL_law_860 (by decide) ?_
                    exact h.elim
                · rw [if_neg c848] at h
                  refine lv_lconst (v := 1) S.1 S.2.1 dL_law_851 (by decide) ?_
                  refine lv_goto (tgt := 856) S.1 S.2.1 dL_law_852 (by decide) ?_
                  refine xr_lceq (tgt := 862) S dL_law_856 dL_law_857 (by decide) (fun c856 => ?_) (fun c856 => ?_)
                  · rw [if_pos c856] at h
                    refine lv_goto (tgt := 1558) S.1 S.2.1 dL_law_862 (by decide) ?_
                    refine lv_iinc (v := (v4 + 4)) (lv' := [(4, .int (v4 + 4)), (6, .int x202), (5, .int x195), (0, .ref b), (1, .ref v1), (2, .ref v2), (3, .ref v3)]) S.1 S.2.1 dL_law_1558 hl (k := 6) rfl rfl (by decide) rfl (fun ls hl => ?_)
                    refine lv_goto (tgt := 23) S.1 S.2.1 dL_law_1561 (by decide) ?_
                    exact ih L195 g203 v1 v2 v3 (v4 + 4) h _ _ (by omega) (by omega) _ _ _ w (lv_sub hl [3, 4, 5, 6, 0] rfl)
                  · rw [if_neg c856] at h
                    refine lv_iconst (v := 0) S.1 S.2.1 dL_law_860 (by decide) ?_
                    exact h.elim
            · rw [if_neg c833] at h
              refine lv_iconst (v := 0) S.1 S.2.1 dL_law_836 (by decide) ?_
              exact h.elim
          · rw [if_neg c814] at h
            refine lv_iconst (v := 1) S.1 S.2.1 dL_law_817 (by decide) ?_
            refine lv_goto (tgt := 822) S.1 S.2.1 dL_law_818 (by decide) ?_
            obtain ⟨_, h209, h⟩ := h
            obtain ⟨x211, g212, h210, h⟩ := h
            refine xr_callV_i S w hA hN 9 rfl h209 (c_X8_hide l D cy L195 g195 v2 x196 1 h210) (cwV 2 S.2.2.2.2 gL_law_X8_hide rfl rfl rfl (by decide +kernel) ⟨Nat.le_of_ble_eq_true rfl, Nat.le_of_ble_eq_true rfl⟩) rfl rfl hl.1 (Nat.le_of_ble_eq_true rfl) dL_law_822 ⟨show _ ≤ 600128 from by omega, show _ ≤ 7301098 from by omega⟩ (fun H locs w => ?_)
            refine lv_istore (lv' := [(6, .int x211), (5, .int x195), (0, .ref b), (1, .ref v1), (2, .ref v2), (3, .ref v3), (4, .int v4)]) S.1 S.2.1 dL_law_825 hl (by decide) rfl (fun ls hl => ?_)
            refine lv_aload_n S.1 S.2.1 dL_law_827 rfl (lv_at hl 4 rfl) ?_
            obtain ⟨_, h213, h⟩ := h
            obtain ⟨x215, h214, h⟩ := h
            refine xr_callV_i S w hA hN 9 rfl h213 (c_X8_thrown l D cy L195 g212 v2 h214) (cwV 0 S.2.2.2.2 gL_law_X8_thrown rfl rfl rfl (by decide +kernel) ⟨Nat.le_of_ble_eq_true rfl, Nat.le_of_ble_eq_true rfl⟩) rfl rfl hl.1 (Nat.le_of_ble_eq_true rfl) dL_law_828 ⟨show _ ≤ 600128 from by omega, show _ ≤ 7301098 from by omega⟩ (fun H locs w => ?_)
            refine lv_iload S.1 S.2.1 dL_law_831 (lv_at hl 1 rfl) ?_
            refine lv_icmp_eq (tgt := 838) S.1 S.2.1 dL_law_833 (by decide) (fun c833 => ?_) (fun c833 => ?_)
            · rw [if_pos c833] at h
              refine lv_iload S.1 S.2.1 dL_law_838 (lv_at hl 1 rfl) ?_
              refine lv_if_ne (tgt := 862) S.1 S.2.1 dL_law_840 (by decide) (fun c840 => ?_) (fun c840 => ?_)
              · rw [if_neg c840] at h
                refine lv_goto (tgt := 1558) S.1 S.2.1 dL_law_862 (by decide) ?_
                refine lv_iinc (v := (v4 + 4)) (lv' := [(4, .int (v4 + 4)), (6, .int x211), (5, .int x195), (0, .ref b), (1, .ref v1), (2, .ref v2), (3, .ref v3)]) S.1 S.2.1 dL_law_1558 hl (k := 6) rfl rfl (by decide) rfl (fun ls hl => ?_)
                refine lv_goto (tgt := 23) S.1 S.2.1 dL_law_1561 (by decide) ?_
                exact ih L195 g212 v1 v2 v3 (v4 + 4) h _ _ (by omega) (by omega) _ _ _ w (lv_sub hl [3, 4, 5, 6, 0] rfl)
              · rw [if_pos c840] at h
                refine lv_aload_n S.1 S.2.1 dL_law_843 rfl (lv_at hl 5 rfl) ?_
                refine lv_iconst (v := 0) S.1 S.2.1 dL_law_844 (by decide) ?_
                obtain ⟨x216, h217, h⟩ := h
                refine xr_lald S w h217 dL_law_845 ?_
                refine lv_iload S.1 S.2.1 dL_law_846 (lv_at hl 0 rfl) ?_
                refine lv_if_eq (tgt := 855) S.1 S.2.1 dL_law_848 (by decide) (fun c848 => ?_) (fun c848 => ?_)
                · rw [if_pos c848] at h
                  refine lv_lconst (v := 0) S.1 S.2.1 dL_law_855 (by decide) ?_
                  refine xr_lceq (tgt := 862) S dL_law_856 dL_law_857 (by decide) (fun c856 => ?_) (fun c856 => ?_)
                  · rw [if_pos c856] at h
                    refine lv_goto (tgt := 1558) S.1 S.2.1 dL_law_862 (by decide) ?_
                    refine lv_iinc (v := (v4 + 4)) (lv' := [(4, .int (v4 + 4)), (6, .int x211), (5, .int x195), (0, .ref b), (1, .ref v1), (2, .ref v2), (3, .ref v3)]) S.1 S.2.1 dL_law_1558 hl (k := 6) rfl rfl (by decide) rfl (fun ls hl => ?_)
                    refine lv_goto (tgt := 23) S.1 S.2.1 dL_law_1561 (by decide) ?_
                    exact ih L195 g212 v1 v2 v3 (v4 + 4) h _ _ (by omega) (by omega) _ _ _ w (lv_sub hl [3, 4, 5, 6, 0] rfl)
                  · rw [if_neg c856] at h
                    refine lv_iconst (v := 0) S.1 S.2.1 dL_law_860 (by decide) ?_
                    exact h.elim
                · rw [if_neg c848] at h
                  refine lv_lconst (v := 1) S.1 S.2.1 dL_law_851 (by decide) ?_
                  refine lv_goto (tgt := 856) S.1 S.2.1 dL_law_852 (by decide) ?_
                  refine xr_lceq (tgt := 862) S dL_law_856 dL_law_857 (by decide) (fun c856 => ?_) (fun c856 => ?_)
                  · rw [if_pos c856] at h
                    refine lv_goto (tgt := 1558) S.1 S.2.1 dL_law_862 (by decide) ?_
                    refine lv_iinc (v := (v4 + 4)) (lv' := [(4, .int (v4 + 4)), (6, .int x211), (5, .int x195), (0, .ref b), (1, .ref v1), (2, .ref v2), (3, .ref v3)]) S.1 S.2.1 dL_law_1558 hl (k := 6) rfl rfl (by decide) rfl (fun ls hl => ?_)
                    refine lv_goto (tgt := 23) S.1 S.2.1 dL_law_1561 (by decide) ?_
                    exact ih L195 g212 v1 v2 v3 (v4 + 4) h _ _ (by omega) (by omega) _ _ _ w (lv_sub hl [3, 4, 5, 6, 0] rfl)
                  · rw [if_neg c856] at h
                    refine lv_iconst (v := 0) S.1 S.2.1 dL_law_860 (by decide) ?_
                    exact h.elim
            · rw [if_neg c833] at h
              refine lv_iconst (v := 0) S.1 S.2.1 dL_law_836 (by decide) ?_
              exact h.elim
      rw [if_neg c39_10] at h
      by_cases c39_11 : (x1 &&& 31) = 11
      · rw [if_pos c39_11] at h
        rw [c39_11]
        refine lv_tableIn (off := 826) (tgt := 865) S.1 S.2.1 dL_law_39 (by decide) (by decide) (by decide) (by decide) ?_
        refine lv_aload_n S.1 S.2.1 dL_law_865 rfl (lv_at hl 1 rfl) ?_
        refine lv_aload_n S.1 S.2.1 dL_law_866 rfl (lv_at hl 0 rfl) ?_
        refine lv_iload S.1 S.2.1 dL_law_867 (lv_at hl 4 rfl) ?_
        refine lv_iconst (v := 1) S.1 S.2.1 dL_law_869 (by decide) ?_
        refine lv_iadd S.1 S.2.1 dL_law_870 ?_
        obtain ⟨x218, h219, h⟩ := h
        refine xr_sld S w hX hbl hbA h219 dL_law_871 ?_
        refine lv_aload_n S.1 S.2.1 dL_law_872 rfl (lv_at hl 0 rfl) ?_
        refine lv_iload S.1 S.2.1 dL_law_873 (lv_at hl 4 rfl) ?_
        refine lv_iconst (v := 2) S.1 S.2.1 dL_law_875 (by decide) ?_
        refine lv_iadd S.1 S.2.1 dL_law_876 ?_
        obtain ⟨x220, h221, h⟩ := h
        refine xr_sld S w hX hbl hbA h221 dL_law_877 ?_
        refine lv_aload_n S.1 S.2.1 dL_law_878 rfl (lv_at hl 3 rfl) ?_
        refine xr_callYSW_i S w hA hN hZ hT (c_L_audit l hst D cy t L g v1 x218 x220 v3 _ h) (vx_cwSW 4 S.2.2.2.2 gL_law_L_audit rfl rfl rfl (by decide +kernel) ⟨Nat.le_of_ble_eq_true rfl, Nat.le_of_ble_eq_true rfl⟩) rfl rfl hl.1 (Nat.le_of_ble_eq_true rfl) dL_law_879 ⟨show _ ≤ 600128 from by omega, show _ ≤ 7301098 from by omega⟩ (fun x222 L222 g222 H locs h w => ?_)
        refine lv_istore (lv' := [(5, .int x222), (0, .ref b), (1, .ref v1), (2, .ref v2), (3, .ref v3), (4, .int v4)]) S.1 S.2.1 dL_law_882 hl (by decide) rfl (fun ls hl => ?_)
        refine lv_aload_n S.1 S.2.1 dL_law_884 rfl (lv_at hl 3 rfl) ?_
        refine lv_aload_n S.1 S.2.1 dL_law_885 rfl (lv_at hl 1 rfl) ?_
        refine lv_iload S.1 S.2.1 dL_law_886 (lv_at hl 5 rfl) ?_
        refine lv_iconst (v := 1) S.1 S.2.1 dL_law_888 (by decide) ?_
        refine lv_iadd S.1 S.2.1 dL_law_889 ?_
        obtain ⟨x223, h224, h⟩ := h
        refine xr_sld S w hX hbl hbA h224 dL_law_890 ?_
        refine lv_aload_n S.1 S.2.1 dL_law_891 rfl (lv_at hl 1 rfl) ?_
        refine lv_iload S.1 S.2.1 dL_law_892 (lv_at hl 5 rfl) ?_
        refine lv_iconst (v := 2) S.1 S.2.1 dL_law_894 (by decide) ?_
        refine lv_iadd S.1 S.2.1 dL_law_895 ?_
        obtain ⟨x225, h226, h⟩ := h
        refine xr_sld S w hX hbl hbA h226 dL_law_896 ?_
        obtain ⟨_, h227, h⟩ := h
        obtain ⟨x229, g230, h228, h⟩ := h
        refine xr_callV_i S w hA hN 9 rfl h227 (c_X8_audit l D cy L222 g222 v2 x223 x225 h228) (cwV 2 S.2.2.2.2 gL_law_X8_audit rfl rfl rfl (by decide +kernel) ⟨Nat.le_of_ble_eq_true rfl, Nat.le_of_ble_eq_true rfl⟩) rfl rfl hl.1 (Nat.le_of_ble_eq_true rfl) dL_law_897 ⟨show _ ≤ 600128 from by omega, show _ ≤ 7301098 from by omega⟩ (fun H locs w => ?_)
        refine lv_istore (lv' := [(6, .int x229), (5, .int x222), (0, .ref b), (1, .ref v1), (2, .ref v2), (3, .ref v3), (4, .int v4)]) S.1 S.2.1 dL_law_900 hl (by decide) rfl (fun ls hl => ?_)
        refine lv_aload_n S.1 S.2.1 dL_law_902 rfl (lv_at hl 4 rfl) ?_
        obtain ⟨_, h231, h⟩ := h
        obtain ⟨x233, h232, h⟩ := h
        refine xr_callV_i S w hA hN 9 rfl h231 (c_X8_thrown l D cy L222 g230 v2 h232) (cwV 0 S.2.2.2.2 gL_law_X8_thrown rfl rfl rfl (by decide +kernel) ⟨Nat.le_of_ble_eq_true rfl, Nat.le_of_ble_eq_true rfl⟩) rfl rfl hl.1 (Nat.le_of_ble_eq_true rfl) dL_law_903 ⟨show _ ≤ 600128 from by omega, show _ ≤ 7301098 from by omega⟩ (fun H locs w => ?_)
        refine lv_iload S.1 S.2.1 dL_law_906 (lv_at hl 1 rfl) ?_
        refine lv_icmp_eq (tgt := 913) S.1 S.2.1 dL_law_908 (by decide) (fun c908 => ?_) (fun c908 => ?_)
        · rw [if_pos c908] at h
          refine lv_iload S.1 S.2.1 dL_law_913 (lv_at hl 1 rfl) ?_
          refine lv_if_ne (tgt := 930) S.1 S.2.1 dL_law_915 (by decide) (fun c915 => ?_) (fun c915 => ?_)
          · rw [if_neg c915] at h
            refine lv_goto (tgt := 1558) S.1 S.2.1 dL_law_930 (by decide) ?_
            refine lv_iinc (v := (v4 + 4)) (lv' := [(4, .int (v4 + 4)), (6, .int x229), (5, .int x222), (0, .ref b), (1, .ref v1), (2, .ref v2), (3, .ref v3)]) S.1 S.2.1 dL_law_1558 hl (k := 6) rfl rfl (by decide) rfl (fun ls hl => ?_)
            refine lv_goto (tgt := 23) S.1 S.2.1 dL_law_1561 (by decide) ?_
            exact ih L222 g230 v1 v2 v3 (v4 + 4) h _ _ (by omega) (by omega) _ _ _ w (lv_sub hl [3, 4, 5, 6, 0] rfl)
          · rw [if_pos c915] at h
            refine lv_aload_n S.1 S.2.1 dL_law_918 rfl (lv_at hl 5 rfl) ?_
            refine lv_iconst (v := 0) S.1 S.2.1 dL_law_919 (by decide) ?_
            obtain ⟨x234, h235, h⟩ := h
            refine xr_lald S w h235 dL_law_920 ?_
            refine lv_iload S.1 S.2.1 dL_law_921 (lv_at hl 0 rfl) ?_
            refine lv_i2l (v := (Int32.toInt64 x229)) S.1 S.2.1 dL_law_923 rfl ?_
            refine xr_lceq (tgt := 930) S dL_law_924 dL_law_925 (by decide) (fun c924 => ?_) (fun c924 => ?_)
            · rw [if_pos c924] at h
              refine lv_goto (tgt := 1558) S.1 S.2.1 dL_law_930 (by decide) ?_
              refine lv_iinc (v := (v4 + 4)) (lv' := [(4, .int (v4 + 4)), (6, .int x229), (5, .int x222), (0, .ref b), (1, .ref v1), (2, .ref v2), (3, .ref v3)]) S.1 S.2.1 dL_law_1558 hl (k := 6) rfl rfl (by decide) rfl (fun ls hl => ?_)
              refine lv_goto (tgt := 23) S.1 S.2.1 dL_law_1561 (by decide) ?_
              exact ih L222 g230 v1 v2 v3 (v4 + 4) h _ _ (by omega) (by omega) _ _ _ w (lv_sub hl [3, 4, 5, 6, 0] rfl)
            · rw [if_neg c924] at h
              refine lv_iconst (v := 0) S.1 S.2.1 dL_law_928 (by decide) ?_
              exact h.elim
        · rw [if_neg c908] at h
          refine lv_iconst (v := 0) S.1 S.2.1 dL_law_911 (by decide) ?_
          exact h.elim
      rw [if_neg c39_11] at h
      by_cases c39_12 : (x1 &&& 31) = 12
      · rw [if_pos c39_12] at h
        rw [c39_12]
        refine lv_tableIn (off := 894) (tgt := 933) S.1 S.2.1 dL_law_39 (by decide) (by decide) (by decide) (by decide) ?_
        refine lv_aload_n S.1 S.2.1 dL_law_933 rfl (lv_at hl 1 rfl) ?_
        refine lv_aload_n S.1 S.2.1 dL_law_934 rfl (lv_at hl 0 rfl) ?_
        refine lv_iload S.1 S.2.1 dL_law_935 (lv_at hl 4 rfl) ?_
        refine lv_iconst (v := 1) S.1 S.2.1 dL_law_937 (by decide) ?_
        refine lv_iadd S.1 S.2.1 dL_law_938 ?_
        obtain ⟨x236, h237, h⟩ := h
        refine xr_sld S w hX hbl hbA h237 dL_law_939 ?_
        refine lv_aload_n S.1 S.2.1 dL_law_940 rfl (lv_at hl 0 rfl) ?_
        refine lv_iload S.1 S.2.1 dL_law_941 (lv_at hl 4 rfl) ?_
        refine lv_iconst (v := 2) S.1 S.2.1 dL_law_943 (by decide) ?_
        refine lv_iadd S.1 S.2.1 dL_law_944 ?_
        obtain ⟨x238, h239, h⟩ := h
        refine xr_sld S w hX hbl hbA h239 dL_law_945 ?_
        refine lv_aload_n S.1 S.2.1 dL_law_946 rfl (lv_at hl 3 rfl) ?_
        refine xr_callYSW_i S w hA hN hZ hT (c_L_judge l hst D cy t L g v1 x236 x238 v3 _ h) (vx_cwSW 4 S.2.2.2.2 gL_law_L_judge rfl rfl rfl (by decide +kernel) ⟨Nat.le_of_ble_eq_true rfl, Nat.le_of_ble_eq_true rfl⟩) rfl rfl hl.1 (Nat.le_of_ble_eq_true rfl) dL_law_947 ⟨show _ ≤ 600128 from by omega, show _ ≤ 7301098 from by omega⟩ (fun x240 L240 g240 H locs h w => ?_)
        refine lv_istore (lv' := [(5, .int x240), (0, .ref b), (1, .ref v1), (2, .ref v2), (3, .ref v3), (4, .int v4)]) S.1 S.2.1 dL_law_950 hl (by decide) rfl (fun ls hl => ?_)
        refine lv_aload_n S.1 S.2.1 dL_law_952 rfl (lv_at hl 3 rfl) ?_
        refine lv_aload_n S.1 S.2.1 dL_law_953 rfl (lv_at hl 1 rfl) ?_
        refine lv_iload S.1 S.2.1 dL_law_954 (lv_at hl 5 rfl) ?_
        refine lv_iconst (v := 1) S.1 S.2.1 dL_law_956 (by decide) ?_
        refine lv_iadd S.1 S.2.1 dL_law_957 ?_
        obtain ⟨x241, h242, h⟩ := h
        refine xr_sld S w hX hbl hbA h242 dL_law_958 ?_
        refine lv_aload_n S.1 S.2.1 dL_law_959 rfl (lv_at hl 1 rfl) ?_
        refine lv_iload S.1 S.2.1 dL_law_960 (lv_at hl 5 rfl) ?_
        refine lv_iconst (v := 2) S.1 S.2.1 dL_law_962 (by decide) ?_
        refine lv_iadd S.1 S.2.1 dL_law_963 ?_
        obtain ⟨x243, h244, h⟩ := h
        refine xr_sld S w hX hbl hbA h244 dL_law_964 ?_
        obtain ⟨_, h245, h⟩ := h
        obtain ⟨x247, g248, h246, h⟩ := h
        refine xr_callV_i S w hA hN 9 rfl h245 (c_X8_judge l D cy L240 g240 v2 x241 x243 h246) (cwV 2 S.2.2.2.2 gL_law_X8_judge rfl rfl rfl (by decide +kernel) ⟨Nat.le_of_ble_eq_true rfl, Nat.le_of_ble_eq_true rfl⟩) rfl rfl hl.1 (Nat.le_of_ble_eq_true rfl) dL_law_965 ⟨show _ ≤ 600128 from by omega, show _ ≤ 7301098 from by omega⟩ (fun H locs w => ?_)
        refine lv_istore (lv' := [(6, .int x247), (5, .int x240), (0, .ref b), (1, .ref v1), (2, .ref v2), (3, .ref v3), (4, .int v4)]) S.1 S.2.1 dL_law_968 hl (by decide) rfl (fun ls hl => ?_)
        refine lv_aload_n S.1 S.2.1 dL_law_970 rfl (lv_at hl 4 rfl) ?_
        obtain ⟨_, h249, h⟩ := h
        obtain ⟨x251, h250, h⟩ := h
        refine xr_callV_i S w hA hN 9 rfl h249 (c_X8_thrown l D cy L240 g248 v2 h250) (cwV 0 S.2.2.2.2 gL_law_X8_thrown rfl rfl rfl (by decide +kernel) ⟨Nat.le_of_ble_eq_true rfl, Nat.le_of_ble_eq_true rfl⟩) rfl rfl hl.1 (Nat.le_of_ble_eq_true rfl) dL_law_971 ⟨show _ ≤ 600128 from by omega, show _ ≤ 7301098 from by omega⟩ (fun H locs w => ?_)
        refine lv_iload S.1 S.2.1 dL_law_974 (lv_at hl 1 rfl) ?_
        refine lv_icmp_eq (tgt := 981) S.1 S.2.1 dL_law_976 (by decide) (fun c976 => ?_) (fun c976 => ?_)
        · rw [if_pos c976] at h
          refine lv_iload S.1 S.2.1 dL_law_981 (lv_at hl 1 rfl) ?_
          refine lv_if_ne (tgt := 1005) S.1 S.2.1 dL_law_983 (by decide) (fun c983 => ?_) (fun c983 => ?_)
          · rw [if_neg c983] at h
            refine lv_goto (tgt := 1558) S.1 S.2.1 dL_law_1005 (by decide) ?_
            refine lv_iinc (v := (v4 + 4)) (lv' := [(4, .int (v4 + 4)), (6, .int x247), (5, .int x240), (0, .ref b), (1, .ref v1), (2, .ref v2), (3, .ref v3)]) S.1 S.2.1 dL_law_1558 hl (k := 6) rfl rfl (by decide) rfl (fun ls hl => ?_)
            refine lv_goto (tgt := 23) S.1 S.2.1 dL_law_1561 (by decide) ?_
            exact ih L240 g248 v1 v2 v3 (v4 + 4) h _ _ (by omega) (by omega) _ _ _ w (lv_sub hl [3, 4, 5, 6, 0] rfl)
          · rw [if_pos c983] at h
            refine lv_aload_n S.1 S.2.1 dL_law_986 rfl (lv_at hl 5 rfl) ?_
            refine lv_iconst (v := 0) S.1 S.2.1 dL_law_987 (by decide) ?_
            obtain ⟨x252, h253, h⟩ := h
            refine xr_lald S w h253 dL_law_988 ?_
            refine lv_iload S.1 S.2.1 dL_law_989 (lv_at hl 0 rfl) ?_
            refine lv_if_eq (tgt := 998) S.1 S.2.1 dL_law_991 (by decide) (fun c991 => ?_) (fun c991 => ?_)
            · rw [if_pos c991] at h
              refine lv_lconst (v := 0) S.1 S.2.1 dL_law_998 (by decide) ?_
              refine xr_lceq (tgt := 1005) S dL_law_999 dL_law_1000 (by decide) (fun c999 => ?_) (fun c999 => ?_)
              · rw [if_pos c999] at h
                refine lv_goto (tgt := 1558) S.1 S.2.1 dL_law_1005 (by decide) ?_
                refine lv_iinc (v := (v4 + 4)) (lv' := [(4, .int (v4 + 4)), (6, .int x247), (5, .int x240), (0, .ref b), (1, .ref v1), (2, .ref v2), (3, .ref v3)]) S.1 S.2.1 dL_law_1558 hl (k := 6) rfl rfl (by decide) rfl (fun ls hl => ?_)
                refine lv_goto (tgt := 23) S.1 S.2.1 dL_law_1561 (by decide) ?_
                exact ih L240 g248 v1 v2 v3 (v4 + 4) h _ _ (by omega) (by omega) _ _ _ w (lv_sub hl [3, 4, 5, 6, 0] rfl)
              · rw [if_neg c999] at h
                refine lv_iconst (v := 0) S.1 S.2.1 dL_law_1003 (by decide) ?_
                exact h.elim
            · rw [if_neg c991] at h
              refine lv_lconst (v := 1) S.1 S.2.1 dL_law_994 (by decide) ?_
              refine lv_goto (tgt := 999) S.1 S.2.1 dL_law_995 (by decide) ?_
              refine xr_lceq (tgt := 1005) S dL_law_999 dL_law_1000 (by decide) (fun c999 => ?_) (fun c999 => ?_)
              · rw [if_pos c999] at h
                refine lv_goto (tgt := 1558) S.1 S.2.1 dL_law_1005 (by decide) ?_
                refine lv_iinc (v := (v4 + 4)) (lv' := [(4, .int (v4 + 4)), (6, .int x247), (5, .int x240), (0, .ref b), (1, .ref v1), (2, .ref v2), (3, .ref v3)]) S.1 S.2.1 dL_law_1558 hl (k := 6) rfl rfl (by decide) rfl (fun ls hl => ?_)
                refine lv_goto (tgt := 23) S.1 S.2.1 dL_law_1561 (by decide) ?_
                exact ih L240 g248 v1 v2 v3 (v4 + 4) h _ _ (by omega) (by omega) _ _ _ w (lv_sub hl [3, 4, 5, 6, 0] rfl)
              · rw [if_neg c999] at h
                refine lv_iconst (v := 0) S.1 S.2.1 dL_law_1003 (by decide) ?_
                exact h.elim
        · rw [if_neg c976] at h
          refine lv_iconst (v := 0) S.1 S.2.1 dL_law_979 (by decide) ?_
          exact h.elim
      rw [if_neg c39_12] at h
      by_cases c39_13 : (x1 &&& 31) = 13
      · rw [if_pos c39_13] at h
        rw [c39_13]
        refine lv_tableIn (off := 969) (tgt := 1008) S.1 S.2.1 dL_law_39 (by decide) (by decide) (by decide) (by decide) ?_
        refine lv_aload_n S.1 S.2.1 dL_law_1008 rfl (lv_at hl 1 rfl) ?_
        refine lv_aload_n S.1 S.2.1 dL_law_1009 rfl (lv_at hl 0 rfl) ?_
        refine lv_iload S.1 S.2.1 dL_law_1010 (lv_at hl 4 rfl) ?_
        refine lv_iconst (v := 1) S.1 S.2.1 dL_law_1012 (by decide) ?_
        refine lv_iadd S.1 S.2.1 dL_law_1013 ?_
        obtain ⟨x254, h255, h⟩ := h
        refine xr_sld S w hX hbl hbA h255 dL_law_1014 ?_
        refine lv_aload_n S.1 S.2.1 dL_law_1015 rfl (lv_at hl 3 rfl) ?_
        refine xr_callYSW_i S w hA hN hZ hT (c_L_holds l hst D cy t L g v1 x254 v3 _ h) (vx_cwSW 3 S.2.2.2.2 gL_law_L_holds rfl rfl rfl (by decide +kernel) ⟨Nat.le_of_ble_eq_true rfl, Nat.le_of_ble_eq_true rfl⟩) rfl rfl hl.1 (Nat.le_of_ble_eq_true rfl) dL_law_1016 ⟨show _ ≤ 600128 from by omega, show _ ≤ 7301098 from by omega⟩ (fun x256 L256 g256 H locs h w => ?_)
        refine lv_istore (lv' := [(5, .int x256), (0, .ref b), (1, .ref v1), (2, .ref v2), (3, .ref v3), (4, .int v4)]) S.1 S.2.1 dL_law_1019 hl (by decide) rfl (fun ls hl => ?_)
        refine lv_aload_n S.1 S.2.1 dL_law_1021 rfl (lv_at hl 3 rfl) ?_
        refine lv_aload_n S.1 S.2.1 dL_law_1022 rfl (lv_at hl 1 rfl) ?_
        refine lv_iload S.1 S.2.1 dL_law_1023 (lv_at hl 5 rfl) ?_
        refine lv_iconst (v := 1) S.1 S.2.1 dL_law_1025 (by decide) ?_
        refine lv_iadd S.1 S.2.1 dL_law_1026 ?_
        obtain ⟨x257, h258, h⟩ := h
        refine xr_sld S w hX hbl hbA h258 dL_law_1027 ?_
        obtain ⟨_, h259, h⟩ := h
        obtain ⟨x261, g262, h260, h⟩ := h
        refine xr_callV_i S w hA hN 9 rfl h259 (c_X8_holds l D cy L256 g256 v2 x257 h260) (cwV 1 S.2.2.2.2 gL_law_X8_holds rfl rfl rfl (by decide +kernel) ⟨Nat.le_of_ble_eq_true rfl, Nat.le_of_ble_eq_true rfl⟩) rfl rfl hl.1 (Nat.le_of_ble_eq_true rfl) dL_law_1028 ⟨show _ ≤ 600128 from by omega, show _ ≤ 7301098 from by omega⟩ (fun H locs w => ?_)
        refine lv_istore (lv' := [(6, .int x261), (5, .int x256), (0, .ref b), (1, .ref v1), (2, .ref v2), (3, .ref v3), (4, .int v4)]) S.1 S.2.1 dL_law_1031 hl (by decide) rfl (fun ls hl => ?_)
        refine lv_aload_n S.1 S.2.1 dL_law_1033 rfl (lv_at hl 4 rfl) ?_
        obtain ⟨_, h263, h⟩ := h
        obtain ⟨x265, h264, h⟩ := h
        refine xr_callV_i S w hA hN 9 rfl h263 (c_X8_thrown l D cy L256 g262 v2 h264) (cwV 0 S.2.2.2.2 gL_law_X8_thrown rfl rfl rfl (by decide +kernel) ⟨Nat.le_of_ble_eq_true rfl, Nat.le_of_ble_eq_true rfl⟩) rfl rfl hl.1 (Nat.le_of_ble_eq_true rfl) dL_law_1034 ⟨show _ ≤ 600128 from by omega, show _ ≤ 7301098 from by omega⟩ (fun H locs w => ?_)
        refine lv_iload S.1 S.2.1 dL_law_1037 (lv_at hl 1 rfl) ?_
        refine lv_icmp_eq (tgt := 1044) S.1 S.2.1 dL_law_1039 (by decide) (fun c1039 => ?_) (fun c1039 => ?_)
        · rw [if_pos c1039] at h
          refine lv_iload S.1 S.2.1 dL_law_1044 (lv_at hl 1 rfl) ?_
          refine lv_if_ne (tgt := 1068) S.1 S.2.1 dL_law_1046 (by decide) (fun c1046 => ?_) (fun c1046 => ?_)
          · rw [if_neg c1046] at h
            refine lv_goto (tgt := 1558) S.1 S.2.1 dL_law_1068 (by decide) ?_
            refine lv_iinc (v := (v4 + 4)) (lv' := [(4, .int (v4 + 4)), (6, .int x261), (5, .int x256), (0, .ref b), (1, .ref v1), (2, .ref v2), (3, .ref v3)]) S.1 S.2.1 dL_law_1558 hl (k := 6) rfl rfl (by decide) rfl (fun ls hl => ?_)
            refine lv_goto (tgt := 23) S.1 S.2.1 dL_law_1561 (by decide) ?_
            exact ih L256 g262 v1 v2 v3 (v4 + 4) h _ _ (by omega) (by omega) _ _ _ w (lv_sub hl [3, 4, 5, 6, 0] rfl)
          · rw [if_pos c1046] at h
            refine lv_aload_n S.1 S.2.1 dL_law_1049 rfl (lv_at hl 5 rfl) ?_
            refine lv_iconst (v := 0) S.1 S.2.1 dL_law_1050 (by decide) ?_
            obtain ⟨x266, h267, h⟩ := h
            refine xr_lald S w h267 dL_law_1051 ?_
            refine lv_iload S.1 S.2.1 dL_law_1052 (lv_at hl 0 rfl) ?_
            refine lv_if_eq (tgt := 1061) S.1 S.2.1 dL_law_1054 (by decide) (fun c1054 => ?_) (fun c1054 => ?_)
            · rw [if_pos c1054] at h
              refine lv_lconst (v := 0) S.1 S.2.1 dL_law_1061 (by decide) ?_
              refine xr_lceq (tgt := 1068) S dL_law_1062 dL_law_1063 (by decide) (fun c1062 => ?_) (fun c1062 => ?_)
              · rw [if_pos c1062] at h
                refine lv_goto (tgt := 1558) S.1 S.2.1 dL_law_1068 (by decide) ?_
                refine lv_iinc (v := (v4 + 4)) (lv' := [(4, .int (v4 + 4)), (6, .int x261), (5, .int x256), (0, .ref b), (1, .ref v1), (2, .ref v2), (3, .ref v3)]) S.1 S.2.1 dL_law_1558 hl (k := 6) rfl rfl (by decide) rfl (fun ls hl => ?_)
                refine lv_goto (tgt := 23) S.1 S.2.1 dL_law_1561 (by decide) ?_
                exact ih L256 g262 v1 v2 v3 (v4 + 4) h _ _ (by omega) (by omega) _ _ _ w (lv_sub hl [3, 4, 5, 6, 0] rfl)
              · rw [if_neg c1062] at h
                refine lv_iconst (v := 0) S.1 S.2.1 dL_law_1066 (by decide) ?_
                exact h.elim
            · rw [if_neg c1054] at h
              refine lv_lconst (v := 1) S.1 S.2.1 dL_law_1057 (by decide) ?_
              refine lv_goto (tgt := 1062) S.1 S.2.1 dL_law_1058 (by decide) ?_
              refine xr_lceq (tgt := 1068) S dL_law_1062 dL_law_1063 (by decide) (fun c1062 => ?_) (fun c1062 => ?_)
              · rw [if_pos c1062] at h
                refine lv_goto (tgt := 1558) S.1 S.2.1 dL_law_1068 (by decide) ?_
                refine lv_iinc (v := (v4 + 4)) (lv' := [(4, .int (v4 + 4)), (6, .int x261), (5, .int x256), (0, .ref b), (1, .ref v1), (2, .ref v2), (3, .ref v3)]) S.1 S.2.1 dL_law_1558 hl (k := 6) rfl rfl (by decide) rfl (fun ls hl => ?_)
                refine lv_goto (tgt := 23) S.1 S.2.1 dL_law_1561 (by decide) ?_
                exact ih L256 g262 v1 v2 v3 (v4 + 4) h _ _ (by omega) (by omega) _ _ _ w (lv_sub hl [3, 4, 5, 6, 0] rfl)
              · rw [if_neg c1062] at h
                refine lv_iconst (v := 0) S.1 S.2.1 dL_law_1066 (by decide) ?_
                exact h.elim
        · rw [if_neg c1039] at h
          refine lv_iconst (v := 0) S.1 S.2.1 dL_law_1042 (by decide) ?_
          exact h.elim
      rw [if_neg c39_13] at h
      by_cases c39_14 : (x1 &&& 31) = 14
      · rw [if_pos c39_14] at h
        rw [c39_14]
        refine lv_tableIn (off := 1032) (tgt := 1071) S.1 S.2.1 dL_law_39 (by decide) (by decide) (by decide) (by decide) ?_
        refine lv_aload_n S.1 S.2.1 dL_law_1071 rfl (lv_at hl 1 rfl) ?_
        refine lv_aload_n S.1 S.2.1 dL_law_1072 rfl (lv_at hl 0 rfl) ?_
        refine lv_iload S.1 S.2.1 dL_law_1073 (lv_at hl 4 rfl) ?_
        refine lv_iconst (v := 1) S.1 S.2.1 dL_law_1075 (by decide) ?_
        refine lv_iadd S.1 S.2.1 dL_law_1076 ?_
        obtain ⟨x268, h269, h⟩ := h
        refine xr_sld S w hX hbl hbA h269 dL_law_1077 ?_
        refine lv_aload_n S.1 S.2.1 dL_law_1078 rfl (lv_at hl 0 rfl) ?_
        refine lv_iload S.1 S.2.1 dL_law_1079 (lv_at hl 4 rfl) ?_
        refine lv_iconst (v := 2) S.1 S.2.1 dL_law_1081 (by decide) ?_
        refine lv_iadd S.1 S.2.1 dL_law_1082 ?_
        obtain ⟨x270, h271, h⟩ := h
        refine xr_sld S w hX hbl hbA h271 dL_law_1083 ?_
        refine lv_aload_n S.1 S.2.1 dL_law_1084 rfl (lv_at hl 3 rfl) ?_
        refine xr_callYSW_i S w hA hN hZ hT (c_L_byteOf l hst D cy t L g v1 x268 x270 v3 _ h) (vx_cwSW 4 S.2.2.2.2 gL_law_L_byteOf rfl rfl rfl (by decide +kernel) ⟨Nat.le_of_ble_eq_true rfl, Nat.le_of_ble_eq_true rfl⟩) rfl rfl hl.1 (Nat.le_of_ble_eq_true rfl) dL_law_1085 ⟨show _ ≤ 600128 from by omega, show _ ≤ 7301098 from by omega⟩ (fun x272 L272 g272 H locs h w => ?_)
        refine lv_istore (lv' := [(5, .int x272), (0, .ref b), (1, .ref v1), (2, .ref v2), (3, .ref v3), (4, .int v4)]) S.1 S.2.1 dL_law_1088 hl (by decide) rfl (fun ls hl => ?_)
        refine lv_aload_n S.1 S.2.1 dL_law_1090 rfl (lv_at hl 3 rfl) ?_
        refine lv_aload_n S.1 S.2.1 dL_law_1091 rfl (lv_at hl 1 rfl) ?_
        refine lv_iload S.1 S.2.1 dL_law_1092 (lv_at hl 5 rfl) ?_
        refine lv_iconst (v := 1) S.1 S.2.1 dL_law_1094 (by decide) ?_
        refine lv_iadd S.1 S.2.1 dL_law_1095 ?_
        obtain ⟨x273, h274, h⟩ := h
        refine xr_sld S w hX hbl hbA h274 dL_law_1096 ?_
        refine lv_aload_n S.1 S.2.1 dL_law_1097 rfl (lv_at hl 1 rfl) ?_
        refine lv_iload S.1 S.2.1 dL_law_1098 (lv_at hl 5 rfl) ?_
        refine lv_iconst (v := 2) S.1 S.2.1 dL_law_1100 (by decide) ?_
        refine lv_iadd S.1 S.2.1 dL_law_1101 ?_
        obtain ⟨x275, h276, h⟩ := h
        refine xr_sld S w hX hbl hbA h276 dL_law_1102 ?_
        obtain ⟨_, h277, h⟩ := h
        obtain ⟨x279, g280, h278, h⟩ := h
        refine xr_callV_i S w hA hN 9 rfl h277 (c_X8_byteOf l D cy L272 g272 v2 x273 x275 h278) (cwV 2 S.2.2.2.2 gL_law_X8_byteOf rfl rfl rfl (by decide +kernel) ⟨Nat.le_of_ble_eq_true rfl, Nat.le_of_ble_eq_true rfl⟩) rfl rfl hl.1 (Nat.le_of_ble_eq_true rfl) dL_law_1103 ⟨show _ ≤ 600128 from by omega, show _ ≤ 7301098 from by omega⟩ (fun H locs w => ?_)
        refine lv_istore (lv' := [(6, .int x279), (5, .int x272), (0, .ref b), (1, .ref v1), (2, .ref v2), (3, .ref v3), (4, .int v4)]) S.1 S.2.1 dL_law_1106 hl (by decide) rfl (fun ls hl => ?_)
        refine lv_aload_n S.1 S.2.1 dL_law_1108 rfl (lv_at hl 4 rfl) ?_
        obtain ⟨_, h281, h⟩ := h
        obtain ⟨x283, h282, h⟩ := h
        refine xr_callV_i S w hA hN 9 rfl h281 (c_X8_thrown l D cy L272 g280 v2 h282) (cwV 0 S.2.2.2.2 gL_law_X8_thrown rfl rfl rfl (by decide +kernel) ⟨Nat.le_of_ble_eq_true rfl, Nat.le_of_ble_eq_true rfl⟩) rfl rfl hl.1 (Nat.le_of_ble_eq_true rfl) dL_law_1109 ⟨show _ ≤ 600128 from by omega, show _ ≤ 7301098 from by omega⟩ (fun H locs w => ?_)
        refine lv_iload S.1 S.2.1 dL_law_1112 (lv_at hl 1 rfl) ?_
        refine lv_icmp_eq (tgt := 1119) S.1 S.2.1 dL_law_1114 (by decide) (fun c1114 => ?_) (fun c1114 => ?_)
        · rw [if_pos c1114] at h
          refine lv_iload S.1 S.2.1 dL_law_1119 (lv_at hl 1 rfl) ?_
          refine lv_if_ne (tgt := 1136) S.1 S.2.1 dL_law_1121 (by decide) (fun c1121 => ?_) (fun c1121 => ?_)
          · rw [if_neg c1121] at h
            refine lv_goto (tgt := 1558) S.1 S.2.1 dL_law_1136 (by decide) ?_
            refine lv_iinc (v := (v4 + 4)) (lv' := [(4, .int (v4 + 4)), (6, .int x279), (5, .int x272), (0, .ref b), (1, .ref v1), (2, .ref v2), (3, .ref v3)]) S.1 S.2.1 dL_law_1558 hl (k := 6) rfl rfl (by decide) rfl (fun ls hl => ?_)
            refine lv_goto (tgt := 23) S.1 S.2.1 dL_law_1561 (by decide) ?_
            exact ih L272 g280 v1 v2 v3 (v4 + 4) h _ _ (by omega) (by omega) _ _ _ w (lv_sub hl [3, 4, 5, 6, 0] rfl)
          · rw [if_pos c1121] at h
            refine lv_aload_n S.1 S.2.1 dL_law_1124 rfl (lv_at hl 5 rfl) ?_
            refine lv_iconst (v := 0) S.1 S.2.1 dL_law_1125 (by decide) ?_
            obtain ⟨x284, h285, h⟩ := h
            refine xr_lald S w h285 dL_law_1126 ?_
            refine lv_iload S.1 S.2.1 dL_law_1127 (lv_at hl 0 rfl) ?_
            refine lv_i2l (v := (Int32.toInt64 x279)) S.1 S.2.1 dL_law_1129 rfl ?_
            refine xr_lceq (tgt := 1136) S dL_law_1130 dL_law_1131 (by decide) (fun c1130 => ?_) (fun c1130 => ?_)
            · rw [if_pos c1130] at h
              refine lv_goto (tgt := 1558) S.1 S.2.1 dL_law_1136 (by decide) ?_
              refine lv_iinc (v := (v4 + 4)) (lv' := [(4, .int (v4 + 4)), (6, .int x279), (5, .int x272), (0, .ref b), (1, .ref v1), (2, .ref v2), (3, .ref v3)]) S.1 S.2.1 dL_law_1558 hl (k := 6) rfl rfl (by decide) rfl (fun ls hl => ?_)
              refine lv_goto (tgt := 23) S.1 S.2.1 dL_law_1561 (by decide) ?_
              exact ih L272 g280 v1 v2 v3 (v4 + 4) h _ _ (by omega) (by omega) _ _ _ w (lv_sub hl [3, 4, 5, 6, 0] rfl)
            · rw [if_neg c1130] at h
              refine lv_iconst (v := 0) S.1 S.2.1 dL_law_1134 (by decide) ?_
              exact h.elim
        · rw [if_neg c1114] at h
          refine lv_iconst (v := 0) S.1 S.2.1 dL_law_1117 (by decide) ?_
          exact h.elim
      rw [if_neg c39_14] at h
      by_cases c39_15 : (x1 &&& 31) = 15
      · rw [if_pos c39_15] at h
        rw [c39_15]
        refine lv_tableIn (off := 1100) (tgt := 1139) S.1 S.2.1 dL_law_39 (by decide) (by decide) (by decide) (by decide) ?_
        refine lv_aload_n S.1 S.2.1 dL_law_1139 rfl (lv_at hl 1 rfl) ?_
        refine lv_aload_n S.1 S.2.1 dL_law_1140 rfl (lv_at hl 0 rfl) ?_
        refine lv_iload S.1 S.2.1 dL_law_1141 (lv_at hl 4 rfl) ?_
        refine lv_iconst (v := 1) S.1 S.2.1 dL_law_1143 (by decide) ?_
        refine lv_iadd S.1 S.2.1 dL_law_1144 ?_
        obtain ⟨x286, h287, h⟩ := h
        refine xr_sld S w hX hbl hbA h287 dL_law_1145 ?_
        refine lv_aload_n S.1 S.2.1 dL_law_1146 rfl (lv_at hl 0 rfl) ?_
        refine lv_iload S.1 S.2.1 dL_law_1147 (lv_at hl 4 rfl) ?_
        refine lv_iconst (v := 2) S.1 S.2.1 dL_law_1149 (by decide) ?_
        refine lv_iadd S.1 S.2.1 dL_law_1150 ?_
        obtain ⟨x288, h289, h⟩ := h
        refine xr_sld S w hX hbl hbA h289 dL_law_1151 ?_
        refine lv_aload_n S.1 S.2.1 dL_law_1152 rfl (lv_at hl 0 rfl) ?_
        refine lv_iload S.1 S.2.1 dL_law_1153 (lv_at hl 4 rfl) ?_
        refine lv_iconst (v := 3) S.1 S.2.1 dL_law_1155 (by decide) ?_
        refine lv_iadd S.1 S.2.1 dL_law_1156 ?_
        obtain ⟨x290, h291, h⟩ := h
        refine xr_sld S w hX hbl hbA h291 dL_law_1157 ?_
        refine lv_aload_n S.1 S.2.1 dL_law_1158 rfl (lv_at hl 3 rfl) ?_
        refine xr_callYSW_i S w hA hN hZ hT (c_L_smudge l hst D cy t L g v1 x286 x288 x290 v3 _ h) (vx_cwSW 5 S.2.2.2.2 gL_law_L_smudge rfl rfl rfl (by decide +kernel) ⟨Nat.le_of_ble_eq_true rfl, Nat.le_of_ble_eq_true rfl⟩) rfl rfl hl.1 (Nat.le_of_ble_eq_true rfl) dL_law_1159 ⟨show _ ≤ 600128 from by omega, show _ ≤ 7301098 from by omega⟩ (fun x292 L292 g292 H locs h w => ?_)
        refine lv_istore (lv' := [(5, .int x292), (0, .ref b), (1, .ref v1), (2, .ref v2), (3, .ref v3), (4, .int v4)]) S.1 S.2.1 dL_law_1162 hl (by decide) rfl (fun ls hl => ?_)
        refine lv_aload_n S.1 S.2.1 dL_law_1164 rfl (lv_at hl 3 rfl) ?_
        refine lv_aload_n S.1 S.2.1 dL_law_1165 rfl (lv_at hl 1 rfl) ?_
        refine lv_iload S.1 S.2.1 dL_law_1166 (lv_at hl 5 rfl) ?_
        refine lv_iconst (v := 1) S.1 S.2.1 dL_law_1168 (by decide) ?_
        refine lv_iadd S.1 S.2.1 dL_law_1169 ?_
        obtain ⟨x293, h294, h⟩ := h
        refine xr_sld S w hX hbl hbA h294 dL_law_1170 ?_
        refine lv_aload_n S.1 S.2.1 dL_law_1171 rfl (lv_at hl 1 rfl) ?_
        refine lv_iload S.1 S.2.1 dL_law_1172 (lv_at hl 5 rfl) ?_
        refine lv_iconst (v := 2) S.1 S.2.1 dL_law_1174 (by decide) ?_
        refine lv_iadd S.1 S.2.1 dL_law_1175 ?_
        obtain ⟨x295, h296, h⟩ := h
        refine xr_sld S w hX hbl hbA h296 dL_law_1176 ?_
        refine lv_aload_n S.1 S.2.1 dL_law_1177 rfl (lv_at hl 1 rfl) ?_
        refine lv_iload S.1 S.2.1 dL_law_1178 (lv_at hl 5 rfl) ?_
        refine lv_iconst (v := 3) S.1 S.2.1 dL_law_1180 (by decide) ?_
        refine lv_iadd S.1 S.2.1 dL_law_1181 ?_
        obtain ⟨x297, h298, h⟩ := h
        refine xr_sld S w hX hbl hbA h298 dL_law_1182 ?_
        obtain ⟨_, h299, h⟩ := h
        obtain ⟨x301, g302, h300, h⟩ := h
        refine xr_callV_i S w hA hN 9 rfl h299 (c_X8_smudge l D cy L292 g292 v2 x293 x295 x297 h300) (cwV 3 S.2.2.2.2 gL_law_X8_smudge rfl rfl rfl (by decide +kernel) ⟨Nat.le_of_ble_eq_true rfl, Nat.le_of_ble_eq_true rfl⟩) rfl rfl hl.1 (Nat.le_of_ble_eq_true rfl) dL_law_1183 ⟨show _ ≤ 600128 from by omega, show _ ≤ 7301098 from by omega⟩ (fun H locs w => ?_)
        refine lv_istore (lv' := [(6, .int x301), (5, .int x292), (0, .ref b), (1, .ref v1), (2, .ref v2), (3, .ref v3), (4, .int v4)]) S.1 S.2.1 dL_law_1186 hl (by decide) rfl (fun ls hl => ?_)
        refine lv_aload_n S.1 S.2.1 dL_law_1188 rfl (lv_at hl 4 rfl) ?_
        obtain ⟨_, h303, h⟩ := h
        obtain ⟨x305, h304, h⟩ := h
        refine xr_callV_i S w hA hN 9 rfl h303 (c_X8_thrown l D cy L292 g302 v2 h304) (cwV 0 S.2.2.2.2 gL_law_X8_thrown rfl rfl rfl (by decide +kernel) ⟨Nat.le_of_ble_eq_true rfl, Nat.le_of_ble_eq_true rfl⟩) rfl rfl hl.1 (Nat.le_of_ble_eq_true rfl) dL_law_1189 ⟨show _ ≤ 600128 from by omega, show _ ≤ 7301098 from by omega⟩ (fun H locs w => ?_)
        refine lv_iload S.1 S.2.1 dL_law_1192 (lv_at hl 1 rfl) ?_
        refine lv_icmp_eq (tgt := 1199) S.1 S.2.1 dL_law_1194 (by decide) (fun c1194 => ?_) (fun c1194 => ?_)
        · rw [if_pos c1194] at h
          refine lv_iload S.1 S.2.1 dL_law_1199 (lv_at hl 1 rfl) ?_
          refine lv_if_ne (tgt := 1216) S.1 S.2.1 dL_law_1201 (by decide) (fun c1201 => ?_) (fun c1201 => ?_)
          · rw [if_neg c1201] at h
            refine lv_goto (tgt := 1558) S.1 S.2.1 dL_law_1216 (by decide) ?_
            refine lv_iinc (v := (v4 + 4)) (lv' := [(4, .int (v4 + 4)), (6, .int x301), (5, .int x292), (0, .ref b), (1, .ref v1), (2, .ref v2), (3, .ref v3)]) S.1 S.2.1 dL_law_1558 hl (k := 6) rfl rfl (by decide) rfl (fun ls hl => ?_)
            refine lv_goto (tgt := 23) S.1 S.2.1 dL_law_1561 (by decide) ?_
            exact ih L292 g302 v1 v2 v3 (v4 + 4) h _ _ (by omega) (by omega) _ _ _ w (lv_sub hl [3, 4, 5, 6, 0] rfl)
          · rw [if_pos c1201] at h
            refine lv_aload_n S.1 S.2.1 dL_law_1204 rfl (lv_at hl 5 rfl) ?_
            refine lv_iconst (v := 0) S.1 S.2.1 dL_law_1205 (by decide) ?_
            obtain ⟨x306, h307, h⟩ := h
            refine xr_lald S w h307 dL_law_1206 ?_
            refine lv_iload S.1 S.2.1 dL_law_1207 (lv_at hl 0 rfl) ?_
            refine lv_i2l (v := (Int32.toInt64 x301)) S.1 S.2.1 dL_law_1209 rfl ?_
            refine xr_lceq (tgt := 1216) S dL_law_1210 dL_law_1211 (by decide) (fun c1210 => ?_) (fun c1210 => ?_)
            · rw [if_pos c1210] at h
              refine lv_goto (tgt := 1558) S.1 S.2.1 dL_law_1216 (by decide) ?_
              refine lv_iinc (v := (v4 + 4)) (lv' := [(4, .int (v4 + 4)), (6, .int x301), (5, .int x292), (0, .ref b), (1, .ref v1), (2, .ref v2), (3, .ref v3)]) S.1 S.2.1 dL_law_1558 hl (k := 6) rfl rfl (by decide) rfl (fun ls hl => ?_)
              refine lv_goto (tgt := 23) S.1 S.2.1 dL_law_1561 (by decide) ?_
              exact ih L292 g302 v1 v2 v3 (v4 + 4) h _ _ (by omega) (by omega) _ _ _ w (lv_sub hl [3, 4, 5, 6, 0] rfl)
            · rw [if_neg c1210] at h
              refine lv_iconst (v := 0) S.1 S.2.1 dL_law_1214 (by decide) ?_
              exact h.elim
        · rw [if_neg c1194] at h
          refine lv_iconst (v := 0) S.1 S.2.1 dL_law_1197 (by decide) ?_
          exact h.elim
      rw [if_neg c39_15] at h
      by_cases c39_16 : (x1 &&& 31) = 16
      · rw [if_pos c39_16] at h
        rw [c39_16]
        refine lv_tableIn (off := 1180) (tgt := 1219) S.1 S.2.1 dL_law_39 (by decide) (by decide) (by decide) (by decide) ?_
        refine lv_aload_n S.1 S.2.1 dL_law_1219 rfl (lv_at hl 1 rfl) ?_
        refine lv_aload_n S.1 S.2.1 dL_law_1220 rfl (lv_at hl 0 rfl) ?_
        refine lv_iload S.1 S.2.1 dL_law_1221 (lv_at hl 4 rfl) ?_
        refine lv_iconst (v := 1) S.1 S.2.1 dL_law_1223 (by decide) ?_
        refine lv_iadd S.1 S.2.1 dL_law_1224 ?_
        obtain ⟨x308, h309, h⟩ := h
        refine xr_sld S w hX hbl hbA h309 dL_law_1225 ?_
        refine lv_aload_n S.1 S.2.1 dL_law_1226 rfl (lv_at hl 0 rfl) ?_
        refine lv_iload S.1 S.2.1 dL_law_1227 (lv_at hl 4 rfl) ?_
        refine lv_iconst (v := 2) S.1 S.2.1 dL_law_1229 (by decide) ?_
        refine lv_iadd S.1 S.2.1 dL_law_1230 ?_
        obtain ⟨x310, h311, h⟩ := h
        refine xr_sld S w hX hbl hbA h311 dL_law_1231 ?_
        refine lv_aload_n S.1 S.2.1 dL_law_1232 rfl (lv_at hl 3 rfl) ?_
        refine xr_callYSW_i S w hA hN hZ hT (c_L_verdict l hst D cy t L g v1 x308 x310 v3 _ h) (vx_cwSW 4 S.2.2.2.2 gL_law_L_verdict rfl rfl rfl (by decide +kernel) ⟨Nat.le_of_ble_eq_true rfl, Nat.le_of_ble_eq_true rfl⟩) rfl rfl hl.1 (Nat.le_of_ble_eq_true rfl) dL_law_1233 ⟨show _ ≤ 600128 from by omega, show _ ≤ 7301098 from by omega⟩ (fun x312 L312 g312 H locs h w => ?_)
        refine lv_istore (lv' := [(5, .int x312), (0, .ref b), (1, .ref v1), (2, .ref v2), (3, .ref v3), (4, .int v4)]) S.1 S.2.1 dL_law_1236 hl (by decide) rfl (fun ls hl => ?_)
        refine lv_aload_n S.1 S.2.1 dL_law_1238 rfl (lv_at hl 3 rfl) ?_
        refine lv_aload_n S.1 S.2.1 dL_law_1239 rfl (lv_at hl 1 rfl) ?_
        refine lv_iload S.1 S.2.1 dL_law_1240 (lv_at hl 5 rfl) ?_
        refine lv_iconst (v := 1) S.1 S.2.1 dL_law_1242 (by decide) ?_
        refine lv_iadd S.1 S.2.1 dL_law_1243 ?_
        obtain ⟨x313, h314, h⟩ := h
        refine xr_sld S w hX hbl hbA h314 dL_law_1244 ?_
        refine lv_aload_n S.1 S.2.1 dL_law_1245 rfl (lv_at hl 1 rfl) ?_
        refine lv_iload S.1 S.2.1 dL_law_1246 (lv_at hl 5 rfl) ?_
        refine lv_iconst (v := 2) S.1 S.2.1 dL_law_1248 (by decide) ?_
        refine lv_iadd S.1 S.2.1 dL_law_1249 ?_
        obtain ⟨x315, h316, h⟩ := h
        refine xr_sld S w hX hbl hbA h316 dL_law_1250 ?_
        obtain ⟨_, h317, h⟩ := h
        obtain ⟨x319, g320, h318, h⟩ := h
        refine xr_callV_i S w hA hN 9 rfl h317 (c_X8_verdict l D cy L312 g312 v2 x313 x315 h318) (cwV 2 S.2.2.2.2 gL_law_X8_verdict rfl rfl rfl (by decide +kernel) ⟨Nat.le_of_ble_eq_true rfl, Nat.le_of_ble_eq_true rfl⟩) rfl rfl hl.1 (Nat.le_of_ble_eq_true rfl) dL_law_1251 ⟨show _ ≤ 600128 from by omega, show _ ≤ 7301098 from by omega⟩ (fun H locs w => ?_)
        refine lv_istore (lv' := [(6, .int x319), (5, .int x312), (0, .ref b), (1, .ref v1), (2, .ref v2), (3, .ref v3), (4, .int v4)]) S.1 S.2.1 dL_law_1254 hl (by decide) rfl (fun ls hl => ?_)
        refine lv_aload_n S.1 S.2.1 dL_law_1256 rfl (lv_at hl 4 rfl) ?_
        obtain ⟨_, h321, h⟩ := h
        obtain ⟨x323, h322, h⟩ := h
        refine xr_callV_i S w hA hN 9 rfl h321 (c_X8_thrown l D cy L312 g320 v2 h322) (cwV 0 S.2.2.2.2 gL_law_X8_thrown rfl rfl rfl (by decide +kernel) ⟨Nat.le_of_ble_eq_true rfl, Nat.le_of_ble_eq_true rfl⟩) rfl rfl hl.1 (Nat.le_of_ble_eq_true rfl) dL_law_1257 ⟨show _ ≤ 600128 from by omega, show _ ≤ 7301098 from by omega⟩ (fun H locs w => ?_)
        refine lv_iload S.1 S.2.1 dL_law_1260 (lv_at hl 1 rfl) ?_
        refine lv_icmp_eq (tgt := 1267) S.1 S.2.1 dL_law_1262 (by decide) (fun c1262 => ?_) (fun c1262 => ?_)
        · rw [if_pos c1262] at h
          refine lv_iload S.1 S.2.1 dL_law_1267 (lv_at hl 1 rfl) ?_
          refine lv_if_ne (tgt := 1284) S.1 S.2.1 dL_law_1269 (by decide) (fun c1269 => ?_) (fun c1269 => ?_)
          · rw [if_neg c1269] at h
            refine lv_goto (tgt := 1558) S.1 S.2.1 dL_law_1284 (by decide) ?_
            refine lv_iinc (v := (v4 + 4)) (lv' := [(4, .int (v4 + 4)), (6, .int x319), (5, .int x312), (0, .ref b), (1, .ref v1), (2, .ref v2), (3, .ref v3)]) S.1 S.2.1 dL_law_1558 hl (k := 6) rfl rfl (by decide) rfl (fun ls hl => ?_)
            refine lv_goto (tgt := 23) S.1 S.2.1 dL_law_1561 (by decide) ?_
            exact ih L312 g320 v1 v2 v3 (v4 + 4) h _ _ (by omega) (by omega) _ _ _ w (lv_sub hl [3, 4, 5, 6, 0] rfl)
          · rw [if_pos c1269] at h
            refine lv_aload_n S.1 S.2.1 dL_law_1272 rfl (lv_at hl 5 rfl) ?_
            refine lv_iconst (v := 0) S.1 S.2.1 dL_law_1273 (by decide) ?_
            obtain ⟨x324, h325, h⟩ := h
            refine xr_lald S w h325 dL_law_1274 ?_
            refine lv_iload S.1 S.2.1 dL_law_1275 (lv_at hl 0 rfl) ?_
            refine lv_i2l (v := (Int32.toInt64 x319)) S.1 S.2.1 dL_law_1277 rfl ?_
            refine xr_lceq (tgt := 1284) S dL_law_1278 dL_law_1279 (by decide) (fun c1278 => ?_) (fun c1278 => ?_)
            · rw [if_pos c1278] at h
              refine lv_goto (tgt := 1558) S.1 S.2.1 dL_law_1284 (by decide) ?_
              refine lv_iinc (v := (v4 + 4)) (lv' := [(4, .int (v4 + 4)), (6, .int x319), (5, .int x312), (0, .ref b), (1, .ref v1), (2, .ref v2), (3, .ref v3)]) S.1 S.2.1 dL_law_1558 hl (k := 6) rfl rfl (by decide) rfl (fun ls hl => ?_)
              refine lv_goto (tgt := 23) S.1 S.2.1 dL_law_1561 (by decide) ?_
              exact ih L312 g320 v1 v2 v3 (v4 + 4) h _ _ (by omega) (by omega) _ _ _ w (lv_sub hl [3, 4, 5, 6, 0] rfl)
            · rw [if_neg c1278] at h
              refine lv_iconst (v := 0) S.1 S.2.1 dL_law_1282 (by decide) ?_
              exact h.elim
        · rw [if_neg c1262] at h
          refine lv_iconst (v := 0) S.1 S.2.1 dL_law_1265 (by decide) ?_
          exact h.elim
      rw [if_neg c39_16] at h
      by_cases c39_17 : (x1 &&& 31) = 17
      · rw [if_pos c39_17] at h
        rw [c39_17]
        refine lv_tableIn (off := 1248) (tgt := 1287) S.1 S.2.1 dL_law_39 (by decide) (by decide) (by decide) (by decide) ?_
        refine lv_aload_n S.1 S.2.1 dL_law_1287 rfl (lv_at hl 1 rfl) ?_
        refine lv_aload_n S.1 S.2.1 dL_law_1288 rfl (lv_at hl 0 rfl) ?_
        refine lv_iload S.1 S.2.1 dL_law_1289 (lv_at hl 4 rfl) ?_
        refine lv_iconst (v := 1) S.1 S.2.1 dL_law_1291 (by decide) ?_
        refine lv_iadd S.1 S.2.1 dL_law_1292 ?_
        obtain ⟨x326, h327, h⟩ := h
        refine xr_sld S w hX hbl hbA h327 dL_law_1293 ?_
        refine lv_aload_n S.1 S.2.1 dL_law_1294 rfl (lv_at hl 0 rfl) ?_
        refine lv_iload S.1 S.2.1 dL_law_1295 (lv_at hl 4 rfl) ?_
        refine lv_iconst (v := 2) S.1 S.2.1 dL_law_1297 (by decide) ?_
        refine lv_iadd S.1 S.2.1 dL_law_1298 ?_
        obtain ⟨x328, h329, h⟩ := h
        refine xr_sld S w hX hbl hbA h329 dL_law_1299 ?_
        refine lv_aload_n S.1 S.2.1 dL_law_1300 rfl (lv_at hl 0 rfl) ?_
        refine lv_iload S.1 S.2.1 dL_law_1301 (lv_at hl 4 rfl) ?_
        refine lv_iconst (v := 3) S.1 S.2.1 dL_law_1303 (by decide) ?_
        refine lv_iadd S.1 S.2.1 dL_law_1304 ?_
        obtain ⟨x330, h331, h⟩ := h
        refine xr_sld S w hX hbl hbA h331 dL_law_1305 ?_
        refine lv_aload_n S.1 S.2.1 dL_law_1306 rfl (lv_at hl 3 rfl) ?_
        refine xr_callYSW_i S w hA hN hZ hT (c_L_entry l hst D cy t L g v1 x326 x328 x330 v3 _ h) (vx_cwSW 5 S.2.2.2.2 gL_law_L_entry rfl rfl rfl (by decide +kernel) ⟨Nat.le_of_ble_eq_true rfl, Nat.le_of_ble_eq_true rfl⟩) rfl rfl hl.1 (Nat.le_of_ble_eq_true rfl) dL_law_1307 ⟨show _ ≤ 600128 from by omega, show _ ≤ 7301098 from by omega⟩ (fun x332 L332 g332 H locs h w => ?_)
        refine lv_istore (lv' := [(5, .int x332), (0, .ref b), (1, .ref v1), (2, .ref v2), (3, .ref v3), (4, .int v4)]) S.1 S.2.1 dL_law_1310 hl (by decide) rfl (fun ls hl => ?_)
        refine lv_aload_n S.1 S.2.1 dL_law_1312 rfl (lv_at hl 3 rfl) ?_
        refine lv_aload_n S.1 S.2.1 dL_law_1313 rfl (lv_at hl 1 rfl) ?_
        refine lv_iload S.1 S.2.1 dL_law_1314 (lv_at hl 5 rfl) ?_
        refine lv_iconst (v := 1) S.1 S.2.1 dL_law_1316 (by decide) ?_
        refine lv_iadd S.1 S.2.1 dL_law_1317 ?_
        obtain ⟨x333, h334, h⟩ := h
        refine xr_sld S w hX hbl hbA h334 dL_law_1318 ?_
        refine lv_aload_n S.1 S.2.1 dL_law_1319 rfl (lv_at hl 1 rfl) ?_
        refine lv_iload S.1 S.2.1 dL_law_1320 (lv_at hl 5 rfl) ?_
        refine lv_iconst (v := 2) S.1 S.2.1 dL_law_1322 (by decide) ?_
        refine lv_iadd S.1 S.2.1 dL_law_1323 ?_
        obtain ⟨x335, h336, h⟩ := h
        refine xr_sld S w hX hbl hbA h336 dL_law_1324 ?_
        refine lv_aload_n S.1 S.2.1 dL_law_1325 rfl (lv_at hl 1 rfl) ?_
        refine lv_iload S.1 S.2.1 dL_law_1326 (lv_at hl 5 rfl) ?_
        refine lv_iconst (v := 3) S.1 S.2.1 dL_law_1328 (by decide) ?_
        refine lv_iadd S.1 S.2.1 dL_law_1329 ?_
        obtain ⟨x337, h338, h⟩ := h
        refine xr_sld S w hX hbl hbA h338 dL_law_1330 ?_
        obtain ⟨_, h339, h⟩ := h
        obtain ⟨x341, g342, h340, h⟩ := h
        refine xr_callV_i S w hA hN 9 rfl h339 (c_X8_entry l D cy L332 g332 v2 x333 x335 x337 h340) (cwV 3 S.2.2.2.2 gL_law_X8_entry rfl rfl rfl (by decide +kernel) ⟨Nat.le_of_ble_eq_true rfl, Nat.le_of_ble_eq_true rfl⟩) rfl rfl hl.1 (Nat.le_of_ble_eq_true rfl) dL_law_1331 ⟨show _ ≤ 600128 from by omega, show _ ≤ 7301098 from by omega⟩ (fun H locs w => ?_)
        refine lv_istore (lv' := [(6, .int x341), (5, .int x332), (0, .ref b), (1, .ref v1), (2, .ref v2), (3, .ref v3), (4, .int v4)]) S.1 S.2.1 dL_law_1334 hl (by decide) rfl (fun ls hl => ?_)
        refine lv_aload_n S.1 S.2.1 dL_law_1336 rfl (lv_at hl 4 rfl) ?_
        obtain ⟨_, h343, h⟩ := h
        obtain ⟨x345, h344, h⟩ := h
        refine xr_callV_i S w hA hN 9 rfl h343 (c_X8_thrown l D cy L332 g342 v2 h344) (cwV 0 S.2.2.2.2 gL_law_X8_thrown rfl rfl rfl (by decide +kernel) ⟨Nat.le_of_ble_eq_true rfl, Nat.le_of_ble_eq_true rfl⟩) rfl rfl hl.1 (Nat.le_of_ble_eq_true rfl) dL_law_1337 ⟨show _ ≤ 600128 from by omega, show _ ≤ 7301098 from by omega⟩ (fun H locs w => ?_)
        refine lv_iload S.1 S.2.1 dL_law_1340 (lv_at hl 1 rfl) ?_
        refine lv_icmp_eq (tgt := 1347) S.1 S.2.1 dL_law_1342 (by decide) (fun c1342 => ?_) (fun c1342 => ?_)
        · rw [if_pos c1342] at h
          refine lv_iload S.1 S.2.1 dL_law_1347 (lv_at hl 1 rfl) ?_
          refine lv_if_ne (tgt := 1364) S.1 S.2.1 dL_law_1349 (by decide) (fun c1349 => ?_) (fun c1349 => ?_)
          · rw [if_neg c1349] at h
            refine lv_goto (tgt := 1558) S.1 S.2.1 dL_law_1364 (by decide) ?_
            refine lv_iinc (v := (v4 + 4)) (lv' := [(4, .int (v4 + 4)), (6, .int x341), (5, .int x332), (0, .ref b), (1, .ref v1), (2, .ref v2), (3, .ref v3)]) S.1 S.2.1 dL_law_1558 hl (k := 6) rfl rfl (by decide) rfl (fun ls hl => ?_)
            refine lv_goto (tgt := 23) S.1 S.2.1 dL_law_1561 (by decide) ?_
            exact ih L332 g342 v1 v2 v3 (v4 + 4) h _ _ (by omega) (by omega) _ _ _ w (lv_sub hl [3, 4, 5, 6, 0] rfl)
          · rw [if_pos c1349] at h
            refine lv_aload_n S.1 S.2.1 dL_law_1352 rfl (lv_at hl 5 rfl) ?_
            refine lv_iconst (v := 0) S.1 S.2.1 dL_law_1353 (by decide) ?_
            obtain ⟨x346, h347, h⟩ := h
            refine xr_lald S w h347 dL_law_1354 ?_
            refine lv_iload S.1 S.2.1 dL_law_1355 (lv_at hl 0 rfl) ?_
            refine lv_i2l (v := (Int32.toInt64 x341)) S.1 S.2.1 dL_law_1357 rfl ?_
            refine xr_lceq (tgt := 1364) S dL_law_1358 dL_law_1359 (by decide) (fun c1358 => ?_) (fun c1358 => ?_)
            · rw [if_pos c1358] at h
              refine lv_goto (tgt := 1558) S.1 S.2.1 dL_law_1364 (by decide) ?_
              refine lv_iinc (v := (v4 + 4)) (lv' := [(4, .int (v4 + 4)), (6, .int x341), (5, .int x332), (0, .ref b), (1, .ref v1), (2, .ref v2), (3, .ref v3)]) S.1 S.2.1 dL_law_1558 hl (k := 6) rfl rfl (by decide) rfl (fun ls hl => ?_)
              refine lv_goto (tgt := 23) S.1 S.2.1 dL_law_1561 (by decide) ?_
              exact ih L332 g342 v1 v2 v3 (v4 + 4) h _ _ (by omega) (by omega) _ _ _ w (lv_sub hl [3, 4, 5, 6, 0] rfl)
            · rw [if_neg c1358] at h
              refine lv_iconst (v := 0) S.1 S.2.1 dL_law_1362 (by decide) ?_
              exact h.elim
        · rw [if_neg c1342] at h
          refine lv_iconst (v := 0) S.1 S.2.1 dL_law_1345 (by decide) ?_
          exact h.elim
      rw [if_neg c39_17] at h
      by_cases c39_18 : (x1 &&& 31) = 18
      · rw [if_pos c39_18] at h
        rw [c39_18]
        refine lv_tableIn (off := 1328) (tgt := 1367) S.1 S.2.1 dL_law_39 (by decide) (by decide) (by decide) (by decide) ?_
        refine lv_aload_n S.1 S.2.1 dL_law_1367 rfl (lv_at hl 1 rfl) ?_
        refine lv_aload_n S.1 S.2.1 dL_law_1368 rfl (lv_at hl 0 rfl) ?_
        refine lv_iload S.1 S.2.1 dL_law_1369 (lv_at hl 4 rfl) ?_
        refine lv_iconst (v := 1) S.1 S.2.1 dL_law_1371 (by decide) ?_
        refine lv_iadd S.1 S.2.1 dL_law_1372 ?_
        obtain ⟨x348, h349, h⟩ := h
        refine xr_sld S w hX hbl hbA h349 dL_law_1373 ?_
        refine lv_aload_n S.1 S.2.1 dL_law_1374 rfl (lv_at hl 0 rfl) ?_
        refine lv_iload S.1 S.2.1 dL_law_1375 (lv_at hl 4 rfl) ?_
        refine lv_iconst (v := 2) S.1 S.2.1 dL_law_1377 (by decide) ?_
        refine lv_iadd S.1 S.2.1 dL_law_1378 ?_
        obtain ⟨x350, h351, h⟩ := h
        refine xr_sld S w hX hbl hbA h351 dL_law_1379 ?_
        refine lv_aload_n S.1 S.2.1 dL_law_1380 rfl (lv_at hl 3 rfl) ?_
        refine xr_callYSW_i S w hA hN hZ hT (c_L_head l hst D cy t L g v1 x348 x350 v3 _ h) (vx_cwSW 4 S.2.2.2.2 gL_law_L_head rfl rfl rfl (by decide +kernel) ⟨Nat.le_of_ble_eq_true rfl, Nat.le_of_ble_eq_true rfl⟩) rfl rfl hl.1 (Nat.le_of_ble_eq_true rfl) dL_law_1381 ⟨show _ ≤ 600128 from by omega, show _ ≤ 7301098 from by omega⟩ (fun x352 L352 g352 H locs h w => ?_)
        refine lv_istore (lv' := [(5, .int x352), (0, .ref b), (1, .ref v1), (2, .ref v2), (3, .ref v3), (4, .int v4)]) S.1 S.2.1 dL_law_1384 hl (by decide) rfl (fun ls hl => ?_)
        refine lv_aload_n S.1 S.2.1 dL_law_1386 rfl (lv_at hl 3 rfl) ?_
        refine lv_aload_n S.1 S.2.1 dL_law_1387 rfl (lv_at hl 1 rfl) ?_
        refine lv_iload S.1 S.2.1 dL_law_1388 (lv_at hl 5 rfl) ?_
        refine lv_iconst (v := 1) S.1 S.2.1 dL_law_1390 (by decide) ?_
        refine lv_iadd S.1 S.2.1 dL_law_1391 ?_
        obtain ⟨x353, h354, h⟩ := h
        refine xr_sld S w hX hbl hbA h354 dL_law_1392 ?_
        refine lv_aload_n S.1 S.2.1 dL_law_1393 rfl (lv_at hl 1 rfl) ?_
        refine lv_iload S.1 S.2.1 dL_law_1394 (lv_at hl 5 rfl) ?_
        refine lv_iconst (v := 2) S.1 S.2.1 dL_law_1396 (by decide) ?_
        refine lv_iadd S.1 S.2.1 dL_law_1397 ?_
        obtain ⟨x355, h356, h⟩ := h
        refine xr_sld S w hX hbl hbA h356 dL_law_1398 ?_
        obtain ⟨_, h357, h⟩ := h
        obtain ⟨x359, g360, h358, h⟩ := h
        refine xr_callV_l S w hA hN 9 rfl h357 (c_X8_head l D cy L352 g352 v2 x353 x355 h358) (cwV 2 S.2.2.2.2 gL_law_X8_head rfl rfl rfl (by decide +kernel) ⟨Nat.le_of_ble_eq_true rfl, Nat.le_of_ble_eq_true rfl⟩) rfl rfl hl.1 (Nat.le_of_ble_eq_true rfl) dL_law_1399 ⟨show _ ≤ 600128 from by omega, show _ ≤ 7301098 from by omega⟩ (fun H locs w => ?_)
        refine lv_lstore (lv' := [(6, .long x359), (5, .int x352), (0, .ref b), (1, .ref v1), (2, .ref v2), (3, .ref v3), (4, .int v4)]) S.1 S.2.1 dL_law_1402 hl (by decide) rfl (fun ls hl => ?_)
        refine lv_aload_n S.1 S.2.1 dL_law_1404 rfl (lv_at hl 4 rfl) ?_
        obtain ⟨_, h361, h⟩ := h
        obtain ⟨x363, h362, h⟩ := h
        refine xr_callV_i S w hA hN 9 rfl h361 (c_X8_thrown l D cy L352 g360 v2 h362) (cwV 0 S.2.2.2.2 gL_law_X8_thrown rfl rfl rfl (by decide +kernel) ⟨Nat.le_of_ble_eq_true rfl, Nat.le_of_ble_eq_true rfl⟩) rfl rfl hl.1 (Nat.le_of_ble_eq_true rfl) dL_law_1405 ⟨show _ ≤ 600128 from by omega, show _ ≤ 7301098 from by omega⟩ (fun H locs w => ?_)
        refine lv_iload S.1 S.2.1 dL_law_1408 (lv_at hl 1 rfl) ?_
        refine lv_icmp_eq (tgt := 1415) S.1 S.2.1 dL_law_1410 (by decide) (fun c1410 => ?_) (fun c1410 => ?_)
        · rw [if_pos c1410] at h
          refine lv_iload S.1 S.2.1 dL_law_1415 (lv_at hl 1 rfl) ?_
          refine lv_if_ne (tgt := 1431) S.1 S.2.1 dL_law_1417 (by decide) (fun c1417 => ?_) (fun c1417 => ?_)
          · rw [if_neg c1417] at h
            refine lv_goto (tgt := 1558) S.1 S.2.1 dL_law_1431 (by decide) ?_
            refine lv_iinc (v := (v4 + 4)) (lv' := [(4, .int (v4 + 4)), (6, .long x359), (5, .int x352), (0, .ref b), (1, .ref v1), (2, .ref v2), (3, .ref v3)]) S.1 S.2.1 dL_law_1558 hl (k := 6) rfl rfl (by decide) rfl (fun ls hl => ?_)
            refine lv_goto (tgt := 23) S.1 S.2.1 dL_law_1561 (by decide) ?_
            exact ih L352 g360 v1 v2 v3 (v4 + 4) h _ _ (by omega) (by omega) _ _ _ w (lv_sub hl [3, 4, 5, 6, 0] rfl)
          · rw [if_pos c1417] at h
            refine lv_aload_n S.1 S.2.1 dL_law_1420 rfl (lv_at hl 5 rfl) ?_
            refine lv_iconst (v := 0) S.1 S.2.1 dL_law_1421 (by decide) ?_
            obtain ⟨x364, h365, h⟩ := h
            refine xr_lald S w h365 dL_law_1422 ?_
            refine lv_lload S.1 S.2.1 dL_law_1423 (lv_at hl 0 rfl) ?_
            refine xr_lceq (tgt := 1431) S dL_law_1425 dL_law_1426 (by decide) (fun c1425 => ?_) (fun c1425 => ?_)
            · rw [if_pos c1425] at h
              refine lv_goto (tgt := 1558) S.1 S.2.1 dL_law_1431 (by decide) ?_
              refine lv_iinc (v := (v4 + 4)) (lv' := [(4, .int (v4 + 4)), (6, .long x359), (5, .int x352), (0, .ref b), (1, .ref v1), (2, .ref v2), (3, .ref v3)]) S.1 S.2.1 dL_law_1558 hl (k := 6) rfl rfl (by decide) rfl (fun ls hl => ?_)
              refine lv_goto (tgt := 23) S.1 S.2.1 dL_law_1561 (by decide) ?_
              exact ih L352 g360 v1 v2 v3 (v4 + 4) h _ _ (by omega) (by omega) _ _ _ w (lv_sub hl [3, 4, 5, 6, 0] rfl)
            · rw [if_neg c1425] at h
              refine lv_iconst (v := 0) S.1 S.2.1 dL_law_1429 (by decide) ?_
              exact h.elim
        · rw [if_neg c1410] at h
          refine lv_iconst (v := 0) S.1 S.2.1 dL_law_1413 (by decide) ?_
          exact h.elim
      rw [if_neg c39_18] at h
      by_cases c39_19 : (x1 &&& 31) = 19
      · rw [if_pos c39_19] at h
        rw [c39_19]
        refine lv_tableIn (off := 1395) (tgt := 1434) S.1 S.2.1 dL_law_39 (by decide) (by decide) (by decide) (by decide) ?_
        refine lv_aload_n S.1 S.2.1 dL_law_1434 rfl (lv_at hl 1 rfl) ?_
        refine lv_aload_n S.1 S.2.1 dL_law_1435 rfl (lv_at hl 0 rfl) ?_
        refine lv_iload S.1 S.2.1 dL_law_1436 (lv_at hl 4 rfl) ?_
        refine lv_iconst (v := 1) S.1 S.2.1 dL_law_1438 (by decide) ?_
        refine lv_iadd S.1 S.2.1 dL_law_1439 ?_
        obtain ⟨x366, h367, h⟩ := h
        refine xr_sld S w hX hbl hbA h367 dL_law_1440 ?_
        refine lv_aload_n S.1 S.2.1 dL_law_1441 rfl (lv_at hl 0 rfl) ?_
        refine lv_iload S.1 S.2.1 dL_law_1442 (lv_at hl 4 rfl) ?_
        refine lv_iconst (v := 2) S.1 S.2.1 dL_law_1444 (by decide) ?_
        refine lv_iadd S.1 S.2.1 dL_law_1445 ?_
        obtain ⟨x368, h369, h⟩ := h
        refine xr_sld S w hX hbl hbA h369 dL_law_1446 ?_
        refine lv_aload_n S.1 S.2.1 dL_law_1447 rfl (lv_at hl 3 rfl) ?_
        refine xr_callYSW_i S w hA hN hZ hT (c_L_about l hst D cy t L g v1 x366 x368 v3 _ h) (vx_cwSW 4 S.2.2.2.2 gL_law_L_about rfl rfl rfl (by decide +kernel) ⟨Nat.le_of_ble_eq_true rfl, Nat.le_of_ble_eq_true rfl⟩) rfl rfl hl.1 (Nat.le_of_ble_eq_true rfl) dL_law_1448 ⟨show _ ≤ 600128 from by omega, show _ ≤ 7301098 from by omega⟩ (fun x370 L370 g370 H locs h w => ?_)
        refine lv_istore (lv' := [(5, .int x370), (0, .ref b), (1, .ref v1), (2, .ref v2), (3, .ref v3), (4, .int v4)]) S.1 S.2.1 dL_law_1451 hl (by decide) rfl (fun ls hl => ?_)
        refine lv_aload_n S.1 S.2.1 dL_law_1453 rfl (lv_at hl 3 rfl) ?_
        refine lv_aload_n S.1 S.2.1 dL_law_1454 rfl (lv_at hl 1 rfl) ?_
        refine lv_iload S.1 S.2.1 dL_law_1455 (lv_at hl 5 rfl) ?_
        refine lv_iconst (v := 1) S.1 S.2.1 dL_law_1457 (by decide) ?_
        refine lv_iadd S.1 S.2.1 dL_law_1458 ?_
        obtain ⟨x371, h372, h⟩ := h
        refine xr_sld S w hX hbl hbA h372 dL_law_1459 ?_
        refine lv_aload_n S.1 S.2.1 dL_law_1460 rfl (lv_at hl 1 rfl) ?_
        refine lv_iload S.1 S.2.1 dL_law_1461 (lv_at hl 5 rfl) ?_
        refine lv_iconst (v := 2) S.1 S.2.1 dL_law_1463 (by decide) ?_
        refine lv_iadd S.1 S.2.1 dL_law_1464 ?_
        obtain ⟨x373, h374, h⟩ := h
        refine xr_sld S w hX hbl hbA h374 dL_law_1465 ?_
        obtain ⟨_, h375, h⟩ := h
        obtain ⟨x377, g378, h376, h⟩ := h
        refine xr_callV_i S w hA hN 9 rfl h375 (c_X8_about l D cy L370 g370 v2 x371 x373 h376) (cwV 2 S.2.2.2.2 gL_law_X8_about rfl rfl rfl (by decide +kernel) ⟨Nat.le_of_ble_eq_true rfl, Nat.le_of_ble_eq_true rfl⟩) rfl rfl hl.1 (Nat.le_of_ble_eq_true rfl) dL_law_1466 ⟨show _ ≤ 600128 from by omega, show _ ≤ 7301098 from by omega⟩ (fun H locs w => ?_)
        refine lv_istore (lv' := [(6, .int x377), (5, .int x370), (0, .ref b), (1, .ref v1), (2, .ref v2), (3, .ref v3), (4, .int v4)]) S.1 S.2.1 dL_law_1469 hl (by decide) rfl (fun ls hl => ?_)
        refine lv_aload_n S.1 S.2.1 dL_law_1471 rfl (lv_at hl 4 rfl) ?_
        obtain ⟨_, h379, h⟩ := h
        obtain ⟨x381, h380, h⟩ := h
        refine xr_callV_i S w hA hN 9 rfl h379 (c_X8_thrown l D cy L370 g378 v2 h380) (cwV 0 S.2.2.2.2 gL_law_X8_thrown rfl rfl rfl (by decide +kernel) ⟨Nat.le_of_ble_eq_true rfl, Nat.le_of_ble_eq_true rfl⟩) rfl rfl hl.1 (Nat.le_of_ble_eq_true rfl) dL_law_1472 ⟨show _ ≤ 600128 from by omega, show _ ≤ 7301098 from by omega⟩ (fun H locs w => ?_)
        refine lv_iload S.1 S.2.1 dL_law_1475 (lv_at hl 1 rfl) ?_
        refine lv_icmp_eq (tgt := 1482) S.1 S.2.1 dL_law_1477 (by decide) (fun c1477 => ?_) (fun c1477 => ?_)
        · rw [if_pos c1477] at h
          refine lv_iload S.1 S.2.1 dL_law_1482 (lv_at hl 1 rfl) ?_
          refine lv_if_ne (tgt := 1499) S.1 S.2.1 dL_law_1484 (by decide) (fun c1484 => ?_) (fun c1484 => ?_)
          · rw [if_neg c1484] at h
            refine lv_goto (tgt := 1558) S.1 S.2.1 dL_law_1499 (by decide) ?_
            refine lv_iinc (v := (v4 + 4)) (lv' := [(4, .int (v4 + 4)), (6, .int x377), (5, .int x370), (0, .ref b), (1, .ref v1), (2, .ref v2), (3, .ref v3)]) S.1 S.2.1 dL_law_1558 hl (k := 6) rfl rfl (by decide) rfl (fun ls hl => ?_)
            refine lv_goto (tgt := 23) S.1 S.2.1 dL_law_1561 (by decide) ?_
            exact ih L370 g378 v1 v2 v3 (v4 + 4) h _ _ (by omega) (by omega) _ _ _ w (lv_sub hl [3, 4, 5, 6, 0] rfl)
          · rw [if_pos c1484] at h
            refine lv_aload_n S.1 S.2.1 dL_law_1487 rfl (lv_at hl 5 rfl) ?_
            refine lv_iconst (v := 0) S.1 S.2.1 dL_law_1488 (by decide) ?_
            obtain ⟨x382, h383, h⟩ := h
            refine xr_lald S w h383 dL_law_1489 ?_
            refine lv_iload S.1 S.2.1 dL_law_1490 (lv_at hl 0 rfl) ?_
            refine lv_i2l (v := (Int32.toInt64 x377)) S.1 S.2.1 dL_law_1492 rfl ?_
            refine xr_lceq (tgt := 1499) S dL_law_1493 dL_law_1494 (by decide) (fun c1493 => ?_) (fun c1493 => ?_)
            · rw [if_pos c1493] at h
              refine lv_goto (tgt := 1558) S.1 S.2.1 dL_law_1499 (by decide) ?_
              refine lv_iinc (v := (v4 + 4)) (lv' := [(4, .int (v4 + 4)), (6, .int x377), (5, .int x370), (0, .ref b), (1, .ref v1), (2, .ref v2), (3, .ref v3)]) S.1 S.2.1 dL_law_1558 hl (k := 6) rfl rfl (by decide) rfl (fun ls hl => ?_)
              refine lv_goto (tgt := 23) S.1 S.2.1 dL_law_1561 (by decide) ?_
              exact ih L370 g378 v1 v2 v3 (v4 + 4) h _ _ (by omega) (by omega) _ _ _ w (lv_sub hl [3, 4, 5, 6, 0] rfl)
            · rw [if_neg c1493] at h
              refine lv_iconst (v := 0) S.1 S.2.1 dL_law_1497 (by decide) ?_
              exact h.elim
        · rw [if_neg c1477] at h
          refine lv_iconst (v := 0) S.1 S.2.1 dL_law_1480 (by decide) ?_
          exact h.elim
      rw [if_neg c39_19] at h
      by_cases c39_20 : (x1 &&& 31) = 20
      · rw [if_pos c39_20] at h
        rw [c39_20]
        refine lv_tableIn (off := 1463) (tgt := 1502) S.1 S.2.1 dL_law_39 (by decide) (by decide) (by decide) (by decide) ?_
        refine lv_aload_n S.1 S.2.1 dL_law_1502 rfl (lv_at hl 1 rfl) ?_
        refine lv_aload_n S.1 S.2.1 dL_law_1503 rfl (lv_at hl 0 rfl) ?_
        refine lv_iload S.1 S.2.1 dL_law_1504 (lv_at hl 4 rfl) ?_
        refine lv_iconst (v := 1) S.1 S.2.1 dL_law_1506 (by decide) ?_
        refine lv_iadd S.1 S.2.1 dL_law_1507 ?_
        obtain ⟨x384, h385, h⟩ := h
        refine xr_sld S w hX hbl hbA h385 dL_law_1508 ?_
        refine lv_aload_n S.1 S.2.1 dL_law_1509 rfl (lv_at hl 3 rfl) ?_
        refine xr_callYSW_i S w hA hN hZ hT (c_L_total l hst D cy t L g v1 x384 v3 _ h) (vx_cwSW 3 S.2.2.2.2 gL_law_L_total rfl rfl rfl (by decide +kernel) ⟨Nat.le_of_ble_eq_true rfl, Nat.le_of_ble_eq_true rfl⟩) rfl rfl hl.1 (Nat.le_of_ble_eq_true rfl) dL_law_1510 ⟨show _ ≤ 600128 from by omega, show _ ≤ 7301098 from by omega⟩ (fun x386 L386 g386 H locs h w => ?_)
        refine lv_istore (lv' := [(5, .int x386), (0, .ref b), (1, .ref v1), (2, .ref v2), (3, .ref v3), (4, .int v4)]) S.1 S.2.1 dL_law_1513 hl (by decide) rfl (fun ls hl => ?_)
        refine lv_aload_n S.1 S.2.1 dL_law_1515 rfl (lv_at hl 3 rfl) ?_
        refine lv_aload_n S.1 S.2.1 dL_law_1516 rfl (lv_at hl 1 rfl) ?_
        refine lv_iload S.1 S.2.1 dL_law_1517 (lv_at hl 5 rfl) ?_
        refine lv_iconst (v := 1) S.1 S.2.1 dL_law_1519 (by decide) ?_
        refine lv_iadd S.1 S.2.1 dL_law_1520 ?_
        obtain ⟨x387, h388, h⟩ := h
        refine xr_sld S w hX hbl hbA h388 dL_law_1521 ?_
        obtain ⟨_, h389, h⟩ := h
        obtain ⟨x391, g392, h390, h⟩ := h
        refine xr_callV_i S w hA hN 9 rfl h389 (c_X8_total l D cy L386 g386 v2 x387 h390) (cwV 1 S.2.2.2.2 gL_law_X8_total rfl rfl rfl (by decide +kernel) ⟨Nat.le_of_ble_eq_true rfl, Nat.le_of_ble_eq_true rfl⟩) rfl rfl hl.1 (Nat.le_of_ble_eq_true rfl) dL_law_1522 ⟨show _ ≤ 600128 from by omega, show _ ≤ 7301098 from by omega⟩ (fun H locs w => ?_)
        refine lv_istore (lv' := [(6, .int x391), (5, .int x386), (0, .ref b), (1, .ref v1), (2, .ref v2), (3, .ref v3), (4, .int v4)]) S.1 S.2.1 dL_law_1525 hl (by decide) rfl (fun ls hl => ?_)
        refine lv_aload_n S.1 S.2.1 dL_law_1527 rfl (lv_at hl 4 rfl) ?_
        obtain ⟨_, h393, h⟩ := h
        obtain ⟨x395, h394, h⟩ := h
        refine xr_callV_i S w hA hN 9 rfl h393 (c_X8_thrown l D cy L386 g392 v2 h394) (cwV 0 S.2.2.2.2 gL_law_X8_thrown rfl rfl rfl (by decide +kernel) ⟨Nat.le_of_ble_eq_true rfl, Nat.le_of_ble_eq_true rfl⟩) rfl rfl hl.1 (Nat.le_of_ble_eq_true rfl) dL_law_1528 ⟨show _ ≤ 600128 from by omega, show _ ≤ 7301098 from by omega⟩ (fun H locs w => ?_)
        refine lv_iload S.1 S.2.1 dL_law_1531 (lv_at hl 1 rfl) ?_
        refine lv_icmp_eq (tgt := 1538) S.1 S.2.1 dL_law_1533 (by decide) (fun c1533 => ?_) (fun c1533 => ?_)
        · rw [if_pos c1533] at h
          refine lv_iload S.1 S.2.1 dL_law_1538 (lv_at hl 1 rfl) ?_
          refine lv_if_ne (tgt := 1555) S.1 S.2.1 dL_law_1540 (by decide) (fun c1540 => ?_) (fun c1540 => ?_)
          · rw [if_neg c1540] at h
            refine lv_goto (tgt := 1558) S.1 S.2.1 dL_law_1555 (by decide) ?_
            refine lv_iinc (v := (v4 + 4)) (lv' := [(4, .int (v4 + 4)), (6, .int x391), (5, .int x386), (0, .ref b), (1, .ref v1), (2, .ref v2), (3, .ref v3)]) S.1 S.2.1 dL_law_1558 hl (k := 6) rfl rfl (by decide) rfl (fun ls hl => ?_)
            refine lv_goto (tgt := 23) S.1 S.2.1 dL_law_1561 (by decide) ?_
            exact ih L386 g392 v1 v2 v3 (v4 + 4) h _ _ (by omega) (by omega) _ _ _ w (lv_sub hl [3, 4, 5, 6, 0] rfl)
          · rw [if_pos c1540] at h
            refine lv_aload_n S.1 S.2.1 dL_law_1543 rfl (lv_at hl 5 rfl) ?_
            refine lv_iconst (v := 0) S.1 S.2.1 dL_law_1544 (by decide) ?_
            obtain ⟨x396, h397, h⟩ := h
            refine xr_lald S w h397 dL_law_1545 ?_
            refine lv_iload S.1 S.2.1 dL_law_1546 (lv_at hl 0 rfl) ?_
            refine lv_i2l (v := (Int32.toInt64 x391)) S.1 S.2.1 dL_law_1548 rfl ?_
            refine xr_lceq (tgt := 1555) S dL_law_1549 dL_law_1550 (by decide) (fun c1549 => ?_) (fun c1549 => ?_)
            · rw [if_pos c1549] at h
              refine lv_goto (tgt := 1558) S.1 S.2.1 dL_law_1555 (by decide) ?_
              refine lv_iinc (v := (v4 + 4)) (lv' := [(4, .int (v4 + 4)), (6, .int x391), (5, .int x386), (0, .ref b), (1, .ref v1), (2, .ref v2), (3, .ref v3)]) S.1 S.2.1 dL_law_1558 hl (k := 6) rfl rfl (by decide) rfl (fun ls hl => ?_)
              refine lv_goto (tgt := 23) S.1 S.2.1 dL_law_1561 (by decide) ?_
              exact ih L386 g392 v1 v2 v3 (v4 + 4) h _ _ (by omega) (by omega) _ _ _ w (lv_sub hl [3, 4, 5, 6, 0] rfl)
            · rw [if_neg c1549] at h
              refine lv_iconst (v := 0) S.1 S.2.1 dL_law_1553 (by decide) ?_
              exact h.elim
        · rw [if_neg c1533] at h
          refine lv_iconst (v := 0) S.1 S.2.1 dL_law_1536 (by decide) ?_
          exact h.elim
      rw [if_neg c39_20] at h
      refine lv_tableOut (tgt := 1558) S.1 S.2.1 dL_law_39 (xsw21 c39_0 c39_1 c39_2 c39_3 c39_4 c39_5 c39_6 c39_7 c39_8 c39_9 c39_10 c39_11 c39_12 c39_13 c39_14 c39_15 c39_16 c39_17 c39_18 c39_19 c39_20) (by decide) ?_
      refine lv_iinc (v := (v4 + 4)) (lv' := [(4, .int (v4 + 4)), (0, .ref b), (1, .ref v1), (2, .ref v2), (3, .ref v3)]) S.1 S.2.1 dL_law_1558 hl (k := 4) rfl rfl (by decide) rfl (fun ls hl => ?_)
      refine lv_goto (tgt := 23) S.1 S.2.1 dL_law_1561 (by decide) ?_
      exact ih L g v1 v2 v3 (v4 + 4) h _ _ (by omega) (by omega) _ _ _ w (lv_sub hl [1, 2, 3, 4, 0] rfl)
