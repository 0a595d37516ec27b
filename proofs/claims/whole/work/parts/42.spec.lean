abbrev E3 : Type := Int32 × Nat × Int32
abbrev K4 : Type := Nat × Nat × Int64 × Bool
abbrev M7 : Type := Bool × Nat × Nat × Int32 × Nat × Int64 × Int64
abbrev T3 : Type := Nat × Nat × Nat
def mixf (a b : Int64) : Int64 := ((a ^^^ b) * (-7046029254386353131)) ^^^ (xlushr ((a ^^^ b) * (-7046029254386353131)) 29)
def hb (h : Int64) (k w v : Int32) : Int64 := mixf (mixf (mixf (mixf 7 h) (Int32.toInt64 k)) (Int32.toInt64 w)) (Int32.toInt64 v)
def sg (nd k : Int32) (h : Int64) : Int64 := mixf (mixf (mixf 7 (Int32.toInt64 ((-1) - nd))) (Int32.toInt64 k)) h
theorem f_hb (h : Int64) (k w v : Int32) : f_X7_headBehind h k w v = some (hb h k w v) := rfl
theorem f_sg (nd k : Int32) (h : Int64) : f_X7_signatureOf nd k h = some (sg nd k h) := rfl
theorem f_hb8 (h : Int64) (k w v : Int32) : f_X8_headBehind h k w v = some (hb h k w v) := rfl
theorem f_sg8 (nd k : Int32) (h : Int64) : f_X8_signature nd k h = some (sg nd k h) := rfl
def hd (l : List E3) : Int64 := l.foldl (fun h e => hb h e.1 (zI e.2.1) e.2.2) 0
def en (l : List E3) (k : Nat) : E3 := l.getD k (0, 0, 0)
def kt (l : List K4) (k : Nat) : K4 := l.getD k (0, 0, 0, false)
def mt (l : List M7) (k : Nat) : M7 := l.getD k (false, 0, 0, 0, 0, 0, 0)
theorem hd_nil : hd [] = 0 := rfl
theorem hd_snoc (l : List E3) (e : E3) : hd (l ++ [e]) = hb (hd l) e.1 (zI e.2.1) e.2.2 := by simp [hd]
theorem hd_take {l : List E3} {k : Nat} (h : k < l.length) : hd (l.take (k + 1)) = hb (hd (l.take k)) (en l k).1 (zI (en l k).2.1) (en l k).2.2 := by
  have h1 : l.take (k + 1) = l.take k ++ [en l k] := by
    rw [List.take_succ]
    simp [en, List.getElem?_eq_getElem h]
  rw [h1, hd_snoc]
theorem getD_snoc_lt {α : Type} {l : List α} {x d : α} {k : Nat} (h : k < l.length) : (l ++ [x]).getD k d = l.getD k d := by
  simp [List.getD_eq_getElem?_getD, List.getElem?_append_left h]
theorem getD_snoc_eq {α : Type} {l : List α} {x d : α} : (l ++ [x]).getD l.length d = x := by
  simp [List.getD_eq_getElem?_getD]
theorem getD_mem {α : Type} {l : List α} {d : α} {k : Nat} (h : k < l.length) : l.getD k d ∈ l := by
  simp [List.getD_eq_getElem?_getD, List.getElem?_eq_getElem h]
abbrev Sg : Type := Nat × (Nat → List E3) × (Nat → Int32) × (Nat → Int32) × (Nat → List K4) × (Nat → Nat → Int32) × (Nat → Bool) × List M7 × Int32 × List T3 × List (List Int32)
def sN (s : Sg) : Nat := s.1
def sL (s : Sg) : Nat → List E3 := s.2.1
def sA (s : Sg) : Nat → Int32 := s.2.2.1
def sB (s : Sg) : Nat → Int32 := s.2.2.2.1
def sK (s : Sg) : Nat → List K4 := s.2.2.2.2.1
def sO (s : Sg) : Nat → Nat → Int32 := s.2.2.2.2.2.1
def sH (s : Sg) : Nat → Bool := s.2.2.2.2.2.2.1
def sP (s : Sg) : List M7 := s.2.2.2.2.2.2.2.1
def sS (s : Sg) : Int32 := s.2.2.2.2.2.2.2.2.1
def sT (s : Sg) : List T3 := s.2.2.2.2.2.2.2.2.2.1
def sE (s : Sg) : List (List Int32) := s.2.2.2.2.2.2.2.2.2.2
def uN (s : Sg) (x : Nat) : Sg := (x, sL s, sA s, sB s, sK s, sO s, sH s, sP s, sS s, sT s, sE s)
def uL (s : Sg) (x : Nat → List E3) : Sg := (sN s, x, sA s, sB s, sK s, sO s, sH s, sP s, sS s, sT s, sE s)
def uA (s : Sg) (x : Nat → Int32) : Sg := (sN s, sL s, x, sB s, sK s, sO s, sH s, sP s, sS s, sT s, sE s)
def uB (s : Sg) (x : Nat → Int32) : Sg := (sN s, sL s, sA s, x, sK s, sO s, sH s, sP s, sS s, sT s, sE s)
def uK (s : Sg) (x : Nat → List K4) : Sg := (sN s, sL s, sA s, sB s, x, sO s, sH s, sP s, sS s, sT s, sE s)
def uO (s : Sg) (x : Nat → Nat → Int32) : Sg := (sN s, sL s, sA s, sB s, sK s, x, sH s, sP s, sS s, sT s, sE s)
def uH (s : Sg) (x : Nat → Bool) : Sg := (sN s, sL s, sA s, sB s, sK s, sO s, x, sP s, sS s, sT s, sE s)
def uP (s : Sg) (x : List M7) : Sg := (sN s, sL s, sA s, sB s, sK s, sO s, sH s, x, sS s, sT s, sE s)
def uS (s : Sg) (x : Int32) : Sg := (sN s, sL s, sA s, sB s, sK s, sO s, sH s, sP s, x, sT s, sE s)
def uT (s : Sg) (x : List T3) : Sg := (sN s, sL s, sA s, sB s, sK s, sO s, sH s, sP s, sS s, x, sE s)
def uE (s : Sg) (x : List (List Int32)) : Sg := (sN s, sL s, sA s, sB s, sK s, sO s, sH s, sP s, sS s, sT s, x)
theorem pN_N (s : Sg) (x : Nat) : sN (uN s x) = x := rfl
theorem pN_L (s : Sg) (x : Nat) : sL (uN s x) = sL s := rfl
theorem pN_A (s : Sg) (x : Nat) : sA (uN s x) = sA s := rfl
theorem pN_B (s : Sg) (x : Nat) : sB (uN s x) = sB s := rfl
theorem pN_K (s : Sg) (x : Nat) : sK (uN s x) = sK s := rfl
theorem pN_O (s : Sg) (x : Nat) : sO (uN s x) = sO s := rfl
theorem pN_H (s : Sg) (x : Nat) : sH (uN s x) = sH s := rfl
theorem pN_P (s : Sg) (x : Nat) : sP (uN s x) = sP s := rfl
theorem pN_S (s : Sg) (x : Nat) : sS (uN s x) = sS s := rfl
theorem pN_T (s : Sg) (x : Nat) : sT (uN s x) = sT s := rfl
theorem pN_E (s : Sg) (x : Nat) : sE (uN s x) = sE s := rfl
theorem pL_N (s : Sg) (x : Nat → List E3) : sN (uL s x) = sN s := rfl
theorem pL_L (s : Sg) (x : Nat → List E3) : sL (uL s x) = x := rfl
theorem pL_A (s : Sg) (x : Nat → List E3) : sA (uL s x) = sA s := rfl
theorem pL_B (s : Sg) (x : Nat → List E3) : sB (uL s x) = sB s := rfl
theorem pL_K (s : Sg) (x : Nat → List E3) : sK (uL s x) = sK s := rfl
theorem pL_O (s : Sg) (x : Nat → List E3) : sO (uL s x) = sO s := rfl
theorem pL_H (s : Sg) (x : Nat → List E3) : sH (uL s x) = sH s := rfl
theorem pL_P (s : Sg) (x : Nat → List E3) : sP (uL s x) = sP s := rfl
theorem pL_S (s : Sg) (x : Nat → List E3) : sS (uL s x) = sS s := rfl
theorem pL_T (s : Sg) (x : Nat → List E3) : sT (uL s x) = sT s := rfl
theorem pL_E (s : Sg) (x : Nat → List E3) : sE (uL s x) = sE s := rfl
theorem pA_N (s : Sg) (x : Nat → Int32) : sN (uA s x) = sN s := rfl
theorem pA_L (s : Sg) (x : Nat → Int32) : sL (uA s x) = sL s := rfl
theorem pA_A (s : Sg) (x : Nat → Int32) : sA (uA s x) = x := rfl
theorem pA_B (s : Sg) (x : Nat → Int32) : sB (uA s x) = sB s := rfl
theorem pA_K (s : Sg) (x : Nat → Int32) : sK (uA s x) = sK s := rfl
theorem pA_O (s : Sg) (x : Nat → Int32) : sO (uA s x) = sO s := rfl
theorem pA_H (s : Sg) (x : Nat → Int32) : sH (uA s x) = sH s := rfl
theorem pA_P (s : Sg) (x : Nat → Int32) : sP (uA s x) = sP s := rfl
theorem pA_S (s : Sg) (x : Nat → Int32) : sS (uA s x) = sS s := rfl
theorem pA_T (s : Sg) (x : Nat → Int32) : sT (uA s x) = sT s := rfl
theorem pA_E (s : Sg) (x : Nat → Int32) : sE (uA s x) = sE s := rfl
theorem pB_N (s : Sg) (x : Nat → Int32) : sN (uB s x) = sN s := rfl
theorem pB_L (s : Sg) (x : Nat → Int32) : sL (uB s x) = sL s := rfl
theorem pB_A (s : Sg) (x : Nat → Int32) : sA (uB s x) = sA s := rfl
theorem pB_B (s : Sg) (x : Nat → Int32) : sB (uB s x) = x := rfl
theorem pB_K (s : Sg) (x : Nat → Int32) : sK (uB s x) = sK s := rfl
theorem pB_O (s : Sg) (x : Nat → Int32) : sO (uB s x) = sO s := rfl
theorem pB_H (s : Sg) (x : Nat → Int32) : sH (uB s x) = sH s := rfl
theorem pB_P (s : Sg) (x : Nat → Int32) : sP (uB s x) = sP s := rfl
theorem pB_S (s : Sg) (x : Nat → Int32) : sS (uB s x) = sS s := rfl
theorem pB_T (s : Sg) (x : Nat → Int32) : sT (uB s x) = sT s := rfl
theorem pB_E (s : Sg) (x : Nat → Int32) : sE (uB s x) = sE s := rfl
theorem pK_N (s : Sg) (x : Nat → List K4) : sN (uK s x) = sN s := rfl
theorem pK_L (s : Sg) (x : Nat → List K4) : sL (uK s x) = sL s := rfl
theorem pK_A (s : Sg) (x : Nat → List K4) : sA (uK s x) = sA s := rfl
theorem pK_B (s : Sg) (x : Nat → List K4) : sB (uK s x) = sB s := rfl
theorem pK_K (s : Sg) (x : Nat → List K4) : sK (uK s x) = x := rfl
theorem pK_O (s : Sg) (x : Nat → List K4) : sO (uK s x) = sO s := rfl
theorem pK_H (s : Sg) (x : Nat → List K4) : sH (uK s x) = sH s := rfl
theorem pK_P (s : Sg) (x : Nat → List K4) : sP (uK s x) = sP s := rfl
theorem pK_S (s : Sg) (x : Nat → List K4) : sS (uK s x) = sS s := rfl
theorem pK_T (s : Sg) (x : Nat → List K4) : sT (uK s x) = sT s := rfl
theorem pK_E (s : Sg) (x : Nat → List K4) : sE (uK s x) = sE s := rfl
theorem pO_N (s : Sg) (x : Nat → Nat → Int32) : sN (uO s x) = sN s := rfl
theorem pO_L (s : Sg) (x : Nat → Nat → Int32) : sL (uO s x) = sL s := rfl
theorem pO_A (s : Sg) (x : Nat → Nat → Int32) : sA (uO s x) = sA s := rfl
theorem pO_B (s : Sg) (x : Nat → Nat → Int32) : sB (uO s x) = sB s := rfl
theorem pO_K (s : Sg) (x : Nat → Nat → Int32) : sK (uO s x) = sK s := rfl
theorem pO_O (s : Sg) (x : Nat → Nat → Int32) : sO (uO s x) = x := rfl
theorem pO_H (s : Sg) (x : Nat → Nat → Int32) : sH (uO s x) = sH s := rfl
theorem pO_P (s : Sg) (x : Nat → Nat → Int32) : sP (uO s x) = sP s := rfl
theorem pO_S (s : Sg) (x : Nat → Nat → Int32) : sS (uO s x) = sS s := rfl
theorem pO_T (s : Sg) (x : Nat → Nat → Int32) : sT (uO s x) = sT s := rfl
theorem pO_E (s : Sg) (x : Nat → Nat → Int32) : sE (uO s x) = sE s := rfl
theorem pH_N (s : Sg) (x : Nat → Bool) : sN (uH s x) = sN s := rfl
theorem pH_L (s : Sg) (x : Nat → Bool) : sL (uH s x) = sL s := rfl
theorem pH_A (s : Sg) (x : Nat → Bool) : sA (uH s x) = sA s := rfl
theorem pH_B (s : Sg) (x : Nat → Bool) : sB (uH s x) = sB s := rfl
theorem pH_K (s : Sg) (x : Nat → Bool) : sK (uH s x) = sK s := rfl
theorem pH_O (s : Sg) (x : Nat → Bool) : sO (uH s x) = sO s := rfl
theorem pH_H (s : Sg) (x : Nat → Bool) : sH (uH s x) = x := rfl
theorem pH_P (s : Sg) (x : Nat → Bool) : sP (uH s x) = sP s := rfl
theorem pH_S (s : Sg) (x : Nat → Bool) : sS (uH s x) = sS s := rfl
theorem pH_T (s : Sg) (x : Nat → Bool) : sT (uH s x) = sT s := rfl
theorem pH_E (s : Sg) (x : Nat → Bool) : sE (uH s x) = sE s := rfl
theorem pP_N (s : Sg) (x : List M7) : sN (uP s x) = sN s := rfl
theorem pP_L (s : Sg) (x : List M7) : sL (uP s x) = sL s := rfl
theorem pP_A (s : Sg) (x : List M7) : sA (uP s x) = sA s := rfl
theorem pP_B (s : Sg) (x : List M7) : sB (uP s x) = sB s := rfl
theorem pP_K (s : Sg) (x : List M7) : sK (uP s x) = sK s := rfl
theorem pP_O (s : Sg) (x : List M7) : sO (uP s x) = sO s := rfl
theorem pP_H (s : Sg) (x : List M7) : sH (uP s x) = sH s := rfl
theorem pP_P (s : Sg) (x : List M7) : sP (uP s x) = x := rfl
theorem pP_S (s : Sg) (x : List M7) : sS (uP s x) = sS s := rfl
theorem pP_T (s : Sg) (x : List M7) : sT (uP s x) = sT s := rfl
theorem pP_E (s : Sg) (x : List M7) : sE (uP s x) = sE s := rfl
theorem pS_N (s : Sg) (x : Int32) : sN (uS s x) = sN s := rfl
theorem pS_L (s : Sg) (x : Int32) : sL (uS s x) = sL s := rfl
theorem pS_A (s : Sg) (x : Int32) : sA (uS s x) = sA s := rfl
theorem pS_B (s : Sg) (x : Int32) : sB (uS s x) = sB s := rfl
theorem pS_K (s : Sg) (x : Int32) : sK (uS s x) = sK s := rfl
theorem pS_O (s : Sg) (x : Int32) : sO (uS s x) = sO s := rfl
theorem pS_H (s : Sg) (x : Int32) : sH (uS s x) = sH s := rfl
theorem pS_P (s : Sg) (x : Int32) : sP (uS s x) = sP s := rfl
theorem pS_S (s : Sg) (x : Int32) : sS (uS s x) = x := rfl
theorem pS_T (s : Sg) (x : Int32) : sT (uS s x) = sT s := rfl
theorem pS_E (s : Sg) (x : Int32) : sE (uS s x) = sE s := rfl
theorem pT_N (s : Sg) (x : List T3) : sN (uT s x) = sN s := rfl
theorem pT_L (s : Sg) (x : List T3) : sL (uT s x) = sL s := rfl
theorem pT_A (s : Sg) (x : List T3) : sA (uT s x) = sA s := rfl
theorem pT_B (s : Sg) (x : List T3) : sB (uT s x) = sB s := rfl
theorem pT_K (s : Sg) (x : List T3) : sK (uT s x) = sK s := rfl
theorem pT_O (s : Sg) (x : List T3) : sO (uT s x) = sO s := rfl
theorem pT_H (s : Sg) (x : List T3) : sH (uT s x) = sH s := rfl
theorem pT_P (s : Sg) (x : List T3) : sP (uT s x) = sP s := rfl
theorem pT_S (s : Sg) (x : List T3) : sS (uT s x) = sS s := rfl
theorem pT_T (s : Sg) (x : List T3) : sT (uT s x) = x := rfl
theorem pT_E (s : Sg) (x : List T3) : sE (uT s x) = sE s := rfl
theorem pE_N (s : Sg) (x : List (List Int32)) : sN (uE s x) = sN s := rfl
theorem pE_L (s : Sg) (x : List (List Int32)) : sL (uE s x) = sL s := rfl
theorem pE_A (s : Sg) (x : List (List Int32)) : sA (uE s x) = sA s := rfl
theorem pE_B (s : Sg) (x : List (List Int32)) : sB (uE s x) = sB s := rfl
theorem pE_K (s : Sg) (x : List (List Int32)) : sK (uE s x) = sK s := rfl
theorem pE_O (s : Sg) (x : List (List Int32)) : sO (uE s x) = sO s := rfl
theorem pE_H (s : Sg) (x : List (List Int32)) : sH (uE s x) = sH s := rfl
theorem pE_P (s : Sg) (x : List (List Int32)) : sP (uE s x) = sP s := rfl
theorem pE_S (s : Sg) (x : List (List Int32)) : sS (uE s x) = sS s := rfl
theorem pE_T (s : Sg) (x : List (List Int32)) : sT (uE s x) = sT s := rfl
theorem pE_E (s : Sg) (x : List (List Int32)) : sE (uE s x) = x := rfl
def kept (k : List K4) (o m : Nat) (h : Int64) : Bool := k.any (fun e => e.1 == o && e.2.1 == m && e.2.2.1 == h)
def sLet (s : Sg) (m : M7) : Sg := uS (uP s (if (sP s).length < 200 then sP s ++ [m] else sP s)) (sS s + 1)
def sApp (s : Sg) (i : Nat) (e : E3) : Sg := uL s (va_up (sL s) i (sL s i ++ [e]))
def mSend (l : List E3) (i to : Nat) (v : Int32) : M7 := (false, i, to, v, l.length + 1, hd l, sg (zI i) (zI (l.length + 1)) (hd (l ++ [(3, to, v)])))
def sDue (s : Sg) (i : Nat) (d : Bool) (to : Nat) (v : Int32) : Sg := uS (uP (uL s (va_up (sL s) i (if d then sL s i ++ [(3, to, v)] else sL s i))) (if d then (if (sP s).length < 200 then sP s ++ [mSend (sL s i) i to v] else sP s) else sP s)) (if d then sS s + 1 else sS s)
def sSend (s : Sg) (i to : Nat) (v : Int32) : Sg := sDue s i true to v
def canK (k : List K4) (o m : Nat) (h : Int64) : Bool := decide (k.length < 300) && !kept k o m h
def keepL (k : List K4) (o m : Nat) (h : Int64) (b : Bool) : List K4 := if canK k o m h then k ++ [(o, m, h, b)] else k
def sKeep (s : Sg) (i o m : Nat) (h : Int64) (b : Bool) : Sg := uK s (va_up (sK s) i (keepL (sK s i) o m h b))
def fkc (l : List E3) (nd : Nat) (K : List K4) (f : Option Nat) (j : Nat) : Bool :=
  decide ((kt K j).1 = nd) && (decide ((kt K j).2.1 ≤ l.length) && (!decide ((kt K j).2.2.1 = hd (l.take (kt K j).2.1)) && (match f with | none => true | some b => decide ((kt K j).2.1 < (kt K b).2.1))))
def fkS (l : List E3) (nd : Nat) (K : List K4) : Nat → Nat → Option Nat → Option Nat
  | 0, _, f => f
  | r + 1, j, f => fkS l nd K r (j + 1) (if fkc l nd K f j then some j else f)
def fkA (l : List E3) (nd : Nat) (K : List K4) : Option Nat := fkS l nd K K.length 0 none
def bey (K : List K4) (nd c : Nat) : Bool := K.any (fun e => e.1 == nd && decide (c < e.2.1))
def tg (n i : Nat) (a : Int32) : Nat := (i + 1 + ((xiushr a 8) &&& 127).toNatClampNeg % (n - 1)) % n
def trn (x : Int32) : Int32 := (x <<< (5 &&& 31)) ||| (xiushr x 27)
def sInput (s : Sg) (i : Nat) (x : Int32) : Sg :=
  sDue (uA (sApp s i (1, 0, x)) (va_up (sA s) i (31 * sA s i + x))) i (decide ((31 * sA s i + x) &&& 1 = 0)) (tg (sN s) i (31 * sA s i + x)) (xiushr (31 * sA s i + x) 1 ^^^ sB s i)
def mAft (m : M7) : Int64 := hb m.2.2.2.2.2.1 3 (zI m.2.2.1) m.2.2.2.1
def mOkN (m : M7) : Bool := decide (m.2.2.2.2.2.2 = sg (zI m.2.1) (zI m.2.2.2.2.1) m.2.2.2.2.2.1)
def mOkM (m : M7) : Bool := decide (m.2.2.2.2.2.2 = sg (zI m.2.1) (zI m.2.2.2.2.1) (mAft m))
def sRec (s : Sg) (m : M7) : Sg := sKeep (sApp (uT s (sT s ++ [(m.2.2.1, m.2.1, m.2.2.2.2.1)])) m.2.2.1 (2, m.2.1, m.2.2.2.1)) m.2.2.1 m.2.1 m.2.2.2.2.1 (mAft m) false
def rB (s : Sg) (m : M7) : Int32 := trn (sB s m.2.2.1 ^^^ (m.2.2.2.1 + zI m.2.1))
def sTakeM (s : Sg) (m : M7) : Sg := sDue (uB (sRec s m) (va_up (sB s) m.2.2.1 (rB s m))) m.2.2.1 (decide (rB s m &&& 7 = 0)) m.2.1 (rB s m)
def canTake (s : Sg) (m : M7) : Bool := mOkM m && (!decide ((m.2.2.1, m.2.1, m.2.2.2.2.1) ∈ sT s) && decide ((sL s m.2.2.1).length ≤ 148))
def dlv (s : Sg) (m : M7) : Bool × Sg :=
  if m.1 then (if mOkN m then (canK (sK s m.2.2.1) m.2.1 m.2.2.2.2.1 m.2.2.2.2.2.1, sKeep s m.2.2.1 m.2.1 m.2.2.2.2.1 m.2.2.2.2.2.1 true) else (false, s))
  else (if canTake s m then (true, sTakeM s m) else (false, s))
def mNote (n : Nat) (e : K4) (w : Nat) : M7 := (true, e.1, (e.1 + w) % n, 0, e.2.1, e.2.2.1, sg (zI e.1) (zI e.2.1) e.2.2.1)
def nt1 (n sd : Nat) (e : K4) (w : Nat) (q : List M7 × Int32 × Nat) : List M7 × Int32 × Nat := if (e.1 + w) % n = sd then q else (if q.1.length < 200 then q.1 ++ [mNote n e w] else q.1, q.2.1 + 1, q.2.2 + 1)
def fwS (n sd : Nat) (K : List K4) : Nat → Nat → List M7 × Int32 × Nat → List M7 × Int32 × Nat
  | 0, _, q => q
  | r + 1, j, q => fwS n sd K r (j + 1) (if (kt K j).2.2.2 then q else nt1 n sd (kt K j) 2 (nt1 n sd (kt K j) 1 q))
def fwA (n sd : Nat) (K : List K4) (p : List M7) (se : Int32) : List M7 × Int32 × Nat := fwS n sd K K.length 0 (p, se, 0)
def mark (e : K4) : K4 := (e.1, e.2.1, e.2.2.1, true)
def s0 (n : Nat) : Sg := (n, fun _ => [], fun _ => 0, fun _ => 0, fun _ => [], fun _ _ => 0, fun _ => false, [], 0, [], [])
def ixOf (n : Nat) (x : Int32) : Option Nat := if x < 0 then none else if x.toNatClampNeg < n then some x.toNatClampNeg else none
theorem ixOf_neg {n : Nat} {x : Int32} (h : x < 0) : ixOf n x = none := by
  unfold ixOf
  rw [if_pos h]
theorem ixOf_zI {n a : Nat} (ha : a < 2147483648) : ixOf n (zI a) = if a < n then some a else none := by
  unfold ixOf
  rw [if_neg (zI_not_neg ha), zI_cl ha]
theorem ixOf_some {n : Nat} {x : Int32} {i : Nat} (h : ixOf n x = some i) : x = zI i ∧ i < n ∧ i < 2147483648 := by
  rcases zI_cases x with hx | ⟨a, ha, rfl⟩
  · rw [ixOf_neg hx] at h
    cases h
  · rw [ixOf_zI ha] at h
    split at h
    · cases h
      exact ⟨rfl, by assumption, ha⟩
    · cases h
def fwr (n i : Nat) : List E3 → Nat → Int32 → Int32 → Bool → Int32 → Int32 → Nat
  | [], k, _, _, due, _, _ => if due then k + 1 else 0
  | e :: l, k, a, b, due, to, v =>
    if due then (if e.1 = 3 ∧ zI e.2.1 = to ∧ e.2.2 = v then fwr n i l (k + 1) a b false to v else k + 1)
    else if e.1 = 1 ∧ e.2.1 = 0 then fwr n i l (k + 1) (31 * a + e.2.2) b (decide ((31 * a + e.2.2) &&& 1 = 0)) (zI (tg n i (31 * a + e.2.2))) (xiushr (31 * a + e.2.2) 1 ^^^ b)
    else if e.1 = 2 ∧ e.2.1 < n ∧ e.2.1 ≠ i then fwr n i l (k + 1) a (trn (b ^^^ (e.2.2 + zI e.2.1))) (decide (trn (b ^^^ (e.2.2 + zI e.2.1)) &&& 7 = 0)) (zI e.2.1) (trn (b ^^^ (e.2.2 + zI e.2.1)))
    else k + 1
def fwrA (n i : Nat) (l : List E3) : Nat := fwr n i l 0 0 0 false 0 0
def bt (v : Int64) (k : Nat) : Int32 := sb (xlshr v (zI (8 * k)))
def bts (v : Int64) : Nat → List Int32
  | 0 => []
  | n + 1 => bt v n :: bts v n
theorem bts_len (v : Int64) : ∀ n, (bts v n).length = n
  | 0 => rfl
  | n + 1 => by rw [bts, List.length_cons, bts_len v n]
def entB (e : E3) : List Int32 := bts (Int32.toInt64 e.1) 1 ++ (bts (Int32.toInt64 (zI e.2.1)) 1 ++ bts (Int32.toInt64 e.2.2) 4)
theorem entB_len (e : E3) : (entB e).length = 6 := by simp [entB, bts_len]
def entsB (l : List E3) : List Int32 := l.flatMap entB
theorem entsB_len : ∀ l : List E3, (entsB l).length = 6 * l.length
  | [] => rfl
  | e :: l => by
    have := entsB_len l
    unfold entsB at *
    rw [List.flatMap_cons, List.length_append, entB_len, this, List.length_cons]
    omega
def logB (k : Int32) (i : Nat) (l : List E3) : List Int32 := bts (Int32.toInt64 k) 1 ++ bts (Int32.toInt64 (zI i)) 1 ++ bts (Int32.toInt64 (zI l.length)) 2 ++ entsB l ++ bts (sg (zI i) (zI l.length) (hd l)) 8
theorem logB_len (k : Int32) (i : Nat) (l : List E3) : (logB k i l).length = 12 + 6 * l.length := by
  simp only [logB, List.length_append, bts_len, entsB_len]
  omega
def forkB (i : Nat) (l : List E3) (e : K4) : List Int32 := logB 1 i l ++ bts (Int32.toInt64 (zI e.2.1)) 2 ++ bts e.2.2.1 8 ++ bts (sg (zI i) (zI e.2.1) e.2.2.1) 8
def runB (i : Nat) (l : List E3) (k : Nat) : List Int32 := logB 2 i l ++ bts (Int32.toInt64 (zI k)) 2
def u8 (f : Nat → Int32) (k : Nat) : Nat := (f k &&& 255).toNatClampNeg
def rdn (f : Nat → Int32) (a : Nat) : Nat → Int64
  | 0 => 0
  | n + 1 => (xlshl (rdn f a n) 8) ||| Int32.toInt64 (f (a + n) &&& 255)
def u16 (f : Nat → Int32) (a : Nat) : Nat := 256 * u8 f a + u8 f (a + 1)
def rdE (f : Nat → Int32) : Nat → Nat → Option (List E3)
  | 0, _ => some []
  | r + 1, j => if 1 ≤ u8 f (4 + 6 * j) ∧ u8 f (4 + 6 * j) ≤ 3 then (rdE f r (j + 1)).map (fun l => (zI (u8 f (4 + 6 * j)), u8 f (5 + 6 * j), Int64.toInt32 (rdn f (6 + 6 * j) 4)) :: l) else none
def holdL (n : Nat) (f : Nat → Int32) (l : List E3) : Bool :=
  decide (rdn f (4 + 6 * l.length) 8 = sg (zI (u8 f 1)) (zI l.length) (hd l)) &&
  (if u8 f 0 = 1 then decide (1 ≤ u16 f (12 + 6 * l.length)) && (decide (u16 f (12 + 6 * l.length) ≤ l.length) && (decide (rdn f (22 + 6 * l.length) 8 = sg (zI (u8 f 1)) (zI (u16 f (12 + 6 * l.length))) (rdn f (14 + 6 * l.length) 8)) && !decide (rdn f (14 + 6 * l.length) 8 = hd (l.take (u16 f (12 + 6 * l.length))))))
   else !decide (fwrA n (u8 f 1) l = 0) && decide (fwrA n (u8 f 1) l = u16 f (12 + 6 * l.length)))
def bf (bs : List Int32) : Nat → Int32 := fun k => bs.getD k 0
def whole (bs : List Int32) : Bool := (decide (u8 (bf bs) 0 = 1) || decide (u8 (bf bs) 0 = 2)) && decide (bs.length = 12 + 6 * u16 (bf bs) 2 + if u8 (bf bs) 0 = 1 then 18 else 2)
def hold (n : Nat) (bs : List Int32) : Bool := whole bs && (decide (u8 (bf bs) 1 < n) && (match rdE (bf bs) (u16 (bf bs) 2) 0 with
  | none => false
  | some l => holdL n (bf bs) l))
def bendL (l : List E3) (j : Nat) (v : Int32) : List E3 := l.set j ((en l j).1, (en l j).2.1, v)
def spOpen (x : Int32) : Nat ⊕ Sg := match ixOf 7 x with
  | none => .inl 1
  | some m => if 3 ≤ m then .inr (s0 m) else .inl 1
def spInput (s : Sg) (x v : Int32) : Nat ⊕ (Int32 × Sg) := match ixOf (sN s) x with
  | none => .inl 1
  | some i => if (sL s i).length ≤ 148 then .inr (zI (sL (sInput s i v) i).length, sInput s i v) else .inl 2
def spDeliver (s : Sg) (x : Int32) : Nat ⊕ (Int32 × Sg) := match ixOf (sP s).length x with
  | none => .inl 1
  | some i => .inr (b2 (dlv (uP s ((sP s).eraseIdx i)) (mt (sP s) i)).1, (dlv (uP s ((sP s).eraseIdx i)) (mt (sP s) i)).2)
def spDrop (s : Sg) (x : Int32) : Nat ⊕ (Int32 × Sg) := match ixOf (sP s).length x with
  | none => .inl 1
  | some i => .inr (if (mt (sP s) i).1 then 2 else 1, uP s ((sP s).eraseIdx i))
def spCopy (s : Sg) (x : Int32) : Nat ⊕ (Int32 × Sg) := match ixOf (sP s).length x with
  | none => .inl 1
  | some i => .inr (b2 (decide ((sP s).length < 200)), uP s (if (sP s).length < 200 then sP s ++ [mt (sP s) i] else sP s))
def mVal (m : M7) (v : Int32) : M7 := (m.1, m.2.1, m.2.2.1, v, m.2.2.2.2)
def spSpoil (s : Sg) (x v : Int32) : Nat ⊕ (Int32 × Sg) := match ixOf (sP s).length x with
  | none => .inl 1
  | some i => if (mt (sP s) i).1 then .inl 1 else .inr ((mt (sP s) i).2.2.2.1, uP s ((sP s).set i (mVal (mt (sP s) i) v)))
def sFwd (s : Sg) (i : Nat) : Sg := uK (uS (uP s (fwA (sN s) i (sK s i) (sP s) (sS s)).1) (fwA (sN s) i (sK s i) (sP s) (sS s)).2.1) (va_up (sK s) i ((sK s i).map mark))
def spForward (s : Sg) (x : Int32) : Nat ⊕ (Int32 × Sg) := match ixOf (sN s) x with
  | none => .inl 1
  | some i => .inr (zI (fwA (sN s) i (sK s i) (sP s) (sS s)).2.2, sFwd s i)
def spLie (s : Sg) (x y v : Int32) : Nat ⊕ (Int32 × Sg) := match ixOf (sN s) x, ixOf (sN s) y with
  | some i, some j => if i = j then .inl 1 else if (sL s i).length ≤ 148 then .inr (zI ((sL s i).length + 1), sSend s i j v) else .inl 2
  | _, _ => .inl 1
def spBend (s : Sg) (x y v : Int32) : Nat ⊕ (Int32 × Sg) := match ixOf (sN s) x with
  | none => .inl 1
  | some i => match ixOf ((sL s i).length + 1) y with
    | some (k + 1) => .inr ((en (sL s i) k).2.2, uL s (va_up (sL s) i (bendL (sL s i) k v)))
    | _ => .inl 1
def spCut (s : Sg) (x y : Int32) : Nat ⊕ (Int32 × Sg) := match ixOf (sN s) x with
  | none => .inl 1
  | some i => match ixOf ((sL s i).length + 1) y with
    | some k => .inr (zI ((sL s i).length - k), uL s (va_up (sL s) i ((sL s i).take k)))
    | none => .inl 1
def spHide (s : Sg) (x : Int32) (h : Bool) : Nat ⊕ (Int32 × Sg) := match ixOf (sN s) x with
  | none => .inl 1
  | some i => .inr (b2 (sH s i), uH s (va_up (sH s) i h))
def said (s : Sg) (w i : Nat) (v : Int32) : Sg := uO s (va_up (sO s) w (va_up (sO s w) i v))
def aud (s : Sg) (w i : Nat) : Int32 × Sg :=
  if sO s w i = 2 then (2, s)
  else if sH s i then (1, said s w i 1)
  else match fkA (sL s i) i (sK s w) with
    | some b => (2, said (uE s (sE s ++ [forkB i (sL s i) (kt (sK s w) b)])) w i 2)
    | none => if fwrA (sN s) i (sL s i) = 0 then
        (if bey (sK s w) i (sL s i).length then (1, said s w i 1)
         else (0, said (if (sL s i).length = 0 then s else sKeep s w i (sL s i).length (hd (sL s i)) false) w i 0))
      else (2, said (uE s (sE s ++ [runB i (sL s i) (fwrA (sN s) i (sL s i))])) w i 2)
def spAudit (s : Sg) (x y : Int32) : Nat ⊕ (Int32 × Sg) := match ixOf (sN s) x, ixOf (sN s) y with
  | some w, some i => if w = (i + 1) % sN s ∨ w = (i + 2) % sN s then (if (sE s).length < 40 then .inr (aud s w i) else .inl 2) else .inl 1
  | _, _ => .inl 1
def spJudge (s : Sg) (x y : Int32) : Nat ⊕ (Int32 × Sg) := match ixOf (sN s) x, ixOf (sE s).length y with
  | some i, some e => .inr (b2 (hold (sN s) ((sE s).getD e [])), if hold (sN s) ((sE s).getD e []) then said s i (u8 (bf ((sE s).getD e [])) 1) 2 else s)
  | _, _ => .inl 1
def spHolds (s : Sg) (x : Int32) : Nat ⊕ (Int32 × Sg) := match ixOf (sE s).length x with
  | none => .inl 1
  | some e => .inr (b2 (hold (sN s) ((sE s).getD e [])), s)
def spByteOf (s : Sg) (x y : Int32) : Nat ⊕ (Int32 × Sg) := match ixOf (sE s).length x with
  | none => .inl 1
  | some e => match ixOf ((sE s).getD e []).length y with
    | none => .inr (-1, s)
    | some k => .inr (((sE s).getD e []).getD k 0 &&& 255, s)
def spSmudge (s : Sg) (x y v : Int32) : Nat ⊕ (Int32 × Sg) := match ixOf (sE s).length x with
  | none => .inl 1
  | some e => match ixOf ((sE s).getD e []).length y, ixOf 256 v with
    | some k, some _ => .inr (((sE s).getD e []).getD k 0 &&& 255, uE s ((sE s).set e (((sE s).getD e []).set k (Int8.toInt32 (Int32.toInt8 v)))))
    | _, _ => .inl 1
def spVerdict (s : Sg) (x y : Int32) : Nat ⊕ (Int32 × Sg) := match ixOf (sN s) x, ixOf (sN s) y with
  | some i, some j => if i = j then .inl 1 else .inr (sO s i j, s)
  | _, _ => .inl 1
def spEntry (s : Sg) (x y w : Int32) : Nat ⊕ (Int32 × Sg) := match ixOf (sN s) x with
  | none => .inl 1
  | some i => match ixOf ((sL s i).length + 1) y, ixOf 3 w with
    | some (k + 1), some u => .inr (if u = 0 then (en (sL s i) k).1 else if u = 1 then zI (en (sL s i) k).2.1 else (en (sL s i) k).2.2, s)
    | _, _ => .inl 1
def spHead (s : Sg) (x y : Int32) : Nat ⊕ (Int64 × Sg) := match ixOf (sN s) x with
  | none => .inl 1
  | some i => match ixOf ((sL s i).length + 1) y with
    | some k => .inr (hd ((sL s i).take k), s)
    | none => .inl 1
def spAbout (s : Sg) (x y : Int32) : Nat ⊕ (Int32 × Sg) := match ixOf (sN s) x, ixOf 5 y with
  | some i, some u => .inr (if u = 0 then zI (sL s i).length else if u = 1 then sA s i else if u = 2 then sB s i else if u = 3 then zI (sK s i).length else zI ((sT s).filter (fun e => e.1 == i)).length, s)
  | _, _ => .inl 1
def spTotal (s : Sg) (x : Int32) : Nat ⊕ (Int32 × Sg) := match ixOf 4 x with
  | none => .inl 1
  | some u => .inr (if u = 0 then zI (sP s).length else if u = 1 then sS s else if u = 2 then zI (sE s).length else zI (sN s), s)
