def zI (a : Nat) : Int32 := Int32.ofNat a
def zJ (a : Nat) : Int64 := Int64.ofNat a
theorem L0 : (0 : Int32) = zI 0 := rfl
theorem L1 : (1 : Int32) = zI 1 := rfl
theorem L2 : (2 : Int32) = zI 2 := rfl
theorem L3 : (3 : Int32) = zI 3 := rfl
theorem L4 : (4 : Int32) = zI 4 := rfl
theorem L5 : (5 : Int32) = zI 5 := rfl
theorem L6 : (6 : Int32) = zI 6 := rfl
theorem L7 : (7 : Int32) = zI 7 := rfl
theorem L8 : (8 : Int32) = zI 8 := rfl
theorem L10 : (10 : Int32) = zI 10 := rfl
theorem L12 : (12 : Int32) = zI 12 := rfl
theorem L18 : (18 : Int32) = zI 18 := rfl
theorem L31 : (31 : Int32) = zI 31 := rfl
theorem L36 : (36 : Int32) = zI 36 := rfl
theorem L40 : (40 : Int32) = zI 40 := rfl
theorem L127 : (127 : Int32) = zI 127 := rfl
theorem L148 : (148 : Int32) = zI 148 := rfl
theorem L150 : (150 : Int32) = zI 150 := rfl
theorem L151 : (151 : Int32) = zI 151 := rfl
theorem L200 : (200 : Int32) = zI 200 := rfl
theorem L255 : (255 : Int32) = zI 255 := rfl
theorem L300 : (300 : Int32) = zI 300 := rfl
theorem L600 : (600 : Int32) = zI 600 := rfl
theorem L906 : (906 : Int32) = zI 906 := rfl
theorem L930 : (930 : Int32) = zI 930 := rfl
theorem L940 : (940 : Int32) = zI 940 := rfl
theorem zI_lt {a b : Nat} (ha : a < 2147483648) (hb : b < 2147483648) : (zI a < zI b) ↔ a < b := Int32.ofNat_lt_iff_lt ha hb
theorem zI_le {a b : Nat} (ha : a < 2147483648) (hb : b < 2147483648) : (zI a ≤ zI b) ↔ a ≤ b := Int32.ofNat_le_iff_le ha hb
theorem zI_cl {a : Nat} (ha : a < 2147483648) : (zI a).toNatClampNeg = a := Int32.toNatClampNeg_ofNat_of_lt ha
theorem zI_eq {a b : Nat} (ha : a < 2147483648) (hb : b < 2147483648) : (zI a = zI b) ↔ a = b := ⟨fun h => by rw [← zI_cl ha, ← zI_cl hb, h], fun h => h ▸ rfl⟩
theorem zI_nn {a : Nat} (ha : a < 2147483648) : 0 ≤ zI a := Int32.zero_le_ofNat_of_lt ha
theorem zI_add (a b : Nat) : zI a + zI b = zI (a + b) := (Int32.ofNat_add a b).symm
theorem zI_mul (a b : Nat) : zI a * zI b = zI (a * b) := (Int32.ofNat_mul a b).symm
theorem zI_sub {a b : Nat} (h : b ≤ a) : zI a - zI b = zI (a - b) := (Int32.ofNat_sub a b h).symm
theorem zI_of {x : Int32} (h : 0 ≤ x) : ∃ a, a < 2147483648 ∧ x = zI a := ⟨x.toNatClampNeg, Int32.toNatClampNeg_lt x, (Int32.ofNat_toNatClampNeg x h).symm⟩
theorem zI_cases (x : Int32) : x < 0 ∨ ∃ a, a < 2147483648 ∧ x = zI a := by
  by_cases h : x < 0
  · exact Or.inl h
  · exact Or.inr (zI_of (Int32.not_lt.mp h))
theorem zI_not_neg {a : Nat} (ha : a < 2147483648) : ¬ zI a < 0 := Int32.not_lt.mpr (zI_nn ha)
theorem zI_mod {a b : Nat} (ha : a < 2147483648) (hb : b < 2147483648) : zI a - zI a / zI b * zI b = zI (a % b) := by
  have h : zI a / zI b = zI (a / b) := (Int32.ofNat_div ha hb).symm
  rw [h, zI_mul, zI_sub (Nat.div_mul_le_self a b)]
  congr 1
  have := Nat.div_add_mod a b
  rw [Nat.mul_comm] at this
  omega
theorem zI_ne {a b : Nat} (ha : a < 2147483648) (hb : b < 2147483648) (h : a ≠ b) : ¬ zI a = zI b := fun q => h ((zI_eq ha hb).mp q)
theorem zI_neg_ne {a : Nat} (ha : a < 2147483648) : ¬ zI a = -1 := fun q => absurd (q ▸ zI_nn ha) (by decide)
theorem zJ_of {a : Nat} (ha : a < 2147483648) : Int32.toInt64 (zI a) = zJ a := Int32.toInt64_ofNat' (by
  show ((a : Nat) : Int) ≤ 2147483647
  omega)
theorem zJ_to (a : Nat) : Int64.toInt32 (zJ a) = zI a := Int64.toInt32_ofNat'
theorem zJ_eq {a b : Nat} (ha : a < 2147483648) (hb : b < 2147483648) : (zJ a = zJ b) ↔ a = b := by
  constructor
  · intro h
    have h2 := congrArg Int64.toInt32 h
    rw [zJ_to, zJ_to] at h2
    exact (zI_eq ha hb).mp h2
  · intro h
    rw [h]
def b2 (b : Bool) : Int32 := if b then 1 else 0
theorem b2_z (b : Bool) : (b2 b = 0) ↔ b = false := by cases b <;> decide
theorem b2_01 (b : Bool) : b2 b = 0 ∨ b2 b = 1 := by cases b <;> decide
theorem xz_b2 (b : Bool) : xz (b2 b) = some (b2 b) := by cases b <;> rfl
theorem xnar1 (x : Int32) : xnar 1 x = x := rfl
theorem xnar3_b2 (b : Bool) : xnar 3 (b2 b) = b2 b := by cases b <;> decide
theorem xnar3_0 : xnar 3 0 = b2 false := by decide
theorem xnar3_1 : xnar 3 1 = b2 true := by decide
theorem xnar0 (x : Int32) : xnar 0 x = x.toInt8.toInt32 := rfl
theorem ev2 (a : Int32) : (a - a / 2 * 2 = 0) ↔ (a &&& 1 = 0) := by
  have hq : (a / 2).toInt = a.toInt.tdiv 2 := Int32.toInt_div_of_ne_right a 2 (by decide)
  have hl : a.toInt < 2147483648 := a.toInt_lt
  have hg : -2147483648 ≤ a.toInt := a.le_toInt
  have ht : a.toInt.tdiv 2 = a.toInt / 2 + if 0 ≤ a.toInt ∨ (2 : Int) ∣ a.toInt then 0 else 1 := Int.tdiv_eq_ediv
  have hb : -2147483648 ≤ a.toInt.tdiv 2 * 2 ∧ a.toInt.tdiv 2 * 2 < 2147483648 := by
    rw [ht]
    split <;> omega
  have h1 : (a / 2 * 2).toInt = a.toInt.tdiv 2 * 2 := by
    rw [Int32.toInt_mul, hq]
    exact Int.bmod_eq_of_le (by have := hb.1; simpa using this) (by have := hb.2; simpa using this)
  have h2 : (a - a / 2 * 2 = 0) ↔ a.toInt = a.toInt.tdiv 2 * 2 := by
    rw [← h1, Int32.toInt_inj, Int32.sub_eq_iff_eq_add, Int32.zero_add]
  have h3 : (a &&& 1 = 0) ↔ a.toBitVec.toNat % 2 = 0 := by
    rw [← Int32.toBitVec_inj]
    show (a.toBitVec &&& 1#32 = 0#32) ↔ _
    rw [← BitVec.toNat_inj, BitVec.toNat_and]
    show (a.toBitVec.toNat &&& (2 ^ 1 - 1) = 0) ↔ _
    rw [Nat.and_two_pow_sub_one_eq_mod]
  have h4 : a.toInt = if 2 * a.toBitVec.toNat < 4294967296 then (a.toBitVec.toNat : Int) else (a.toBitVec.toNat : Int) - 4294967296 := BitVec.toInt_eq_toNat_cond _
  rw [h2, h3, ht]
  split at h4 <;> split <;> omega
theorem ev8 (a : Int32) : (a - a / 8 * 8 = 0) ↔ (a &&& 7 = 0) := by
  have hq : (a / 8).toInt = a.toInt.tdiv 8 := Int32.toInt_div_of_ne_right a 8 (by decide)
  have hl : a.toInt < 2147483648 := a.toInt_lt
  have hg : -2147483648 ≤ a.toInt := a.le_toInt
  have ht : a.toInt.tdiv 8 = a.toInt / 8 + if 0 ≤ a.toInt ∨ (8 : Int) ∣ a.toInt then 0 else 1 := Int.tdiv_eq_ediv
  have hb : -2147483648 ≤ a.toInt.tdiv 8 * 8 ∧ a.toInt.tdiv 8 * 8 < 2147483648 := by
    rw [ht]
    split <;> omega
  have h1 : (a / 8 * 8).toInt = a.toInt.tdiv 8 * 8 := by
    rw [Int32.toInt_mul, hq]
    exact Int.bmod_eq_of_le (by have := hb.1; simpa using this) (by have := hb.2; simpa using this)
  have h2 : (a - a / 8 * 8 = 0) ↔ a.toInt = a.toInt.tdiv 8 * 8 := by
    rw [← h1, Int32.toInt_inj, Int32.sub_eq_iff_eq_add, Int32.zero_add]
  have h3 : (a &&& 7 = 0) ↔ a.toBitVec.toNat % 8 = 0 := by
    rw [← Int32.toBitVec_inj]
    show (a.toBitVec &&& 7#32 = 0#32) ↔ _
    rw [← BitVec.toNat_inj, BitVec.toNat_and]
    show (a.toBitVec.toNat &&& (2 ^ 3 - 1) = 0) ↔ _
    rw [Nat.and_two_pow_sub_one_eq_mod]
  have h4 : a.toInt = if 2 * a.toBitVec.toNat < 4294967296 then (a.toBitVec.toNat : Int) else (a.toBitVec.toNat : Int) - 4294967296 := BitVec.toInt_eq_toNat_cond _
  rw [h2, h3, ht]
  split at h4 <;> split <;> omega
theorem and127 (x : Int32) : ∃ u : Nat, u < 128 ∧ (x &&& 127) = zI u := by
  refine ⟨(x.toBitVec &&& 127#32).toNat, ?_, ?_⟩
  · have : (x.toBitVec &&& 127#32).toNat ≤ 127 := by
      rw [BitVec.toNat_and]
      exact Nat.and_le_right
    omega
  · apply Int32.toBitVec.inj
    show x.toBitVec &&& 127#32 = BitVec.ofNat 32 _
    rw [BitVec.ofNat_toNat, BitVec.setWidth_eq]
theorem and255 (x : Int32) : ∃ u : Nat, u < 256 ∧ (x &&& 255) = zI u := by
  refine ⟨(x.toBitVec &&& 255#32).toNat, ?_, ?_⟩
  · have : (x.toBitVec &&& 255#32).toNat ≤ 255 := by
      rw [BitVec.toNat_and]
      exact Nat.and_le_right
    omega
  · apply Int32.toBitVec.inj
    show x.toBitVec &&& 255#32 = BitVec.ofNat 32 _
    rw [BitVec.ofNat_toNat, BitVec.setWidth_eq]
def sb (x : Int64) : Int32 := Int8.toInt32 (Int32.toInt8 (Int64.toInt32 x))
theorem sb_low {X Y : Int64} (h : ∀ i, i < 8 → X.toBitVec.getLsbD i = Y.toBitVec.getLsbD i) : sb X = sb Y := by
  unfold sb
  have h2 : Int32.toInt8 (Int64.toInt32 X) = Int32.toInt8 (Int64.toInt32 Y) := by
    apply Int8.toBitVec.inj
    show (X.toBitVec.signExtend 32).signExtend 8 = (Y.toBitVec.signExtend 32).signExtend 8
    rw [BitVec.signExtend_eq_setWidth_of_le _ (by decide), BitVec.signExtend_eq_setWidth_of_le _ (by decide), BitVec.signExtend_eq_setWidth_of_le _ (by decide), BitVec.signExtend_eq_setWidth_of_le _ (by decide)]
    apply BitVec.eq_of_getLsbD_eq
    intro i hi
    simp only [BitVec.getLsbD_setWidth]
    rw [h i hi]
  rw [h2]
theorem sb_sh (v : Int64) {k : Nat} (hk : k < 8) : sb (xlushr v (zI (8 * k))) = sb (xlshr v (zI (8 * k))) := by
  have key : ∀ n : Nat, n < 57 → ∀ i, i < 8 → (v.toBitVec >>> n).getLsbD i = (v.toBitVec.sshiftRight n).getLsbD i := by
    intro n hn i hi
    rw [BitVec.getLsbD_ushiftRight, BitVec.getLsbD_sshiftRight]
    rw [if_pos (by omega)]
    simp
    omega
  match k, hk with
  | 0, _ => exact sb_low (fun i hi => key 0 (by decide) i hi)
  | 1, _ => exact sb_low (fun i hi => key 8 (by decide) i hi)
  | 2, _ => exact sb_low (fun i hi => key 16 (by decide) i hi)
  | 3, _ => exact sb_low (fun i hi => key 24 (by decide) i hi)
  | 4, _ => exact sb_low (fun i hi => key 32 (by decide) i hi)
  | 5, _ => exact sb_low (fun i hi => key 40 (by decide) i hi)
  | 6, _ => exact sb_low (fun i hi => key 48 (by decide) i hi)
  | 7, _ => exact sb_low (fun i hi => key 56 (by decide) i hi)
theorem sb8 (x : Int64) : (sb x).toInt8.toInt32 = sb x := by
  unfold sb
  rw [Int8.toInt8_toInt32]
