/-! NUMBERS: longs and ints by whole numbers -/
def LI (x : Int) : Int64 := Int64.ofInt x
def II (x : Int) : Int32 := Int32.ofInt x
def bL (a : Int) : Prop := -9223372036854775808 ≤ a ∧ a < 9223372036854775808
def bJ (a : Int) : Prop := -2147483648 ≤ a ∧ a < 2147483648
theorem LI_toInt {a : Int} (h : bL a) : (LI a).toInt = a := Int64.toInt_ofInt_of_le (by have := h.1; omega) (by have := h.2; omega)
theorem II_toInt {a : Int} (h : bJ a) : (II a).toInt = a := Int32.toInt_ofInt_of_le (by have := h.1; omega) (by have := h.2; omega)
theorem LI_of (v : Int64) : bL v.toInt ∧ v = LI v.toInt := ⟨⟨by have := Int64.le_toInt v; omega, by have := Int64.toInt_lt v; omega⟩, (Int64.ofInt_toInt v).symm⟩
theorem II_of (v : Int32) : bJ v.toInt ∧ v = II v.toInt := ⟨⟨by have := Int32.le_toInt v; omega, by have := Int32.toInt_lt v; omega⟩, (Int32.ofInt_toInt v).symm⟩
theorem LI_add (a b : Int) : LI a + LI b = LI (a + b) := (Int64.ofInt_add a b).symm
theorem LI_sub (a b : Int) : LI a - LI b = LI (a - b) := (Int64.ofInt_sub a b).symm
theorem LI_mul (a b : Int) : LI a * LI b = LI (a * b) := (Int64.ofInt_mul a b).symm
theorem II_add (a b : Int) : II a + II b = II (a + b) := (Int32.ofInt_add a b).symm
theorem II_sub (a b : Int) : II a - II b = II (a - b) := (Int32.ofInt_sub a b).symm
theorem II_mul (a b : Int) : II a * II b = II (a * b) := (Int32.ofInt_mul a b).symm
theorem LI_lt {a b : Int} (ha : bL a) (hb : bL b) : LI a < LI b ↔ a < b := by rw [Int64.lt_iff_toInt_lt, LI_toInt ha, LI_toInt hb]
theorem LI_le {a b : Int} (ha : bL a) (hb : bL b) : LI a ≤ LI b ↔ a ≤ b := by rw [Int64.le_iff_toInt_le, LI_toInt ha, LI_toInt hb]
theorem LI_eq {a b : Int} (ha : bL a) (hb : bL b) : LI a = LI b ↔ a = b := by rw [← Int64.toInt_inj, LI_toInt ha, LI_toInt hb]
theorem II_lt {a b : Int} (ha : bJ a) (hb : bJ b) : II a < II b ↔ a < b := by rw [Int32.lt_iff_toInt_lt, II_toInt ha, II_toInt hb]
theorem II_le {a b : Int} (ha : bJ a) (hb : bJ b) : II a ≤ II b ↔ a ≤ b := by rw [Int32.le_iff_toInt_le, II_toInt ha, II_toInt hb]
theorem II_eq {a b : Int} (ha : bJ a) (hb : bJ b) : II a = II b ↔ a = b := by rw [← Int32.toInt_inj, II_toInt ha, II_toInt hb]
theorem LI_div {a b : Int} (ha : bL a) (hb : bL b) : LI a / LI b = LI (a.tdiv b) := (Int64.ofInt_tdiv (by have := ha.1; rw [show Int64.minValue.toInt = -9223372036854775808 by decide]; omega) (by have := ha.2; rw [show Int64.maxValue.toInt = 9223372036854775807 by decide]; omega) (by have := hb.1; rw [show Int64.minValue.toInt = -9223372036854775808 by decide]; omega) (by have := hb.2; rw [show Int64.maxValue.toInt = 9223372036854775807 by decide]; omega)).symm
theorem II_div {a b : Int} (ha : bJ a) (hb : bJ b) : II a / II b = II (a.tdiv b) := (Int32.ofInt_tdiv (by have := ha.1; rw [show Int32.minValue.toInt = -2147483648 by decide]; omega) (by have := ha.2; rw [show Int32.maxValue.toInt = 2147483647 by decide]; omega) (by have := hb.1; rw [show Int32.minValue.toInt = -2147483648 by decide]; omega) (by have := hb.2; rw [show Int32.maxValue.toInt = 2147483647 by decide]; omega)).symm
theorem LI_i (a : Int) : (LI a).toInt32 = II a := Int64.toInt32_ofInt
theorem II_l {a : Int} (h : bJ a) : (II a).toInt64 = LI a := Int32.toInt64_ofInt (by have := h.1; rw [show Int32.minValue.toInt = -2147483648 by decide]; omega) (by have := h.2; rw [show Int32.maxValue.toInt = 2147483647 by decide]; omega)
theorem II_cl {a : Int} (h : bJ a) : (II a).toNatClampNeg = a.toNat := Int32.toNatClampNeg_ofInt_of_le (by have := h.1; omega) (by have := h.2; omega)
theorem II_n (n : Nat) : II (n : Int) = nI n := Int32.ofInt_eq_ofNat
theorem nI_I (n : Nat) : nI n = II (n : Int) := (II_n n).symm
theorem LI_n (n : Nat) : LI (n : Int) = lN n := Int64.ofInt_eq_ofNat
theorem L_lit (n : Nat) : (Int64.ofNat n) = LI (n : Int) := (Int64.ofInt_eq_ofNat).symm
theorem L0 : (0 : Int64) = LI 0 := by decide
theorem L1 : (1 : Int64) = LI 1 := by decide
theorem L2 : (2 : Int64) = LI 2 := by decide
theorem L64 : (64 : Int64) = LI 64 := by decide
theorem L100 : (100 : Int64) = LI 100 := by decide
theorem L200 : (200 : Int64) = LI 200 := by decide
theorem L600 : (600 : Int64) = LI 600 := by decide
theorem L900 : (900 : Int64) = LI 900 := by decide
theorem L1000 : (1000 : Int64) = LI 1000 := by decide
theorem L1100 : (1100 : Int64) = LI 1100 := by decide
theorem L10000 : (10000 : Int64) = LI 10000 := by decide
theorem L20000 : (20000 : Int64) = LI 20000 := by decide
theorem L30000 : (30000 : Int64) = LI 30000 := by decide
theorem L32768 : (32768 : Int64) = LI 32768 := by decide
theorem L100k : (100000 : Int64) = LI 100000 := by decide
theorem Lm100k : (-100000 : Int64) = LI (-100000) := by decide
theorem L1M : (1000000 : Int64) = LI 1000000 := by decide
theorem Lm1 : (-1 : Int64) = LI (-1) := by decide
theorem I0 : (0 : Int32) = II 0 := by decide
theorem I1 : (1 : Int32) = II 1 := by decide
theorem I2 : (2 : Int32) = II 2 := by decide
theorem I3 : (3 : Int32) = II 3 := by decide
theorem I4 : (4 : Int32) = II 4 := by decide
theorem I5 : (5 : Int32) = II 5 := by decide
theorem I7 : (7 : Int32) = II 7 := by decide
theorem I12 : (12 : Int32) = II 12 := by decide
theorem I16 : (16 : Int32) = II 16 := by decide
theorem I40 : (40 : Int32) = II 40 := by decide
theorem I65 : (65 : Int32) = II 65 := by decide
theorem I100 : (100 : Int32) = II 100 := by decide
theorem I600 : (600 : Int32) = II 600 := by decide
theorem I20000 : (20000 : Int32) = II 20000 := by decide
theorem Im1 : (-1 : Int32) = II (-1) := by decide
theorem vp_II {a : Int} {n : Nat} (h0 : 0 ≤ a) (h : a < n) (hn : n < 2 ^ 31) : vp_in (II a) n := by
  rw [vp_in_iff, II_toInt ⟨by omega, by omega⟩]
  omega
theorem vp_II_iff {a : Int} {n : Nat} (hb : bJ a) : vp_in (II a) n ↔ 0 ≤ a ∧ a < n := by rw [vp_in_iff, II_toInt hb]
/-- a number for a yes or a no -/
def bI (P : Prop) [Decidable P] : Int32 := if P then 1 else 0
theorem bI_t {P : Prop} [Decidable P] (h : P) : bI P = 1 := if_pos h
theorem bI_f {P : Prop} [Decidable P] (h : ¬ P) : bI P = 0 := if_neg h
theorem bI_0 {P : Prop} [Decidable P] : bI P = 0 ↔ ¬ P := by
  by_cases h : P
  · rw [bI_t h]; exact ⟨fun z => absurd z (by decide), fun z => absurd h z⟩
  · rw [bI_f h]; exact ⟨fun _ => h, fun _ => rfl⟩
theorem bI_1 {P : Prop} [Decidable P] : bI P = 1 ↔ P := by
  by_cases h : P
  · rw [bI_t h]; exact ⟨fun _ => h, fun _ => rfl⟩
  · rw [bI_f h]; exact ⟨fun z => absurd z (by decide), fun z => absurd z h⟩
/-- whole division by a number above 0 -/
theorem td_pos {a b : Int} (h : 0 ≤ a) : a.tdiv b = a / b := Int.tdiv_eq_ediv_of_nonneg h
theorem td_neg {a b : Int} (h : a < 0) : a.tdiv b = -((-a) / b) := by
  rw [show a = -(-a) by omega, Int.neg_tdiv, td_pos (by omega)]
  simp
/-- rounding down, out of rounding towards 0 -/
theorem fl_neg {a b : Int} (hb : 0 < b) (ha : a < 0) (hm : a.tdiv b * b ≠ a) : a.tdiv b - 1 = a / b := by
  have h1 : a.tdiv b = -((-a) / b) := by
    rw [show a = -(-a) by omega, Int.neg_tdiv, td_pos (by omega)]
    simp
  have h2 := Int.emod_add_mul_ediv a b
  have h3 := Int.emod_nonneg a (show b ≠ 0 by omega)
  have h4 := Int.emod_lt_of_pos a hb
  have h5 := Int.emod_add_mul_ediv (-a) b
  have h6 := Int.emod_nonneg (-a) (show b ≠ 0 by omega)
  have h7 := Int.emod_lt_of_pos (-a) hb
  rw [h1] at hm ⊢
  generalize (-a) / b = q at *
  generalize a / b = r at *
  generalize (-a) % b = m at *
  generalize a % b = k at *
  have h8 : b * (q + r) = -(m + k) := by rw [Int.mul_add]; omega
  have hm0 : m ≠ 0 := by
    intro z
    apply hm
    rw [Int.neg_mul, Int.mul_comm]
    omega
  have h9 : -(2 * b) < b * (q + r) := by omega
  have h10 : b * (q + r) < 0 := by omega
  have h11 : q + r < 0 := by
    rcases Int.lt_or_le (q + r) 0 with z | z
    · exact z
    · have := Int.mul_nonneg (show 0 ≤ b by omega) z; omega
  have h12 : -2 < q + r := by
    rcases Int.lt_or_le (-2) (q + r) with z | z
    · exact z
    · have : b * (q + r) ≤ b * (-2) := Int.mul_le_mul_of_nonneg_left z (by omega)
      omega
  omega
theorem fl_eq {a b : Int} (hb : 0 < b) (hm : a.tdiv b * b = a) : a.tdiv b = a / b := by
  have : a = b * a.tdiv b := by rw [Int.mul_comm]; exact hm.symm
  rw [this, Int.mul_ediv_cancel_left _ (by omega)]
  rw [Int.mul_tdiv_cancel_left _ (by omega)]
theorem xor_neg {a b : Int} (ha : bL a) (hb : bL b) (h : 0 ≤ b) : (LI a ^^^ LI b) < 0 ↔ a < 0 := by
  have key : ∀ x : Int64, x < 0 ↔ x.toBitVec.msb = true := fun x => by
    rw [Int64.lt_iff_toInt_lt, BitVec.msb_eq_toInt]
    simp
  rw [key, Int64.toBitVec_xor, BitVec.msb_xor]
  have h1 : (LI b).toBitVec.msb = false := by
    cases hz : (LI b).toBitVec.msb with
    | false => rfl
    | true =>
      have := (key (LI b)).mpr hz
      rw [L0, LI_lt hb ⟨by omega, by omega⟩] at this
      omega
  rw [h1, Bool.xor_false, ← key, L0, LI_lt ha ⟨by omega, by omega⟩]
