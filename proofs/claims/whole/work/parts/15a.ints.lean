/-! Int32 by whole numbers: zI z -/
def zI (z : Int) : Int32 := Int32.ofInt z
theorem zI_add (a b : Int) : zI a + zI b = zI (a + b) := (Int32.ofInt_add a b).symm
theorem zI_sub (a b : Int) : zI a - zI b = zI (a - b) := (Int32.ofInt_sub a b).symm
theorem zI_mul (a b : Int) : zI a * zI b = zI (a * b) := (Int32.ofInt_mul a b).symm
theorem nI_z (n : Nat) : nI n = zI n := (Int32.ofInt_eq_ofNat (n := n)).symm
theorem zI_t {z : Int} (h1 : -2147483648 ≤ z) (h2 : z < 2147483648) : (zI z).toInt = z := Int32.toInt_ofInt_of_le h1 h2
theorem zI_lt {a b : Int} (ha : -2147483648 ≤ a ∧ a < 2147483648) (hb : -2147483648 ≤ b ∧ b < 2147483648) : zI a < zI b ↔ a < b := by
  rw [Int32.lt_iff_toInt_lt, zI_t ha.1 ha.2, zI_t hb.1 hb.2]
theorem zI_eq {a b : Int} (ha : -2147483648 ≤ a ∧ a < 2147483648) (hb : -2147483648 ≤ b ∧ b < 2147483648) : zI a = zI b ↔ a = b := by
  constructor
  · intro h
    have := congrArg Int32.toInt h
    rw [zI_t ha.1 ha.2, zI_t hb.1 hb.2] at this
    exact this
  · rintro rfl; rfl
theorem zI_le {a b : Int} (ha : -2147483648 ≤ a ∧ a < 2147483648) (hb : -2147483648 ≤ b ∧ b < 2147483648) : zI a ≤ zI b ↔ a ≤ b := by
  rw [Int32.le_iff_toInt_le, zI_t ha.1 ha.2, zI_t hb.1 hb.2]
theorem zI_of (x : Int32) : x = zI x.toInt := (Int32.ofInt_toInt x).symm
theorem zI_nat {z : Int} (h : 0 ≤ z) : zI z = nI z.toNat := by rw [nI_z, Int.toNat_of_nonneg h]
theorem zI_0 : zI 0 = 0 := rfl
theorem zI_abs {z : Int} (h : -2147483647 ≤ z ∧ z < 2147483648) : (if 0 ≤ zI z then zI z else 0 - zI z) = nI z.natAbs := by
  have h0 : (0 : Int32) ≤ zI z ↔ 0 ≤ z := zI_le (a := 0) (by decide) (by omega)
  by_cases c : 0 ≤ z
  · rw [if_pos (h0.mpr c), zI_nat c]; congr 1; omega
  · rw [if_neg (fun q => c (h0.mp q)), show (0 : Int32) = zI 0 from rfl, zI_sub, zI_nat (by omega)]; congr 1; omega
