/-! ===== numbers ===== -/
theorem zz_lt {x y : Int32} : x < y ↔ x.toInt < y.toInt := Int32.lt_iff_toInt_lt
theorem zz_le {x y : Int32} : x ≤ y ↔ x.toInt ≤ y.toInt := Int32.le_iff_toInt_le
theorem zz_eq {x y : Int32} : x = y ↔ x.toInt = y.toInt := Int32.toInt_inj.symm
theorem zn_lt {x : Int32} {k : Nat} (h : k < 2 ^ 31) : x < nI k ↔ x.toInt < (k : Int) := by rw [zz_lt, nI_toInt h]
theorem nz_lt {x : Int32} {k : Nat} (h : k < 2 ^ 31) : nI k < x ↔ (k : Int) < x.toInt := by rw [zz_lt, nI_toInt h]
theorem zn_le {x : Int32} {k : Nat} (h : k < 2 ^ 31) : x ≤ nI k ↔ x.toInt ≤ (k : Int) := by rw [zz_le, nI_toInt h]
theorem nz_le {x : Int32} {k : Nat} (h : k < 2 ^ 31) : nI k ≤ x ↔ (k : Int) ≤ x.toInt := by rw [zz_le, nI_toInt h]
theorem zn_eq {x : Int32} {k : Nat} (h : k < 2 ^ 31) : x = nI k ↔ x.toInt = (k : Int) := by rw [zz_eq, nI_toInt h]
theorem nz_eq {x : Int32} {k : Nat} (h : k < 2 ^ 31) : nI k = x ↔ (k : Int) = x.toInt := by rw [zz_eq, nI_toInt h]
theorem z_bound (x : Int32) : -2147483648 ≤ x.toInt ∧ x.toInt < 2147483648 := ⟨x.le_toInt, x.toInt_lt⟩
/-- an int that isn't below 0 is a number -/
theorem z_nat {x : Int32} (h : 0 ≤ x.toInt) : ∃ j : Nat, j < 2 ^ 31 ∧ x = nI j := nI_of (by rw [zz_lt, Int32.toInt_zero]; omega)
theorem z_is {x : Int32} {k : Nat} (h : x.toInt = (k : Int)) (hk : k < 2 ^ 31) : x = nI k := (zn_eq hk).mpr h
theorem nI_inj {a b : Nat} (ha : a < 2 ^ 31) (hb : b < 2 ^ 31) (h : nI a = nI b) : a = b := (nI_eq ha hb).mp h
def gshl (x : Int64) (y : Int32) : Int64 := x <<< (y.toInt64 &&& 63)
def gshr (x : Int64) (y : Int32) : Int64 := x >>> (y.toInt64 &&& 63)
def gushr (x : Int64) (y : Int32) : Int64 := (x.toUInt64 >>> (y.toInt64.toUInt64 &&& Int64.toUInt64 63)).toInt64
theorem cmp_lt {x y : Int32} {a b : Int} (hx : x.toInt = a) (hy : y.toInt = b) : x < y ↔ a < b := by rw [zz_lt, hx, hy]
theorem cmp_le {x y : Int32} {a b : Int} (hx : x.toInt = a) (hy : y.toInt = b) : x ≤ y ↔ a ≤ b := by rw [zz_le, hx, hy]
theorem cmp_eq {x y : Int32} {a b : Int} (hx : x.toInt = a) (hy : y.toInt = b) : x = y ↔ a = b := by rw [zz_eq, hx, hy]
/-- an int by its value -/
def zI (z : Int) : Int32 := Int32.ofInt z
theorem zI_n (k : Nat) : zI (k : Int) = nI k := rfl
theorem zI_toInt {z : Int} (h : -2147483648 ≤ z) (h2 : z < 2147483648) : (zI z).toInt = z := Int32.toInt_ofInt_of_le (by simpa using h) (by simpa using h2)
theorem zI_of (x : Int32) : zI x.toInt = x := Int32.ofInt_toInt x
theorem zI_add (a b : Int) : zI a + zI b = zI (a + b) := (Int32.ofInt_add a b).symm
theorem zI_sub (a b : Int) : zI a - zI b = zI (a - b) := (Int32.ofInt_sub a b).symm
theorem zI_mul (a b : Int) : zI a * zI b = zI (a * b) := (Int32.ofInt_mul a b).symm
theorem zI_neg (a : Int) : -zI a = zI (-a) := (Int32.ofInt_neg a).symm
theorem zI_add_ni (a : Nat) (b : Int) : nI a + zI b = zI ((a : Int) + b) := zI_add a b
theorem zI_add_in (a : Int) (b : Nat) : zI a + nI b = zI (a + (b : Int)) := zI_add a b
theorem zI_sub_ni (a : Nat) (b : Int) : nI a - zI b = zI ((a : Int) - b) := zI_sub a b
theorem zI_sub_in (a : Int) (b : Nat) : zI a - nI b = zI (a - (b : Int)) := zI_sub a b
theorem zI_sub_nn (a b : Nat) : nI a - nI b = zI ((a : Int) - (b : Int)) := zI_sub a b
theorem zI_mul_ni (a : Nat) (b : Int) : nI a * zI b = zI ((a : Int) * b) := zI_mul a b
theorem zI_mul_in (a : Int) (b : Nat) : zI a * nI b = zI (a * (b : Int)) := zI_mul a b
theorem zI_nat {z : Int} (h : 0 ≤ z) : zI z = nI z.toNat := by rw [← zI_n, Int.toNat_of_nonneg h]
theorem zI_inj {a b : Int} (h1 : -2147483648 ≤ a) (h2 : a < 2147483648) (h3 : -2147483648 ≤ b) (h4 : b < 2147483648) (h : zI a = zI b) : a = b := by
  rw [← zI_toInt h1 h2, h, zI_toInt h3 h4]
