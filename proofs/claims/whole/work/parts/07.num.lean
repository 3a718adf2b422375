/-! ===== numbers ===== -/
theorem zz_lt {x y : Int32} : x < y ↔ x.toInt < y.toInt := Int32.lt_iff_toInt_lt
theorem zz_le {x y : Int32} : x ≤ y ↔ x.toInt ≤ y.toInt := Int32.le_iff_toInt_le
theorem zz_eq {x y : Int32} : x = y ↔ x.toInt = y.toInt := Int32.toInt_inj.symm
theorem zn_lt {x : Int32} {k : Nat} (h : k < 2 ^ 31) : x < nI k ↔ x.toInt < (k : Int) := by rw [zz_lt, nI_toInt h]
theorem nz_lt {x : Int32} {k : Nat} (h : k < 2 ^ 31) : nI k < x ↔ (k : Int) < x.toInt := by rw [zz_lt, nI_toInt h]
theorem zn_le {x : Int32} {k : Nat} (h : k < 2 ^ 31) : x ≤ nI k ↔ x.toInt ≤ (k : Int) := by rw [zz_le, nI_toInt h]
theorem nz_le {x : Int32} {k : Nat} (h : k < 2 ^ 31) : nI k ≤ x ↔ (k : Int) ≤ x.toInt := by rw [zz_le, nI_toInt h]
theorem zn_eq {x : Int32} {k : Nat} (h : k < 2 ^ 31) : x = nI k ↔ x.toInt = (k : Int) := by rw [zz_eq, nI_toInt h]
theorem nz_eq {x : Int32} {k : Nat} (h : k < 2 ^ 31) : nI k = x ↔ (k : Int) = x.toInt := by rw [zz_eq, nI_toInt h]
theorem z_bound (x : Int32) : -2147483648 ≤ x.toInt ∧ x.toInt < 2147483648 := ⟨x.le_toInt, x.toInt_lt⟩
/-- an int that isn't below 0 is a number -/
theorem z_nat {x : Int32} (h : 0 ≤ x.toInt) : ∃ j : Nat, j < 2 ^ 31 ∧ x = nI j := nI_of (by rw [zz_lt, Int32.toInt_zero]; omega)
theorem z_is {x : Int32} {k : Nat} (h : x.toInt = (k : Int)) (hk : k < 2 ^ 31) : x = nI k := (zn_eq hk).mpr h
theorem nI_inj {a b : Nat} (ha : a < 2 ^ 31) (hb : b < 2 ^ 31) (h : nI a = nI b) : a = b := (nI_eq ha hb).mp h
def gshl (x : Int64) (y : Int32) : Int64 := x <<< (y.toInt64 &&& 63)
def gshr (x : Int64) (y : Int32) : Int64 := x >>> (y.toInt64 &&& 63)
def gushr (x : Int64) (y : Int32) : Int64 := (x.toUInt64 >>> (y.toInt64.toUInt64 &&& Int64.toUInt64 63)).toInt64
