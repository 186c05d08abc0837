/-! whole numbers for the machine's ints and longs: exact sums, differences, products; comparisons, indices, quotients within the range -/
def iI (x : Int) : Int32 := Int32.ofInt x
def lI (x : Int) : Int64 := Int64.ofInt x
abbrev i32 (x : Int) : Prop := -2147483648 ≤ x ∧ x ≤ 2147483647
abbrev i64 (x : Int) : Prop := -9223372036854775808 ≤ x ∧ x ≤ 9223372036854775807
theorem iI_add (x y : Int) : iI x + iI y = iI (x + y) := (Int32.ofInt_add x y).symm
theorem iI_sub (x y : Int) : iI x - iI y = iI (x - y) := (Int32.ofInt_sub x y).symm
theorem iI_mul (x y : Int) : iI x * iI y = iI (x * y) := (Int32.ofInt_mul x y).symm
theorem lI_add (x y : Int) : lI x + lI y = lI (x + y) := (Int64.ofInt_add x y).symm
theorem lI_sub (x y : Int) : lI x - lI y = lI (x - y) := (Int64.ofInt_sub x y).symm
theorem lI_mul (x y : Int) : lI x * lI y = lI (x * y) := (Int64.ofInt_mul x y).symm
theorem iI_toInt {x : Int} (h : i32 x) : (iI x).toInt = x := Int32.toInt_ofInt_of_le (by omega) (by omega)
theorem lI_toInt {x : Int} (h : i64 x) : (lI x).toInt = x := Int64.toInt_ofInt_of_le (by omega) (by omega)
theorem i32_of (v : Int32) : i32 v.toInt := by
  have h1 := Int32.le_toInt v
  have h2 := Int32.toInt_lt v
  exact ⟨by omega, by omega⟩
theorem i64_of (v : Int64) : i64 v.toInt := by
  have h1 := Int64.le_toInt v
  have h2 := Int64.toInt_lt v
  exact ⟨by omega, by omega⟩
theorem iI_of (v : Int32) : iI v.toInt = v := Int32.ofInt_toInt v
theorem lI_of (v : Int64) : lI v.toInt = v := Int64.ofInt_toInt v
theorem iI_le {x y : Int} (hx : i32 x) (hy : i32 y) : iI x ≤ iI y ↔ x ≤ y := by
  rw [Int32.le_iff_toInt_le, iI_toInt hx, iI_toInt hy]
theorem iI_lt {x y : Int} (hx : i32 x) (hy : i32 y) : iI x < iI y ↔ x < y := by
  rw [Int32.lt_iff_toInt_lt, iI_toInt hx, iI_toInt hy]
theorem iI_eq {x y : Int} (hx : i32 x) (hy : i32 y) : iI x = iI y ↔ x = y := by
  rw [← Int32.toInt_inj, iI_toInt hx, iI_toInt hy]
theorem lI_le {x y : Int} (hx : i64 x) (hy : i64 y) : lI x ≤ lI y ↔ x ≤ y := by
  rw [Int64.le_iff_toInt_le, lI_toInt hx, lI_toInt hy]
theorem lI_lt {x y : Int} (hx : i64 x) (hy : i64 y) : lI x < lI y ↔ x < y := by
  rw [Int64.lt_iff_toInt_lt, lI_toInt hx, lI_toInt hy]
theorem lI_eq {x y : Int} (hx : i64 x) (hy : i64 y) : lI x = lI y ↔ x = y := by
  rw [← Int64.toInt_inj, lI_toInt hx, lI_toInt hy]
theorem iI_0 : iI 0 = 0 := rfl
theorem lI_0 : lI 0 = 0 := rfl
theorem iI_nat (n : Nat) : Int32.ofNat n = iI (n : Int) := (Int32.ofInt_eq_ofNat).symm
theorem iI_clamp {x : Int} (h : i32 x) : (iI x).toNatClampNeg = x.toNat := Int32.toNatClampNeg_ofInt_of_le (by omega) (by omega)
theorem iI_in {x : Int} {n : Nat} (h0 : 0 ≤ x) (hn : x < (n : Int)) (h : i32 x) : vp_in (iI x) n := by
  unfold vp_in
  rw [iI_clamp h]
  have h1 : ¬ iI x < 0 := by
    rw [← iI_0, iI_lt h (by omega)]; omega
  intro q
  rcases q with q | q
  · exact h1 q
  · omega
theorem mx32 : Int32.maxValue.toInt = 2147483647 := by decide +kernel
theorem mx64 : Int64.maxValue.toInt = 9223372036854775807 := by decide +kernel
theorem mn32 : Int32.minValue.toInt = -2147483648 := by decide +kernel
theorem mn64 : Int64.minValue.toInt = -9223372036854775808 := by decide +kernel
theorem iI_div {x y : Int} (hx : i32 x) (hy : i32 y) : iI x / iI y = iI (x.tdiv y) :=
  (Int32.ofInt_tdiv (by rw [mn32]; exact hx.1) (by rw [mx32]; exact hx.2) (by rw [mn32]; exact hy.1) (by rw [mx32]; exact hy.2)).symm
theorem lI_div {x y : Int} (hx : i64 x) (hy : i64 y) : lI x / lI y = lI (x.tdiv y) :=
  (Int64.ofInt_tdiv (by rw [mn64]; exact hx.1) (by rw [mx64]; exact hx.2) (by rw [mn64]; exact hy.1) (by rw [mx64]; exact hy.2)).symm
theorem iI_rem {x y : Int} (hx : i32 x) (hy : i32 y) : iI x - iI x / iI y * iI y = iI (x.tmod y) := by
  rw [iI_div hx hy, iI_mul, iI_sub, Int.tmod_def, Int.mul_comm]
theorem lI_rem {x y : Int} (hx : i64 x) (hy : i64 y) : lI x - lI x / lI y * lI y = lI (x.tmod y) := by
  rw [lI_div hx hy, lI_mul, lI_sub, Int.tmod_def, Int.mul_comm]
theorem iI_toL {x : Int} (h : i32 x) : (iI x).toInt64 = lI x := Int32.toInt64_ofInt (by rw [mn32]; exact h.1) (by rw [mx32]; exact h.2)
theorem lI_toI (x : Int) : (lI x).toInt32 = iI x := Int64.toInt32_ofInt
theorem lI_and14 (x : Int) : lI x &&& lI 16383 = lI (x % 16384) := by
  apply Int64.toBitVec_inj.mp
  rw [Int64.toBitVec_and]
  apply BitVec.eq_of_toNat_eq
  rw [BitVec.toNat_and]
  show (BitVec.ofInt 64 x).toNat &&& (BitVec.ofInt 64 16383).toNat = (BitVec.ofInt 64 (x % 16384)).toNat
  rw [BitVec.toNat_ofInt, BitVec.toNat_ofInt, BitVec.toNat_ofInt]
  have h := Nat.and_two_pow_sub_one_eq_mod (x % (2 ^ 64 : Nat)).toNat 14
  have e : ((16383 : Int) % (2 ^ 64 : Nat)).toNat = 2 ^ 14 - 1 := by decide +kernel
  rw [e, h]
  omega
theorem lI_and32 (x : Int) : lI x &&& lI 4294967295 = lI (x % 4294967296) := by
  apply Int64.toBitVec_inj.mp
  rw [Int64.toBitVec_and]
  apply BitVec.eq_of_toNat_eq
  rw [BitVec.toNat_and]
  show (BitVec.ofInt 64 x).toNat &&& (BitVec.ofInt 64 4294967295).toNat = (BitVec.ofInt 64 (x % 4294967296)).toNat
  rw [BitVec.toNat_ofInt, BitVec.toNat_ofInt, BitVec.toNat_ofInt]
  have h := Nat.and_two_pow_sub_one_eq_mod (x % (2 ^ 64 : Nat)).toNat 32
  have e : ((4294967295 : Int) % (2 ^ 64 : Nat)).toNat = 2 ^ 32 - 1 := by decide +kernel
  rw [e, h]
  omega
theorem iI_and14 (x : Int) : iI x &&& iI 16383 = iI (x % 16384) := by
  apply Int32.toBitVec_inj.mp
  rw [Int32.toBitVec_and]
  apply BitVec.eq_of_toNat_eq
  rw [BitVec.toNat_and]
  show (BitVec.ofInt 32 x).toNat &&& (BitVec.ofInt 32 16383).toNat = (BitVec.ofInt 32 (x % 16384)).toNat
  rw [BitVec.toNat_ofInt, BitVec.toNat_ofInt, BitVec.toNat_ofInt]
  have h := Nat.and_two_pow_sub_one_eq_mod (x % (2 ^ 32 : Nat)).toNat 14
  have e : ((16383 : Int) % (2 ^ 32 : Nat)).toNat = 2 ^ 14 - 1 := by decide +kernel
  rw [e, h]
  omega
theorem iI_and6 (x : Int) : iI x &&& iI 63 = iI (x % 64) := by
  apply Int32.toBitVec_inj.mp
  rw [Int32.toBitVec_and]
  apply BitVec.eq_of_toNat_eq
  rw [BitVec.toNat_and]
  show (BitVec.ofInt 32 x).toNat &&& (BitVec.ofInt 32 63).toNat = (BitVec.ofInt 32 (x % 64)).toNat
  rw [BitVec.toNat_ofInt, BitVec.toNat_ofInt, BitVec.toNat_ofInt]
  have h := Nat.and_two_pow_sub_one_eq_mod (x % (2 ^ 32 : Nat)).toNat 6
  have e : ((63 : Int) % (2 ^ 32 : Nat)).toNat = 2 ^ 6 - 1 := by decide +kernel
  rw [e, h]
  omega
