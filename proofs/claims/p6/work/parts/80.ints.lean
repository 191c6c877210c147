/-! intervals -/
theorem rxi_bm {n : Int} (h1 : -2147483648 ≤ n) (h2 : n ≤ 2147483647) : n.bmod (2 ^ 32) = n := Int.bmod_eq_of_le (by omega) (by omega)
theorem rxi_lo (x : Int32) : -2147483648 ≤ x.toInt := x.le_toInt
theorem rxi_hi (x : Int32) : x.toInt ≤ 2147483647 := by have := x.toInt_lt; omega
theorem rxi_add {x y : Int32} {a b c d : Int} (h1 : a ≤ x.toInt) (h2 : x.toInt ≤ b) (h3 : c ≤ y.toInt) (h4 : y.toInt ≤ d) (h5 : -2147483648 ≤ a + c) (h6 : b + d ≤ 2147483647) : (x + y).toInt = x.toInt + y.toInt := by
  rw [Int32.toInt_add]; exact rxi_bm (by omega) (by omega)
theorem rxi_sub {x y : Int32} {a b c d : Int} (h1 : a ≤ x.toInt) (h2 : x.toInt ≤ b) (h3 : c ≤ y.toInt) (h4 : y.toInt ≤ d) (h5 : -2147483648 ≤ a - d) (h6 : b - c ≤ 2147483647) : (x - y).toInt = x.toInt - y.toInt := by
  rw [Int32.toInt_sub]; exact rxi_bm (by omega) (by omega)
theorem rxi_mul {x y : Int32} {a b c d : Int} (h1 : a ≤ x.toInt) (h2 : x.toInt ≤ b) (h3 : c ≤ y.toInt) (h4 : y.toInt ≤ d) (h5 : 0 ≤ a) (h6 : 0 ≤ c) (h7 : b * d ≤ 2147483647) : a * c ≤ (x * y).toInt ∧ (x * y).toInt ≤ b * d := by
  have e1 : a * c ≤ x.toInt * y.toInt := Int.mul_le_mul h1 h3 h6 (by omega)
  have e2 : x.toInt * y.toInt ≤ b * d := Int.mul_le_mul h2 h4 (by omega) (by omega)
  have e3 : 0 ≤ a * c := Int.mul_nonneg h5 h6
  have e4 : (x * y).toInt = x.toInt * y.toInt := by
    rw [Int32.toInt_mul]; exact rxi_bm (by omega) (by omega)
  rw [e4]; exact ⟨e1, e2⟩
theorem rxi_nat {x : Int32} (h : 0 ≤ x.toInt) : x.toInt = (x.toBitVec.toNat : Int) := by
  have h1 : x.toBitVec.msb = false := by
    cases hm : x.toBitVec.msb with
    | false => rfl
    | true =>
      have h2 := BitVec.toInt_neg_of_msb_true hm
      have h3 : x.toInt = x.toBitVec.toInt := rfl
      omega
  exact BitVec.toInt_eq_toNat_of_msb h1
theorem rxi_nat' {x : Int32} (h : x.toBitVec.toNat ≤ 2147483647) : x.toInt = (x.toBitVec.toNat : Int) :=
  BitVec.toInt_eq_toNat_of_lt (x := x.toBitVec) (by omega)
theorem rxi_and1 {x y : Int32} {b : Int} (h1 : 0 ≤ x.toInt) (h2 : x.toInt ≤ b) : 0 ≤ (x &&& y).toInt ∧ (x &&& y).toInt ≤ b := by
  have e1 := rxi_nat h1
  have e2 : (x &&& y).toBitVec.toNat ≤ x.toBitVec.toNat := by
    rw [Int32.toBitVec_and, BitVec.toNat_and]; exact Nat.and_le_left
  have e4 := rxi_hi x
  have e3 := rxi_nat' (x := x &&& y) (by omega)
  omega
theorem rxi_and2 {x y : Int32} {b : Int} (h1 : 0 ≤ y.toInt) (h2 : y.toInt ≤ b) : 0 ≤ (x &&& y).toInt ∧ (x &&& y).toInt ≤ b := by
  have e1 := rxi_nat h1
  have e2 : (x &&& y).toBitVec.toNat ≤ y.toBitVec.toNat := by
    rw [Int32.toBitVec_and, BitVec.toNat_and]; exact Nat.and_le_right
  have e4 := rxi_hi y
  have e3 := rxi_nat' (x := x &&& y) (by omega)
  omega
theorem rxi_or {x y : Int32} {k : Nat} (h1 : 0 ≤ x.toInt) (h2 : x.toInt < 2 ^ k) (h3 : 0 ≤ y.toInt) (h4 : y.toInt < 2 ^ k) (hk : k ≤ 31) : 0 ≤ (x ||| y).toInt ∧ (x ||| y).toInt < 2 ^ k := by
  have e1 := rxi_nat h1
  have e2 := rxi_nat h3
  have p : ((2 ^ k : Nat) : Int) = 2 ^ k := by simp
  have e3 : (x ||| y).toBitVec.toNat < 2 ^ k := by
    rw [Int32.toBitVec_or, BitVec.toNat_or]; exact Nat.or_lt_two_pow (by omega) (by omega)
  have e5 : 2 ^ k ≤ 2 ^ 31 := Nat.pow_le_pow_right (by decide) hk
  have e4 := rxi_nat' (x := x ||| y) (by omega)
  omega
theorem rxi_xor {x y : Int32} {k : Nat} (h1 : 0 ≤ x.toInt) (h2 : x.toInt < 2 ^ k) (h3 : 0 ≤ y.toInt) (h4 : y.toInt < 2 ^ k) (hk : k ≤ 31) : 0 ≤ (x ^^^ y).toInt ∧ (x ^^^ y).toInt < 2 ^ k := by
  have e1 := rxi_nat h1
  have e2 := rxi_nat h3
  have p : ((2 ^ k : Nat) : Int) = 2 ^ k := by simp
  have e3 : (x ^^^ y).toBitVec.toNat < 2 ^ k := by
    rw [Int32.toBitVec_xor, BitVec.toNat_xor]; exact Nat.xor_lt_two_pow (by omega) (by omega)
  have e5 : 2 ^ k ≤ 2 ^ 31 := Nat.pow_le_pow_right (by decide) hk
  have e4 := rxi_nat' (x := x ^^^ y) (by omega)
  omega
theorem rxi_shl : ∀ k : Nat, k < 31 → ((1 : Int32) <<< (Int32.ofNat k &&& 31)).toInt = 2 ^ k := by decide +kernel
theorem rxi_shl1 {y : Int32} {c d : Int} (h1 : c ≤ y.toInt) (h2 : y.toInt ≤ d) (h3 : 0 ≤ c) (h4 : d ≤ 30) : 1 ≤ ((1 : Int32) <<< (y &&& 31)).toInt ∧ ((1 : Int32) <<< (y &&& 31)).toInt ≤ 2 ^ d.toNat := by
  have e1 : y = Int32.ofNat y.toInt.toNat := by
    apply Int32.toInt_inj.mp
    rw [Int32.toInt_ofNat_of_lt (by omega)]
    omega
  have e2 := rxi_shl y.toInt.toNat (by omega)
  rw [← e1] at e2
  rw [e2]
  have e3 : (2:Nat) ^ y.toInt.toNat ≤ 2 ^ d.toNat := Nat.pow_le_pow_right (by decide) (by omega)
  have e4 : 1 ≤ (2:Nat) ^ y.toInt.toNat := Nat.one_le_two_pow
  have p1 : ((2 ^ y.toInt.toNat : Nat) : Int) = 2 ^ y.toInt.toNat := by simp
  have p2 : ((2 ^ d.toNat : Nat) : Int) = 2 ^ d.toNat := by simp
  omega
