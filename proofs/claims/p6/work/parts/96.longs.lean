/-! the reference's down, and what it leaves -/
def rx_dn (a b : Int64) : Int64 := if (a - a / b * b) < 0 then a / b - 1 else a / b
def rx_gd (b : Int64) : Prop := 0 < b.toInt ∨ b.toInt = -9223372036854775808
theorem rxl_bm {n : Int} (h1 : -9223372036854775808 ≤ n) (h2 : n ≤ 9223372036854775807) : n.bmod (2 ^ 64) = n := Int.bmod_eq_of_le (by omega) (by omega)
theorem rxl_lo (x : Int64) : -9223372036854775808 ≤ x.toInt := x.le_toInt
theorem rxl_hi (x : Int64) : x.toInt ≤ 9223372036854775807 := by have := x.toInt_lt; omega
theorem rx_gd.ne {b : Int64} (h : rx_gd b) : ¬ b = 0 := fun e => by
  subst e
  rcases h with h | h
  · exact absurd h (by decide)
  · exact absurd h (by decide)
theorem rx_gd.ne1 {b : Int64} (h : rx_gd b) : b ≠ -1 := fun e => by
  subst e
  rcases h with h | h
  · exact absurd h (by decide)
  · exact absurd h (by decide)
theorem rxl_rem {a b : Int64} (hb : rx_gd b) : (a - a / b * b).toInt = a.toInt.tmod b.toInt := by
  have e1 : (a / b).toInt = a.toInt.tdiv b.toInt := Int64.toInt_div_of_ne_right a b hb.ne1
  rw [Int64.toInt_sub, Int64.toInt_mul, e1, Int.sub_bmod_bmod]
  have e2 := Int.tdiv_mul_add_tmod a.toInt b.toInt
  have e3 : a.toInt - a.toInt.tdiv b.toInt * b.toInt = a.toInt.tmod b.toInt := by omega
  rw [e3]
  have e4 := Int.natAbs_tmod a.toInt b.toInt
  have e5 : b.toInt.natAbs ≤ 9223372036854775808 := by
    have := rxl_lo b
    have := rxl_hi b
    omega
  have e6 : 0 < b.toInt.natAbs := by
    rcases hb with h | h <;> omega
  have e7 : a.toInt.natAbs % b.toInt.natAbs < b.toInt.natAbs := Nat.mod_lt _ e6
  exact rxl_bm (by omega) (by omega)
theorem rxl_tm {a b : Int} (h : ¬ b = 0) : (a.tmod b).natAbs < b.natAbs := by
  rw [Int.natAbs_tmod]
  exact Nat.mod_lt _ (by omega)
theorem rxl_down {a b : Int64} (hb : rx_gd b) : 0 ≤ (a - rx_dn a b * b).toInt ∧ (a - rx_dn a b * b).toInt < b.toInt.natAbs := by
  have e1 : (a / b).toInt = a.toInt.tdiv b.toInt := Int64.toInt_div_of_ne_right a b hb.ne1
  have er := rxl_rem (a := a) hb
  have e0 : ¬ b.toInt = 0 := by rcases hb with h | h <;> omega
  have et := rxl_tm (a := a.toInt) e0
  have e2 := Int.tdiv_mul_add_tmod a.toInt b.toInt
  unfold rx_dn
  by_cases hm : (a - a / b * b) < 0
  · rw [if_pos hm]
    have hm2 : a.toInt.tmod b.toInt < 0 := by
      have := Int64.lt_iff_toInt_lt.mp hm
      rw [er] at this
      exact this
    have e3 : (a - (a / b - 1) * b).toInt = (a.toInt.tmod b.toInt + b.toInt).bmod (2 ^ 64) := by
      rw [Int64.toInt_sub, Int64.toInt_mul, Int64.toInt_sub, e1, Int.bmod_mul_bmod, Int.sub_bmod_bmod]
      congr 1
      have e4 : (a.toInt.tdiv b.toInt - (1 : Int64).toInt) * b.toInt = a.toInt.tdiv b.toInt * b.toInt - b.toInt := by
        rw [Int.sub_mul, show (1 : Int64).toInt = 1 from rfl, Int.one_mul]
      rw [e4]
      omega
    rw [e3]
    rcases hb with h | h
    · rw [rxl_bm (by omega) (by have := rxl_hi b; omega)]
      omega
    · have e5 : (a.toInt.tmod b.toInt + b.toInt).bmod (2 ^ 64) = (a.toInt.tmod b.toInt + b.toInt + (2 ^ 64 : Nat)).bmod (2 ^ 64) := (Int.add_bmod_right _ _).symm
      rw [e5, rxl_bm (by omega) (by omega)]
      omega
  · rw [if_neg hm, er]
    have hm2 : ¬ a.toInt.tmod b.toInt < 0 := by
      intro z
      apply hm
      rw [Int64.lt_iff_toInt_lt, er]
      exact z
    omega
