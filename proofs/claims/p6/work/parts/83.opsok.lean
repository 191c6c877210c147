/-! intervals of operations -/
theorem rx_fits_e {lo hi : Int} (h : rx_fits lo hi = true) : -2147483648 ≤ lo ∧ hi ≤ 2147483647 := by
  unfold rx_fits at h
  simpa using h
theorem rx_full_in (x : Int32) : rx_vin rx_full (.int x) := ⟨x, rfl, rxi_lo x, rxi_hi x⟩
theorem rx_anyL (x : Int64) : rx_vin (.inr (.inr 0)) (.long x) := ⟨x, rfl, fun z => absurd z (by decide), fun z => absurd z (by decide)⟩
theorem rx_bif {α : Type} {b : Bool} {x : Option α} {y : α} (e : (bif b then x else none) = some y) : b = true ∧ x = some y := by
  cases b with
  | true => exact ⟨rfl, e⟩
  | false => cases e
section RXO1
variable {a b c d : Int} {x y : Int32} (h1 : a ≤ x.toInt) (h2 : x.toInt ≤ b) (h3 : c ≤ y.toInt) (h4 : y.toInt ≤ d)
theorem rx_oadd_in (h1 : a ≤ x.toInt) (h2 : x.toInt ≤ b) (h3 : c ≤ y.toInt) (h4 : y.toInt ≤ d) : rx_vin (rx_oadd a b c d) (.int (x + y)) := by
  unfold rx_oadd
  cases hf : rx_fits (a + c) (b + d) with
  | true =>
    obtain ⟨h5, h6⟩ := rx_fits_e hf
    have e := rxi_add h1 h2 h3 h4 h5 h6
    exact ⟨_, rfl, by rw [e]; exact Int.add_le_add h1 h3, by rw [e]; exact Int.add_le_add h2 h4⟩
  | false => exact rx_full_in _
theorem rx_osub_in (h1 : a ≤ x.toInt) (h2 : x.toInt ≤ b) (h3 : c ≤ y.toInt) (h4 : y.toInt ≤ d) : rx_vin (rx_osub a b c d) (.int (x - y)) := by
  unfold rx_osub
  cases hf : rx_fits (a - d) (b - c) with
  | true =>
    obtain ⟨h5, h6⟩ := rx_fits_e hf
    have e := rxi_sub h1 h2 h3 h4 h5 h6
    exact ⟨_, rfl, by rw [e]; exact Int.sub_le_sub h1 h4, by rw [e]; exact Int.sub_le_sub h2 h3⟩
  | false => exact rx_full_in _
theorem rx_omul_in (h1 : a ≤ x.toInt) (h2 : x.toInt ≤ b) (h3 : c ≤ y.toInt) (h4 : y.toInt ≤ d) : rx_vin (rx_omul a b c d) (.int (x * y)) := by
  unfold rx_omul
  cases hf : (decide (0 ≤ a) && decide (0 ≤ c) && decide (b * d ≤ 2147483647)) with
  | true =>
    simp only [Bool.and_eq_true, decide_eq_true_eq] at hf
    obtain ⟨e1, e2⟩ := rxi_mul h1 h2 h3 h4 hf.1.1 hf.1.2 hf.2
    exact ⟨_, rfl, e1, e2⟩
  | false => exact rx_full_in _
theorem rx_oand_in (h1 : a ≤ x.toInt) (h2 : x.toInt ≤ b) (h3 : c ≤ y.toInt) (h4 : y.toInt ≤ d) : rx_vin (rx_oand a b c d) (.int (x &&& y)) := by
  unfold rx_oand
  cases ha : decide (0 ≤ a) with
  | true =>
    have e1 := of_decide_eq_true ha
    cases hc : (decide (0 ≤ c) && decide (d ≤ b)) with
    | true =>
      simp only [Bool.and_eq_true, decide_eq_true_eq] at hc
      obtain ⟨e2, e3⟩ := rxi_and2 (x := x) (y := y) (Int.le_trans hc.1 h3) h4
      exact ⟨_, rfl, e2, e3⟩
    | false =>
      obtain ⟨e2, e3⟩ := rxi_and1 (x := x) (y := y) (Int.le_trans e1 h1) h2
      exact ⟨_, rfl, e2, e3⟩
  | false =>
    cases hc : decide (0 ≤ c) with
    | true =>
      obtain ⟨e2, e3⟩ := rxi_and2 (x := x) (y := y) (Int.le_trans (of_decide_eq_true hc) h3) h4
      exact ⟨_, rfl, e2, e3⟩
    | false => exact rx_full_in _
theorem rx_oor_in (h1 : a ≤ x.toInt) (h2 : x.toInt ≤ b) (h3 : c ≤ y.toInt) (h4 : y.toInt ≤ d) : rx_vin (rx_oor a b c d) (.int (x ||| y)) ∧ rx_vin (rx_oor a b c d) (.int (x ^^^ y)) := by
  unfold rx_oor
  cases hf : (decide (0 ≤ a) && decide (0 ≤ c) && Nat.ble (rx_pw 40 b) 31 && Nat.ble (rx_pw 40 d) 31 && decide (b < 2 ^ (Nat.max (rx_pw 40 b) (rx_pw 40 d))) && decide (d < 2 ^ (Nat.max (rx_pw 40 b) (rx_pw 40 d)))) with
  | true =>
    simp only [Bool.and_eq_true, decide_eq_true_eq] at hf
    obtain ⟨⟨⟨⟨⟨f1, f2⟩, f3⟩, f4⟩, f5⟩, f6⟩ := hf
    have hk : Nat.max (rx_pw 40 b) (rx_pw 40 d) ≤ 31 := Nat.max_le.mpr ⟨Nat.le_of_ble_eq_true f3, Nat.le_of_ble_eq_true f4⟩
    obtain ⟨e1, e2⟩ := rxi_or (Int.le_trans f1 h1) (Int.lt_of_le_of_lt h2 f5) (Int.le_trans f2 h3) (Int.lt_of_le_of_lt h4 f6) hk
    obtain ⟨e3, e4⟩ := rxi_xor (Int.le_trans f1 h1) (Int.lt_of_le_of_lt h2 f5) (Int.le_trans f2 h3) (Int.lt_of_le_of_lt h4 f6) hk
    exact ⟨⟨_, rfl, e1, Int.le_sub_one_of_lt e2⟩, ⟨_, rfl, e3, Int.le_sub_one_of_lt e4⟩⟩
  | false => exact ⟨rx_full_in _, rx_full_in _⟩
theorem rx_oshl_in (h1 : a ≤ x.toInt) (h2 : x.toInt ≤ b) (h3 : c ≤ y.toInt) (h4 : y.toInt ≤ d) : rx_vin (rx_oshl a b c d) (.int (x <<< (y &&& 31))) := by
  unfold rx_oshl
  cases hf : (decide (a = 1) && decide (b = 1) && decide (0 ≤ c) && decide (d ≤ 30)) with
  | true =>
    simp only [Bool.and_eq_true, decide_eq_true_eq] at hf
    obtain ⟨⟨⟨f1, f2⟩, f3⟩, f4⟩ := hf
    have ex : x = 1 := by
      apply Int32.toInt_inj.mp
      have : (1 : Int32).toInt = 1 := rfl
      omega
    subst ex
    obtain ⟨e1, e2⟩ := rxi_shl1 h3 h4 f3 f4
    exact ⟨_, rfl, e1, e2⟩
  | false => exact rx_full_in _
end RXO1
theorem rx_rf_in {c : ClassFile.Cond} {t : Bool} {a b p q : Int} {x y : Int32} (h1 : a ≤ x.toInt) (h2 : x.toInt ≤ b) (h3 : p ≤ y.toInt) (h4 : y.toInt ≤ q) (hc : rx_c2 c x y = t) : ((rx_rf c t a b p q).1.1 ≤ x.toInt ∧ x.toInt ≤ (rx_rf c t a b p q).1.2) ∧ ((rx_rf c t a b p q).2.1 ≤ y.toInt ∧ y.toInt ≤ (rx_rf c t a b p q).2.2) := by
  have hne : ¬ x.toInt = y.toInt → ((bif decide (p = q) && decide (a = p) then a + 1 else a) ≤ x.toInt ∧ x.toInt ≤ (bif decide (p = q) && decide (b = p) then b - 1 else b)) := by
    intro hn
    constructor
    · cases hf : (decide (p = q) && decide (a = p)) with
      | true =>
        simp only [Bool.and_eq_true, decide_eq_true_eq] at hf
        simp only [cond_true]
        omega
      | false => exact h1
    · cases hf : (decide (p = q) && decide (b = p)) with
      | true =>
        simp only [Bool.and_eq_true, decide_eq_true_eq] at hf
        simp only [cond_true]
        omega
      | false => exact h2
  cases c <;> cases t <;> simp only [rx_c2, decide_eq_true_eq, decide_eq_false_iff_not, Decidable.not_not, Int32.lt_iff_toInt_lt, Int32.le_iff_toInt_le, ← Int32.toInt_inj] at hc <;> simp only [rx_rf]
  all_goals first
    | exact ⟨hne hc, h3, h4⟩
    | (refine ⟨⟨?_, ?_⟩, ?_, ?_⟩ <;> omega)
theorem rx_c1_2 (c : ClassFile.Cond) (x : Int32) : rx_c1 c x = rx_c2 c x 0 := by cases c <;> rfl
