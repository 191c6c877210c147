/-! ops, forwards: what a step gives (the hypotheses 'ho' of rx_T.op) -/
section RXI
variable {pc i : Nat} {lv : rx_L} {st r : List Value} {h : rx_H} {off : Int} {rt : rx_R}
theorem rx_bi_t {P : Bool} {g : Nat} (hP : P = true) (hg : (pc : Int) + off = (g : Int)) : rx_bi P pc off lv r h = some (g, lv, r, h) := by
  unfold rx_bi rx_nx
  rw [if_pos (by omega), if_pos hP, hg]
  rfl
theorem rx_bi_f {P : Bool} (hP : P = false) (hg : 0 ≤ (pc : Int) + off) : rx_bi P pc off lv r h = some (pc + 3, lv, r, h) := by
  unfold rx_bi rx_nx
  rw [if_pos hg, if_neg (by rw [hP]; decide)]
theorem rx_b2_t {c : ClassFile.Cond} {x y : Int32} (g : Nat) (hc : rx_c2 c x y = true) (hg : (pc : Int) + off = (g : Int)) : rx_b2 c off pc lv (.int y :: .int x :: r) h = some (g, lv, r, h) := rx_bi_t hc hg
theorem rx_b2_f {c : ClassFile.Cond} {x y : Int32} (hc : rx_c2 c x y = false) (hg : 0 ≤ (pc : Int) + off) : rx_b2 c off pc lv (.int y :: .int x :: r) h = some (pc + 3, lv, r, h) := rx_bi_f hc hg
theorem rx_b1_t {c : ClassFile.Cond} {x : Int32} (g : Nat) (hc : rx_c1 c x = true) (hg : (pc : Int) + off = (g : Int)) : rx_b1 c off pc lv (.int x :: r) h = some (g, lv, r, h) := rx_bi_t hc hg
theorem rx_b1_f {c : ClassFile.Cond} {x : Int32} (hc : rx_c1 c x = false) (hg : 0 ≤ (pc : Int) + off) : rx_b1 c off pc lv (.int x :: r) h = some (pc + 3, lv, r, h) := rx_bi_f hc hg
theorem rx_ok_i {j : Int32} {n : Nat} (hj : vp_in j n) : rx_ok j n = true := by
  unfold rx_ok
  simp only [Bool.not_eq_true', Bool.or_eq_false_iff, decide_eq_false_iff_not]
  refine ⟨fun q => hj (Or.inl q), ?_⟩
  cases hb : Nat.ble n j.toNatClampNeg with
  | false => rfl
  | true => exact absurd (Or.inr (Nat.le_of_ble_eq_true hb)) hj
theorem rx_ri_i {k n : Nat} {f : Nat → Int32} (hk : h[k]? = some (.inl (0, n, .inl f))) : rx_ri rt h (k + 16) = some (n, f) := by
  unfold rx_ri
  rw [if_neg (by omega), rx_cold_i hk]
theorem rx_rl_i {k n : Nat} {f : Nat → Int64} (hk : h[k]? = some (.inl (1, n, .inr (.inl f)))) : rx_rl h (k + 16) = some (n, f) := by
  unfold rx_rl
  rw [rx_cold_i hk]
theorem rx_rz_i {k n : Nat} {f : Nat → Int32} (hk : h[k]? = some (.inl (2, n, .inl f))) : rx_rz h (k + 16) = some (n, f) := by
  unfold rx_rz
  rw [rx_cold_i hk]
theorem rx_ial_i {j : Int32} {a n : Nat} {f : Nat → Int32} (ha : rx_ri rt h a = some (n, f)) (hj : vp_in j n) : rx_ial rt pc lv (.int j :: .ref a :: r) h = some (pc + 1, lv, .int (f j.toNatClampNeg) :: r, h) := by
  unfold rx_ial
  simp only [ha, rx_ok_i hj, if_true]
  rfl
theorem rx_lal_i {j : Int32} {a n : Nat} {f : Nat → Int64} (ha : rx_rl h a = some (n, f)) (hj : vp_in j n) : rx_lal pc lv (.int j :: .ref a :: r) h = some (pc + 1, lv, .long (f j.toNatClampNeg) :: r, h) := by
  unfold rx_lal
  simp only [ha, rx_ok_i hj, if_true]
  rfl
theorem rx_zal_i {j : Int32} {a n : Nat} {f : Nat → Int32} (ha : rx_rz h a = some (n, f)) (hj : vp_in j n) : rx_zal pc lv (.int j :: .ref a :: r) h = some (pc + 1, lv, .int (f j.toNatClampNeg) :: r, h) := by
  unfold rx_zal
  simp only [ha, rx_ok_i hj, if_true]
  rfl
theorem rx_ias_i {x j : Int32} {k n : Nat} {f : Nat → Int32} (hk : h[k]? = some (.inl (0, n, .inl f))) (hj : vp_in j n) : rx_ias pc lv (.int x :: .int j :: .ref (k + 16) :: r) h = some (pc + 1, lv, r, h.set k (.inl (0, n, .inl (upd f j.toNatClampNeg x)))) := by
  unfold rx_ias
  simp only [rx_ri_i hk, rx_ok_i hj, if_true]
  exact if_neg (show ¬ k + 16 < 16 by omega)
theorem rx_las_i {x : Int64} {j : Int32} {k n : Nat} {f : Nat → Int64} (hk : h[k]? = some (.inl (1, n, .inr (.inl f)))) (hj : vp_in j n) : rx_las pc lv (.long x :: .int j :: .ref (k + 16) :: r) h = some (pc + 1, lv, r, h.set k (.inl (1, n, .inr (.inl (vp_updL f j.toNatClampNeg x))))) := by
  unfold rx_las
  simp only [rx_rl_i hk, rx_ok_i hj, if_true]
  rfl
theorem rx_zas_i {x j : Int32} {k n : Nat} {f : Nat → Int32} (hk : h[k]? = some (.inl (2, n, .inl f))) (hj : vp_in j n) : rx_zas pc lv (.int x :: .int j :: .ref (k + 16) :: r) h = some (pc + 1, lv, r, h.set k (.inl (2, n, .inl (upd f j.toNatClampNeg (vp_nar .boolean x))))) := by
  unfold rx_zas
  simp only [rx_rz_i hk, rx_ok_i hj, if_true]
  rfl
theorem rx_gf_i {o : Option (Nat × Nat × FieldType × Nat)} {ci k fl a : Nat} {ty : FieldType} {fs : List Value} {v : Value} (hl : o = some (ci, k, ty, fl)) (ho : h[a]? = some (.inr (ci, fs))) (hv : fs[k]? = some v) : rx_gf o pc lv (.ref (a + 16) :: r) h = some (pc + 3, lv, v :: r, h) := by
  subst hl
  unfold rx_gf
  simp only [rx_ro_i ho, hv, if_true]
  rfl
theorem rx_pf_i {ini : Bool} {o : Option (Nat × Nat × FieldType × Nat)} {ci k fl a : Nat} {ty : FieldType} {fs : List Value} {v : Value} (hl : o = some (ci, k, ty, fl)) (ho : h[a]? = some (.inr (ci, fs))) (hk : k < fs.length) (hf : rx_fit ty v = true) (hfl : fl = 0 ∨ (fl = 1 ∧ ini = true)) : rx_pf ini o pc lv (v :: .ref (a + 16) :: r) h = some (pc + 3, lv, r, h.set a (.inr (ci, fs.set k v))) := by
  subst hl
  unfold rx_pf
  simp only [rx_ro_i ho]
  rw [if_pos ⟨trivial, hk, hf, hfl⟩]
  rfl
end RXI
