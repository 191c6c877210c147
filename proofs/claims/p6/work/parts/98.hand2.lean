/-! steps by hand over cells of which rx_I0 is known -/
section RXH2
variable {rt : rx_R} {d w mi pc : Nat} {lv : rx_L} {st : List Value} {h : rx_H} {P : Option Value → rx_H → Prop} {M : rx_M}
theorem rx_T.gfr {k ci j fl r ix : Nat} {ty : FieldType} {fs : List rx_V} (hM : rx_ms[mi]? = some M) (hf : rx_f2 (rx_Mt M) pc = some (.getfield ix)) (hl : rx_luv rx_lk0.1 (rx_Mo M) ix = some (ci, j, ty, fl)) (hh : rx_hin rx_I0 h) (hI : rx_I0[k]? = some (.inl (ci, fs))) (hj : fs[j]? = some (.inr (.inl (r, r)))) (K : rx_T rx_cds rx_ms rx_lk0 rt d w mi (pc + 3) lv (.ref r :: st) h P) : rx_T rx_cds rx_ms rx_lk0 rt d w mi pc lv (.ref (k + 16) :: st) h P := by
  obtain ⟨vs, c1, c2, c3⟩ := rx_get_o hh hI
  obtain ⟨v, f1, f2⟩ := c3 j _ hj
  have e := rx_ref_e f2
  subst e
  exact rx_T.gf hM hf hl c1 f1 K
theorem rx_T.gfi {k ci j fl ix : Nat} {lo hi : Int} {ty : FieldType} {fs : List rx_V} (hM : rx_ms[mi]? = some M) (hf : rx_f2 (rx_Mt M) pc = some (.getfield ix)) (hl : rx_luv rx_lk0.1 (rx_Mo M) ix = some (ci, j, ty, fl)) (hh : rx_hin rx_I0 h) (hI : rx_I0[k]? = some (.inl (ci, fs))) (hj : fs[j]? = some (.inl (lo, hi))) (K : ∀ (vs : List Value) (x : Int32), h[k]? = some (.inr (ci, vs)) → vs[j]? = some (.int x) → lo ≤ x.toInt → x.toInt ≤ hi → rx_T rx_cds rx_ms rx_lk0 rt d w mi (pc + 3) lv (.int x :: st) h P) : rx_T rx_cds rx_ms rx_lk0 rt d w mi pc lv (.ref (k + 16) :: st) h P := by
  obtain ⟨vs, c1, c2, c3⟩ := rx_get_o hh hI
  obtain ⟨v, f1, x, rfl, g1, g2⟩ := c3 j _ hj
  exact rx_T.gf hM hf hl c1 f1 (K vs x c1 f1 g1 g2)
end RXH2
theorem rx_vpn {n N : Nat} {x : Int32} (e : x = nI n) (h : n < N) (hN : N < 2147483648) : vp_in x N := by
  subst e
  exact vp_in_nI h hN
theorem rx_mulI (a b : Nat) (h : a * b < 2147483648) (ha : a < 2147483648) (hb : b < 2147483648) : nI a * nI b = nI (a * b) := by
  apply Int32.toInt_inj.mp
  have h1 : (nI a).toInt = a := nI_toInt ha
  have h2 : (nI b).toInt = b := nI_toInt hb
  have h3 : (nI (a * b)).toInt = ((a * b : Nat) : Int) := nI_toInt h
  have e : ((a * b : Nat) : Int) = (a : Int) * (b : Int) := Int.natCast_mul a b
  rw [Int32.toInt_mul, h1, h2, h3, e, rxi_bm (by omega) (by omega)]
theorem rx_ix22 (c k : Nat) (hc : c < 22) (hk : k < 22) : (Int8.ofInt 22).toInt32 * nI c + nI k = nI (22 * c + k) := by
  rw [show (Int8.ofInt 22).toInt32 = nI 22 by decide +kernel, rx_mulI 22 c (by omega) (by decide) (by omega), nI_add]
/-- the three cells of the lattice -/
def rx_lat (h : rx_H) (fs : Nat → Int64) (fb : Nat → Int32) (fr : Nat → Int64) : Prop := h[50]? = some (.inl (1, 484, .inr (.inl fs))) ∧ h[51]? = some (.inl (2, 22, .inl fb)) ∧ h[52]? = some (.inl (1, 22, .inr (.inl fr)))
theorem rx_lat_of {h : rx_H} (hh : rx_hin rx_I0 h) : ∃ fs fb fr, rx_lat h fs fb fr := by
  obtain ⟨c, h1, f1, rfl⟩ := rx_hin_get hh (k := 50) rfl
  obtain ⟨c, h2, f2, rfl, _⟩ := rx_hin_get hh (k := 51) rfl
  obtain ⟨c, h3, f3, rfl⟩ := rx_hin_get hh (k := 52) rfl
  exact ⟨f1, f2, f3, h1, h2, h3⟩
theorem rx_lat.row {h : rx_H} {fs : Nat → Int64} {fb : Nat → Int32} {fr fr' : Nat → Int64} (hl : rx_lat h fs fb fr) : rx_lat (h.set 52 (.inl (1, 22, .inr (.inl fr')))) fs fb fr' := by
  obtain ⟨h1, h2, h3⟩ := hl
  exact ⟨(List.getElem?_set_ne (by decide)).trans h1, (List.getElem?_set_ne (by decide)).trans h2, List.getElem?_set_self (List.getElem?_eq_some_iff.mp h3).1⟩
theorem rx_hin_row {h : rx_H} {fr : Nat → Int64} (hh : rx_hin rx_I0 h) : rx_hin rx_I0 (h.set 52 (.inl (1, 22, .inr (.inl fr)))) := rx_hin_set hh (k := 52) rfl ⟨_, rfl⟩
/-- every step's first number is good -/
def rx_gds (fs : Nat → Int64) (fb : Nat → Int32) : Prop := ∀ c, c < 22 → ¬ fb c = 0 → rx_gd (fs (23 * c))
