section RXTO
variable {rt : rx_R} {d w mi pc : Nat} {lv : rx_L} {st : List Value} {h : rx_H} {P : Option Value → rx_H → Prop} {M : rx_M}
theorem rx_upd_b {g : Nat → Int32} {i j : Nat} {f : Int32} {lo hi : Int} (h1 : lo ≤ f.toInt) (h2 : f.toInt ≤ hi) (h3 : lo ≤ (g j).toInt ∧ (g j).toInt ≤ hi) : lo ≤ (upd g i f j).toInt ∧ (upd g i f j).toInt ≤ hi := by
  by_cases e : j = i
  · rw [show upd g i f j = f from if_pos e]
    exact ⟨h1, h2⟩
  · rw [show upd g i f j = g j from if_neg e]
    exact h3
theorem rx_get_l {h : rx_H} {k n : Nat} (hh : rx_hin rx_I0 h) (he : rx_I0[k]? = some (.inr (.inr (.inl n)))) : ∃ f : Nat → Int64, h[k]? = some (.inl (1, n, .inr (.inl f))) := by
  obtain ⟨c, h1, f, rfl⟩ := rx_hin_get hh he
  exact ⟨f, h1⟩
theorem rx_gL_at {h : rx_H} {k t n : Nat} {f : Nat → Int64} (e : h[k]? = some (.inl (t, n, .inr (.inl f)))) : rx_gL h k = f := by
  unfold rx_gL
  rw [e]
theorem rx_pin_n {v : Option Value} (h : rx_pin none v) : v = none := by
  cases v with
  | none => rfl
  | some x => exact absurd h (fun z => z)
theorem rx_pin_s {a : rx_V} {v : Option Value} (h : rx_pin (some a) v) : ∃ x, v = some x ∧ rx_vin a x := by
  cases v with
  | none => exact absurd h (fun z => z)
  | some x => exact ⟨x, rfl, h⟩
theorem rx_fk_at {h : rx_H} {vs : List Value} {k ci j : Nat} {x : Int32} (hc : h[k]? = some (.inr (ci, vs))) (hv : vs[j]? = some (.int x)) : rx_gF h k j = x := by
  unfold rx_gF
  rw [hc]
  simp only [hv]
theorem rx_fk_set {h : rx_H} {vs : List Value} {k ci i j : Nat} {v : Value} (hc : h[k]? = some (.inr (ci, vs))) (hi : ¬ i = j) : rx_gF (h.set k (.inr (ci, vs.set i v))) k j = rx_gF h k j := by
  unfold rx_gF
  rw [List.getElem?_set_self (List.getElem?_eq_some_iff.mp hc).1, hc]
  simp only
  rw [List.getElem?_set_ne hi]
theorem rx_fk_new {h : rx_H} {vs : List Value} {k ci j : Nat} {x : Int32} (hc : h[k]? = some (.inr (ci, vs))) (hj : j < vs.length) : rx_gF (h.set k (.inr (ci, vs.set j (.int x)))) k j = x := by
  unfold rx_gF
  rw [List.getElem?_set_self (List.getElem?_eq_some_iff.mp hc).1]
  simp only
  rw [List.getElem?_set_self hj]
theorem rx_fk_hin {h : rx_H} {vs : List Value} {k ci i : Nat} {fs : List rx_V} {lo hi : Int} {x : Int32} (hh : rx_hin rx_I0 h) (hc : h[k]? = some (.inr (ci, vs))) (hI : rx_I0[k]? = some (.inl (ci, fs))) (hf : fs[i]? = some (.inl (lo, hi))) (h1 : lo ≤ x.toInt) (h2 : x.toInt ≤ hi) : rx_hin rx_I0 (h.set k (.inr (ci, vs.set i (.int x)))) := by
  obtain ⟨ws, c1, c2, c3⟩ := rx_get_o hh (k := k) hI
  rw [hc] at c1
  cases c1
  refine rx_hin_set hh (k := k) hI ⟨_, rfl, by rw [List.length_set]; exact c2, fun m b hb => ?_⟩
  by_cases e : m = i
  · subst e
    rw [hb] at hf
    cases hf
    refine ⟨_, List.getElem?_set_self ?_, x, rfl, h1, h2⟩
    rw [c2]
    exact (List.getElem?_eq_some_iff.mp hb).1
  · rw [List.getElem?_set_ne (fun z => e z.symm)]
    exact c3 m b hb
/-- an int field is read -/
theorem rx_T.gfF {k ci j fl ix : Nat} {lo hi : Int} {ty : FieldType} {fs : List rx_V} (hM : rx_ms[mi]? = some M) (hf : rx_f2 (rx_Mt M) pc = some (.getfield ix)) (hl : rx_luv rx_lk0.1 (rx_Mo M) ix = some (ci, j, ty, fl)) (hh : rx_hin rx_I0 h) (hI : rx_I0[k]? = some (.inl (ci, fs))) (hj : fs[j]? = some (.inl (lo, hi))) (K : rx_T rx_cds rx_ms rx_lk0 rt d w mi (pc + 3) lv (.int (rx_gF h k j) :: st) h P) : rx_T rx_cds rx_ms rx_lk0 rt d w mi pc lv (.ref (k + 16) :: st) h P :=
  rx_T.gfi hM hf hl hh hI hj (fun vs x c1 c2 x1 x2 => by
    have e := rx_fk_at c1 c2
    rw [e] at K
    exact K)
/-- what a field may hold -/
theorem rx_bF {k ci j : Nat} {lo hi : Int} {fs : List rx_V} (hh : rx_hin rx_I0 h) (hI : rx_I0[k]? = some (.inl (ci, fs))) (hj : fs[j]? = some (.inl (lo, hi))) : lo ≤ (rx_gF h k j).toInt ∧ (rx_gF h k j).toInt ≤ hi := by
  obtain ⟨vs, c1, c2, c3⟩ := rx_get_o hh (k := k) hI
  obtain ⟨v, f1, x, rfl, g1, g2⟩ := c3 j _ hj
  rw [rx_fk_at c1 f1]
  exact ⟨g1, g2⟩
/-- an int field is written -/
theorem rx_T.pfF {k ci j ix : Nat} {lo hi : Int} {ty : FieldType} {fs : List rx_V} {x : Int32} (hM : rx_ms[mi]? = some M) (hf : rx_f2 (rx_Mt M) pc = some (.putfield ix)) (hl : rx_luv rx_lk0.1 (rx_Mo M) ix = some (ci, j, ty, 0)) (hh : rx_hin rx_I0 h) (hI : rx_I0[k]? = some (.inl (ci, fs))) (hj : fs[j]? = some (.inl (lo, hi))) (hfit : rx_fit ty (.int x) = true) (b1 : lo ≤ x.toInt) (b2 : x.toInt ≤ hi) (K : ∀ h' : rx_H, rx_hin rx_I0 h' → rx_gF h' k j = x → (∀ i, ¬ i = j → rx_gF h' k i = rx_gF h k i) → (∀ z, ¬ z = k → h'[z]? = h[z]?) → rx_T rx_cds rx_ms rx_lk0 rt d w mi (pc + 3) lv st h' P) : rx_T rx_cds rx_ms rx_lk0 rt d w mi pc lv (.int x :: .ref (k + 16) :: st) h P := by
  obtain ⟨vs, c1, c2, c3⟩ := rx_get_o hh (k := k) hI
  have hlen : j < vs.length := by
    rw [c2]
    exact (List.getElem?_eq_some_iff.mp hj).1
  exact rx_T.pf hM hf hl c1 hlen hfit (K _ (rx_fk_hin hh c1 hI hj b1 b2) (rx_fk_new c1 hlen) (fun i hi => rx_fk_set c1 (fun y => hi y.symm)) (fun z hz => List.getElem?_set_ne (fun y => hz y.symm)))
theorem rx_T.iaR {k n j : Nat} {lo hi : Int} {r : List Value} (hM : rx_ms[mi]? = some M) (hf : rx_f2 (rx_Mt M) pc = some .iaload) (hh : rx_hin rx_I0 h) (hI : rx_I0[k]? = some (.inr (.inl (n, lo, hi)))) (hj : j < n) (hn : n < 2147483648) (K : rx_T rx_cds rx_ms rx_lk0 rt d w mi (pc + 1) lv (.int (rx_gI h k j) :: r) h P) : rx_T rx_cds rx_ms rx_lk0 rt d w mi pc lv (.int (nI j) :: .ref (k + 16) :: r) h P := by
  obtain ⟨f, e1, _⟩ := rx_get_a (k := k) hh hI
  rw [rx_gI_at e1] at K
  refine rx_T.iald hM hf (rx_ri_i e1) (vp_in_nI hj hn) ?_
  rw [nI_clamp (by omega)]
  exact K
theorem rx_bI {k n j : Nat} {lo hi : Int} (hh : rx_hin rx_I0 h) (hI : rx_I0[k]? = some (.inr (.inl (n, lo, hi)))) (hj : j < n) : lo ≤ (rx_gI h k j).toInt ∧ (rx_gI h k j).toInt ≤ hi := by
  obtain ⟨f, e1, e2⟩ := rx_get_a (k := k) hh hI
  rw [rx_gI_at e1]
  exact e2 j hj
theorem rx_T.iaW {k n j : Nat} {lo hi : Int} {r : List Value} {x : Int32} (hM : rx_ms[mi]? = some M) (hf : rx_f2 (rx_Mt M) pc = some .iastore) (hh : rx_hin rx_I0 h) (hI : rx_I0[k]? = some (.inr (.inl (n, lo, hi)))) (hj : j < n) (hn : n < 2147483648) (b1 : lo ≤ x.toInt) (b2 : x.toInt ≤ hi) (K : ∀ h' : rx_H, rx_hin rx_I0 h' → rx_gI h' k = upd (rx_gI h k) j x → (∀ z, ¬ z = k → h'[z]? = h[z]?) → rx_T rx_cds rx_ms rx_lk0 rt d w mi (pc + 1) lv r h' P) : rx_T rx_cds rx_ms rx_lk0 rt d w mi pc lv (.int x :: .int (nI j) :: .ref (k + 16) :: r) h P := by
  obtain ⟨f, e1, e2⟩ := rx_get_a (k := k) hh hI
  rw [rx_gI_at e1] at K
  refine rx_T.iast hM hf e1 (vp_in_nI hj hn) ?_
  rw [nI_clamp (by omega)]
  exact K _ (rx_hin_set hh (k := k) hI ⟨_, rfl, fun i hi => rx_upd_b b1 b2 (e2 i hi)⟩) (rx_gI_at (List.getElem?_set_self (List.getElem?_eq_some_iff.mp e1).1)) (fun z hz => List.getElem?_set_ne (fun y => hz y.symm))
theorem rx_T.laR {k n j : Nat} {r : List Value} (hM : rx_ms[mi]? = some M) (hf : rx_f2 (rx_Mt M) pc = some .laload) (hh : rx_hin rx_I0 h) (hI : rx_I0[k]? = some (.inr (.inr (.inl n)))) (hj : j < n) (hn : n < 2147483648) (K : rx_T rx_cds rx_ms rx_lk0 rt d w mi (pc + 1) lv (.long (rx_gL h k j) :: r) h P) : rx_T rx_cds rx_ms rx_lk0 rt d w mi pc lv (.int (nI j) :: .ref (k + 16) :: r) h P := by
  obtain ⟨f, e1⟩ := rx_get_l (k := k) hh hI
  rw [rx_gL_at e1] at K
  refine rx_T.lald hM hf (rx_rl_i e1) (vp_in_nI hj hn) ?_
  rw [nI_clamp (by omega)]
  exact K
theorem rx_T.laW {k n j : Nat} {r : List Value} {x : Int64} (hM : rx_ms[mi]? = some M) (hf : rx_f2 (rx_Mt M) pc = some .lastore) (hh : rx_hin rx_I0 h) (hI : rx_I0[k]? = some (.inr (.inr (.inl n)))) (hj : j < n) (hn : n < 2147483648) (K : ∀ h' : rx_H, rx_hin rx_I0 h' → (∀ z, ¬ z = k → h'[z]? = h[z]?) → rx_T rx_cds rx_ms rx_lk0 rt d w mi (pc + 1) lv r h' P) : rx_T rx_cds rx_ms rx_lk0 rt d w mi pc lv (.long x :: .int (nI j) :: .ref (k + 16) :: r) h P := by
  obtain ⟨f, e1⟩ := rx_get_l (k := k) hh hI
  refine rx_T.last hM hf e1 (vp_in_nI hj hn) ?_
  exact K _ (rx_hin_set hh (k := k) hI ⟨_, rfl⟩) (fun z hz => List.getElem?_set_ne (fun y => hz y.symm))
theorem rx_get_z {k n : Nat} (hh : rx_hin rx_I0 h) (hI : rx_I0[k]? = some (.inr (.inr (.inr (.inl n))))) : ∃ f : Nat → Int32, h[k]? = some (.inl (2, n, .inl f)) ∧ ∀ j, j < n → 0 ≤ (f j).toInt ∧ (f j).toInt ≤ 1 := by
  obtain ⟨c, h1, f, rfl, h2⟩ := rx_hin_get hh hI
  exact ⟨f, h1, h2⟩
theorem rx_T.zaR {k n j : Nat} {r : List Value} (hM : rx_ms[mi]? = some M) (hf : rx_f2 (rx_Mt M) pc = some .baload) (hh : rx_hin rx_I0 h) (hI : rx_I0[k]? = some (.inr (.inr (.inr (.inl n))))) (hj : j < n) (hn : n < 2147483648) (K : ∀ x : Int32, 0 ≤ x.toInt → x.toInt ≤ 1 → rx_T rx_cds rx_ms rx_lk0 rt d w mi (pc + 1) lv (.int x :: r) h P) : rx_T rx_cds rx_ms rx_lk0 rt d w mi pc lv (.int (nI j) :: .ref (k + 16) :: r) h P := by
  obtain ⟨f, e1, e2⟩ := rx_get_z (k := k) hh hI
  refine rx_T.zald hM hf (rx_rz_i e1) (vp_in_nI hj hn) ?_
  rw [nI_clamp (by omega)]
  exact K _ (e2 j hj).1 (e2 j hj).2
theorem rx_T.zaW {k n j : Nat} {r : List Value} {x : Int32} (hM : rx_ms[mi]? = some M) (hf : rx_f2 (rx_Mt M) pc = some .bastore) (hh : rx_hin rx_I0 h) (hI : rx_I0[k]? = some (.inr (.inr (.inr (.inl n))))) (hj : j < n) (hn : n < 2147483648) (hb : 0 ≤ (vp_nar .boolean x).toInt ∧ (vp_nar .boolean x).toInt ≤ 1) (K : ∀ h' : rx_H, rx_hin rx_I0 h' → (∀ z, ¬ z = k → h'[z]? = h[z]?) → rx_T rx_cds rx_ms rx_lk0 rt d w mi (pc + 1) lv r h' P) : rx_T rx_cds rx_ms rx_lk0 rt d w mi pc lv (.int x :: .int (nI j) :: .ref (k + 16) :: r) h P := by
  obtain ⟨f, e1, e2⟩ := rx_get_z (k := k) hh hI
  refine rx_T.zast hM hf e1 (vp_in_nI hj hn) ?_
  rw [nI_clamp (by omega)]
  exact K _ (rx_hin_set hh (k := k) hI ⟨_, rfl, fun i hi => rx_upd_b hb.1 hb.2 (e2 i hi)⟩) (fun z hz => List.getElem?_set_ne (fun y => hz y.symm))
theorem rx_T.irm {x y : Int32} {r : List Value} (hM : rx_ms[mi]? = some M) (hf : rx_f2 (rx_Mt M) pc = some .irem) (hy : ¬ y = 0) (K : rx_T rx_cds rx_ms rx_lk0 rt d w mi (pc + 1) lv (.int (x - x / y * y) :: r) h P) : rx_T rx_cds rx_ms rx_lk0 rt d w mi pc lv (.int y :: .int x :: r) h P :=
  rx_T.op hM hf rfl rfl (show rx_dv (fun x y => x - x / y * y) pc lv (.int y :: .int x :: r) h = some (pc + 1, lv, .int (x - x / y * y) :: r, h) from if_neg hy) K
theorem rx_Xm_z {h h' : rx_H} (e : ∀ z, z = 47 ∨ z = 50 ∨ z = 51 → h'[z]? = h[z]?) (hx : rx_Xm h) : rx_Xm h' := by
  unfold rx_Xm
  rw [rx_gL_of (e 50 (by decide)), rx_gI_of (e 51 (by decide)), rx_gI_of (e 47 (by decide))]
  exact hx
end RXTO
