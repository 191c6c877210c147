theorem rx_get_o {h : rx_H} {k ci : Nat} {fs : List rx_V} (hh : rx_hin rx_I0 h) (hi : rx_I0[k]? = some (.inl (ci, fs))) : ∃ vs : List Value, h[k]? = some (.inr (ci, vs)) ∧ vs.length = fs.length ∧ ∀ (j : Nat) (a : rx_V), fs[j]? = some a → ∃ v, vs[j]? = some v ∧ rx_vin a v := by
  obtain ⟨c, h1, vs, rfl, h2, h3⟩ := rx_hin_get hh hi
  exact ⟨vs, h1, h2, h3⟩
theorem rx_get_a {h : rx_H} {k n : Nat} {lo hi : Int} (hh : rx_hin rx_I0 h) (he : rx_I0[k]? = some (.inr (.inl (n, lo, hi)))) : ∃ f : Nat → Int32, h[k]? = some (.inl (0, n, .inl f)) ∧ ∀ j, j < n → lo ≤ (f j).toInt ∧ (f j).toInt ≤ hi := by
  obtain ⟨c, h1, f, rfl, h2⟩ := rx_hin_get hh he
  exact ⟨f, h1, h2⟩
theorem rx_ref_e {a : Nat} {v : Value} (h : rx_vin (.inr (.inl (a, a))) v) : v = .ref a := by
  obtain ⟨k, rfl, h1, h2⟩ := h
  have : k = a := Nat.le_antisymm h2 h1
  rw [this]
theorem rx_Fx.set {h : rx_H} {k : Nat} {c : rx_C} (hk : 5 ≤ k ∧ k < 37) : rx_Fx h (h.set k c) := fun q hq => List.getElem?_set_ne (by omega)
theorem rx_Fx.trans {a b c : rx_H} (h1 : rx_Fx a b) (h2 : rx_Fx b c) : rx_Fx a c := fun k hk => (h2 k hk).trans (h1 k hk)
set_option maxRecDepth 100000 in
set_option maxHeartbeats 4000000 in
theorem rx_sp_add : rx_spx rxya_0 := by
  intro rt d w as h ht _ _ has hh _
  obtain ⟨v0, as0, rfl, h0, has0⟩ := rx_asin_e has
  obtain ⟨v1, as1, rfl, ⟨a1, rfl, _⟩, has1⟩ := rx_asin_e has0
  obtain ⟨v2, as2, rfl, ⟨a2, rfl, _⟩, has2⟩ := rx_asin_e has1
  obtain ⟨v3, as3, rfl, ⟨a3, rfl, _⟩, has3⟩ := rx_asin_e has2
  obtain ⟨v4, as4, rfl, ⟨a4, rfl, _⟩, has4⟩ := rx_asin_e has3
  obtain ⟨v5, as5, rfl, ⟨a5, rfl, _⟩, has5⟩ := rx_asin_e has4
  obtain ⟨v6, as6, rfl, ⟨a6, rfl, _⟩, has6⟩ := rx_asin_e has5
  have e0 := rx_ref_e h0
  subst e0
  have e1 := rx_asin_nil has6
  subst e1
  obtain ⟨vs, c1, c2, c3⟩ := rx_get_o (k := 35) hh rfl
  obtain ⟨x1, f1, g1⟩ := c3 1 _ rfl
  obtain ⟨x2, f2, c, rfl, g2, g3⟩ := c3 2 _ rfl
  have e2 := rx_ref_e g1
  subst e2
  simp only at g2 g3
  obtain ⟨f, p1, p2⟩ := rx_get_a (k := 36) hh rfl
  show rx_T rx_cds rx_ms rx_lk0 rt d w 33 0 [(0, .ref 51), (1, .int a1), (2, .int a2), (3, .int a3), (4, .int a4), (5, .int a5), (6, .int a6)] [] h _
  refine rx_T.to 1 1 [(0, .ref 51), (1, .int a1), (2, .int a2), (3, .int a3), (4, .int a4), (5, .int a5), (6, .int a6)] [.ref 51] h rfl ?_
  refine rx_T.gf (M := rxm_33) (k := 35) rfl rfl rfl c1 f2 ?_
  refine rx_T.to 1 7 [(0, .ref 51), (1, .int a1), (2, .int a2), (3, .int a3), (4, .int a4), (5, .int a5), (6, .int a6)] [.int (Int16.ofInt 679).toInt32, .int c] h rfl ?_
  refine rx_T.br2 (M := rxm_33) 57 rfl rfl (by decide) (fun _ => ?_) (fun hlt => ?_)
  · exact rx_T.ret (M := rxm_33) rfl rfl rfl ⟨trivial, hh, trivial, fun _ _ => rfl⟩
  · have hc : c.toInt < 679 := by
      have z := of_decide_eq_false hlt
      rw [show (Int16.ofInt 679).toInt32 = 679 by decide +kernel, Int32.le_iff_toInt_le, show (679 : Int32).toInt = 679 from rfl] at z
      omega
    obtain ⟨n1, n2⟩ := rx_nn g2
    have hin : vp_in c 679 := fun q => q.elim n1 (fun z => by omega)
    refine rx_T.to 1 11 [(0, .ref 51), (1, .int a1), (2, .int a2), (3, .int a3), (4, .int a4), (5, .int a5), (6, .int a6)] [.ref 51] h rfl ?_
    refine rx_T.gf (M := rxm_33) (k := 35) rfl rfl rfl c1 f1 ?_
    refine rx_T.to 1 15 [(0, .ref 51), (1, .int a1), (2, .int a2), (3, .int a3), (4, .int a4), (5, .int a5), (6, .int a6)] [.ref 51, .ref 52] h rfl ?_
    refine rx_T.gf (M := rxm_33) (k := 35) rfl rfl rfl c1 f2 ?_
    refine rx_T.to 21 46 [(0, .ref 51), (1, .int a1), (2, .int a2), (3, .int a3), (4, .int a4), (5, .int a5), (6, .int a6)] [.int _, .int c, .ref 52] h rfl ?_
    refine rx_T.iast (M := rxm_33) (a := 36) rfl rfl p1 hin ?_
    refine rx_T.to 2 49 [(0, .ref 51), (1, .int a1), (2, .int a2), (3, .int a3), (4, .int a4), (5, .int a5), (6, .int a6)] [.ref 51, .ref 51] _ rfl ?_
    have c4 : ∀ c : rx_C, (h.set 36 c)[35]? = some (.inr (4, vs)) := fun c => (List.getElem?_set_ne (by decide)).trans c1
    refine rx_T.gf (M := rxm_33) (k := 35) rfl rfl rfl (c4 _) f2 ?_
    refine rx_T.to 2 54 [(0, .ref 51), (1, .int a1), (2, .int a2), (3, .int a3), (4, .int a4), (5, .int a5), (6, .int a6)] [.int (c + Int32.ofInt 1), .ref 51] _ rfl ?_
    refine rx_T.pf (M := rxm_33) (k := 35) rfl rfl rfl (c4 _) (by rw [c2]; decide) rfl ?_
    have e9 : (c + Int32.ofInt 1).toInt = c.toInt + 1 := rxi_add (a := 0) (b := 678) (c := 1) (d := 1) g2 (by omega) (by decide) (by decide) (by decide) (by decide)
    refine rx_T.ret (M := rxm_33) rfl rfl rfl ⟨trivial, rx_hin_set (rx_hin_set hh (k := 36) rfl ⟨_, rfl, fun j _ => ⟨rxi_lo _, rxi_hi _⟩⟩) (k := 35) rfl ⟨_, rfl, by rw [List.length_set]; exact c2, fun m b hb => ?_⟩, trivial, (rx_Fx.set (by decide)).trans (rx_Fx.set (by decide))⟩
    by_cases em : m = 2
    · subst em
      cases hb
      exact ⟨_, List.getElem?_set_self (by rw [c2]; decide), _, rfl, by rw [e9]; simp only; omega, by rw [e9]; simp only; omega⟩
    · rw [List.getElem?_set_ne (Ne.symm em)]
      exact c3 m b hb
