section RXMV
/-- moveColumns: lines, circles, lengths stay, and all that is put in -/
def rx_Fv (h h' : rx_H) : Prop := (∀ z, z < 37 ∨ (38 ≤ z ∧ z < 49) → h'[z]? = h[z]?) ∧ (∀ j, ¬ j = 19 → ¬ j = 20 → rx_gF h' 37 j = rx_gF h 37 j)
theorem rx_Fv.refl (h : rx_H) : rx_Fv h h := ⟨fun _ _ => rfl, fun _ _ _ => rfl⟩
theorem rx_Fv.trans {a b c : rx_H} (h1 : rx_Fv a b) (h2 : rx_Fv b c) : rx_Fv a c := ⟨fun z hz => (h2.1 z hz).trans (h1.1 z hz), fun j j1 j2 => (h2.2 j j1 j2).trans (h1.2 j j1 j2)⟩
def rx_Ev : rx_E := (rx_I0, rx_tab0, fun k => Nat.beq k 52 || (Nat.ble 54 k && Nat.ble k 57), fun _ _ => false, fun rt => ∀ id q, rx_rt0 id = some q → rt id = some q)
theorem rx_env_v : rx_env rx_Ev rx_Xm rx_Fv := by
  refine ⟨rx_Fv.refl, fun a b c => rx_Fv.trans, fun h h' _ _ hw => ?_⟩
  rcases hw with rfl | ⟨k, c, h1, rfl⟩ | ⟨k, j, ci, fs, v, h1, h2, rfl⟩
  · exact ⟨rx_Fv.refl _, fun z => z⟩
  · have h2 : k = 52 ∨ (54 ≤ k ∧ k ≤ 57) := by
      have h3 : (Nat.beq k 52 || (Nat.ble 54 k && Nat.ble k 57)) = true := h1
      simp only [Bool.or_eq_true, Bool.and_eq_true] at h3
      rcases h3 with h3 | h3
      · exact Or.inl (Nat.eq_of_beq_eq_true h3)
      · exact Or.inr ⟨Nat.le_of_ble_eq_true h3.1, Nat.le_of_ble_eq_true h3.2⟩
    have e : ∀ z, ¬ z = k → (h.set k c)[z]? = h[z]? := fun z hz => List.getElem?_set_ne (fun y => hz y.symm)
    refine ⟨⟨fun z hz => e z (by omega), fun j _ _ => rx_gF_of (e 37 (by omega))⟩, fun hx => ?_⟩
    unfold rx_Xm
    rw [rx_gL_of (e 50 (by omega)), rx_gI_of (e 51 (by omega)), rx_gI_of (e 47 (by omega))]
    exact hx
  · cases h1
abbrev rx_spv (sp : rx_Sp) : Prop := rx_spec rx_cds rx_ms rx_lk0 rx_Ev rx_Xm rx_Fv sp
theorem rx_tok_vm {rt : rx_R} (h : rx_tok rx_Em rt) : rx_tok rx_Ev rt := h
theorem rx_nl_v : rx_spv (115, [.inr (.inl (53, 53))], none, 1, 30) := by
  intro rt d w as h ht hd hw has hh hx
  have hd : 1 ≤ d := hd
  have hw : 30 ≤ w := hw
  obtain ⟨v0, as0, rfl, k0, has0⟩ := rx_asin_e has
  have e0 := rx_ref_e k0
  subst e0
  have e1 := rx_asin_nil has0
  subst e1
  obtain ⟨d', rfl⟩ : ∃ d', d = d' + 1 := ⟨d - 1, by omega⟩
  exact (rx_nl hw hh).mono (fun v h' p => by
    obtain ⟨rfl, p1, p2⟩ := p
    refine ⟨trivial, p1, ?_, ⟨fun z hz => p2.1 z (by omega) (by omega), fun j j1 _ => p2.2 j j1⟩⟩
    unfold rx_Xm
    rw [rx_gL_of (p2.1 50 (by decide) (by decide)), rx_gI_of (p2.1 51 (by decide) (by decide)), rx_gI_of (p2.1 47 (by decide) (by decide))]
    exact hx)
theorem rx_stl_v : rx_spv (117, [.inr (.inl (53, 53))], none, 0, 0) := by
  intro rt d w as h ht hd hw has hh hx
  have hd : 0 ≤ d := hd
  have hw : 0 ≤ w := hw
  obtain ⟨v0, as0, rfl, k0, has0⟩ := rx_asin_e has
  have e0 := rx_ref_e k0
  subst e0
  have e1 := rx_asin_nil has0
  subst e1
  exact (rx_startLattice hh).mono (fun v h' p => by
    obtain ⟨rfl, p1, p2, fs, fb, fr, p3, p4⟩ := p
    obtain ⟨g1, g2, _⟩ := p3.gL
    refine ⟨trivial, p1, ⟨?_, ?_⟩, ⟨fun z hz => p2 z (by omega), fun j _ _ => rx_gF_of (p2 37 (by decide))⟩⟩
    · rw [g1, g2]
      exact p4
    · rw [rx_gI_of (p2 47 (by decide))]
      exact hx.2)
theorem rx_cm_v : rx_spv (129, [.inr (.inl (53, 53))], some (.inl (0, 1)), 3, 150) := by
  intro rt d w as h ht hd hw has hh hx
  have hd : 3 ≤ d := hd
  have hw : 150 ≤ w := hw
  obtain ⟨v0, as0, rfl, k0, has0⟩ := rx_asin_e has
  have e0 := rx_ref_e k0
  subst e0
  have e1 := rx_asin_nil has0
  subst e1
  obtain ⟨d', rfl⟩ : ∃ d', d = d' + 3 := ⟨d - 3, by omega⟩
  exact (rx_comes hx.1 hw hh (rx_lat_g hh)).mono (fun v h' p => by
    obtain ⟨b, rfl, hb, p1, p2, fs, fb, fr, p3, p4, _, _⟩ := p
    obtain ⟨g1, g2, _⟩ := p3.gL
    refine ⟨⟨b, rfl, ?_, ?_⟩, p1, ⟨?_, ?_⟩, ⟨fun z hz => p2 z (by omega), fun j _ _ => rx_gF_of (p2 37 (by decide))⟩⟩
    · rcases hb with rfl | rfl <;> decide
    · rcases hb with rfl | rfl <;> decide
    · rw [g1, g2]
      exact p4
    · rw [rx_gI_of (p2 47 (by decide))]
      exact hx.2)
def rxva_0 : rx_Sp := (115, [.inr (.inl (53, 53))], none, 1, 30)
def rxva_1 : rx_Sp := (117, [.inr (.inl (53, 53))], none, 0, 0)
def rxva_2 : rx_Sp := (129, [.inr (.inl (53, 53))], some (.inl (0, 1)), 3, 150)
/-- columnOf -/
def rxva_3 : rx_Sp := (127, [.inr (.inl (53, 53)), .inl (0, 1), .inl (0, 1)], some (.inl (0, 20)), 0, 0)
def rxvb_3 : List rx_Rw := [(0, ([(0, .inr (.inl (53, 53))), (1, .inl (0, 1)), (2, .inl (0, 1))], []), (9, []), 1000000, []),
  (1, ([(1, .inl (0, 1)), (2, .inl (0, 1))], [(.inr (.inl (53, 53)), some (.inl 0))]), (8, []), 1000000, []),
  (4, ([(1, .inl (0, 1)), (2, .inl (0, 1))], [(.inr (.inl (65, 65)), none)]), (7, []), 1000000, []),
  (6, ([(1, .inl (0, 1)), (2, .inl (0, 1))], [(.inl (12, 12), none), (.inr (.inl (65, 65)), none)]), (6, []), 1000000, []),
  (7, ([(2, .inl (0, 1))], [(.inl (0, 1), some (.inl 1)), (.inl (12, 12), none), (.inr (.inl (65, 65)), none)]), (5, []), 1000000, []),
  (8, ([(2, .inl (0, 1))], [(.inl (0, 12), none), (.inr (.inl (65, 65)), none)]), (4, []), 1000000, []),
  (9, ([], [(.inl (0, 1), some (.inl 2)), (.inl (0, 12), none), (.inr (.inl (65, 65)), none)]), (3, []), 1000000, []),
  (10, ([], [(.inl (0, 13), none), (.inr (.inl (65, 65)), none)]), (2, []), 1000000, []),
  (11, ([], [(.inl (0, 20), none)]), (1, []), 1000000, [])]
set_option maxRecDepth 100000 in
theorem rxvc_3 : rx_spv rxva_3 := rx_chm_ok (sps := []) (V := []) (tb := rxvb_3) rx_msl rx_env_v (rx_fn) (by decide +kernel)
/-- columnOf -/
def rxva_4 : rx_Sp := (127, [.inr (.inl (53, 53)), .inl (0, 1), .inl (0, 6)], some (.inl (0, 20)), 0, 0)
def rxvb_4 : List rx_Rw := [(0, ([(0, .inr (.inl (53, 53))), (1, .inl (0, 1)), (2, .inl (0, 6))], []), (9, []), 1000000, []),
  (1, ([(1, .inl (0, 1)), (2, .inl (0, 6))], [(.inr (.inl (53, 53)), some (.inl 0))]), (8, []), 1000000, []),
  (4, ([(1, .inl (0, 1)), (2, .inl (0, 6))], [(.inr (.inl (65, 65)), none)]), (7, []), 1000000, []),
  (6, ([(1, .inl (0, 1)), (2, .inl (0, 6))], [(.inl (12, 12), none), (.inr (.inl (65, 65)), none)]), (6, []), 1000000, []),
  (7, ([(2, .inl (0, 6))], [(.inl (0, 1), some (.inl 1)), (.inl (12, 12), none), (.inr (.inl (65, 65)), none)]), (5, []), 1000000, []),
  (8, ([(2, .inl (0, 6))], [(.inl (0, 12), none), (.inr (.inl (65, 65)), none)]), (4, []), 1000000, []),
  (9, ([], [(.inl (0, 6), some (.inl 2)), (.inl (0, 12), none), (.inr (.inl (65, 65)), none)]), (3, []), 1000000, []),
  (10, ([], [(.inl (0, 18), none), (.inr (.inl (65, 65)), none)]), (2, []), 1000000, []),
  (11, ([], [(.inl (0, 20), none)]), (1, []), 1000000, [])]
set_option maxRecDepth 100000 in
theorem rxvc_4 : rx_spv rxva_4 := rx_chm_ok (sps := []) (V := []) (tb := rxvb_4) rx_msl rx_env_v (rx_fn) (by decide +kernel)
/-- columnOf -/
def rxva_5 : rx_Sp := (127, [.inr (.inl (53, 53)), .inl (0, 6), .inl (0, 6)], some (.inl (0, 20)), 0, 0)
def rxvb_5 : List rx_Rw := [(0, ([(0, .inr (.inl (53, 53))), (1, .inl (0, 6)), (2, .inl (0, 6))], []), (9, []), 1000000, []),
  (1, ([(1, .inl (0, 6)), (2, .inl (0, 6))], [(.inr (.inl (53, 53)), some (.inl 0))]), (8, []), 1000000, []),
  (4, ([(1, .inl (0, 6)), (2, .inl (0, 6))], [(.inr (.inl (65, 65)), none)]), (7, []), 1000000, []),
  (6, ([(1, .inl (0, 6)), (2, .inl (0, 6))], [(.inl (12, 12), none), (.inr (.inl (65, 65)), none)]), (6, []), 1000000, []),
  (7, ([(2, .inl (0, 6))], [(.inl (0, 6), some (.inl 1)), (.inl (12, 12), none), (.inr (.inl (65, 65)), none)]), (5, []), 1000000, []),
  (8, ([(2, .inl (0, 6))], [(.inl (0, 72), none), (.inr (.inl (65, 65)), none)]), (4, []), 1000000, []),
  (9, ([], [(.inl (0, 6), some (.inl 2)), (.inl (0, 72), none), (.inr (.inl (65, 65)), none)]), (3, []), 1000000, []),
  (10, ([], [(.inl (0, 78), none), (.inr (.inl (65, 65)), none)]), (2, []), 1000000, []),
  (11, ([], [(.inl (0, 20), none)]), (1, []), 1000000, [])]
set_option maxRecDepth 100000 in
theorem rxvc_5 : rx_spv rxva_5 := rx_chm_ok (sps := []) (V := []) (tb := rxvb_5) rx_msl rx_env_v (rx_fn) (by decide +kernel)
/-- clearRow -/
def rxva_6 : rx_Sp := (128, [.inr (.inl (53, 53))], none, 0, 0)
def rxvb_6 : List rx_Rw := [(0, ([(0, .inr (.inl (53, 53)))], []), (254, [0]), 1000000, []),
  (1, ([(0, .inr (.inl (53, 53)))], [(.inl (0, 0), none)]), (253, [0]), 1000000, []),
  (2, ([(0, .inr (.inl (53, 53))), (1, .inl (0, 22))], []), (252, [-11]), 1000000, []),
  (3, ([(0, .inr (.inl (53, 53))), (1, .inl (0, 22))], [(.inl (0, 22), some (.inl 1))]), (251, [-11]), 1000000, []),
  (5, ([(0, .inr (.inl (53, 53))), (1, .inl (0, 22))], [(.inl (22, 22), none), (.inl (0, 22), some (.inl 1))]), (250, [-11]), 1000000, []),
  (8, ([(0, .inr (.inl (53, 53))), (1, .inl (0, 21))], []), (249, [-11]), 1000000, []),
  (9, ([(0, .inr (.inl (53, 53))), (1, .inl (0, 21))], [(.inr (.inl (53, 53)), some (.inl 0))]), (248, [-11]), 1000000, []),
  (12, ([(0, .inr (.inl (53, 53))), (1, .inl (0, 21))], [(.inr (.inl (68, 68)), none)]), (247, [-11]), 1000000, []),
  (13, ([(0, .inr (.inl (53, 53))), (1, .inl (0, 21))], [(.inl (0, 21), some (.inl 1)), (.inr (.inl (68, 68)), none)]), (246, [-11]), 1000000, []),
  (14, ([(0, .inr (.inl (53, 53))), (1, .inl (0, 21))], [(.inr (.inr 2), none), (.inl (0, 21), some (.inl 1)), (.inr (.inl (68, 68)), none)]), (245, [-11]), 1000000, []),
  (15, ([(0, .inr (.inl (53, 53))), (1, .inl (0, 21))], []), (244, [-11]), 1000000, []),
  (18, ([(0, .inr (.inl (53, 53))), (1, .inl (1, 22))], []), (253, [-11]), 1000000, []),
  (21, ([], []), (1, [0]), 1000000, [])]
set_option maxRecDepth 100000 in
theorem rxvc_6 : rx_spv rxva_6 := rx_chm_ok (sps := []) (V := [1]) (tb := rxvb_6) rx_msl rx_env_v (rx_fn) (by decide +kernel)
/-- moveColumns -/
def rxva_7 : rx_Sp := (126, [.inr (.inl (53, 53))], none, 4, 172)
def rxvb_7 : List rx_Rw := [(0, ([(0, .inr (.inl (53, 53)))], []), (23065, [0, 0]), 1000000, []),
  (1, ([(0, .inr (.inl (53, 53)))], [(.inl (0, 0), none)]), (23064, [0, 0]), 1000000, []),
  (2, ([(0, .inr (.inl (53, 53))), (1, .inl (0, 144))], []), (23063, [-14, 0]), 1000000, []),
  (3, ([(0, .inr (.inl (53, 53))), (1, .inl (0, 144))], [(.inl (0, 144), some (.inl 1))]), (23062, [-14, 0]), 1000000, []),
  (6, ([(0, .inr (.inl (53, 53))), (1, .inl (0, 144))], [(.inl (144, 144), none), (.inl (0, 144), some (.inl 1))]), (23061, [-14, 0]), 1000000, []),
  (9, ([(0, .inr (.inl (53, 53))), (1, .inl (0, 143))], []), (23060, [-14, 0]), 1000000, []),
  (10, ([(0, .inr (.inl (53, 53))), (1, .inl (0, 143))], [(.inr (.inl (53, 53)), some (.inl 0))]), (23059, [-14, 0]), 1000000, []),
  (13, ([(0, .inr (.inl (53, 53))), (1, .inl (0, 143))], [(.inr (.inl (72, 72)), none)]), (23058, [-14, 0]), 1000000, []),
  (14, ([(0, .inr (.inl (53, 53))), (1, .inl (0, 143))], [(.inl (0, 143), some (.inl 1)), (.inr (.inl (72, 72)), none)]), (23057, [-14, 0]), 1000000, []),
  (15, ([(0, .inr (.inl (53, 53))), (1, .inl (0, 143))], [(.inr (.inl (53, 53)), some (.inl 0)), (.inl (0, 143), some (.inl 1)), (.inr (.inl (72, 72)), none)]), (23056, [-14, 0]), 1000000, []),
  (18, ([(0, .inr (.inl (53, 53))), (1, .inl (0, 143))], [(.inr (.inl (65, 65)), none), (.inl (0, 143), some (.inl 1)), (.inr (.inl (72, 72)), none)]), (23055, [-14, 0]), 1000000, []),
  (19, ([(0, .inr (.inl (53, 53))), (1, .inl (0, 143))], [(.inl (0, 143), some (.inl 1)), (.inr (.inl (65, 65)), none), (.inl (0, 143), some (.inl 1)), (.inr (.inl (72, 72)), none)]), (23054, [-14, 0]), 1000000, []),
  (20, ([(0, .inr (.inl (53, 53))), (1, .inl (0, 143))], [(.inl (0, 20), none), (.inl (0, 143), some (.inl 1)), (.inr (.inl (72, 72)), none)]), (23053, [-14, 0]), 1000000, []),
  (21, ([(0, .inr (.inl (53, 53))), (1, .inl (0, 143))], []), (23052, [-14, 0]), 1000000, []),
  (24, ([(0, .inr (.inl (53, 53))), (1, .inl (1, 144))], []), (23064, [-14, 0]), 1000000, []),
  (27, ([(0, .inr (.inl (53, 53)))], []), (21035, [0, 0]), 1000000, []),
  (28, ([(0, .inr (.inl (53, 53)))], [(.inl (0, 0), none)]), (21034, [0, 0]), 1000000, []),
  (29, ([(0, .inr (.inl (53, 53))), (1, .inl (0, 484))], []), (21033, [-14, 0]), 1000000, []),
  (30, ([(0, .inr (.inl (53, 53))), (1, .inl (0, 484))], [(.inl (0, 484), some (.inl 1))]), (21032, [-14, 0]), 1000000, []),
  (33, ([(0, .inr (.inl (53, 53))), (1, .inl (0, 484))], [(.inl (484, 484), none), (.inl (0, 484), some (.inl 1))]), (21031, [-14, 0]), 1000000, []),
  (36, ([(0, .inr (.inl (53, 53))), (1, .inl (0, 483))], []), (21030, [-14, 0]), 1000000, []),
  (37, ([(0, .inr (.inl (53, 53))), (1, .inl (0, 483))], [(.inr (.inl (53, 53)), some (.inl 0))]), (21029, [-14, 0]), 1000000, []),
  (40, ([(0, .inr (.inl (53, 53))), (1, .inl (0, 483))], [(.inr (.inl (70, 70)), none)]), (21028, [-14, 0]), 1000000, []),
  (41, ([(0, .inr (.inl (53, 53))), (1, .inl (0, 483))], [(.inl (0, 483), some (.inl 1)), (.inr (.inl (70, 70)), none)]), (21027, [-14, 0]), 1000000, []),
  (42, ([(0, .inr (.inl (53, 53))), (1, .inl (0, 483))], [(.inr (.inl (53, 53)), some (.inl 0)), (.inl (0, 483), some (.inl 1)), (.inr (.inl (70, 70)), none)]), (21026, [-14, 0]), 1000000, []),
  (45, ([(0, .inr (.inl (53, 53))), (1, .inl (0, 483))], [(.inr (.inl (66, 66)), none), (.inl (0, 483), some (.inl 1)), (.inr (.inl (70, 70)), none)]), (21025, [-14, 0]), 1000000, []),
  (46, ([(0, .inr (.inl (53, 53))), (1, .inl (0, 483))], [(.inl (0, 483), some (.inl 1)), (.inr (.inl (66, 66)), none), (.inl (0, 483), some (.inl 1)), (.inr (.inl (70, 70)), none)]), (21024, [-14, 0]), 1000000, []),
  (47, ([(0, .inr (.inl (53, 53))), (1, .inl (0, 483))], [(.inr (.inr 0), none), (.inl (0, 483), some (.inl 1)), (.inr (.inl (70, 70)), none)]), (21023, [-14, 0]), 1000000, []),
  (48, ([(0, .inr (.inl (53, 53))), (1, .inl (0, 483))], []), (21022, [-14, 0]), 1000000, []),
  (51, ([(0, .inr (.inl (53, 53))), (1, .inl (1, 484))], []), (21034, [-14, 0]), 1000000, []),
  (54, ([(0, .inr (.inl (53, 53)))], []), (14245, [0, 0]), 1000000, []),
  (55, ([(0, .inr (.inl (53, 53)))], [(.inl (0, 0), none)]), (14244, [0, 0]), 1000000, []),
  (56, ([(0, .inr (.inl (53, 53))), (1, .inl (0, 22))], []), (14243, [-19, 0]), 1000000, []),
  (57, ([(0, .inr (.inl (53, 53))), (1, .inl (0, 22))], [(.inl (0, 22), some (.inl 1))]), (14242, [-19, 0]), 1000000, []),
  (59, ([(0, .inr (.inl (53, 53))), (1, .inl (0, 22))], [(.inl (22, 22), none), (.inl (0, 22), some (.inl 1))]), (14241, [-19, 0]), 1000000, []),
  (62, ([(0, .inr (.inl (53, 53))), (1, .inl (0, 21))], []), (14240, [-19, 0]), 1000000, []),
  (63, ([(0, .inr (.inl (53, 53))), (1, .inl (0, 21))], [(.inr (.inl (53, 53)), some (.inl 0))]), (14239, [-19, 0]), 1000000, []),
  (66, ([(0, .inr (.inl (53, 53))), (1, .inl (0, 21))], [(.inr (.inl (71, 71)), none)]), (14238, [-19, 0]), 1000000, []),
  (67, ([(0, .inr (.inl (53, 53))), (1, .inl (0, 21))], [(.inl (0, 21), some (.inl 1)), (.inr (.inl (71, 71)), none)]), (14237, [-19, 0]), 1000000, []),
  (68, ([(0, .inr (.inl (53, 53))), (1, .inl (0, 21))], [(.inr (.inl (53, 53)), some (.inl 0)), (.inl (0, 21), some (.inl 1)), (.inr (.inl (71, 71)), none)]), (14236, [-19, 0]), 1000000, []),
  (71, ([(0, .inr (.inl (53, 53))), (1, .inl (0, 21))], [(.inr (.inl (67, 67)), none), (.inl (0, 21), some (.inl 1)), (.inr (.inl (71, 71)), none)]), (14235, [-19, 0]), 1000000, []),
  (72, ([(0, .inr (.inl (53, 53))), (1, .inl (0, 21))], [(.inl (0, 21), some (.inl 1)), (.inr (.inl (67, 67)), none), (.inl (0, 21), some (.inl 1)), (.inr (.inl (71, 71)), none)]), (14234, [-19, 0]), 1000000, []),
  (73, ([(0, .inr (.inl (53, 53))), (1, .inl (0, 21))], [(.inl (0, 1), none), (.inl (0, 21), some (.inl 1)), (.inr (.inl (71, 71)), none)]), (14233, [-19, 0]), 1000000, []),
  (74, ([(0, .inr (.inl (53, 53))), (1, .inl (0, 21))], []), (14232, [-19, 0]), 1000000, []),
  (75, ([(0, .inr (.inl (53, 53))), (1, .inl (0, 21))], [(.inr (.inl (53, 53)), some (.inl 0))]), (14231, [-19, 0]), 1000000, []),
  (78, ([(0, .inr (.inl (53, 53))), (1, .inl (0, 21))], [(.inr (.inl (73, 73)), none)]), (14230, [-19, 0]), 1000000, []),
  (79, ([(0, .inr (.inl (53, 53))), (1, .inl (0, 21))], [(.inl (0, 21), some (.inl 1)), (.inr (.inl (73, 73)), none)]), (14229, [-19, 0]), 1000000, []),
  (81, ([(0, .inr (.inl (53, 53))), (1, .inl (0, 21))], [(.inl (21, 21), none), (.inl (0, 21), some (.inl 1)), (.inr (.inl (73, 73)), none)]), (14228, [-19, 0]), 1000000, []),
  (82, ([(0, .inr (.inl (53, 53))), (1, .inl (0, 21))], []), (14227, [-19, 0]), 1000000, []),
  (85, ([(0, .inr (.inl (53, 53))), (1, .inl (1, 22))], []), (14244, [-19, 0]), 1000000, []),
  (88, ([(0, .inr (.inl (53, 53)))], []), (13808, [0, 0]), 1000000, []),
  (89, ([(0, .inr (.inl (53, 53)))], [(.inr (.inl (53, 53)), some (.inl 0))]), (13807, [0, 0]), 0, []),
  (92, ([(0, .inr (.inl (53, 53)))], []), (13806, [0, 0]), 1000000, []),
  (93, ([(0, .inr (.inl (53, 53)))], [(.inl (0, 0), none)]), (13805, [0, 0]), 1000000, []),
  (94, ([(0, .inr (.inl (53, 53))), (1, .inl (0, 7))], []), (13804, [-163, 0]), 1000000, []),
  (95, ([(0, .inr (.inl (53, 53))), (1, .inl (0, 7))], [(.inl (0, 7), some (.inl 1))]), (13803, [-163, 0]), 1000000, []),
  (96, ([(0, .inr (.inl (53, 53))), (1, .inl (0, 7))], [(.inr (.inl (53, 53)), some (.inl 0)), (.inl (0, 7), some (.inl 1))]), (13802, [-163, 0]), 1000000, []),
  (99, ([(0, .inr (.inl (53, 53))), (1, .inl (0, 7))], [(.inl (0, 7), none), (.inl (0, 7), some (.inl 1))]), (13801, [-163, 0]), 1000000, []),
  (102, ([(0, .inr (.inl (53, 53))), (1, .inl (0, 6))], []), (13800, [-163, 0]), 1000000, []),
  (103, ([(0, .inr (.inl (53, 53))), (1, .inl (0, 6))], [(.inl (0, 6), some (.inl 1))]), (13799, [-163, 0]), 1000000, []),
  (104, ([(0, .inr (.inl (53, 53))), (1, .inl (0, 6))], [(.inl (1, 1), none), (.inl (0, 6), some (.inl 1))]), (13798, [-163, 0]), 1000000, []),
  (105, ([(0, .inr (.inl (53, 53))), (1, .inl (0, 6))], [(.inl (1, 7), none)]), (13797, [-163, 0]), 1000000, []),
  (106, ([(0, .inr (.inl (53, 53))), (1, .inl (0, 6)), (2, .inl (1, 7))], []), (13818, [-163, -22]), 1000000, []),
  (107, ([(0, .inr (.inl (53, 53))), (1, .inl (0, 6)), (2, .inl (1, 7))], [(.inl (1, 7), some (.inl 2))]), (13817, [-163, -22]), 1000000, []),
  (108, ([(0, .inr (.inl (53, 53))), (1, .inl (0, 6)), (2, .inl (1, 7))], [(.inr (.inl (53, 53)), some (.inl 0)), (.inl (1, 7), some (.inl 2))]), (13816, [-163, -22]), 1000000, []),
  (111, ([(0, .inr (.inl (53, 53))), (1, .inl (0, 6)), (2, .inl (1, 7))], [(.inl (0, 7), none), (.inl (1, 7), some (.inl 2))]), (13815, [-163, -22]), 1000000, []),
  (114, ([(0, .inr (.inl (53, 53))), (1, .inl (0, 6)), (2, .inl (1, 6))], []), (13814, [-163, -22]), 1000000, []),
  (115, ([(0, .inr (.inl (53, 53))), (1, .inl (0, 6)), (2, .inl (1, 6))], [(.inr (.inl (53, 53)), some (.inl 0))]), (13813, [-163, -22]), 1000000, []),
  (118, ([(0, .inr (.inl (53, 53))), (1, .inl (0, 6)), (2, .inl (1, 6))], [(.inr (.inl (73, 73)), none)]), (13812, [-163, -22]), 1000000, []),
  (119, ([(0, .inr (.inl (53, 53))), (1, .inl (0, 6)), (2, .inl (1, 6))], [(.inr (.inl (53, 53)), some (.inl 0)), (.inr (.inl (73, 73)), none)]), (13811, [-163, -22]), 1000000, []),
  (122, ([(0, .inr (.inl (53, 53))), (1, .inl (0, 6)), (2, .inl (1, 6))], [(.inr (.inl (72, 72)), none), (.inr (.inl (73, 73)), none)]), (13810, [-163, -22]), 1000000, []),
  (124, ([(0, .inr (.inl (53, 53))), (1, .inl (0, 6)), (2, .inl (1, 6))], [(.inl (12, 12), none), (.inr (.inl (72, 72)), none), (.inr (.inl (73, 73)), none)]), (13809, [-163, -22]), 1000000, []),
  (125, ([(0, .inr (.inl (53, 53))), (1, .inl (0, 6)), (2, .inl (1, 6))], [(.inl (0, 6), some (.inl 1)), (.inl (12, 12), none), (.inr (.inl (72, 72)), none), (.inr (.inl (73, 73)), none)]), (13808, [-163, -22]), 1000000, []),
  (126, ([(0, .inr (.inl (53, 53))), (1, .inl (0, 6)), (2, .inl (1, 6))], [(.inl (0, 72), none), (.inr (.inl (72, 72)), none), (.inr (.inl (73, 73)), none)]), (13807, [-163, -22]), 1000000, []),
  (127, ([(0, .inr (.inl (53, 53))), (1, .inl (0, 6)), (2, .inl (1, 6))], [(.inl (1, 6), some (.inl 2)), (.inl (0, 72), none), (.inr (.inl (72, 72)), none), (.inr (.inl (73, 73)), none)]), (13806, [-163, -22]), 1000000, []),
  (128, ([(0, .inr (.inl (53, 53))), (1, .inl (0, 6)), (2, .inl (1, 6))], [(.inl (1, 78), none), (.inr (.inl (72, 72)), none), (.inr (.inl (73, 73)), none)]), (13805, [-163, -22]), 1000000, []),
  (129, ([(0, .inr (.inl (53, 53))), (1, .inl (0, 6)), (2, .inl (1, 6))], [(.inl (0, 20), none), (.inr (.inl (73, 73)), none)]), (13804, [-163, -22]), 1000000, []),
  (130, ([(0, .inr (.inl (53, 53))), (1, .inl (0, 6)), (2, .inl (1, 6))], [(.inr (.inl (53, 53)), some (.inl 0)), (.inl (0, 20), none), (.inr (.inl (73, 73)), none)]), (13803, [-163, -22]), 1000000, []),
  (131, ([(0, .inr (.inl (53, 53))), (1, .inl (0, 6)), (2, .inl (1, 6))], [(.inl (0, 6), some (.inl 1)), (.inr (.inl (53, 53)), some (.inl 0)), (.inl (0, 20), none), (.inr (.inl (73, 73)), none)]), (13802, [-163, -22]), 1000000, []),
  (132, ([(0, .inr (.inl (53, 53))), (1, .inl (0, 6)), (2, .inl (1, 6))], [(.inl (1, 6), some (.inl 2)), (.inl (0, 6), some (.inl 1)), (.inr (.inl (53, 53)), some (.inl 0)), (.inl (0, 20), none), (.inr (.inl (73, 73)), none)]), (13801, [-163, -22]), 3, []),
  (135, ([(0, .inr (.inl (53, 53))), (1, .inl (0, 6)), (2, .inl (1, 6))], [(.inl (0, 20), none), (.inl (0, 20), none), (.inr (.inl (73, 73)), none)]), (13800, [-163, -22]), 1000000, []),
  (136, ([(0, .inr (.inl (53, 53))), (1, .inl (0, 6)), (2, .inl (1, 6))], []), (13799, [-163, -22]), 1000000, []),
  (139, ([(0, .inr (.inl (53, 53))), (1, .inl (0, 6)), (2, .inl (2, 7))], []), (13819, [-163, -22]), 1000000, []),
  (142, ([(0, .inr (.inl (53, 53))), (1, .inl (0, 6))], []), (13644, [-163, 0]), 1000000, []),
  (145, ([(0, .inr (.inl (53, 53))), (1, .inl (1, 7))], []), (13805, [-163, 0]), 1000000, []),
  (148, ([(0, .inr (.inl (53, 53)))], []), (12502, [0, 0]), 1000000, []),
  (149, ([(0, .inr (.inl (53, 53)))], [(.inr (.inl (53, 53)), some (.inl 0))]), (12501, [0, 0]), 1, []),
  (152, ([(0, .inr (.inl (53, 53)))], []), (12500, [0, 0]), 1000000, []),
  (153, ([(0, .inr (.inl (53, 53)))], [(.inl (0, 0), none)]), (12499, [0, 0]), 1000000, []),
  (154, ([(0, .inr (.inl (53, 53))), (1, .inl (0, 21))], []), (12498, [-568, 0]), 1000000, []),
  (155, ([(0, .inr (.inl (53, 53))), (1, .inl (0, 21))], [(.inl (0, 21), some (.inl 1))]), (12497, [-568, 0]), 1000000, []),
  (157, ([(0, .inr (.inl (53, 53))), (1, .inl (0, 21))], [(.inl (21, 21), none), (.inl (0, 21), some (.inl 1))]), (12496, [-568, 0]), 1000000, []),
  (160, ([(0, .inr (.inl (53, 53))), (1, .inl (0, 20))], []), (12495, [-568, 0]), 1000000, []),
  (161, ([(0, .inr (.inl (53, 53))), (1, .inl (0, 20))], [(.inr (.inl (53, 53)), some (.inl 0))]), (12494, [-568, 0]), 1000000, []),
  (164, ([(0, .inr (.inl (53, 53))), (1, .inl (0, 20))], [(.inr (.inl (71, 71)), none)]), (12493, [-568, 0]), 1000000, []),
  (165, ([(0, .inr (.inl (53, 53))), (1, .inl (0, 20))], [(.inl (0, 20), some (.inl 1)), (.inr (.inl (71, 71)), none)]), (12492, [-568, 0]), 1000000, []),
  (166, ([(0, .inr (.inl (53, 53))), (1, .inl (0, 20))], [(.inl (0, 1), none)]), (12491, [-568, 0]), 1000000, []),
  (169, ([(0, .inr (.inl (53, 53))), (1, .inl (0, 20))], []), (12490, [-568, 0]), 1000000, []),
  (170, ([(0, .inr (.inl (53, 53))), (1, .inl (0, 20))], [(.inr (.inl (53, 53)), some (.inl 0))]), (12489, [-568, 0]), 4, []),
  (173, ([(0, .inr (.inl (53, 53))), (1, .inl (0, 20))], []), (12488, [-568, 0]), 1000000, []),
  (174, ([(0, .inr (.inl (53, 53))), (1, .inl (0, 20))], [(.inl (0, 0), none)]), (12487, [-568, 0]), 1000000, []),
  (175, ([(0, .inr (.inl (53, 53))), (1, .inl (0, 20)), (2, .inl (0, 22))], []), (12486, [-568, -24]), 1000000, []),
  (176, ([(0, .inr (.inl (53, 53))), (1, .inl (0, 20)), (2, .inl (0, 22))], [(.inl (0, 22), some (.inl 2))]), (12485, [-568, -24]), 1000000, []),
  (178, ([(0, .inr (.inl (53, 53))), (1, .inl (0, 20)), (2, .inl (0, 22))], [(.inl (22, 22), none), (.inl (0, 22), some (.inl 2))]), (12484, [-568, -24]), 1000000, []),
  (181, ([(0, .inr (.inl (53, 53))), (1, .inl (0, 20)), (2, .inl (0, 21))], []), (12483, [-568, -24]), 1000000, []),
  (182, ([(0, .inr (.inl (53, 53))), (1, .inl (0, 20)), (2, .inl (0, 21))], [(.inr (.inl (53, 53)), some (.inl 0))]), (12482, [-568, -24]), 1000000, []),
  (185, ([(0, .inr (.inl (53, 53))), (1, .inl (0, 20)), (2, .inl (0, 21))], [(.inr (.inl (68, 68)), none)]), (12481, [-568, -24]), 1000000, []),
  (186, ([(0, .inr (.inl (53, 53))), (1, .inl (0, 20)), (2, .inl (0, 21))], [(.inr (.inl (53, 53)), some (.inl 0)), (.inr (.inl (68, 68)), none)]), (12480, [-568, -24]), 1000000, []),
  (189, ([(0, .inr (.inl (53, 53))), (1, .inl (0, 20)), (2, .inl (0, 21))], [(.inr (.inl (73, 73)), none), (.inr (.inl (68, 68)), none)]), (12479, [-568, -24]), 1000000, []),
  (190, ([(0, .inr (.inl (53, 53))), (1, .inl (0, 20)), (2, .inl (0, 21))], [(.inl (0, 21), some (.inl 2)), (.inr (.inl (73, 73)), none), (.inr (.inl (68, 68)), none)]), (12478, [-568, -24]), 1000000, []),
  (191, ([(0, .inr (.inl (53, 53))), (1, .inl (0, 20)), (2, .inl (0, 21))], [(.inl (0, 21), none), (.inr (.inl (68, 68)), none)]), (12477, [-568, -24]), 1000000, []),
  (192, ([(0, .inr (.inl (53, 53))), (1, .inl (0, 20)), (2, .inl (0, 21))], [(.inl (0, 21), none), (.inr (.inl (68, 68)), none), (.inl (0, 21), none), (.inr (.inl (68, 68)), none)]), (12476, [-568, -24]), 1000000, []),
  (193, ([(0, .inr (.inl (53, 53))), (1, .inl (0, 20)), (2, .inl (0, 21))], [(.inr (.inr 0), none), (.inl (0, 21), none), (.inr (.inl (68, 68)), none)]), (12475, [-568, -24]), 1000000, []),
  (194, ([(0, .inr (.inl (53, 53))), (1, .inl (0, 20)), (2, .inl (0, 21))], [(.inr (.inl (53, 53)), some (.inl 0)), (.inr (.inr 0), none), (.inl (0, 21), none), (.inr (.inl (68, 68)), none)]), (12474, [-568, -24]), 1000000, []),
  (197, ([(0, .inr (.inl (53, 53))), (1, .inl (0, 20)), (2, .inl (0, 21))], [(.inr (.inl (70, 70)), none), (.inr (.inr 0), none), (.inl (0, 21), none), (.inr (.inl (68, 68)), none)]), (12473, [-568, -24]), 1000000, []),
  (199, ([(0, .inr (.inl (53, 53))), (1, .inl (0, 20)), (2, .inl (0, 21))], [(.inl (22, 22), none), (.inr (.inl (70, 70)), none), (.inr (.inr 0), none), (.inl (0, 21), none), (.inr (.inl (68, 68)), none)]), (12472, [-568, -24]), 1000000, []),
  (200, ([(0, .inr (.inl (53, 53))), (1, .inl (0, 20)), (2, .inl (0, 21))], [(.inl (0, 20), some (.inl 1)), (.inl (22, 22), none), (.inr (.inl (70, 70)), none), (.inr (.inr 0), none), (.inl (0, 21), none), (.inr (.inl (68, 68)), none)]), (12471, [-568, -24]), 1000000, []),
  (201, ([(0, .inr (.inl (53, 53))), (1, .inl (0, 20)), (2, .inl (0, 21))], [(.inl (0, 440), none), (.inr (.inl (70, 70)), none), (.inr (.inr 0), none), (.inl (0, 21), none), (.inr (.inl (68, 68)), none)]), (12470, [-568, -24]), 1000000, []),
  (202, ([(0, .inr (.inl (53, 53))), (1, .inl (0, 20)), (2, .inl (0, 21))], [(.inl (0, 21), some (.inl 2)), (.inl (0, 440), none), (.inr (.inl (70, 70)), none), (.inr (.inr 0), none), (.inl (0, 21), none), (.inr (.inl (68, 68)), none)]), (12469, [-568, -24]), 1000000, []),
  (203, ([(0, .inr (.inl (53, 53))), (1, .inl (0, 20)), (2, .inl (0, 21))], [(.inl (0, 461), none), (.inr (.inl (70, 70)), none), (.inr (.inr 0), none), (.inl (0, 21), none), (.inr (.inl (68, 68)), none)]), (12468, [-568, -24]), 1000000, []),
  (204, ([(0, .inr (.inl (53, 53))), (1, .inl (0, 20)), (2, .inl (0, 21))], [(.inr (.inr 0), none), (.inr (.inr 0), none), (.inl (0, 21), none), (.inr (.inl (68, 68)), none)]), (12467, [-568, -24]), 1000000, []),
  (205, ([(0, .inr (.inl (53, 53))), (1, .inl (0, 20)), (2, .inl (0, 21))], [(.inr (.inr 0), none), (.inl (0, 21), none), (.inr (.inl (68, 68)), none)]), (12466, [-568, -24]), 1000000, []),
  (206, ([(0, .inr (.inl (53, 53))), (1, .inl (0, 20)), (2, .inl (0, 21))], []), (12465, [-568, -24]), 1000000, []),
  (209, ([(0, .inr (.inl (53, 53))), (1, .inl (0, 20)), (2, .inl (1, 22))], []), (12487, [-568, -24]), 1000000, []),
  (212, ([(0, .inr (.inl (53, 53))), (1, .inl (0, 20))], []), (11936, [-568, 0]), 1000000, []),
  (213, ([(0, .inr (.inl (53, 53))), (1, .inl (0, 20))], [(.inr (.inl (53, 53)), some (.inl 0))]), (11935, [-568, 0]), 2, []),
  (216, ([(0, .inr (.inl (53, 53))), (1, .inl (0, 20))], [(.inl (0, 1), none)]), (11934, [-568, 0]), 1000000, []),
  (217, ([(0, .inr (.inl (53, 53))), (1, .inl (0, 20))], []), (11933, [-568, 0]), 1000000, []),
  (220, ([(0, .inr (.inl (53, 53))), (1, .inl (1, 21))], []), (12499, [-568, 0]), 1000000, []),
  (223, ([(0, .inr (.inl (53, 53)))], []), (4, [0, 0]), 2000000, [])]
set_option maxRecDepth 100000 in
set_option maxHeartbeats 4000000 in
theorem rx_mv {rt : rx_R} {d w : Nat} {h : rx_H} (ht : rx_tok rx_Em rt) (hd : 4 ≤ d) (hw : 172 ≤ w) (hh : rx_hin rx_I0 h) (hx : rx_Xm h) : rx_T rx_cds rx_ms rx_lk0 rt d w 126 0 [(0, .ref 53)] [] h (fun v h' => (v = none ∧ rx_gF h' 37 20 = 0) ∧ rx_hin rx_I0 h' ∧ rx_Xm h' ∧ rx_Fv h h') := by
  refine rx_keyZ (Z := fun v h' => v = none ∧ rx_gF h' 37 20 = 0) (E := rx_Ev) (X := rx_Xm) (F := rx_Fv) (post := some (.inl (1, 0))) (sps := [rxva_0, rxva_1, rxva_2, rxva_5, rxva_6]) (V := [1, 2]) (tb := rxvb_7) (D := 4) (W := 172) (mi := 126) (fun v h' z => ?_) rx_msl rx_env_v (rx_fc (rx_nl_v) (rx_fc (rx_stl_v) (rx_fc (rx_cm_v) (rx_fc (rxvc_5) (rx_fc (rxvc_6) (rx_fn)))))) (by decide +kernel) (rx_tok_vm ht) hd hw (fun q hq e => ?_) _ List.mem_cons_self _ [] h ⟨rx_alocs_in [.inr (.inl (53, 53))] [.ref 53] 0 ⟨⟨53, rfl, Nat.le_refl _, Nat.le_refl _⟩, trivial⟩, trivial⟩ (fun r hr => by cases hr) hh hx
  · obtain ⟨x, rfl, y, _, y1, y2⟩ := rx_pin_s z
    simp only at y1 y2
    omega
  · intro lv st h2 hs hr hh2 hx2
    have h1 : rxvb_7.all (fun q => !(Nat.beq q.2.2.2.1 2000000) || (Nat.beq q.1 223 && rx_sle (rx_qs q) ([(0, .inr (.inl (53, 53)))], []))) = true := by decide +kernel
    have h3 := List.all_eq_true.mp h1 q hq
    rw [e] at h3
    simp only [Bool.or_eq_true, Bool.and_eq_true] at h3
    rcases h3 with h3 | ⟨h3, h4⟩
    · cases h3
    have e2 := Nat.eq_of_beq_eq_true h3
    rw [e2]
    have h5 := rx_sle_in hs h4
    obtain ⟨w0, k0, k1⟩ := h5.1 0 _ rfl
    have e3 := rx_ref_e k1
    subst e3
    have e5 := rx_kin_nil h5.2
    subst e5
    refine rx_T.lv [(0, .ref 53)] ((rx_lvl.nil _).cons k0 rfl) ?_
    obtain ⟨vs, c1, d2, _⟩ := rx_get_o hh2 (k := 37) rfl
    refine rx_T.to 2 225 [(0, .ref 53)] [.int 0, .ref 53] h2 rfl ?_
    refine rx_T.pf (M := rxm_126) (k := 37) rfl rfl rfl c1 (by rw [d2]; decide) rfl ?_
    have s1 : ∀ z, ¬ z = 37 → (h2.set 37 (.inr (5, vs.set 20 (.int 0))))[z]? = h2[z]? := fun z hz => List.getElem?_set_ne (fun y => hz y.symm)
    refine rx_T.ret (M := rxm_126) (v := none) rfl rfl rfl ⟨⟨rfl, rx_gF_new c1 (by rw [d2]; decide)⟩, rx_hin_fld (i := 20) (x := 0) hh2 c1 (fun fs hfs => by cases hfs; rfl) (by decide) (by decide), ?_, ⟨fun z hz => s1 z (by omega), fun j _ j2 => rx_gF_set c1 (fun y => j2 y.symm)⟩⟩
    unfold rx_Xm
    rw [rx_gL_of (s1 50 (by decide)), rx_gI_of (s1 51 (by decide)), rx_gI_of (s1 47 (by decide))]
    exact hx2
end RXMV
