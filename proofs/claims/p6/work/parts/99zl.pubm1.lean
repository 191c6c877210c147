section RXGM
variable {rt : rx_R} {d w : Nat} {P : Option Value → rx_H → Prop}
/-- the reference's calls: the figure, THE DRAFT, how many HYPOTHESES stay -/
def rx_Fg (h h' : rx_H) : Prop := (∀ z, z < 37 ∨ (38 ≤ z ∧ z < 43) → h'[z]? = h[z]?) ∧ (∀ j, j = 1 ∨ j = 5 ∨ j = 6 → rx_gF h' 37 j = rx_gF h 37 j)
def rx_Eg : rx_E := (rx_I0, rx_tab0, fun k => Nat.beq k 44 || Nat.beq k 45, fun k j => Nat.beq k 37 && (Nat.beq j 0 || Nat.beq j 12 || Nat.beq j 13), fun rt => ∀ id q, rx_rt0 id = some q → rt id = some q)
theorem rx_Fg.refl (h : rx_H) : rx_Fg h h := ⟨fun _ _ => rfl, fun _ _ => rfl⟩
theorem rx_Fg.trans {a b c : rx_H} (h1 : rx_Fg a b) (h2 : rx_Fg b c) : rx_Fg a c := ⟨fun z hz => (h2.1 z hz).trans (h1.1 z hz), fun j hj => (h2.2 j hj).trans (h1.2 j hj)⟩
theorem rx_env_g : rx_env rx_Eg rx_Xm rx_Fg := by
  refine ⟨rx_Fg.refl, fun a b c => rx_Fg.trans, fun h h' _ _ hw => ?_⟩
  rcases hw with rfl | ⟨k, c, h1, rfl⟩ | ⟨k, j, ci, fs, v, h1, h2, rfl⟩
  · exact ⟨rx_Fg.refl _, fun z => z⟩
  · have h2 : k = 44 ∨ k = 45 := by
      have h3 : (Nat.beq k 44 || Nat.beq k 45) = true := h1
      simp only [Bool.or_eq_true] at h3
      rcases h3 with h3 | h3
      · exact Or.inl (Nat.eq_of_beq_eq_true h3)
      · exact Or.inr (Nat.eq_of_beq_eq_true h3)
    have e : ∀ z, ¬ z = k → (h.set k c)[z]? = h[z]? := fun z hz => List.getElem?_set_ne (fun y => hz y.symm)
    refine ⟨⟨fun z hz => e z (by omega), fun j _ => rx_gF_of (e 37 (by omega))⟩, fun hx => ?_⟩
    unfold rx_Xm
    rw [rx_gL_of (e 50 (by omega)), rx_gI_of (e 51 (by omega)), rx_gI_of (e 47 (by omega))]
    exact hx
  · have h4 : k = 37 ∧ (j = 0 ∨ j = 12 ∨ j = 13) := by
      have h3 : (Nat.beq k 37 && (Nat.beq j 0 || Nat.beq j 12 || Nat.beq j 13)) = true := h1
      simp only [Bool.or_eq_true, Bool.and_eq_true] at h3
      refine ⟨Nat.eq_of_beq_eq_true h3.1, ?_⟩
      rcases h3.2 with (h5 | h5) | h5
      · exact Or.inl (Nat.eq_of_beq_eq_true h5)
      · exact Or.inr (Or.inl (Nat.eq_of_beq_eq_true h5))
      · exact Or.inr (Or.inr (Nat.eq_of_beq_eq_true h5))
    obtain ⟨rfl, h4⟩ := h4
    have e : ∀ z, ¬ z = 37 → (h.set 37 (.inr (ci, fs.set j v)))[z]? = h[z]? := fun z hz => List.getElem?_set_ne (fun y => hz y.symm)
    refine ⟨⟨fun z hz => e z (by omega), fun q hq => rx_gF_setk h2 (by omega)⟩, fun hx => ?_⟩
    unfold rx_Xm
    rw [rx_gL_of (e 50 (by decide)), rx_gI_of (e 51 (by decide)), rx_gI_of (e 47 (by decide))]
    exact hx
abbrev rx_spg (sp : rx_Sp) : Prop := rx_spec rx_cds rx_ms rx_lk0 rx_Eg rx_Xm rx_Fg sp
theorem rx_tok_gm {rt : rx_R} (h : rx_tok rx_Em rt) : rx_tok rx_Eg rt := h
theorem rx_Fw.g {h h' : rx_H} (H : rx_Fw h h') : rx_Fg h h' := ⟨fun z hz => H.1 z (by omega), fun j hj => H.2 j (by omega)⟩
theorem rx_mg {sp : rx_Sp} (H : rx_spm sp) : rx_spg sp := H.weak rfl (fun _ h => h) (fun _ h => h) (fun h h' _ hx hF => ⟨(rx_Fm.fw hF).g, hx⟩)
theorem rx_ng {sp : rx_Sp} (H : rx_spn sp) : rx_spg sp := H.weak rfl (fun _ h => h) (fun _ _ => trivial) (fun h h' hx _ hF => by rw [hF]; exact ⟨rx_Fg.refl h, hx⟩)
theorem rx_qg {sp : rx_Sp} (H : rx_spr sp) : rx_spg sp := H.weak rfl (fun _ h => h) (fun _ h => h) (fun h h' _ hx hF => ⟨(rx_Fm.fw (rx_Fm_row hF)).g, hx⟩)
theorem rx_work_g : rx_spg (113, [.inr (.inl (53, 53))], none, 7, 241) := by
  intro rt d w as h ht hd hw has hh hx
  have hd : 7 ≤ d := hd
  have hw : 241 ≤ w := hw
  obtain ⟨v0, as0, rfl, k0, has0⟩ := rx_asin_e has
  have e0 := rx_ref_e k0
  subst e0
  have e1 := rx_asin_nil has0
  subst e1
  obtain ⟨d', rfl⟩ : ∃ d', d = d' + 7 := ⟨d - 7, by omega⟩
  exact (rx_work ht hw hh hx).mono (fun v h' p => by
    obtain ⟨rfl, p1, p2, p3⟩ := p
    exact ⟨trivial, p1, p2, p3.g⟩)
def rxga_0 : rx_Sp := (113, [.inr (.inl (53, 53))], none, 7, 241)
def rxga_1 : rx_Sp := (100, [.inr (.inl (53, 53)), .inl (-2147483648, 2147483647)], some (.inl (0, 1)), 1, 20)
def rxga_2 : rx_Sp := (102, [.inr (.inl (53, 53)), .inl (-2147483648, 2147483647)], some (.inl (0, 1)), 3, 77)
def rxga_3 : rx_Sp := (152, [.inr (.inl (53, 53)), .inl (-2147483648, 2147483647)], some (.inl (0, 1)), 3, 107)
def rxga_4 : rx_Sp := (161, [.inr (.inl (53, 53))], some (.inl (-2147483648, 2147483647)), 1, 23)
def rxga_5 : rx_Sp := (163, [.inr (.inl (53, 53))], some (.inl (-2147483648, 2147483647)), 1, 22)
/-- refresh -/
def rxga_6 : rx_Sp := (112, [.inr (.inl (53, 53))], none, 8, 261)
def rxgb_6 : List rx_Rw := [(0, ([(0, .inr (.inl (53, 53)))], []), (474, [0]), 1000000, []),
  (1, ([(0, .inr (.inl (53, 53)))], [(.inr (.inl (53, 53)), some (.inl 0))]), (473, [0]), 1000000, []),
  (4, ([(0, .inr (.inl (53, 53)))], [(.inl (0, 1), none)]), (472, [0]), 1000000, []),
  (7, ([(0, .inr (.inl (53, 53)))], []), (471, [0]), 1000000, []),
  (8, ([(0, .inr (.inl (53, 53)))], [(.inl (0, 0), none)]), (470, [0]), 1000000, []),
  (9, ([(0, .inr (.inl (53, 53))), (1, .inl (0, 30))], []), (469, [-15]), 1000000, []),
  (10, ([(0, .inr (.inl (53, 53))), (1, .inl (0, 30))], [(.inl (0, 30), some (.inl 1))]), (468, [-15]), 1000000, []),
  (11, ([(0, .inr (.inl (53, 53))), (1, .inl (0, 30))], [(.inr (.inl (53, 53)), some (.inl 0)), (.inl (0, 30), some (.inl 1))]), (467, [-15]), 1000000, []),
  (14, ([(0, .inr (.inl (53, 53))), (1, .inl (0, 30))], [(.inl (0, 30), none), (.inl (0, 30), some (.inl 1))]), (466, [-15]), 1000000, []),
  (17, ([(0, .inr (.inl (53, 53))), (1, .inl (0, 29))], []), (465, [-15]), 1000000, []),
  (18, ([(0, .inr (.inl (53, 53))), (1, .inl (0, 29))], [(.inr (.inl (53, 53)), some (.inl 0))]), (464, [-15]), 1000000, []),
  (21, ([(0, .inr (.inl (53, 53))), (1, .inl (0, 29))], [(.inr (.inl (60, 60)), none)]), (463, [-15]), 1000000, []),
  (22, ([(0, .inr (.inl (53, 53))), (1, .inl (0, 29))], [(.inl (0, 29), some (.inl 1)), (.inr (.inl (60, 60)), none)]), (462, [-15]), 1000000, []),
  (23, ([(0, .inr (.inl (53, 53))), (1, .inl (0, 29))], [(.inr (.inl (53, 53)), some (.inl 0)), (.inl (0, 29), some (.inl 1)), (.inr (.inl (60, 60)), none)]), (461, [-15]), 1000000, []),
  (26, ([(0, .inr (.inl (53, 53))), (1, .inl (0, 29))], [(.inr (.inl (59, 59)), none), (.inl (0, 29), some (.inl 1)), (.inr (.inl (60, 60)), none)]), (460, [-15]), 1000000, []),
  (27, ([(0, .inr (.inl (53, 53))), (1, .inl (0, 29))], [(.inl (0, 29), some (.inl 1)), (.inr (.inl (59, 59)), none), (.inl (0, 29), some (.inl 1)), (.inr (.inl (60, 60)), none)]), (459, [-15]), 1000000, []),
  (28, ([(0, .inr (.inl (53, 53))), (1, .inl (0, 29))], [(.inl (0, 1), none), (.inl (0, 29), some (.inl 1)), (.inr (.inl (60, 60)), none)]), (458, [-15]), 1000000, []),
  (29, ([(0, .inr (.inl (53, 53))), (1, .inl (0, 29))], []), (457, [-15]), 1000000, []),
  (32, ([(0, .inr (.inl (53, 53))), (1, .inl (1, 30))], []), (470, [-15]), 1000000, []),
  (35, ([(0, .inr (.inl (53, 53)))], []), (6, [0]), 1000000, []),
  (36, ([(0, .inr (.inl (53, 53)))], [(.inr (.inl (53, 53)), some (.inl 0))]), (5, [0]), 0, []),
  (39, ([(0, .inr (.inl (53, 53)))], []), (4, [0]), 1000000, []),
  (40, ([], [(.inr (.inl (53, 53)), some (.inl 0))]), (3, [0]), 1000000, []),
  (41, ([], [(.inl (1, 1), none), (.inr (.inl (53, 53)), some (.inl 0))]), (2, [0]), 1000000, []),
  (44, ([], []), (1, [0]), 1000000, [])]
set_option maxRecDepth 100000 in
theorem rxgc_6 : rx_spg rxga_6 := rx_chm_ok (sps := [rxga_0]) (V := [1]) (tb := rxgb_6) rx_msl rx_env_g (rx_fc (rx_work_g) (rx_fn)) (by decide +kernel)
theorem rx_g_refresh : rx_spg (112, [.inr (.inl (53, 53))], none, 8, 261) := rxgc_6 -- 8 261
/-- told -/
def rxga_7 : rx_Sp := (160, [.inr (.inl (53, 53)), .inl (-2147483648, 2147483647)], some (.inl (-2147483648, 2147483647)), 9, 282)
def rxgb_7 : List rx_Rw := [(0, ([(0, .inr (.inl (53, 53))), (1, .inl (-2147483648, 2147483647))], []), (899, [0]), 1000000, []),
  (1, ([(0, .inr (.inl (53, 53))), (1, .inl (-2147483648, 2147483647))], [(.inr (.inl (53, 53)), some (.inl 0))]), (898, [0]), 1000000, []),
  (2, ([(0, .inr (.inl (53, 53))), (1, .inl (-2147483648, 2147483647))], [(.inl (0, 0), none), (.inr (.inl (53, 53)), some (.inl 0))]), (897, [0]), 1000000, []),
  (5, ([(0, .inr (.inl (53, 53))), (1, .inl (-2147483648, 2147483647))], []), (896, [0]), 1000000, []),
  (6, ([(0, .inr (.inl (53, 53))), (1, .inl (-2147483648, 2147483647))], [(.inl (0, 0), none)]), (895, [0]), 1000000, []),
  (7, ([(0, .inr (.inl (53, 53))), (1, .inl (-2147483648, 2147483647)), (2, .inl (0, 0))], []), (894, [0]), 1000000, []),
  (8, ([(0, .inr (.inl (53, 53))), (1, .inl (-2147483648, 2147483647)), (2, .inl (0, 0))], [(.inl (0, 0), none)]), (893, [0]), 1000000, []),
  (9, ([(0, .inr (.inl (53, 53))), (1, .inl (-2147483648, 2147483647)), (2, .inl (0, 0)), (3, .inl (0, 0))], []), (892, [0]), 1000000, []),
  (10, ([(0, .inr (.inl (53, 53))), (1, .inl (-2147483648, 2147483647)), (2, .inl (0, 0)), (3, .inl (0, 0))], [(.inl (-2147483648, 2147483647), some (.inl 1))]), (891, [0]), 1000000, []),
  (11, ([(0, .inr (.inl (53, 53))), (1, .inl (-2147483648, 2147483647)), (2, .inl (0, 0)), (3, .inl (0, 0))], [(.inl (3, 3), none), (.inl (-2147483648, 2147483647), some (.inl 1))]), (890, [0]), 1000000, []),
  (14, ([(0, .inr (.inl (53, 53))), (1, .inl (4, 2147483647)), (2, .inl (0, 0)), (3, .inl (0, 0))], []), (889, [0]), 1000000, []),
  (15, ([(0, .inr (.inl (53, 53))), (1, .inl (4, 2147483647)), (2, .inl (0, 0)), (3, .inl (0, 0))], [(.inl (4, 2147483647), some (.inl 1))]), (888, [0]), 1000000, []),
  (17, ([(0, .inr (.inl (53, 53))), (1, .inl (4, 2147483647)), (2, .inl (0, 0)), (3, .inl (0, 0))], [(.inl (8, 8), none), (.inl (4, 2147483647), some (.inl 1))]), (887, [0]), 1000000, []),
  (20, ([(0, .inr (.inl (53, 53))), (1, .inl (4, 7)), (2, .inl (0, 0)), (3, .inl (0, 0))], []), (886, [0]), 1000000, []),
  (21, ([(0, .inr (.inl (53, 53))), (1, .inl (4, 7)), (2, .inl (0, 0)), (3, .inl (0, 0))], [(.inr (.inl (53, 53)), some (.inl 0))]), (885, [0]), 2, []),
  (24, ([(0, .inr (.inl (53, 53))), (1, .inl (-2147483648, 2147483647)), (2, .inl (0, 0)), (3, .inl (0, 0))], []), (884, [0]), 1000000, []),
  (25, ([(0, .inr (.inl (53, 53))), (1, .inl (-2147483648, 2147483647)), (2, .inl (0, 0)), (3, .inl (0, 0))], [(.inl (0, 0), none)]), (883, [0]), 1000000, []),
  (27, ([(0, .inr (.inl (53, 53))), (1, .inl (-2147483648, 2147483647)), (2, .inl (-2147483648, 2147483647)), (3, .inl (0, 0)), (4, .inl (0, 30))], []), (882, [-17]), 1000000, []),
  (29, ([(0, .inr (.inl (53, 53))), (1, .inl (-2147483648, 2147483647)), (2, .inl (-2147483648, 2147483647)), (3, .inl (0, 0)), (4, .inl (0, 30))], [(.inl (0, 30), some (.inl 4))]), (881, [-17]), 1000000, []),
  (30, ([(0, .inr (.inl (53, 53))), (1, .inl (-2147483648, 2147483647)), (2, .inl (-2147483648, 2147483647)), (3, .inl (0, 0)), (4, .inl (0, 30))], [(.inr (.inl (53, 53)), some (.inl 0)), (.inl (0, 30), some (.inl 4))]), (880, [-17]), 1000000, []),
  (33, ([(0, .inr (.inl (53, 53))), (1, .inl (-2147483648, 2147483647)), (2, .inl (-2147483648, 2147483647)), (3, .inl (0, 0)), (4, .inl (0, 30))], [(.inl (0, 30), none), (.inl (0, 30), some (.inl 4))]), (879, [-17]), 1000000, []),
  (36, ([(0, .inr (.inl (53, 53))), (1, .inl (-2147483648, 2147483647)), (2, .inl (-2147483648, 2147483647)), (3, .inl (0, 0)), (4, .inl (0, 29))], []), (878, [-17]), 1000000, []),
  (37, ([(0, .inr (.inl (53, 53))), (1, .inl (-2147483648, 2147483647)), (3, .inl (0, 0)), (4, .inl (0, 29))], [(.inl (-2147483648, 2147483647), some (.inl 2))]), (877, [-17]), 1000000, []),
  (38, ([(0, .inr (.inl (53, 53))), (1, .inl (-2147483648, 2147483647)), (3, .inl (0, 0)), (4, .inl (0, 29))], [(.inr (.inl (53, 53)), some (.inl 0)), (.inl (-2147483648, 2147483647), some (.inl 2))]), (876, [-17]), 1000000, []),
  (41, ([(0, .inr (.inl (53, 53))), (1, .inl (-2147483648, 2147483647)), (3, .inl (0, 0)), (4, .inl (0, 29))], [(.inr (.inl (59, 59)), none), (.inl (-2147483648, 2147483647), some (.inl 2))]), (875, [-17]), 1000000, []),
  (43, ([(0, .inr (.inl (53, 53))), (1, .inl (-2147483648, 2147483647)), (3, .inl (0, 0)), (4, .inl (0, 29))], [(.inl (0, 29), some (.inl 4)), (.inr (.inl (59, 59)), none), (.inl (-2147483648, 2147483647), some (.inl 2))]), (874, [-17]), 1000000, []),
  (44, ([(0, .inr (.inl (53, 53))), (1, .inl (-2147483648, 2147483647)), (3, .inl (0, 0)), (4, .inl (0, 29))], [(.inl (0, 1), none), (.inl (-2147483648, 2147483647), some (.inl 2))]), (873, [-17]), 1000000, []),
  (47, ([(0, .inr (.inl (53, 53))), (1, .inl (-2147483648, 2147483647)), (3, .inl (0, 0)), (4, .inl (0, 29))], [(.inl (-2147483648, 2147483647), some (.inl 2))]), (872, [-17]), 1000000, []),
  (48, ([(0, .inr (.inl (53, 53))), (1, .inl (-2147483648, 2147483647)), (3, .inl (0, 0)), (4, .inl (0, 29))], [(.inl (1, 1), none), (.inl (-2147483648, 2147483647), some (.inl 2))]), (871, [-17]), 1000000, []),
  (51, ([(0, .inr (.inl (53, 53))), (1, .inl (-2147483648, 2147483647)), (3, .inl (0, 0)), (4, .inl (0, 29))], [(.inl (-2147483648, 2147483647), some (.inl 2))]), (871, [-17]), 1000000, []),
  (52, ([(0, .inr (.inl (53, 53))), (1, .inl (-2147483648, 2147483647)), (3, .inl (0, 0)), (4, .inl (0, 29))], [(.inl (0, 1), none), (.inl (-2147483648, 2147483647), some (.inl 2))]), (870, [-17]), 1000000, []),
  (53, ([(0, .inr (.inl (53, 53))), (1, .inl (-2147483648, 2147483647)), (3, .inl (0, 0)), (4, .inl (0, 29))], [(.inl (-2147483648, 2147483647), none)]), (869, [-17]), 1000000, []),
  (54, ([(0, .inr (.inl (53, 53))), (1, .inl (-2147483648, 2147483647)), (2, .inl (-2147483648, 2147483647)), (3, .inl (0, 0)), (4, .inl (0, 29))], []), (868, [-17]), 1000000, []),
  (57, ([(0, .inr (.inl (53, 53))), (1, .inl (-2147483648, 2147483647)), (2, .inl (-2147483648, 2147483647)), (3, .inl (0, 0)), (4, .inl (1, 30))], []), (883, [-17]), 1000000, []),
  (60, ([(0, .inr (.inl (53, 53))), (1, .inl (-2147483648, 2147483647)), (2, .inl (-2147483648, 2147483647)), (3, .inl (0, 0))], []), (357, [0]), 1000000, []),
  (61, ([(0, .inr (.inl (53, 53))), (1, .inl (-2147483648, 2147483647)), (2, .inl (-2147483648, 2147483647)), (3, .inl (0, 0))], [(.inl (0, 0), none)]), (356, [0]), 1000000, []),
  (63, ([(0, .inr (.inl (53, 53))), (1, .inl (-2147483648, 2147483647)), (2, .inl (-2147483648, 2147483647)), (3, .inl (-2147483648, 2147483647)), (4, .inl (0, 21))], []), (355, [-16]), 1000000, []),
  (65, ([(0, .inr (.inl (53, 53))), (1, .inl (-2147483648, 2147483647)), (2, .inl (-2147483648, 2147483647)), (3, .inl (-2147483648, 2147483647)), (4, .inl (0, 21))], [(.inl (0, 21), some (.inl 4))]), (354, [-16]), 1000000, []),
  (67, ([(0, .inr (.inl (53, 53))), (1, .inl (-2147483648, 2147483647)), (2, .inl (-2147483648, 2147483647)), (3, .inl (-2147483648, 2147483647)), (4, .inl (0, 21))], [(.inl (21, 21), none), (.inl (0, 21), some (.inl 4))]), (353, [-16]), 1000000, []),
  (70, ([(0, .inr (.inl (53, 53))), (1, .inl (-2147483648, 2147483647)), (2, .inl (-2147483648, 2147483647)), (3, .inl (-2147483648, 2147483647)), (4, .inl (0, 20))], []), (352, [-16]), 1000000, []),
  (71, ([(0, .inr (.inl (53, 53))), (1, .inl (-2147483648, 2147483647)), (2, .inl (-2147483648, 2147483647)), (4, .inl (0, 20))], [(.inl (-2147483648, 2147483647), some (.inl 3))]), (351, [-16]), 1000000, []),
  (72, ([(0, .inr (.inl (53, 53))), (1, .inl (-2147483648, 2147483647)), (2, .inl (-2147483648, 2147483647)), (4, .inl (0, 20))], [(.inr (.inl (53, 53)), some (.inl 0)), (.inl (-2147483648, 2147483647), some (.inl 3))]), (350, [-16]), 1000000, []),
  (75, ([(0, .inr (.inl (53, 53))), (1, .inl (-2147483648, 2147483647)), (2, .inl (-2147483648, 2147483647)), (4, .inl (0, 20))], [(.inr (.inl (67, 67)), none), (.inl (-2147483648, 2147483647), some (.inl 3))]), (349, [-16]), 1000000, []),
  (77, ([(0, .inr (.inl (53, 53))), (1, .inl (-2147483648, 2147483647)), (2, .inl (-2147483648, 2147483647)), (4, .inl (0, 20))], [(.inl (0, 20), some (.inl 4)), (.inr (.inl (67, 67)), none), (.inl (-2147483648, 2147483647), some (.inl 3))]), (348, [-16]), 1000000, []),
  (78, ([(0, .inr (.inl (53, 53))), (1, .inl (-2147483648, 2147483647)), (2, .inl (-2147483648, 2147483647)), (4, .inl (0, 20))], [(.inl (0, 1), none), (.inl (-2147483648, 2147483647), some (.inl 3))]), (347, [-16]), 1000000, []),
  (81, ([(0, .inr (.inl (53, 53))), (1, .inl (-2147483648, 2147483647)), (2, .inl (-2147483648, 2147483647)), (4, .inl (0, 20))], [(.inl (-2147483648, 2147483647), some (.inl 3))]), (346, [-16]), 1000000, []),
  (82, ([(0, .inr (.inl (53, 53))), (1, .inl (-2147483648, 2147483647)), (2, .inl (-2147483648, 2147483647)), (4, .inl (0, 20))], [(.inl (1, 1), none), (.inl (-2147483648, 2147483647), some (.inl 3))]), (345, [-16]), 1000000, []),
  (85, ([(0, .inr (.inl (53, 53))), (1, .inl (-2147483648, 2147483647)), (2, .inl (-2147483648, 2147483647)), (4, .inl (0, 20))], [(.inl (-2147483648, 2147483647), some (.inl 3))]), (345, [-16]), 1000000, []),
  (86, ([(0, .inr (.inl (53, 53))), (1, .inl (-2147483648, 2147483647)), (2, .inl (-2147483648, 2147483647)), (4, .inl (0, 20))], [(.inl (0, 1), none), (.inl (-2147483648, 2147483647), some (.inl 3))]), (344, [-16]), 1000000, []),
  (87, ([(0, .inr (.inl (53, 53))), (1, .inl (-2147483648, 2147483647)), (2, .inl (-2147483648, 2147483647)), (4, .inl (0, 20))], [(.inl (-2147483648, 2147483647), none)]), (343, [-16]), 1000000, []),
  (88, ([(0, .inr (.inl (53, 53))), (1, .inl (-2147483648, 2147483647)), (2, .inl (-2147483648, 2147483647)), (3, .inl (-2147483648, 2147483647)), (4, .inl (0, 20))], []), (342, [-16]), 1000000, []),
  (91, ([(0, .inr (.inl (53, 53))), (1, .inl (-2147483648, 2147483647)), (2, .inl (-2147483648, 2147483647)), (3, .inl (-2147483648, 2147483647)), (4, .inl (1, 21))], []), (356, [-16]), 1000000, []),
  (94, ([(0, .inr (.inl (53, 53))), (1, .inl (-2147483648, 2147483647)), (2, .inl (-2147483648, 2147483647)), (3, .inl (-2147483648, 2147483647))], []), (5, [0]), 1000000, []),
  (95, ([(0, .inr (.inl (53, 53))), (2, .inl (-2147483648, 2147483647)), (3, .inl (-2147483648, 2147483647))], [(.inl (-2147483648, 2147483647), some (.inl 1))]), (4, [0]), 1000000, []),
  (140, ([(0, .inr (.inl (53, 53)))], []), (3, [0]), 1000000, []),
  (141, ([], [(.inr (.inl (53, 53)), some (.inl 0))]), (2, [0]), 1000000, []),
  (144, ([], [(.inl (0, 7), none)]), (1, [0]), 1000000, []),
  (145, ([(0, .inr (.inl (53, 53)))], []), (3, [0]), 1000000, []),
  (146, ([], [(.inr (.inl (53, 53)), some (.inl 0))]), (2, [0]), 1000000, []),
  (149, ([], [(.inl (0, 30), none)]), (1, [0]), 1000000, []),
  (150, ([(2, .inl (-2147483648, 2147483647))], []), (2, [0]), 1000000, []),
  (151, ([], [(.inl (-2147483648, 2147483647), some (.inl 2))]), (1, [0]), 1000000, []),
  (152, ([(0, .inr (.inl (53, 53)))], []), (3, [0]), 1000000, []),
  (153, ([], [(.inr (.inl (53, 53)), some (.inl 0))]), (2, [0]), 1000000, []),
  (156, ([], [(.inl (0, 8), none)]), (1, [0]), 1000000, []),
  (157, ([(0, .inr (.inl (53, 53)))], []), (3, [0]), 1000000, []),
  (158, ([], [(.inr (.inl (53, 53)), some (.inl 0))]), (2, [0]), 1000000, []),
  (161, ([], [(.inl (0, 21), none)]), (1, [0]), 1000000, []),
  (162, ([(0, .inr (.inl (53, 53)))], []), (3, [0]), 1000000, []),
  (163, ([], [(.inr (.inl (53, 53)), some (.inl 0))]), (2, [0]), 0, []),
  (166, ([], [(.inl (-2147483648, 2147483647), none)]), (1, [0]), 1000000, []),
  (167, ([(0, .inr (.inl (53, 53)))], []), (3, [0]), 1000000, []),
  (168, ([], [(.inr (.inl (53, 53)), some (.inl 0))]), (2, [0]), 1, []),
  (171, ([], [(.inl (-2147483648, 2147483647), none)]), (1, [0]), 1000000, []),
  (172, ([(3, .inl (-2147483648, 2147483647))], []), (2, [0]), 1000000, []),
  (173, ([], [(.inl (-2147483648, 2147483647), some (.inl 3))]), (1, [0]), 1000000, []),
  (174, ([], []), (2, [0]), 1000000, []),
  (175, ([], [(.inl (-1, -1), none)]), (1, [0]), 1000000, [])]
set_option maxRecDepth 100000 in
theorem rxgc_7 : rx_spg rxga_7 := rx_chm_ok (sps := [rxga_4, rxga_5, rxga_6]) (V := [4]) (tb := rxgb_7) rx_msl rx_env_g (rx_fc ((rx_mg (rxzc_104 rx_sp_many))) (rx_fc ((rx_ng rxnc_17)) (rx_fc (rxgc_6) (rx_fn)))) (by decide +kernel)
theorem rx_g_told : rx_spg (160, [.inr (.inl (53, 53)), .inl (-2147483648, 2147483647)], some (.inl (-2147483648, 2147483647)), 9, 282) := rxgc_7 -- 9 282
/-- need -/
def rxga_8 : rx_Sp := (155, [.inr (.inl (53, 53)), .inl (-2147483648, 2147483647)], some (.inl (-2147483648, 2147483647)), 0, 0)
def rxgb_8 : List rx_Rw := [(0, ([(0, .inr (.inl (53, 53))), (1, .inl (-2147483648, 2147483647))], []), (14, []), 1000000, []),
  (1, ([(0, .inr (.inl (53, 53))), (1, .inl (-2147483648, 2147483647))], [(.inr (.inl (53, 53)), some (.inl 0))]), (13, []), 1000000, []),
  (2, ([(0, .inr (.inl (53, 53))), (1, .inl (-2147483648, 2147483647))], [(.inl (0, 0), none), (.inr (.inl (53, 53)), some (.inl 0))]), (12, []), 1000000, []),
  (5, ([(0, .inr (.inl (53, 53))), (1, .inl (-2147483648, 2147483647))], []), (11, []), 1000000, []),
  (6, ([(0, .inr (.inl (53, 53))), (1, .inl (-2147483648, 2147483647))], [(.inl (-2147483648, 2147483647), some (.inl 1))]), (10, []), 1000000, []),
  (9, ([(0, .inr (.inl (53, 53))), (1, .inl (0, 2147483647))], []), (9, []), 1000000, []),
  (10, ([(0, .inr (.inl (53, 53))), (1, .inl (0, 2147483647))], [(.inl (0, 2147483647), some (.inl 1))]), (8, []), 1000000, []),
  (11, ([(0, .inr (.inl (53, 53))), (1, .inl (0, 2147483647))], [(.inr (.inl (53, 53)), some (.inl 0)), (.inl (0, 2147483647), some (.inl 1))]), (7, []), 1000000, []),
  (14, ([(0, .inr (.inl (53, 53))), (1, .inl (0, 2147483647))], [(.inl (0, 30), none), (.inl (0, 2147483647), some (.inl 1))]), (6, []), 1000000, []),
  (17, ([], []), (3, []), 1000000, []),
  (18, ([], [(.inl (-1, -1), none)]), (2, []), 1000000, []),
  (21, ([(0, .inr (.inl (53, 53))), (1, .inl (0, 29))], []), (5, []), 1000000, []),
  (22, ([(1, .inl (0, 29))], [(.inr (.inl (53, 53)), some (.inl 0))]), (4, []), 1000000, []),
  (25, ([(1, .inl (0, 29))], [(.inr (.inl (61, 61)), none)]), (3, []), 1000000, []),
  (26, ([], [(.inl (0, 29), some (.inl 1)), (.inr (.inl (61, 61)), none)]), (2, []), 1000000, []),
  (27, ([], [(.inl (-2147483648, 2147483647), none)]), (1, []), 1000000, [])]
set_option maxRecDepth 100000 in
theorem rxgc_8 : rx_spg rxga_8 := rx_chm_ok (sps := []) (V := []) (tb := rxgb_8) rx_msl rx_env_g (rx_fn) (by decide +kernel)
theorem rx_g_need : rx_spg (155, [.inr (.inl (53, 53)), .inl (-2147483648, 2147483647)], some (.inl (-2147483648, 2147483647)), 0, 0) := rxgc_8 -- 0 0
/-- the same, THE DRAFT aside -/
def rx_Fg5 (h h' : rx_H) : Prop := (∀ z, z < 37 ∨ (38 ≤ z ∧ z < 43) → h'[z]? = h[z]?) ∧ rx_gF h' 37 1 = rx_gF h 37 1 ∧ rx_gF h' 37 6 = rx_gF h 37 6
theorem rx_Fg.g5 {h h' : rx_H} (H : rx_Fg h h') : rx_Fg5 h h' := ⟨H.1, H.2 1 (by decide), H.2 6 (by decide)⟩
theorem rx_Fg5.trans {a b c : rx_H} (h1 : rx_Fg5 a b) (h2 : rx_Fg5 b c) : rx_Fg5 a c := ⟨fun z hz => (h2.1 z hz).trans (h1.1 z hz), h2.2.1.trans h1.2.1, h2.2.2.trans h1.2.2⟩
theorem rx_env_g5 : rx_env rx_Eg rx_Xm rx_Fg5 := ⟨fun h => (rx_Fg.refl h).g5, fun a b c => rx_Fg5.trans, fun h h' a b hw => ⟨(rx_env_g.2.2 h h' a b hw).1.g5, (rx_env_g.2.2 h h' a b hw).2⟩⟩
abbrev rx_spg5 (sp : rx_Sp) : Prop := rx_spec rx_cds rx_ms rx_lk0 rx_Eg rx_Xm rx_Fg5 sp
theorem rx_gto5 {sp : rx_Sp} (H : rx_spg sp) : rx_spg5 sp := H.weak rfl (fun _ h => h) (fun _ h => h) (fun h h' _ hx hF => ⟨rx_Fg.g5 hF, hx⟩)
def rx_fo_a : List rx_Rw := [(0, ([(0, .inr (.inl (53, 53))), (1, .inl (-2147483648, 2147483647))], []), (38, []), 1000000, []),
  (1, ([(0, .inr (.inl (53, 53))), (1, .inl (-2147483648, 2147483647))], [(.inr (.inl (53, 53)), some (.inl 0))]), (37, []), 1000000, []),
  (2, ([(0, .inr (.inl (53, 53))), (1, .inl (-2147483648, 2147483647))], [(.inl (0, 0), none), (.inr (.inl (53, 53)), some (.inl 0))]), (36, []), 1000000, []),
  (5, ([(0, .inr (.inl (53, 53))), (1, .inl (-2147483648, 2147483647))], []), (35, []), 1000000, []),
  (6, ([(0, .inr (.inl (53, 53))), (1, .inl (-2147483648, 2147483647))], [(.inr (.inl (53, 53)), some (.inl 0))]), (34, []), 1000000, []),
  (7, ([(0, .inr (.inl (53, 53))), (1, .inl (-2147483648, 2147483647))], [(.inl (-2147483648, 2147483647), some (.inl 1)), (.inr (.inl (53, 53)), some (.inl 0))]), (33, []), 0, []),
  (10, ([(0, .inr (.inl (53, 53))), (1, .inl (-2147483648, 2147483647))], [(.inl (0, 1), none)]), (32, []), 1000000, []),
  (11, ([(0, .inr (.inl (53, 53))), (1, .inl (-2147483648, 2147483647)), (2, .inl (0, 1))], []), (31, []), 1000000, []),
  (12, ([(0, .inr (.inl (53, 53))), (1, .inl (-2147483648, 2147483647)), (2, .inl (0, 1))], [(.inl (0, 1), some (.inl 2))]), (30, []), 1000000, []),
  (15, ([(0, .inr (.inl (53, 53))), (1, .inl (-2147483648, 2147483647)), (2, .inl (1, 1))], []), (29, []), 1000000, []),
  (16, ([(0, .inr (.inl (53, 53))), (1, .inl (-2147483648, 2147483647)), (2, .inl (1, 1))], [(.inr (.inl (53, 53)), some (.inl 0))]), (28, []), 1000000, []),
  (17, ([(0, .inr (.inl (53, 53))), (1, .inl (-2147483648, 2147483647)), (2, .inl (1, 1))], [(.inl (-2147483648, 2147483647), some (.inl 1)), (.inr (.inl (53, 53)), some (.inl 0))]), (27, []), 1, []),
  (20, ([(0, .inr (.inl (53, 53))), (1, .inl (-2147483648, 2147483647)), (2, .inl (1, 1))], [(.inl (0, 1), none)]), (26, []), 1000000, []),
  (23, ([(0, .inr (.inl (53, 53))), (1, .inl (-2147483648, 2147483647)), (2, .inl (1, 1))], []), (25, []), 1000000, []),
  (24, ([(0, .inr (.inl (53, 53))), (1, .inl (-2147483648, 2147483647)), (2, .inl (1, 1))], [(.inl (1, 1), none)]), (24, []), 1000000, []),
  (27, ([(0, .inr (.inl (53, 53))), (1, .inl (-2147483648, 2147483647)), (2, .inl (0, 1))], []), (24, []), 1000000, []),
  (28, ([(0, .inr (.inl (53, 53))), (1, .inl (-2147483648, 2147483647)), (2, .inl (0, 1))], [(.inl (0, 1), none)]), (23, []), 1000000, []),
  (29, ([(0, .inr (.inl (53, 53))), (1, .inl (-2147483648, 2147483647)), (2, .inl (0, 1)), (3, .inl (0, 1))], []), (22, []), 1000000, []),
  (30, ([(0, .inr (.inl (53, 53))), (1, .inl (-2147483648, 2147483647)), (2, .inl (0, 1)), (3, .inl (0, 1))], [(.inl (0, 0), none)]), (21, []), 1000000, []),
  (32, ([(0, .inr (.inl (53, 53))), (1, .inl (-2147483648, 2147483647)), (2, .inl (0, 1)), (3, .inl (0, 1)), (4, .inl (0, 0))], []), (20, []), 1000000, []),
  (33, ([(0, .inr (.inl (53, 53))), (1, .inl (-2147483648, 2147483647)), (2, .inl (0, 1)), (3, .inl (0, 1)), (4, .inl (0, 0))], [(.inl (0, 1), some (.inl 3))]), (19, []), 1000000, []),
  (36, ([(0, .inr (.inl (53, 53))), (1, .inl (-2147483648, 2147483647)), (2, .inl (0, 1)), (3, .inl (1, 1))], []), (18, []), 1000000, []),
  (37, ([(0, .inr (.inl (53, 53))), (1, .inl (-2147483648, 2147483647)), (2, .inl (0, 1)), (3, .inl (1, 1))], [(.inr (.inl (53, 53)), some (.inl 0))]), (17, []), 3, []),
  (40, ([(0, .inr (.inl (53, 53))), (1, .inl (-2147483648, 2147483647)), (2, .inl (0, 1)), (3, .inl (1, 1))], []), (16, []), 1000000, []),
  (41, ([(0, .inr (.inl (53, 53))), (1, .inl (-2147483648, 2147483647)), (2, .inl (0, 1)), (3, .inl (1, 1))], [(.inr (.inl (53, 53)), some (.inl 0))]), (15, []), 1000000, []),
  (42, ([(0, .inr (.inl (53, 53))), (2, .inl (0, 1)), (3, .inl (1, 1))], [(.inl (-2147483648, 2147483647), some (.inl 1)), (.inr (.inl (53, 53)), some (.inl 0))]), (14, []), 2, []),
  (45, ([(0, .inr (.inl (53, 53))), (2, .inl (0, 1)), (3, .inl (1, 1))], [(.inl (0, 1), none)]), (13, []), 1000000, []),
  (47, ([(0, .inr (.inl (53, 53))), (2, .inl (0, 1)), (3, .inl (0, 1)), (4, .inl (0, 1))], []), (12, []), 2000000, [])]
def rx_fo_b : List rx_Rw := [(52, ([(2, .inl (0, 1)), (3, .inl (0, 1)), (4, .inl (0, 1))], []), (9, []), 1000000, []),
  (53, ([(3, .inl (0, 1)), (4, .inl (0, 1))], [(.inl (0, 1), some (.inl 2))]), (8, []), 1000000, []),
  (56, ([], []), (3, []), 1000000, []),
  (57, ([], [(.inl (-1, -1), none)]), (2, []), 1000000, []),
  (60, ([(3, .inl (0, 1)), (4, .inl (0, 1))], []), (7, []), 1000000, []),
  (61, ([(4, .inl (0, 1))], [(.inl (0, 1), some (.inl 3))]), (6, []), 1000000, []),
  (64, ([], []), (3, []), 1000000, []),
  (66, ([], [(.inl (-2, -2), none)]), (2, []), 1000000, []),
  (69, ([(4, .inl (0, 1))], []), (5, []), 1000000, []),
  (71, ([], [(.inl (0, 1), some (.inl 4))]), (4, []), 1000000, []),
  (74, ([], []), (3, []), 1000000, []),
  (75, ([], [(.inl (1, 1), none)]), (2, []), 1000000, []),
  (78, ([], []), (2, []), 1000000, []),
  (79, ([], [(.inl (-2, 1), none)]), (1, []), 1000000, [])]
/-- an int; the figure, how many HYPOTHESES stay; THE DRAFT is empty -/
def rx_mny1 (h : rx_H) (v : Option Value) (h' : rx_H) : Prop := (∃ x : Int32, v = some (.int x)) ∧ rx_hin rx_I0 h' ∧ rx_Xm h' ∧ (∀ z, z < 37 ∨ (38 ≤ z ∧ z < 43) → h'[z]? = h[z]?) ∧ rx_gF h' 37 1 = rx_gF h 37 1 ∧ rx_gF h' 37 6 = rx_gF h 37 6 ∧ rx_gF h' 37 5 = 0
/-- THE DRAFT is emptied -/
theorem rx_dr0 {h : rx_H} {vs : List Value} (hh : rx_hin rx_I0 h) (hx : rx_Xm h) (c1 : h[37]? = some (.inr (5, vs))) : ∀ h', h' = h.set 37 (.inr (5, vs.set 5 (.int 0))) → rx_hin rx_I0 h' ∧ rx_Xm h' ∧ rx_gF h' 37 5 = 0 ∧ (∀ j, ¬ j = 5 → rx_gF h' 37 j = rx_gF h 37 j) ∧ (∀ z, ¬ z = 37 → h'[z]? = h[z]?) := by
  intro h' e
  obtain ⟨ws, d1, d2, _⟩ := rx_get_o hh (k := 37) rfl
  rw [c1] at d1
  cases d1
  have s1 : ∀ z, ¬ z = 37 → h'[z]? = h[z]? := fun z hz => by rw [e]; exact List.getElem?_set_ne (fun y => hz y.symm)
  refine ⟨by rw [e]; exact rx_hin_fld (i := 5) (x := 0) hh c1 (fun fs hfs => by cases hfs; rfl) (by decide) (by decide), ?_, by rw [e]; exact rx_gF_new c1 (by rw [d2]; decide), fun j hj => by rw [e]; exact rx_gF_set c1 (fun y => hj y.symm), s1⟩
  unfold rx_Xm
  rw [rx_gL_of (s1 50 (by decide)), rx_gI_of (s1 51 (by decide)), rx_gI_of (s1 47 (by decide))]
  exact hx
theorem rx_Fg.my {h h1 h2 h' : rx_H} {v : Option Value} (F1 : rx_Fg h h1) (e5 : rx_gF h2 37 5 = 0) (ej : ∀ j, ¬ j = 5 → rx_gF h2 37 j = rx_gF h1 37 j) (ez : ∀ z, ¬ z = 37 → h2[z]? = h1[z]?) (F2 : rx_Fg h2 h') (hh : rx_hin rx_I0 h') (hx : rx_Xm h') (hv : ∃ x : Int32, v = some (.int x)) : rx_mny1 h v h' :=
  ⟨hv, hh, hx, fun z hz => (F2.1 z hz).trans ((ez z (by omega)).trans (F1.1 z hz)), (F2.2 1 (by decide)).trans ((ej 1 (by decide)).trans (F1.2 1 (by decide))), (F2.2 6 (by decide)).trans ((ej 6 (by decide)).trans (F1.2 6 (by decide))), (F2.2 5 (by decide)).trans e5⟩
set_option maxRecDepth 100000 in
set_option maxHeartbeats 4000000 in
theorem rx_fo_2 {h : rx_H} {x2 x3 x4 : Int32} (ht : rx_tok rx_Em rt) (hw : 30 ≤ w) (b2 : 0 ≤ x2.toInt ∧ x2.toInt ≤ 1) (b3 : 0 ≤ x3.toInt ∧ x3.toInt ≤ 1) (b4 : 0 ≤ x4.toInt ∧ x4.toInt ≤ 1) (hh : rx_hin rx_I0 h) (hx : rx_Xm h) : rx_T rx_cds rx_ms rx_lk0 rt d w 111 52 [(0, .ref 53), (2, .int x2), (3, .int x3), (4, .int x4)] [] h (fun v h' => rx_pin (some (.inl (-2147483648, 2147483647))) v ∧ rx_hin rx_I0 h' ∧ rx_Xm h' ∧ rx_Fg h h') := by
  have h1 : rx_sin ([(0, .inr (.inl (53, 53))), (2, .inl (0, 1)), (3, .inl (0, 1)), (4, .inl (0, 1))], []) [(0, .ref 53), (2, .int x2), (3, .int x3), (4, .int x4)] [] := by
    refine ⟨fun j y hy => ?_, trivial⟩
    rcases rx_ag_c hy with ⟨e1, e2⟩ | ⟨_, hy⟩
    · simp only at e1 e2
      subst e1 e2
      exact ⟨_, rfl, 53, rfl, Nat.le_refl _, Nat.le_refl _⟩
    rcases rx_ag_c hy with ⟨e1, e2⟩ | ⟨_, hy⟩
    · simp only at e1 e2
      subst e1 e2
      exact ⟨_, rfl, x2, rfl, b2.1, b2.2⟩
    rcases rx_ag_c hy with ⟨e1, e2⟩ | ⟨_, hy⟩
    · simp only at e1 e2
      subst e1 e2
      exact ⟨_, rfl, x3, rfl, b3.1, b3.2⟩
    rcases rx_ag_c hy with ⟨e1, e2⟩ | ⟨_, hy⟩
    · simp only at e1 e2
      subst e1 e2
      exact ⟨_, rfl, x4, rfl, b4.1, b4.2⟩
    · cases hy
  exact rx_key (E := rx_Eg) (X := rx_Xm) (F := rx_Fg) (sps := []) (V := []) (tb := rx_fo_b) (D := 0) (W := 0) (mi := 111) rx_msl rx_env_g rx_fn (by decide +kernel) (rx_tok_gm ht) (Nat.zero_le _) (Nat.zero_le _) (fun q hq e => by
    have h2 : rx_fo_b.all (fun q => !(Nat.beq q.2.2.2.1 2000000)) = true := by decide +kernel
    have h3 := List.all_eq_true.mp h2 q hq
    rw [e] at h3
    cases h3) _ List.mem_cons_self _ _ h (rx_sle_in h1 (by decide +kernel)) (fun r hr => by cases hr) hh hx
theorem rx_mfollows {h : rx_H} {k : Int32} (ht : rx_tok rx_Em rt) (hd : 9 ≤ d) (hw : 282 ≤ w) (hh : rx_hin rx_I0 h) (hx : rx_Xm h) : rx_T rx_cds rx_ms rx_lk0 rt d w 111 0 [(0, .ref 53), (1, .int k)] [] h (rx_mny1 h) := by
  have h1 : rx_sin (rx_alocs 0 [.inr (.inl (53, 53)), .inl (-2147483648, 2147483647)], []) [(0, .ref 53), (1, .int k)] [] := ⟨rx_alocs_in [.inr (.inl (53, 53)), .inl (-2147483648, 2147483647)] [.ref 53, .int k] 0 ⟨⟨53, rfl, Nat.le_refl _, Nat.le_refl _⟩, ⟨k, rfl, rxi_lo _, rxi_hi _⟩, trivial⟩, trivial⟩
  refine (rx_keyZ (Z := fun v h' => rx_gF h' 37 5 = 0 ∧ ∃ x : Int32, v = some (.int x)) (E := rx_Eg) (X := rx_Xm) (F := rx_Fg5) (post := some (.inl (1, 0))) (sps := [rxga_1, rxga_2, rxga_3, rxga_6]) (V := []) (tb := rx_fo_a) (D := 9) (W := 282) (mi := 111) (fun v h' z => ?_) rx_msl rx_env_g5 (rx_fc (rx_gto5 (rx_ng rxnc_15)) (rx_fc (rx_gto5 (rx_ng rxnc_13)) (rx_fc (rx_gto5 (rx_qg rxqc_14)) (rx_fc (rx_gto5 rxgc_6) (rx_fn))))) (by decide +kernel) (rx_tok_gm ht) hd hw (fun q hq e => ?_) _ List.mem_cons_self _ _ h (rx_sle_in h1 (by decide +kernel)) (fun r hr => by cases hr) hh hx).mono (fun v h' p => ?_)
  · obtain ⟨x, rfl, y, _, y1, y2⟩ := rx_pin_s z
    simp only at y1 y2
    omega
  · intro lv st h2 hs hr hh2 hx2
    have h3 : rx_fo_a.all (fun q => !(Nat.beq q.2.2.2.1 2000000) || (Nat.beq q.1 47 && rx_sle (rx_qs q) ([(0, .inr (.inl (53, 53))), (2, .inl (0, 1)), (3, .inl (0, 1)), (4, .inl (0, 1))], []))) = true := by decide +kernel
    have h4 := List.all_eq_true.mp h3 q hq
    rw [e] at h4
    simp only [Bool.or_eq_true, Bool.and_eq_true] at h4
    rcases h4 with h4 | ⟨h4, h5⟩
    · cases h4
    have e2 := Nat.eq_of_beq_eq_true h4
    rw [e2]
    have h6 := rx_sle_in hs h5
    obtain ⟨w0, k0, k1⟩ := h6.1 0 _ rfl
    obtain ⟨w2, k2, x2, rfl, b2⟩ := h6.1 2 _ rfl
    obtain ⟨w3, k3, x3, rfl, b3⟩ := h6.1 3 _ rfl
    obtain ⟨w4, k4, x4, rfl, b4⟩ := h6.1 4 _ rfl
    have e3 := rx_ref_e k1
    subst e3
    have e5 := rx_kin_nil h6.2
    subst e5
    refine rx_T.lv [(0, .ref 53), (2, .int x2), (3, .int x3), (4, .int x4)] (((((rx_lvl.nil _).cons k4 rfl).cons k3 rfl).cons k2 rfl).cons k0 rfl) ?_
    obtain ⟨vs, c1, d2, _⟩ := rx_get_o hh2 (k := 37) rfl
    refine rx_T.to 2 49 [(0, .ref 53), (2, .int x2), (3, .int x3), (4, .int x4)] [.int 0, .ref 53] h2 rfl ?_
    refine rx_T.pf (M := rxm_111) (k := 37) rfl rfl rfl c1 (by rw [d2]; decide) rfl ?_
    obtain ⟨hh3, hx3, e5, ej, ez⟩ := rx_dr0 hh2 hx2 c1 _ rfl
    refine (rx_fo_2 ht (by omega) b2 b3 b4 hh3 hx3).mono (fun v h' p => ?_)
    obtain ⟨p1, p2, p3, p4⟩ := p
    exact ⟨⟨(p4.2 5 (by decide)).trans e5, rx_ints p1⟩, p2, p3, ⟨fun z hz => (p4.1 z hz).trans (ez z (by omega)), (p4.2 1 (by decide)).trans (ej 1 (by decide)), (p4.2 6 (by decide)).trans (ej 6 (by decide))⟩⟩
  · obtain ⟨⟨p1, p2⟩, p3, p4, p5⟩ := p
    exact ⟨p2, p3, p4, p5.1, p5.2.1, p5.2.2, p1⟩
end RXGM
