section RXND
variable {rt : rx_R} {d w : Nat} {P : Option Value → rx_H → Prop}
def rxna5_0 : rx_Sp := (113, [.inr (.inl (53, 53))], none, 7, 241)
def rxna5_1 : rx_Sp := (100, [.inr (.inl (53, 53)), .inl (-2147483648, 2147483647)], some (.inl (0, 1)), 1, 20)
def rxna5_2 : rx_Sp := (102, [.inr (.inl (53, 53)), .inl (-2147483648, 2147483647)], some (.inl (0, 1)), 3, 77)
def rxna5_3 : rx_Sp := (152, [.inr (.inl (53, 53)), .inl (-2147483648, 2147483647)], some (.inl (0, 1)), 3, 107)
def rxna5_4 : rx_Sp := (112, [.inr (.inl (53, 53))], none, 8, 261)
def rx_nd_a : List rx_Rw := [(0, ([(0, .inr (.inl (53, 53))), (1, .inl (-2147483648, 2147483647))], []), (1344, [0]), 1000000, []),
  (1, ([(0, .inr (.inl (53, 53))), (1, .inl (-2147483648, 2147483647))], [(.inr (.inl (53, 53)), some (.inl 0))]), (1343, [0]), 1000000, []),
  (2, ([(0, .inr (.inl (53, 53))), (1, .inl (-2147483648, 2147483647))], [(.inl (0, 0), none), (.inr (.inl (53, 53)), some (.inl 0))]), (1342, [0]), 1000000, []),
  (5, ([(0, .inr (.inl (53, 53))), (1, .inl (-2147483648, 2147483647))], []), (1341, [0]), 1000000, []),
  (6, ([(0, .inr (.inl (53, 53))), (1, .inl (-2147483648, 2147483647))], [(.inr (.inl (53, 53)), some (.inl 0))]), (1340, [0]), 1000000, []),
  (7, ([(0, .inr (.inl (53, 53))), (1, .inl (-2147483648, 2147483647))], [(.inl (-2147483648, 2147483647), some (.inl 1)), (.inr (.inl (53, 53)), some (.inl 0))]), (1339, [0]), 0, []),
  (10, ([(0, .inr (.inl (53, 53))), (1, .inl (-2147483648, 2147483647))], [(.inl (0, 1), none)]), (1338, [0]), 1000000, []),
  (11, ([(0, .inr (.inl (53, 53))), (1, .inl (-2147483648, 2147483647)), (2, .inl (0, 1))], []), (1337, [0]), 1000000, []),
  (12, ([(0, .inr (.inl (53, 53))), (1, .inl (-2147483648, 2147483647)), (2, .inl (0, 1))], [(.inl (0, 1), some (.inl 2))]), (1336, [0]), 1000000, []),
  (15, ([(0, .inr (.inl (53, 53))), (1, .inl (-2147483648, 2147483647)), (2, .inl (1, 1))], []), (1335, [0]), 1000000, []),
  (16, ([(0, .inr (.inl (53, 53))), (1, .inl (-2147483648, 2147483647)), (2, .inl (1, 1))], [(.inr (.inl (53, 53)), some (.inl 0))]), (1334, [0]), 1000000, []),
  (17, ([(0, .inr (.inl (53, 53))), (1, .inl (-2147483648, 2147483647)), (2, .inl (1, 1))], [(.inl (-2147483648, 2147483647), some (.inl 1)), (.inr (.inl (53, 53)), some (.inl 0))]), (1333, [0]), 1, []),
  (20, ([(0, .inr (.inl (53, 53))), (1, .inl (-2147483648, 2147483647)), (2, .inl (1, 1))], [(.inl (0, 1), none)]), (1332, [0]), 1000000, []),
  (23, ([(0, .inr (.inl (53, 53))), (1, .inl (-2147483648, 2147483647)), (2, .inl (1, 1))], []), (1331, [0]), 1000000, []),
  (24, ([(0, .inr (.inl (53, 53))), (1, .inl (-2147483648, 2147483647)), (2, .inl (1, 1))], [(.inl (1, 1), none)]), (1330, [0]), 1000000, []),
  (27, ([(0, .inr (.inl (53, 53))), (1, .inl (-2147483648, 2147483647)), (2, .inl (0, 1))], []), (1330, [0]), 1000000, []),
  (28, ([(0, .inr (.inl (53, 53))), (1, .inl (-2147483648, 2147483647)), (2, .inl (0, 1))], [(.inl (0, 1), none)]), (1329, [0]), 1000000, []),
  (29, ([(0, .inr (.inl (53, 53))), (1, .inl (-2147483648, 2147483647)), (2, .inl (0, 1)), (3, .inl (0, 1))], []), (1328, [0]), 1000000, []),
  (30, ([(0, .inr (.inl (53, 53))), (1, .inl (-2147483648, 2147483647)), (2, .inl (0, 1))], [(.inl (0, 1), some (.inl 3))]), (1327, [0]), 1000000, []),
  (33, ([(0, .inr (.inl (53, 53))), (2, .inl (0, 1))], []), (8, [0]), 2000000, []),
  (49, ([(0, .inr (.inl (53, 53))), (1, .inl (-2147483648, 2147483647))], []), (1326, [0]), 1000000, []),
  (50, ([(0, .inr (.inl (53, 53))), (1, .inl (-2147483648, 2147483647))], [(.inr (.inl (53, 53)), some (.inl 0))]), (1325, [0]), 2, []),
  (53, ([(0, .inr (.inl (53, 53))), (1, .inl (-2147483648, 2147483647))], []), (1324, [0]), 2000000, [])]
def rx_nd_b : List rx_Rw := [(58, ([(0, .inr (.inl (53, 53))), (1, .inl (-2147483648, 2147483647))], []), (1321, [0]), 1000000, []),
  (59, ([(0, .inr (.inl (53, 53))), (1, .inl (-2147483648, 2147483647))], [(.inr (.inl (53, 53)), some (.inl 0))]), (1320, [0]), 1000000, []),
  (60, ([(0, .inr (.inl (53, 53))), (1, .inl (-2147483648, 2147483647))], [(.inl (-2147483648, 2147483647), some (.inl 1)), (.inr (.inl (53, 53)), some (.inl 0))]), (1319, [0]), 1, []),
  (63, ([(0, .inr (.inl (53, 53))), (1, .inl (-2147483648, 2147483647))], [(.inl (0, 1), none)]), (1318, [0]), 1000000, []),
  (65, ([(0, .inr (.inl (53, 53))), (1, .inl (-2147483648, 2147483647)), (4, .inl (0, 1))], []), (1317, [0]), 1000000, []),
  (67, ([(0, .inr (.inl (53, 53))), (1, .inl (-2147483648, 2147483647))], [(.inl (0, 1), some (.inl 4))]), (1316, [0]), 1000000, []),
  (70, ([(0, .inr (.inl (53, 53))), (1, .inl (-2147483648, 2147483647))], []), (1315, [0]), 1000000, []),
  (71, ([(0, .inr (.inl (53, 53))), (1, .inl (-2147483648, 2147483647))], [(.inl (0, 0), none)]), (1314, [0]), 1000000, []),
  (73, ([(0, .inr (.inl (53, 53))), (1, .inl (-2147483648, 2147483647)), (5, .inl (0, 30))], []), (1313, [-15]), 1000000, []),
  (75, ([(0, .inr (.inl (53, 53))), (1, .inl (-2147483648, 2147483647)), (5, .inl (0, 30))], [(.inl (0, 30), some (.inl 5))]), (1312, [-15]), 1000000, []),
  (76, ([(0, .inr (.inl (53, 53))), (1, .inl (-2147483648, 2147483647)), (5, .inl (0, 30))], [(.inr (.inl (53, 53)), some (.inl 0)), (.inl (0, 30), some (.inl 5))]), (1311, [-15]), 1000000, []),
  (79, ([(0, .inr (.inl (53, 53))), (1, .inl (-2147483648, 2147483647)), (5, .inl (0, 30))], [(.inl (0, 30), none), (.inl (0, 30), some (.inl 5))]), (1310, [-15]), 1000000, []),
  (82, ([(0, .inr (.inl (53, 53))), (1, .inl (-2147483648, 2147483647)), (5, .inl (0, 29))], []), (1309, [-15]), 1000000, []),
  (83, ([(0, .inr (.inl (53, 53))), (1, .inl (-2147483648, 2147483647)), (5, .inl (0, 29))], [(.inr (.inl (53, 53)), some (.inl 0))]), (1308, [-15]), 1000000, []),
  (86, ([(0, .inr (.inl (53, 53))), (1, .inl (-2147483648, 2147483647)), (5, .inl (0, 29))], [(.inr (.inl (60, 60)), none)]), (1307, [-15]), 1000000, []),
  (88, ([(0, .inr (.inl (53, 53))), (1, .inl (-2147483648, 2147483647)), (5, .inl (0, 29))], [(.inl (0, 29), some (.inl 5)), (.inr (.inl (60, 60)), none)]), (1306, [-15]), 1000000, []),
  (89, ([(0, .inr (.inl (53, 53))), (1, .inl (-2147483648, 2147483647)), (5, .inl (0, 29))], [(.inr (.inl (53, 53)), some (.inl 0)), (.inl (0, 29), some (.inl 5)), (.inr (.inl (60, 60)), none)]), (1305, [-15]), 1000000, []),
  (92, ([(0, .inr (.inl (53, 53))), (1, .inl (-2147483648, 2147483647)), (5, .inl (0, 29))], [(.inr (.inl (59, 59)), none), (.inl (0, 29), some (.inl 5)), (.inr (.inl (60, 60)), none)]), (1304, [-15]), 1000000, []),
  (94, ([(0, .inr (.inl (53, 53))), (1, .inl (-2147483648, 2147483647)), (5, .inl (0, 29))], [(.inl (0, 29), some (.inl 5)), (.inr (.inl (59, 59)), none), (.inl (0, 29), some (.inl 5)), (.inr (.inl (60, 60)), none)]), (1303, [-15]), 1000000, []),
  (95, ([(0, .inr (.inl (53, 53))), (1, .inl (-2147483648, 2147483647)), (5, .inl (0, 29))], [(.inl (0, 1), none), (.inl (0, 29), some (.inl 5)), (.inr (.inl (60, 60)), none)]), (1302, [-15]), 1000000, []),
  (96, ([(0, .inr (.inl (53, 53))), (1, .inl (-2147483648, 2147483647)), (5, .inl (0, 29))], []), (1301, [-15]), 1000000, []),
  (99, ([(0, .inr (.inl (53, 53))), (1, .inl (-2147483648, 2147483647)), (5, .inl (1, 30))], []), (1314, [-15]), 1000000, []),
  (102, ([(0, .inr (.inl (53, 53))), (1, .inl (-2147483648, 2147483647))], []), (850, [0]), 1000000, []),
  (103, ([(0, .inr (.inl (53, 53))), (1, .inl (-2147483648, 2147483647))], [(.inr (.inl (53, 53)), some (.inl 0))]), (849, [0]), 1000000, []),
  (106, ([(0, .inr (.inl (53, 53))), (1, .inl (-2147483648, 2147483647))], [(.inl (0, 30), none)]), (848, [0]), 1000000, []),
  (107, ([(0, .inr (.inl (53, 53))), (1, .inl (-2147483648, 2147483647))], [(.inl (1, 1), none), (.inl (0, 30), none)]), (847, [0]), 1000000, []),
  (108, ([(0, .inr (.inl (53, 53))), (1, .inl (-2147483648, 2147483647))], [(.inl (-1, 29), none)]), (846, [0]), 1000000, []),
  (110, ([(0, .inr (.inl (53, 53))), (1, .inl (-2147483648, 2147483647)), (5, .inl (-1, 29))], []), (62, [27]), 1000000, []),
  (112, ([(0, .inr (.inl (53, 53))), (1, .inl (-2147483648, 2147483647)), (5, .inl (-1, 29))], [(.inl (-1, 29), some (.inl 5))]), (61, [27]), 1000000, []),
  (115, ([(0, .inr (.inl (53, 53))), (1, .inl (-2147483648, 2147483647)), (5, .inl (0, 29))], []), (60, [27]), 1000000, []),
  (116, ([(0, .inr (.inl (53, 53))), (1, .inl (-2147483648, 2147483647)), (5, .inl (0, 29))], [(.inr (.inl (53, 53)), some (.inl 0))]), (59, [27]), 1000000, []),
  (119, ([(0, .inr (.inl (53, 53))), (1, .inl (-2147483648, 2147483647)), (5, .inl (0, 29))], [(.inr (.inl (60, 60)), none)]), (58, [27]), 1000000, []),
  (121, ([(0, .inr (.inl (53, 53))), (1, .inl (-2147483648, 2147483647)), (5, .inl (0, 29))], [(.inl (0, 29), some (.inl 5)), (.inr (.inl (60, 60)), none)]), (57, [27]), 1000000, []),
  (122, ([(0, .inr (.inl (53, 53))), (1, .inl (-2147483648, 2147483647)), (5, .inl (0, 29))], [(.inl (0, 1), none)]), (56, [27]), 1000000, []),
  (125, ([(0, .inr (.inl (53, 53))), (1, .inl (-2147483648, 2147483647)), (5, .inl (0, 29))], []), (55, [27]), 1000000, []),
  (126, ([(0, .inr (.inl (53, 53))), (1, .inl (-2147483648, 2147483647)), (5, .inl (0, 29))], [(.inr (.inl (53, 53)), some (.inl 0))]), (54, [27]), 1000000, []),
  (129, ([(0, .inr (.inl (53, 53))), (1, .inl (-2147483648, 2147483647)), (5, .inl (0, 29))], [(.inr (.inl (60, 60)), none)]), (53, [27]), 1000000, []),
  (131, ([(0, .inr (.inl (53, 53))), (1, .inl (-2147483648, 2147483647)), (5, .inl (0, 29))], [(.inl (0, 29), some (.inl 5)), (.inr (.inl (60, 60)), none)]), (52, [27]), 1000000, []),
  (132, ([(0, .inr (.inl (53, 53))), (1, .inl (-2147483648, 2147483647)), (5, .inl (0, 29))], [(.inl (0, 0), none), (.inl (0, 29), some (.inl 5)), (.inr (.inl (60, 60)), none)]), (51, [27]), 1000000, []),
  (133, ([(0, .inr (.inl (53, 53))), (1, .inl (-2147483648, 2147483647)), (5, .inl (0, 29))], []), (50, [27]), 1000000, []),
  (134, ([(0, .inr (.inl (53, 53))), (1, .inl (-2147483648, 2147483647)), (5, .inl (0, 29))], [(.inr (.inl (53, 53)), some (.inl 0))]), (49, [27]), 0, []),
  (137, ([(0, .inr (.inl (53, 53))), (1, .inl (-2147483648, 2147483647)), (5, .inl (0, 29))], []), (48, [27]), 1000000, []),
  (138, ([(0, .inr (.inl (53, 53))), (1, .inl (-2147483648, 2147483647)), (5, .inl (0, 29))], [(.inr (.inl (53, 53)), some (.inl 0))]), (47, [27]), 1000000, []),
  (141, ([(0, .inr (.inl (53, 53))), (1, .inl (-2147483648, 2147483647)), (5, .inl (0, 29))], [(.inr (.inl (60, 60)), none)]), (46, [27]), 1000000, []),
  (143, ([(0, .inr (.inl (53, 53))), (1, .inl (-2147483648, 2147483647)), (5, .inl (0, 29))], [(.inl (0, 29), some (.inl 5)), (.inr (.inl (60, 60)), none)]), (45, [27]), 1000000, []),
  (144, ([(0, .inr (.inl (53, 53))), (1, .inl (-2147483648, 2147483647)), (5, .inl (0, 29))], [(.inr (.inl (53, 53)), some (.inl 0)), (.inl (0, 29), some (.inl 5)), (.inr (.inl (60, 60)), none)]), (44, [27]), 1000000, []),
  (145, ([(0, .inr (.inl (53, 53))), (1, .inl (-2147483648, 2147483647)), (5, .inl (0, 29))], [(.inl (-2147483648, 2147483647), some (.inl 1)), (.inr (.inl (53, 53)), some (.inl 0)), (.inl (0, 29), some (.inl 5)), (.inr (.inl (60, 60)), none)]), (43, [27]), 1, []),
  (148, ([(0, .inr (.inl (53, 53))), (1, .inl (-2147483648, 2147483647)), (5, .inl (0, 29))], [(.inl (0, 1), none), (.inl (0, 29), some (.inl 5)), (.inr (.inl (60, 60)), none)]), (42, [27]), 1000000, []),
  (151, ([(0, .inr (.inl (53, 53))), (1, .inl (-2147483648, 2147483647)), (5, .inl (0, 29))], [(.inl (0, 29), some (.inl 5)), (.inr (.inl (60, 60)), none)]), (41, [27]), 1000000, []),
  (152, ([(0, .inr (.inl (53, 53))), (1, .inl (-2147483648, 2147483647)), (5, .inl (0, 29))], [(.inl (1, 1), none), (.inl (0, 29), some (.inl 5)), (.inr (.inl (60, 60)), none)]), (40, [27]), 1000000, []),
  (155, ([(0, .inr (.inl (53, 53))), (1, .inl (-2147483648, 2147483647)), (5, .inl (0, 29))], [(.inl (0, 29), some (.inl 5)), (.inr (.inl (60, 60)), none)]), (40, [27]), 1000000, []),
  (156, ([(0, .inr (.inl (53, 53))), (1, .inl (-2147483648, 2147483647)), (5, .inl (0, 29))], [(.inl (0, 1), none), (.inl (0, 29), some (.inl 5)), (.inr (.inl (60, 60)), none)]), (39, [27]), 1000000, []),
  (157, ([(0, .inr (.inl (53, 53))), (1, .inl (-2147483648, 2147483647)), (5, .inl (0, 29))], []), (38, [27]), 1000000, []),
  (160, ([(0, .inr (.inl (53, 53))), (1, .inl (-2147483648, 2147483647)), (5, .inl (-1, 28))], []), (63, [27]), 1000000, []),
  (163, ([(0, .inr (.inl (53, 53)))], []), (10, [0]), 2000000, []),
  (217, ([(0, .inr (.inl (53, 53)))], []), (6, [0]), 2000000, [])]
/-- needs stays 0 -/
def rx_X6 (h : rx_H) : Prop := rx_Xm h ∧ rx_gF h 37 12 = 0
def rx_E6 : rx_E := (rx_I0, rx_tab0, fun k => Nat.beq k 44 || Nat.beq k 45, fun k j => Nat.beq k 37 && (Nat.beq j 0 || Nat.beq j 13), fun rt => ∀ id q, rx_rt0 id = some q → rt id = some q)
theorem rx_env_6 : rx_env rx_E6 rx_X6 rx_Fg5 := by
  refine ⟨fun h => (rx_Fg.refl h).g5, fun a b c => rx_Fg5.trans, fun h h' hh hh' hw => ?_⟩
  rcases hw with rfl | ⟨k, c, h1, rfl⟩ | ⟨k, j, ci, fs, v, h1, h2, rfl⟩
  · exact ⟨(rx_Fg.refl _).g5, fun z => z⟩
  · obtain ⟨a, b⟩ := rx_env_g.2.2 h (h.set k c) hh hh' (Or.inr (Or.inl ⟨k, c, h1, rfl⟩))
    have h4 : k = 44 ∨ k = 45 := by
      have h3 : (Nat.beq k 44 || Nat.beq k 45) = true := h1
      simp only [Bool.or_eq_true] at h3
      rcases h3 with h3 | h3
      · exact Or.inl (Nat.eq_of_beq_eq_true h3)
      · exact Or.inr (Nat.eq_of_beq_eq_true h3)
    exact ⟨a.g5, fun z => ⟨b z.1, (rx_gF_of (List.getElem?_set_ne (by omega))).trans z.2⟩⟩
  · have h4 : k = 37 ∧ (j = 0 ∨ j = 13) := by
      have h3 : (Nat.beq k 37 && (Nat.beq j 0 || Nat.beq j 13)) = true := h1
      simp only [Bool.or_eq_true, Bool.and_eq_true] at h3
      refine ⟨Nat.eq_of_beq_eq_true h3.1, ?_⟩
      rcases h3.2 with h5 | h5
      · exact Or.inl (Nat.eq_of_beq_eq_true h5)
      · exact Or.inr (Nat.eq_of_beq_eq_true h5)
    obtain ⟨rfl, h4⟩ := h4
    have e : ∀ z, ¬ z = 37 → (h.set 37 (.inr (ci, fs.set j v)))[z]? = h[z]? := fun z hz => List.getElem?_set_ne (fun y => hz y.symm)
    refine ⟨⟨fun z hz => e z (by omega), rx_gF_setk h2 (by omega), rx_gF_setk h2 (by omega)⟩, fun z => ⟨rx_Xm_z (h := h) (fun q hq => e q (by omega)) z.1, (rx_gF_setk h2 (by omega)).trans z.2⟩⟩
abbrev rx_sp6 (sp : rx_Sp) : Prop := rx_spec rx_cds rx_ms rx_lk0 rx_E6 rx_X6 rx_Fg5 sp
theorem rx_tok_6m {rt : rx_R} (h : rx_tok rx_Em rt) : rx_tok rx_E6 rt := h
theorem rx_q6 {sp : rx_Sp} (H : rx_spr sp) : rx_sp6 sp := H.weak rfl (fun _ h => h) (fun _ h => h.1) (fun h h' hx hx2 hF => ⟨((rx_Fm.fw (rx_Fm_row hF)).g).g5, hx2, (rx_gF_of (hF 37 (by decide))).trans hx.2⟩)
theorem rx_work_6 : rx_sp6 (113, [.inr (.inl (53, 53))], none, 7, 241) := by
  intro rt d w as h ht hd hw has hh hx
  have hd : 7 ≤ d := hd
  have hw : 241 ≤ w := hw
  obtain ⟨v0, as0, rfl, k0, has0⟩ := rx_asin_e has
  have e0 := rx_ref_e k0
  subst e0
  have e1 := rx_asin_nil has0
  subst e1
  obtain ⟨d', rfl⟩ : ∃ d', d = d' + 7 := ⟨d - 7, by omega⟩
  exact (rx_work ht hw hh hx.1).mono (fun v h' p => by
    obtain ⟨rfl, p1, p2, p3⟩ := p
    exact ⟨trivial, p1, ⟨p2, (p3.2 12 (by decide)).trans hx.2⟩, p3.g.g5⟩)
set_option maxRecDepth 100000 in
set_option maxHeartbeats 4000000 in
theorem rx_nd_e {h : rx_H} (hh : rx_hin rx_I0 h) (hx : rx_Xm h) : rx_T rx_cds rx_ms rx_lk0 rt d w 154 217 [(0, .ref 53)] [] h (fun v h' => (rx_gF h' 37 5 = 0 ∧ ∃ x : Int32, v = some (.int x)) ∧ rx_hin rx_I0 h' ∧ rx_Xm h' ∧ rx_Fg5 h h') := by
  refine rx_T.to 2 219 [(0, .ref 53)] [.int 0, .ref 53] h rfl ?_
  refine rx_T.pfF (M := rxm_154) (k := 37) rfl rfl rfl hh rfl rfl rfl (by decide) (by decide) (fun h1 hh1 v1 f1 z1 => ?_)
  refine rx_T.to 1 223 [(0, .ref 53)] [.ref 53] h1 rfl ?_
  refine rx_T.gfF (M := rxm_154) (k := 37) rfl rfl rfl hh1 rfl rfl ?_
  exact rx_T.ret (M := rxm_154) rfl rfl rfl ⟨⟨v1, _, rfl⟩, hh1, rx_Xm_z (h := h) (fun z hz => z1 z (by omega)) hx, ⟨fun z hz => z1 z (by omega), f1 1 (by decide), f1 6 (by decide)⟩⟩
set_option maxRecDepth 100000 in
set_option maxHeartbeats 4000000 in
theorem rx_nd_l {f : Nat} (hf : f ≤ 30) : ∀ (q k : Nat) (h : rx_H) (m : Nat), k + q = f → rx_hin rx_I0 h → rx_Xm h → rx_gF h 37 6 = nI f → rx_gF h 37 12 = nI m → m ≤ k →
    rx_T rx_cds rx_ms rx_lk0 rt d w 154 166 [(5, .int (nI k)), (0, .ref 53)] [] h (fun v h' => (rx_gF h' 37 5 = 0 ∧ ∃ x : Int32, v = some (.int x)) ∧ rx_hin rx_I0 h' ∧ rx_Xm h' ∧ rx_Fg5 h h') := by
  intro q
  induction q with
  | zero =>
    intro k h m hk hh hx ef em hm
    have ek : k = f := by omega
    subst ek
    refine rx_T.to 2 169 [(5, .int (nI k)), (0, .ref 53)] [.ref 53, .int (nI k)] h rfl ?_
    refine rx_T.gfF (M := rxm_154) (k := 37) rfl rfl rfl hh rfl rfl ?_
    rw [ef]
    refine rx_T.op (M := rxm_154) (ins := .if_icmp .ge 40) rfl rfl rfl rfl (rx_b2_t 212 (decide_eq_true (nI_le (Nat.le_refl k) (by omega))) (by decide)) ?_
    refine rx_T.lv [(0, .ref 53)] ((rx_lvl.nil _).cons rfl rfl) ?_
    refine rx_T.to 2 214 [(0, .ref 53)] [.int 0, .ref 53] h rfl ?_
    refine rx_T.pfF (M := rxm_154) (k := 37) rfl rfl rfl hh rfl rfl rfl (by decide) (by decide) (fun h1 hh1 v1 f1 z1 => ?_)
    refine (rx_nd_e hh1 (rx_Xm_z (h := h) (fun z hz => z1 z (by omega)) hx)).mono (fun v h' p => ?_)
    exact ⟨p.1, p.2.1, p.2.2.1, rx_Fg5.trans ⟨fun z hz => z1 z (by omega), f1 1 (by decide), f1 6 (by decide)⟩ p.2.2.2⟩
  | succ q ih =>
    intro k h m hk hh hx ef em hm
    have hkf : k < f := by omega
    refine rx_T.to 2 169 [(5, .int (nI k)), (0, .ref 53)] [.ref 53, .int (nI k)] h rfl ?_
    refine rx_T.gfF (M := rxm_154) (k := 37) rfl rfl rfl hh rfl rfl ?_
    rw [ef]
    refine rx_T.op (M := rxm_154) (ins := .if_icmp .ge 40) rfl rfl rfl rfl (rx_b2_f (decide_eq_false (nI_ge hkf (by omega))) (by decide)) ?_
    refine rx_T.to 1 176 [(5, .int (nI k)), (0, .ref 53)] [.ref 53] h rfl ?_
    refine rx_T.gfr (M := rxm_154) (k := 37) rfl rfl rfl hh rfl rfl ?_
    refine rx_T.to 1 181 [(5, .int (nI k)), (0, .ref 53)] [.int (nI k), .ref 60] h rfl ?_
    refine rx_T.zaR (M := rxm_154) (k := 44) rfl rfl hh rfl (show k < 40 by omega) (by decide) (fun e e1 e2 => ?_)
    refine rx_T.br1 (M := rxm_154) 206 rfl rfl (by decide) (fun _ => ?_) (fun _ => ?_)
    · refine rx_T.to 2 166 [(5, .int ((nI k) + Int32.ofInt 1)), (0, .ref 53)] [] h rfl ?_
      rw [show nI k + Int32.ofInt 1 = nI (k + 1) from nI_1 k]
      exact ih (k + 1) h m (by omega) hh hx ef em (by omega)
    · refine rx_T.to 1 186 [(5, .int (nI k)), (0, .ref 53)] [.ref 53] h rfl ?_
      refine rx_T.gfr (M := rxm_154) (k := 37) rfl rfl rfl hh rfl rfl ?_
      refine rx_T.to 1 190 [(5, .int (nI k)), (0, .ref 53)] [.ref 53, .ref 61] h rfl ?_
      refine rx_T.gfF (M := rxm_154) (k := 37) rfl rfl rfl hh rfl rfl ?_
      rw [em]
      refine rx_T.to 1 195 [(5, .int (nI k)), (0, .ref 53)] [.int (nI k), .int (nI m), .ref 61] h rfl ?_
      refine rx_T.iaW (M := rxm_154) (k := 45) rfl rfl hh rfl (show m < 40 by omega) (by decide) (rxi_lo _) (rxi_hi _) (fun h1 hh1 v1 z1 => ?_)
      have em1 : rx_gF h1 37 12 = nI m := (rx_gF_of (z1 37 (by decide))).trans em
      refine rx_T.to 2 198 [(5, .int (nI k)), (0, .ref 53)] [.ref 53, .ref 53] h1 rfl ?_
      refine rx_T.gfF (M := rxm_154) (k := 37) rfl rfl rfl hh1 rfl rfl ?_
      rw [em1]
      refine rx_T.to 2 203 [(5, .int (nI k)), (0, .ref 53)] [.int ((nI m) + 1), .ref 53] h1 rfl ?_
      rw [show nI m + 1 = nI (m + 1) from nI_1 m]
      refine rx_T.pfF (M := rxm_154) (k := 37) rfl rfl rfl hh1 rfl rfl rfl (by rw [nI_toInt (by omega)]; omega) (by rw [nI_toInt (by omega)]; omega) (fun h2 hh2 v2 f2 z2 => ?_)
      refine rx_T.to 2 166 [(5, .int ((nI k) + Int32.ofInt 1)), (0, .ref 53)] [] h2 rfl ?_
      rw [show nI k + Int32.ofInt 1 = nI (k + 1) from nI_1 k]
      have hx2 := rx_Xm_z (h := h) (fun z hz => by rw [z2 z (by omega), z1 z (by omega)]) hx
      refine (ih (k + 1) h2 (m + 1) (by omega) hh2 hx2 (by rw [f2 6 (by decide), rx_gF_of (z1 37 (by decide))]; exact ef) v2 (by omega)).mono (fun v h' p => ?_)
      exact ⟨p.1, p.2.1, p.2.2.1, rx_Fg5.trans ⟨fun z hz => by rw [z2 z (by omega), z1 z (by omega)], by rw [f2 1 (by decide), rx_gF_of (z1 37 (by decide))], by rw [f2 6 (by decide), rx_gF_of (z1 37 (by decide))]⟩ p.2.2.2⟩
set_option maxRecDepth 100000 in
set_option maxHeartbeats 4000000 in
theorem rx_nd_2 {h : rx_H} {k : Int32} (ht : rx_tok rx_Em rt) (hd : 9 ≤ d) (hw : 282 ≤ w) (hh : rx_hin rx_I0 h) (hx : rx_X6 h) : rx_T rx_cds rx_ms rx_lk0 rt d w 154 58 [(0, .ref 53), (1, .int k)] [] h (fun v h' => (rx_gF h' 37 5 = 0 ∧ (∃ x : Int32, v = some (.int x)) ∧ rx_hin rx_I0 h' ∧ rx_Xm h') ∧ rx_Fg5 h h') := by
  have h1 : rx_sin (rx_alocs 0 [.inr (.inl (53, 53)), .inl (-2147483648, 2147483647)], []) [(0, .ref 53), (1, .int k)] [] := ⟨rx_alocs_in [.inr (.inl (53, 53)), .inl (-2147483648, 2147483647)] [.ref 53, .int k] 0 ⟨⟨53, rfl, Nat.le_refl _, Nat.le_refl _⟩, ⟨k, rfl, rxi_lo _, rxi_hi _⟩, trivial⟩, trivial⟩
  refine rx_keyY (Z := fun v h' => rx_gF h' 37 5 = 0 ∧ (∃ x : Int32, v = some (.int x)) ∧ rx_hin rx_I0 h' ∧ rx_Xm h') (E := rx_E6) (X := rx_X6) (F := rx_Fg5) (post := some (.inl (1, 0))) (sps := [rxna5_0, rxna5_3]) (V := [5]) (tb := rx_nd_b) (D := 8) (W := 261) (mi := 154) (fun v h' z _ _ => ?_) rx_msl rx_env_6 (rx_fc rx_work_6 (rx_fc (rx_q6 rxqc_14) (rx_fn))) (by decide +kernel) (rx_tok_6m ht) (by omega) (by omega) (fun q hq e => ?_) _ List.mem_cons_self _ _ h (rx_sle_in h1 (by decide +kernel)) (fun r hr => by cases hr) hh hx
  · obtain ⟨x, rfl, y, _, y1, y2⟩ := rx_pin_s z
    simp only at y1 y2
    omega
  · intro lv st h2 hs hr hh2 hx2
    have h3 : rx_nd_b.all (fun q => !(Nat.beq q.2.2.2.1 2000000) || ((Nat.beq q.1 163 || Nat.beq q.1 217) && rx_sle (rx_qs q) ([(0, .inr (.inl (53, 53)))], []))) = true := by decide +kernel
    have h4 := List.all_eq_true.mp h3 q hq
    rw [e] at h4
    simp only [Bool.or_eq_true, Bool.and_eq_true] at h4
    rcases h4 with h4 | ⟨h4, h5⟩
    · cases h4
    · have h6 := rx_sle_in hs h5
      obtain ⟨w0, k0, k1⟩ := h6.1 0 _ rfl
      have e3 := rx_ref_e k1
      subst e3
      have e5 := rx_kin_nil h6.2
      subst e5
      refine rx_T.lv [(0, .ref 53)] ((rx_lvl.nil _).cons k0 rfl) ?_
      rcases h4 with h4 | h4
      · have e2 := Nat.eq_of_beq_eq_true h4
        rw [e2]
        have bf := rx_bF (h := h2) (k := 37) (j := 6) hh2 rfl rfl
        obtain ⟨f, ef, hf⟩ := rx_nIof (n := 30) bf.1 bf.2
        refine rx_T.to 2 166 [(5, .int (nI 0)), (0, .ref 53)] [] h2 rfl ?_
        exact (rx_nd_l hf f 0 h2 0 (by omega) hh2 hx2.1 ef hx2.2 (Nat.le_refl _)).mono (fun v h' p => ⟨⟨p.1.1, p.1.2, p.2.1, p.2.2.1⟩, p.2.2.2⟩)
      · have e2 := Nat.eq_of_beq_eq_true h4
        rw [e2]
        exact (rx_nd_e hh2 hx2.1).mono (fun v h' p => ⟨⟨p.1.1, p.1.2, p.2.1, p.2.2.1⟩, p.2.2.2⟩)
set_option maxRecDepth 100000 in
set_option maxHeartbeats 4000000 in
theorem rx_mneeds {h : rx_H} {k : Int32} (ht : rx_tok rx_Em rt) (hd : 9 ≤ d) (hw : 282 ≤ w) (hh : rx_hin rx_I0 h) (hx : rx_Xm h) : rx_T rx_cds rx_ms rx_lk0 rt d w 154 0 [(0, .ref 53), (1, .int k)] [] h (rx_mny1 h) := by
  have h1 : rx_sin (rx_alocs 0 [.inr (.inl (53, 53)), .inl (-2147483648, 2147483647)], []) [(0, .ref 53), (1, .int k)] [] := ⟨rx_alocs_in [.inr (.inl (53, 53)), .inl (-2147483648, 2147483647)] [.ref 53, .int k] 0 ⟨⟨53, rfl, Nat.le_refl _, Nat.le_refl _⟩, ⟨k, rfl, rxi_lo _, rxi_hi _⟩, trivial⟩, trivial⟩
  refine (rx_keyY (Z := fun v h' => rx_gF h' 37 5 = 0 ∧ (∃ x : Int32, v = some (.int x)) ∧ rx_hin rx_I0 h' ∧ rx_Xm h') (E := rx_Eg) (X := rx_Xm) (F := rx_Fg5) (post := some (.inl (1, 0))) (sps := [rxna5_1, rxna5_2, rxna5_4]) (V := [5]) (tb := rx_nd_a) (D := 9) (W := 282) (mi := 154) (fun v h' z _ _ => ?_) rx_msl rx_env_g5 (rx_fc (rx_gto5 (rx_ng rxnc_15)) (rx_fc (rx_gto5 (rx_ng rxnc_13)) (rx_fc (rx_gto5 rx_g_refresh) (rx_fn)))) (by decide +kernel) (rx_tok_gm ht) (by omega) (by omega) (fun q hq e => ?_) _ List.mem_cons_self _ _ h (rx_sle_in h1 (by decide +kernel)) (fun r hr => by cases hr) hh hx).mono (fun v h' p => ?_)
  · obtain ⟨x, rfl, y, _, y1, y2⟩ := rx_pin_s z
    simp only at y1 y2
    omega
  · intro lv st h2 hs hr hh2 hx2
    have h3 : rx_nd_a.all (fun q => !(Nat.beq q.2.2.2.1 2000000) || ((Nat.beq q.1 33 && rx_sle (rx_qs q) ([(0, .inr (.inl (53, 53))), (2, .inl (-2147483648, 2147483647))], [])) || (Nat.beq q.1 53 && rx_sle (rx_qs q) ([(0, .inr (.inl (53, 53))), (1, .inl (-2147483648, 2147483647))], [])))) = true := by decide +kernel
    have h4 := List.all_eq_true.mp h3 q hq
    rw [e] at h4
    simp only [Bool.or_eq_true, Bool.and_eq_true] at h4
    rcases h4 with h4 | ⟨h4, h5⟩ | ⟨h4, h5⟩
    · cases h4
    · have e2 := Nat.eq_of_beq_eq_true h4
      rw [e2]
      have h6 := rx_sle_in hs h5
      obtain ⟨w0, k0, k1⟩ := h6.1 0 _ rfl
      obtain ⟨w2, k2, x2, rfl, _⟩ := h6.1 2 _ rfl
      have e3 := rx_ref_e k1
      subst e3
      have e5 := rx_kin_nil h6.2
      subst e5
      refine rx_T.lv [(0, .ref 53), (2, .int x2)] (((rx_lvl.nil _).cons k2 rfl).cons k0 rfl) ?_
      refine rx_T.to 2 35 [(0, .ref 53), (2, .int x2)] [.int 0, .ref 53] h2 rfl ?_
      refine rx_T.pfF (M := rxm_154) (k := 37) rfl rfl rfl hh2 rfl rfl rfl (by decide) (by decide) (fun h3 hh3 v3 f3 z3 => ?_)
      refine rx_T.to 1 39 [(0, .ref 53), (2, .int x2)] [.int x2] h3 rfl ?_
      refine rx_T.br1 (M := rxm_154) 47 rfl rfl (by decide) (fun _ => ?_) (fun _ => ?_)
      · refine rx_T.to 1 48 [(0, .ref 53), (2, .int x2)] [.int (-1)] h3 rfl ?_
        exact rx_T.ret (M := rxm_154) rfl rfl rfl ⟨⟨v3, ⟨_, rfl⟩, hh3, rx_Xm_z (h := h2) (fun z hz => z3 z (by omega)) hx2⟩, ⟨fun z hz => z3 z (by omega), f3 1 (by decide), f3 6 (by decide)⟩⟩
      · refine rx_T.to 2 48 [(0, .ref 53), (2, .int x2)] [.int (Int8.ofInt (-2)).toInt32] h3 rfl ?_
        exact rx_T.ret (M := rxm_154) rfl rfl rfl ⟨⟨v3, ⟨_, rfl⟩, hh3, rx_Xm_z (h := h2) (fun z hz => z3 z (by omega)) hx2⟩, ⟨fun z hz => z3 z (by omega), f3 1 (by decide), f3 6 (by decide)⟩⟩
    · have e2 := Nat.eq_of_beq_eq_true h4
      rw [e2]
      have h6 := rx_sle_in hs h5
      obtain ⟨w0, k0, k1⟩ := h6.1 0 _ rfl
      obtain ⟨w2, k2, k1', rfl, _⟩ := h6.1 1 _ rfl
      have e3 := rx_ref_e k1
      subst e3
      have e5 := rx_kin_nil h6.2
      subst e5
      refine rx_T.lv [(0, .ref 53), (1, .int k1')] (((rx_lvl.nil _).cons k2 rfl).cons k0 rfl) ?_
      refine rx_T.to 2 55 [(0, .ref 53), (1, .int k1')] [.int 0, .ref 53] h2 rfl ?_
      refine rx_T.pfF (M := rxm_154) (k := 37) rfl rfl rfl hh2 rfl rfl rfl (by decide) (by decide) (fun h3 hh3 v3 f3 z3 => ?_)
      refine (rx_nd_2 ht hd hw hh3 ⟨rx_Xm_z (h := h2) (fun z hz => z3 z (by omega)) hx2, v3⟩).mono (fun v h' p => ⟨p.1, rx_Fg5.trans ⟨fun z hz => z3 z (by omega), f3 1 (by decide), f3 6 (by decide)⟩ p.2⟩)
  · obtain ⟨⟨p1, p2, p3, p4⟩, p5⟩ := p
    exact ⟨p2, p3, p4, p5.1, p5.2.1, p5.2.2, p1⟩
end RXND
