/-! what is known of the cells of both objects at all times -/
def rx_I0 : List rx_I := [.inl (0, [.inr (.inl (17, 17)), .inr (.inl (20, 20)), .inr (.inl (21, 21)), .inl (0, 30), .inl (-2147483648, 2147483647), .inl (-2147483648, 2147483647), .inl (-2147483648, 2147483647), .inl (0, 8)]),
  .inl (1, [.inr (.inl (18, 18)), .inr (.inl (19, 19)), .inl (0, 7)]),
  .inr (.inl (8, -1000, 1000)),
  .inr (.inl (8, -1000, 1000)),
  .inr (.inl (30, -2147483648, 2147483647)),
  .inl (2, [.inr (.inl (17, 17)), .inr (.inl (20, 20)), .inr (.inl (51, 51)), .inr (.inl (22, 22)), .inr (.inl (46, 46)), .inr (.inl (47, 47)), .inr (.inl (48, 48)), .inr (.inl (49, 49)), .inr (.inl (50, 50)), .inl (0, 679), .inl (0, 1), .inl (-1, 7), .inl (-2147483648, 2147483647)]),
  .inl (3, [.inr (.inl (23, 23)), .inr (.inl (45, 45)), .inl (-2147483648, 2147483647), .inl (0, 1)]),
  .inr (.inr (.inr (.inr (21, 24)))),
  .inr (.inr (.inl 22)),
  .inr (.inr (.inl 22)),
  .inr (.inr (.inl 22)),
  .inr (.inr (.inl 22)),
  .inr (.inr (.inl 22)),
  .inr (.inr (.inl 22)),
  .inr (.inr (.inl 22)),
  .inr (.inr (.inl 22)),
  .inr (.inr (.inl 22)),
  .inr (.inr (.inl 22)),
  .inr (.inr (.inl 22)),
  .inr (.inr (.inl 22)),
  .inr (.inr (.inl 22)),
  .inr (.inr (.inl 22)),
  .inr (.inr (.inl 22)),
  .inr (.inr (.inl 22)),
  .inr (.inr (.inl 22)),
  .inr (.inr (.inl 22)),
  .inr (.inr (.inl 22)),
  .inr (.inr (.inl 22)),
  .inr (.inr (.inl 22)),
  .inr (.inr (.inl 22)),
  .inr (.inl (21, -2147483648, 2147483647)),
  .inr (.inl (21, 0, 20)),
  .inr (.inl (21, 0, 20)),
  .inr (.inl (256, -2147483648, 2147483647)),
  .inr (.inl (679, -2147483648, 2147483647)),
  .inl (4, [.inr (.inl (17, 17)), .inr (.inl (52, 52)), .inl (0, 679)]),
  .inr (.inl (679, -2147483648, 2147483647)),
  .inl (5, [.inl (0, 0), .inl (0, 7), .inr (.inl (54, 54)), .inr (.inl (55, 55)), .inr (.inl (56, 56)), .inl (0, 8), .inl (0, 30), .inr (.inl (57, 57)), .inr (.inl (58, 58)), .inr (.inl (59, 59)), .inr (.inl (60, 60)), .inr (.inl (61, 61)), .inl (0, 30), .inl (0, 1), .inr (.inl (62, 62)), .inr (.inl (63, 63)), .inr (.inl (64, 64)), .inl (0, 1), .inr (.inl (65, 65)), .inl (0, 21), .inl (0, 1), .inr (.inl (66, 66)), .inr (.inl (67, 67)), .inr (.inl (68, 68)), .inr (.inl (69, 69)), .inr (.inl (70, 70)), .inr (.inl (71, 71)), .inr (.inl (72, 72)), .inr (.inl (73, 73)), .inr (.inl (74, 74)), .inr (.inl (75, 75)), .inr (.inl (76, 76)), .inl (0, 443), .inl (-2147483648, 2147483647)]),
  .inr (.inl (12, -1000, 1000)),
  .inr (.inl (12, -1000, 1000)),
  .inr (.inl (8, 0, 6)),
  .inr (.inl (40, -2147483648, 2147483647)),
  .inr (.inl (320, 0, 6)),
  .inr (.inr (.inr (.inl 40))),
  .inr (.inr (.inr (.inl 40))),
  .inr (.inl (40, -2147483648, 2147483647)),
  .inr (.inl (144, -2147483648, 2147483647)),
  .inr (.inl (1728, -2147483648, 2147483647)),
  .inr (.inl (144, -2147483648, 2147483647)),
  .inr (.inl (144, 0, 20)),
  .inr (.inr (.inl 484)),
  .inr (.inr (.inr (.inl 22))),
  .inr (.inr (.inl 22)),
  .inr (.inr (.inl 22)),
  .inr (.inr (.inl 484)),
  .inr (.inr (.inr (.inl 22))),
  .inr (.inl (144, 0, 20)),
  .inr (.inl (22, 0, 21)),
  .inr (.inr (.inl 10000)),
  .inr (.inl (441, -2147483648, 2147483647)),
  .inr (.inl (2048, -1, 442))]
def rx_tab0 : Nat → Option (Nat × Int × Int) := fun id => match id with
  | 1 => some (7, 3, 8)
  | 2 => some (21, 3, 96)
  | 3 => some (35, 7, 112)
  | 4 => some (64, 0, 20)
  | _ => none
def rx_Ex : rx_E := (rx_I0, rx_tab0, fun k => (Nat.ble 8 k && Nat.ble k 34) || Nat.beq k 36, fun k j => (Nat.beq k 5 && Nat.ble 9 j) || (Nat.beq k 6 && Nat.ble 2 j) || (Nat.beq k 35 && Nat.beq j 2), fun rt => ∀ id q, rx_rt0 id = some q → rt id = some q)
/-- the class's frame: the figure, the hypotheses, the reference stay -/
def rx_Fx (h h' : rx_H) : Prop := ∀ k : Nat, k < 5 ∨ 37 ≤ k → h'[k]? = h[k]?
theorem rx_env_x : rx_env rx_Ex (fun _ => True) rx_Fx := by
  refine ⟨fun h k _ => rfl, fun a b c h1 h2 k hk => (h2 k hk).trans (h1 k hk), fun h h' _ _ hw => ⟨?_, fun _ => trivial⟩⟩
  rcases hw with rfl | ⟨k, c, h1, rfl⟩ | ⟨k, j, ci, fs, v, h1, h2, rfl⟩
  · exact fun k _ => rfl
  · intro q hq
    have h2 : (8 ≤ k ∧ k ≤ 34) ∨ k = 36 := by
      have h3 : ((Nat.ble 8 k && Nat.ble k 34) || Nat.beq k 36) = true := h1
      simp only [Bool.or_eq_true, Bool.and_eq_true] at h3
      rcases h3 with h3 | h3
      · exact Or.inl ⟨Nat.le_of_ble_eq_true h3.1, Nat.le_of_ble_eq_true h3.2⟩
      · exact Or.inr (Nat.eq_of_beq_eq_true h3)
    exact List.getElem?_set_ne (by omega)
  · intro q hq
    have h4 : k = 5 ∨ k = 6 ∨ k = 35 := by
      have h3 : ((Nat.beq k 5 && Nat.ble 9 j) || (Nat.beq k 6 && Nat.ble 2 j) || (Nat.beq k 35 && Nat.beq j 2)) = true := h1
      simp only [Bool.or_eq_true, Bool.and_eq_true] at h3
      rcases h3 with (h3 | h3) | h3
      · exact Or.inl (Nat.eq_of_beq_eq_true h3.1)
      · exact Or.inr (Or.inl (Nat.eq_of_beq_eq_true h3.1))
      · exact Or.inr (Or.inr (Nat.eq_of_beq_eq_true h3.1))
    exact List.getElem?_set_ne (by omega)
theorem rx_tok_x (L : Nat) (xs : Nat → Int32) : rx_tok rx_Ex (rx_rt L xs) := by
  refine ⟨rx_rt0_in L xs, fun id n p q h _ => ?_⟩
  have h : rx_tab0 id = some (n, p, q) := h
  unfold rx_tab0 at h
  split at h
  · cases h; exact ⟨_, rfl, by decide +kernel⟩
  · cases h; exact ⟨_, rfl, by decide +kernel⟩
  · cases h; exact ⟨_, rfl, by decide +kernel⟩
  · cases h; exact ⟨_, rfl, by decide +kernel⟩
  · cases h
theorem rx_msl : rx_ms.length ≤ 1000 := by decide +kernel
abbrev rx_spx (sp : rx_Sp) : Prop := rx_spec rx_cds rx_ms rx_lk0 rx_Ex (fun _ => True) rx_Fx sp
