/-! a step of the checker is a step of the machine -/
def rx_wr (E : rx_E) (h h' : rx_H) : Prop := h' = h ∨ (∃ (k : Nat) (c : rx_C), E.2.2.1 k = true ∧ h' = h.set k c) ∨ (∃ (k j ci : Nat) (fs : List Value) (v : Value), E.2.2.2.1 k j = true ∧ h[k]? = some (.inr (ci, fs)) ∧ h' = h.set k (.inr (ci, fs.set j v)))
def rx_tok (E : rx_E) (rt : rx_R) : Prop := E.2.2.2.2 rt ∧ ∀ (id n : Nat) (p q : Int), E.2.1 id = some (n, p, q) → id < 16 → ∃ f : Nat → Int32, rt id = some (n, f) ∧ ∀ j, j < n → p ≤ (f j).toInt ∧ (f j).toInt ≤ q
def rx_C1 (E : rx_E) (S : rx_St) (lv : rx_L) (h : rx_H) (o : Option rx_N) (su : rx_Su) : Prop := ∃ q : rx_N, o = some q ∧ (∃ s ∈ su, s.1 = q.1 ∧ rx_sin s.2.1 q.2.1 q.2.2.1 ∧ rx_uin S.1 s.2.1.1 s.2.2 lv q.2.1) ∧ rx_hin E.1 q.2.2.2 ∧ rx_wr E h q.2.2.2
section RXC
variable {E : rx_E} {S T : rx_St} {lv : rx_L} {h : rx_H} {o : Option rx_N} {su : rx_Su} {pc pc' : Nat} {st r : List Value} {a : rx_V} {t : rx_K} {v : Value} {s : rx_AS}
theorem rx_C1.push (e : rx_push pc' T a t = some su) (hT : T.1 = S.1) (ho : o = some (pc', lv, v :: r, h)) (hl : rx_lin S.1 lv) (hk : rx_kin lv T.2 r) (hv : rx_vin a v) (ht : rx_tin lv t v) (hh : rx_hin E.1 h) : rx_C1 E S lv h o su := by
  unfold rx_push at e
  cases e
  exact ⟨_, ho, ⟨_, List.mem_cons_self, rfl, ⟨by rw [hT]; exact hl, hv, ht, hk⟩, rfl⟩, hh, Or.inl rfl⟩
theorem rx_C1.one (e : rx_1 pc' T = some su) (hT : T.1 = S.1) (ho : o = some (pc', lv, r, h)) (hl : rx_lin S.1 lv) (hk : rx_kin lv T.2 r) (hh : rx_hin E.1 h) : rx_C1 E S lv h o su := by
  unfold rx_1 at e
  cases e
  exact ⟨_, ho, ⟨_, List.mem_cons_self, rfl, ⟨by rw [hT]; exact hl, hk⟩, rfl⟩, hh, Or.inl rfl⟩
theorem rx_C1.w (h' : rx_H) (e : rx_1 pc' T = some su) (hT : T.1 = S.1) (ho : o = some (pc', lv, r, h')) (hl : rx_lin S.1 lv) (hk : rx_kin lv T.2 r) (hh : rx_hin E.1 h') (hw : rx_wr E h h') : rx_C1 E S lv h o su := by
  unfold rx_1 at e
  cases e
  exact ⟨_, ho, ⟨_, List.mem_cons_self, rfl, ⟨by rw [hT]; exact hl, hk⟩, rfl⟩, hh, hw⟩
theorem rx_ivl_s1 {i j : Nat} (hl : rx_lin S.1 lv) (hj : ¬ i = j) (hi : rx_isI S.1 j = true) : rx_ivl (rx_s1 lv i v) j = rx_ivl lv j := by
  unfold rx_isI at hi
  split at hi
  · next p hp =>
    obtain ⟨w, h1, x, rfl, _⟩ := hl j _ hp
    unfold rx_ivl
    rw [h1, rx_lk_s1 (w := .int x) hj (fun _ => (by decide : ¬ (1 : Nat) = 2)) h1]
  · cases hi
theorem rx_ivl_s2 {i j : Nat} (hl : rx_lin S.1 lv) (hj : ¬ i = j) (hj2 : ¬ j = i + 1) (hi : rx_isI S.1 j = true) : rx_ivl (rx_s2 lv i v) j = rx_ivl lv j := by
  unfold rx_isI at hi
  split at hi
  · next p hp =>
    obtain ⟨w, h1, x, rfl, _⟩ := hl j _ hp
    unfold rx_ivl
    rw [h1, rx_lk_s2 (w := .int x) hj hj2 (fun _ => (by decide : ¬ (1 : Nat) = 2)) h1]
  · cases hi
theorem rx_kd0 (h : Nat.beq (rx_kd a) 0 = true) (hv : rx_vin a v) : ∃ x, v = .int x := by
  rcases a with p | p | m
  · obtain ⟨x, rfl, _⟩ := hv; exact ⟨x, rfl⟩
  · cases h
  · cases h
theorem rx_kd1 (h : Nat.beq (rx_kd a) 1 = true) (hv : rx_vin a v) : ∃ x, v = .long x := by
  rcases a with p | p | m
  · cases h
  · cases h
  · obtain ⟨x, rfl, _⟩ := hv; exact ⟨x, rfl⟩
theorem rx_kd2 (h : Nat.beq (rx_kd a) 2 = true) (hv : rx_vin a v) : ∃ x, v = .ref x := by
  rcases a with p | p | m
  · cases h
  · obtain ⟨x, rfl, _⟩ := hv; exact ⟨x, rfl⟩
  · cases h
theorem rx_isL_e (h : rx_isL a = true) (hv : rx_vin a v) : ∃ x, v = .long x := by
  rcases a with p | p | m
  · cases h
  · cases h
  · obtain ⟨x, rfl, _⟩ := hv; exact ⟨x, rfl⟩
theorem rx_ald_ok {i k : Nat} (e : rx_ald i pc' k S = some su) (hl : rx_lin S.1 lv) (hk : rx_kin lv S.2 st) (hh : rx_hin E.1 h) (ho : ∀ w, rx_lk lv i = some w → (∀ a, rx_vin a w → Nat.beq (rx_kd a) k = true → o = some (pc', lv, w :: st, h))) : rx_C1 E S lv h o su := by
  unfold rx_ald at e
  split at e
  · next b hb =>
    obtain ⟨h1, h2⟩ := rx_bif e
    obtain ⟨w, h3, h4⟩ := hl i b hb
    exact rx_C1.push h2 rfl (ho w h3 b h4 h1) hl hk h4 h3 hh
  · cases e
theorem rx_ast_ok {nL i k : Nat} (hk1 : ¬ k = 1) (e : rx_ast nL i pc' k S = some su) (hl : rx_lin S.1 lv) (hk : rx_kin lv S.2 st) (hh : rx_hin E.1 h) (ho : ∀ w q, st = w :: q → i < nL → (∀ a, rx_vin a w → Nat.beq (rx_kd a) k = true → o = some (pc', rx_s1 lv i w, q, h))) : rx_C1 E S lv h o su := by
  obtain ⟨L, K⟩ := S
  unfold rx_ast at e
  simp only at e
  split at e
  · next b t0 s0 =>
    obtain ⟨h1, h2⟩ := rx_bif e
    simp only [Bool.and_eq_true] at h1
    have hb : Nat.beq k 1 = false := by
      cases hz : Nat.beq k 1 with
      | false => rfl
      | true => exact absurd (Nat.eq_of_beq_eq_true hz) hk1
    rw [hb] at h1 h2
    simp only [cond_false] at h1 h2
    obtain ⟨w, q, rfl, h3, h4, h5⟩ := rx_kin_e hk
    cases h2
    refine ⟨_, ho w q rfl (Nat.le_of_ble_eq_true h1.2) b h3 h1.1, ⟨_, List.mem_cons_self, rfl, ⟨rx_lin_s1 hl h3, rx_kin_tks (fun j x a1 a2 a3 a4 => rx_lk_s1 a1 (fun z => absurd z a3) a4) s0 q h5⟩, fun j a1 a2 _ => rx_ivl_s1 hl a1 a2⟩, hh, Or.inl rfl⟩
  · cases e
theorem rx_ast1_ok {nL i : Nat} (e : rx_ast nL i pc' 1 S = some su) (hl : rx_lin S.1 lv) (hk : rx_kin lv S.2 st) (hh : rx_hin E.1 h) (ho : ∀ w q, st = w :: q → i + 1 < nL → (∀ a, rx_vin a w → Nat.beq (rx_kd a) 1 = true → o = some (pc', rx_s2 lv i w, q, h))) : rx_C1 E S lv h o su := by
  obtain ⟨L, K⟩ := S
  unfold rx_ast at e
  simp only at e
  split at e
  · next b t0 s0 =>
    obtain ⟨h1, h2⟩ := rx_bif e
    simp only [Bool.and_eq_true] at h1
    obtain ⟨w, q, rfl, h3, h4, h5⟩ := rx_kin_e hk
    cases h2
    refine ⟨_, ho w q rfl (Nat.le_of_ble_eq_true h1.2) b h3 h1.1, ⟨_, List.mem_cons_self, rfl, ⟨rx_lin_s2 hl h3, rx_kin_tks (fun j x a1 a2 a3 a4 => rx_lk_s2 a1 a2 (fun z => absurd z a3) a4) s0 q h5⟩, ?_⟩, hh, Or.inl rfl⟩
    intro j a1 a2 a3
    by_cases ej : j = i + 1
    · subst ej
      unfold rx_isI at a3
      split at a3
      · next p hp =>
        rcases rx_ag_c hp with ⟨b1, b2⟩ | ⟨b1, b2⟩
        · exact absurd b1 a1
        · exact absurd rfl (rx_del_ag _ _ _ _ b2).1
      · cases a3
    · exact rx_ivl_s2 hl a1 ej a2
  · cases e
end RXC
