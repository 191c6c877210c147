/-! locals, stacks, ranks -/
theorem rx_kin_e {lv : rx_L} {a : rx_V × rx_K} {s : rx_AS} {st : List Value} (h : rx_kin lv (a :: s) st) : ∃ v r, st = v :: r ∧ rx_vin a.1 v ∧ rx_tin lv a.2 v ∧ rx_kin lv s r := by
  cases st with
  | nil => exact absurd h (fun z => z)
  | cons v r => exact ⟨v, r, rfl, h.1, h.2.1, h.2.2⟩
theorem rx_kin_nil {lv : rx_L} {st : List Value} (h : rx_kin lv [] st) : st = [] := by
  cases st with
  | nil => rfl
  | cons v r => exact absurd h (fun z => z)
theorem rx_lk_f (p : Nat × Value → Bool) (j : Nat) (w : Value) (hp : p (j, w) = true) : ∀ lv : rx_L, rx_lk lv j = some w → rx_lk (lv.filter p) j = some w
  | [], h => by cases h
  | q :: r, h => by
    unfold rx_lk at h ⊢
    by_cases e : (q.1 == j) = true
    · rw [List.find?_cons_of_pos (p := fun q : Nat × Value => q.1 == j) e] at h
      have e2 : q = (j, w) := by
        obtain ⟨a, b⟩ := q
        have h1 : a = j := by simpa using e
        have h2 : b = w := by simpa using h
        rw [h1, h2]
      rw [List.filter_cons_of_pos (by rw [e2]; exact hp), List.find?_cons_of_pos (p := fun q : Nat × Value => q.1 == j) e]
      exact h
    · rw [List.find?_cons_of_neg (p := fun q : Nat × Value => q.1 == j) e] at h
      by_cases ep : p q = true
      · rw [List.filter_cons_of_pos ep, List.find?_cons_of_neg (p := fun q : Nat × Value => q.1 == j) e]
        exact rx_lk_f p j w hp r h
      · rw [List.filter_cons_of_neg ep]
        exact rx_lk_f p j w hp r h
theorem rx_lk_c {q : Nat × Value} {lv : rx_L} {j : Nat} (h : ¬ q.1 = j) : rx_lk (q :: lv) j = rx_lk lv j := by
  unfold rx_lk
  rw [List.find?_cons_of_neg (by simpa using h)]
theorem rx_lk_s (i : Nat) (v : Value) (lv : rx_L) : rx_lk ((i, v) :: lv) i = some v := by
  unfold rx_lk
  rw [List.find?_cons_of_pos (by simp)]
  rfl
theorem rx_lk_s1 {lv : rx_L} {i j : Nat} {v w : Value} (hj : ¬ i = j) (hc : j + 1 = i → ¬ w.category = 2) (h : rx_lk lv j = some w) : rx_lk (rx_s1 lv i v) j = some w := by
  unfold rx_s1
  rw [rx_lk_c hj]
  refine rx_lk_f _ j w ?_ lv h
  simp only [Bool.and_eq_true, Bool.not_eq_true', beq_eq_false_iff_ne, Bool.and_eq_false_iff]
  refine ⟨fun z => hj z.symm, ?_⟩
  by_cases e : j + 1 = i
  · exact Or.inr (by simpa using hc e)
  · exact Or.inl (by simpa using e)
theorem rx_lk_s2 {lv : rx_L} {i j : Nat} {v w : Value} (hj : ¬ i = j) (hj2 : ¬ j = i + 1) (hc : j + 1 = i → ¬ w.category = 2) (h : rx_lk lv j = some w) : rx_lk (rx_s2 lv i v) j = some w := by
  unfold rx_s2
  rw [rx_lk_c hj]
  refine rx_lk_f _ j w ?_ lv h
  simp only [Bool.and_eq_true, Bool.not_eq_true', beq_eq_false_iff_ne, Bool.and_eq_false_iff]
  refine ⟨fun z => hj z.symm, hj2, ?_⟩
  by_cases e : j + 1 = i
  · exact Or.inr (by simpa using hc e)
  · exact Or.inl (by simpa using e)
theorem rx_ag_c {q : Nat × rx_V} {L : rx_AL} {j : Nat} {a : rx_V} (h : rx_ag (q :: L) j = some a) : (q.1 = j ∧ q.2 = a) ∨ (¬ q.1 = j ∧ rx_ag L j = some a) := by
  unfold rx_ag at h
  cases hb : Nat.beq q.1 j with
  | true => rw [hb] at h; exact Or.inl ⟨Nat.eq_of_beq_eq_true hb, Option.some.inj h⟩
  | false => rw [hb] at h; exact Or.inr ⟨Nat.ne_of_beq_eq_false hb, h⟩
theorem rx_kill_ag {L : rx_AL} {i j : Nat} {a : rx_V} (h : rx_ag (rx_kill L i) j = some a) : rx_ag L j = some a ∧ ¬ i = j ∧ (j + 1 = i → rx_isL a = false) := by
  cases i with
  | zero =>
    obtain ⟨h1, h2⟩ := rx_del_ag L 0 j a h
    exact ⟨h2, fun z => h1 z.symm, fun z => by omega⟩
  | succ m =>
    unfold rx_kill at h
    simp only at h
    split at h
    · next b hb =>
      cases hl : rx_isL b with
      | true =>
        rw [hl] at h
        obtain ⟨h1, h2⟩ := rx_del_ag _ _ _ _ h
        obtain ⟨h3, h4⟩ := rx_del_ag _ _ _ _ h2
        exact ⟨h4, fun z => h3 z.symm, fun z => by omega⟩
      | false =>
        rw [hl] at h
        obtain ⟨h1, h2⟩ := rx_del_ag _ _ _ _ h
        refine ⟨h2, fun z => h1 z.symm, fun z => ?_⟩
        have e : j = m := by omega
        subst e
        rw [hb] at h2
        cases h2
        exact hl
    · next hb =>
      obtain ⟨h1, h2⟩ := rx_del_ag _ _ _ _ h
      refine ⟨h2, fun z => h1 z.symm, fun z => ?_⟩
      have e : j = m := by omega
      subst e
      rw [hb] at h2
      cases h2
theorem rx_vin_cat {a : rx_V} {v : Value} (h : rx_vin a v) : v.category = rx_cat2 a := by
  rcases a with p | p | m
  · obtain ⟨x, rfl, _⟩ := h; rfl
  · obtain ⟨x, rfl, _⟩ := h; rfl
  · obtain ⟨x, rfl, _⟩ := h; rfl
theorem rx_vin_c1 {a : rx_V} {v : Value} (h : rx_vin a v) (hl : rx_isL a = false) : v.category = 1 := by
  rw [rx_vin_cat h]
  unfold rx_cat2
  rw [hl]
  rfl
theorem rx_lin_s1 {L : rx_AL} {lv : rx_L} {i : Nat} {a : rx_V} {v : Value} (h : rx_lin L lv) (hv : rx_vin a v) : rx_lin ((i, a) :: rx_kill L i) (rx_s1 lv i v) := by
  intro j b hb
  rcases rx_ag_c hb with ⟨h1, h2⟩ | ⟨h1, h2⟩
  · simp only at h1 h2
    subst h1 h2
    exact ⟨v, rx_lk_s _ _ _, hv⟩
  · obtain ⟨h3, h4, h5⟩ := rx_kill_ag h2
    obtain ⟨w, h6, h7⟩ := h j b h3
    exact ⟨w, rx_lk_s1 h4 (fun z => by rw [rx_vin_c1 h7 (h5 z)]; decide) h6, h7⟩
theorem rx_lin_s2 {L : rx_AL} {lv : rx_L} {i : Nat} {a : rx_V} {v : Value} (h : rx_lin L lv) (hv : rx_vin a v) : rx_lin ((i, a) :: rx_del (rx_kill L i) (i + 1)) (rx_s2 lv i v) := by
  intro j b hb
  rcases rx_ag_c hb with ⟨h1, h2⟩ | ⟨h1, h2⟩
  · simp only at h1 h2
    subst h1 h2
    exact ⟨v, rx_lk_s _ _ _, hv⟩
  · obtain ⟨h0, h2⟩ := rx_del_ag _ _ _ _ h2
    obtain ⟨h3, h4, h5⟩ := rx_kill_ag h2
    obtain ⟨w, h6, h7⟩ := h j b h3
    exact ⟨w, rx_lk_s2 h4 h0 (fun z => by rw [rx_vin_c1 h7 (h5 z)]; decide) h6, h7⟩
theorem rx_near_f {i j : Nat} (h : rx_near i j = false) : ¬ i = j ∧ ¬ j = i + 1 ∧ ¬ j + 1 = i := by
  unfold rx_near at h
  simp only [Bool.or_eq_false_iff] at h
  obtain ⟨⟨h1, h2⟩, h3⟩ := h
  exact ⟨Nat.ne_of_beq_eq_false h1, fun z => Nat.ne_of_beq_eq_false h2 z.symm, fun z => Nat.ne_of_beq_eq_false h3 z.symm⟩
theorem rx_tin_tk {lv lv' : rx_L} {i : Nat} (hk : ∀ (j : Nat) (w : Value), ¬ i = j → ¬ j = i + 1 → ¬ j + 1 = i → rx_lk lv j = some w → rx_lk lv' j = some w) {t : rx_K} {v : Value} (h : rx_tin lv t v) : rx_tin lv' (rx_tk i t) v := by
  unfold rx_tk
  split
  · trivial
  · next j =>
    cases hn : rx_near i j with
    | true => trivial
    | false =>
      obtain ⟨h1, h2, h3⟩ := rx_near_f hn
      exact hk j v h1 h2 h3 h
  · next j =>
    cases hn : rx_near i j with
    | true => trivial
    | false =>
      obtain ⟨h1, h2, h3⟩ := rx_near_f hn
      obtain ⟨x, n, h4, h5, h6⟩ := h
      exact ⟨x, n, hk j _ h1 h2 h3 h4, h5, h6⟩
theorem rx_kin_tks {lv lv' : rx_L} {i : Nat} (hk : ∀ (j : Nat) (w : Value), ¬ i = j → ¬ j = i + 1 → ¬ j + 1 = i → rx_lk lv j = some w → rx_lk lv' j = some w) : ∀ (s : rx_AS) (st : List Value), rx_kin lv s st → rx_kin lv' (rx_tks i s) st
  | [], st, h => by rw [rx_kin_nil h]; trivial
  | a :: s, st, h => by
    obtain ⟨v, r, rfl, h1, h2, h3⟩ := rx_kin_e h
    exact ⟨h1, rx_tin_tk hk h2, rx_kin_tks hk s r h3⟩
def rx_ivl (lv : rx_L) (j : Nat) : Int := match rx_lk lv j with
  | some (.int x) => x.toInt
  | _ => 0
def rx_rv (lv : rx_L) : List Nat → List Int → Int
  | j :: V, c :: cs => c * rx_ivl lv j + rx_rv lv V cs
  | _, _ => 0
theorem rx_lst_le {L : rx_AL} {lv : rx_L} {j : Nat} {c x : Int} (h : rx_lin L lv) (e : rx_lst L j c = some x) : x ≤ c * rx_ivl lv j := by
  unfold rx_lst at e
  cases hc : decide (c = 0) with
  | true =>
    rw [hc] at e
    cases e
    rw [of_decide_eq_true hc, Int.zero_mul]
    exact Int.le_refl _
  | false =>
    rw [hc] at e
    simp only [cond_false] at e
    split at e
    · next lo hi ha =>
      obtain ⟨v, h1, y, rfl, h2, h3⟩ := h j _ ha
      simp only at h2 h3
      have e9 : rx_ivl lv j = y.toInt := by unfold rx_ivl; rw [h1]
      rw [e9]
      cases hb : decide (0 ≤ c) with
      | true =>
        rw [hb] at e
        cases e
        exact Int.mul_le_mul_of_nonneg_left h2 (of_decide_eq_true hb)
      | false =>
        rw [hb] at e
        cases e
        have h4 : c ≤ 0 := by have := of_decide_eq_false hb; omega
        exact Int.mul_le_mul_of_nonpos_left h4 h3
    · cases e
theorem rx_low_le {L : rx_AL} {lv : rx_L} (h : rx_lin L lv) : ∀ (V : List Nat) (cs : List Int) (x : Int), rx_low L V cs = some x → x ≤ rx_rv lv V cs
  | [], cs, x, e => by
    cases e
    unfold rx_rv
    exact Int.le_refl _
  | j :: V, [], x, e => by cases e
  | j :: V, c :: cs, x, e => by
    unfold rx_low at e
    split at e
    · next a b h1 h2 =>
      cases e
      have h3 := rx_lst_le h h1
      have h4 := rx_low_le h V cs b h2
      unfold rx_rv
      omega
    · cases e
/-- what a step does to the locals -/
def rx_uin (A B : rx_AL) (u : rx_U) (lv lv' : rx_L) : Prop := match u with
  | none => lv' = lv
  | some (.inl (i, n)) => rx_ivl lv' i = rx_ivl lv i + n ∧ ∀ j, ¬ i = j → rx_isI A j = true → rx_isI B j = true → rx_ivl lv' j = rx_ivl lv j
  | some (.inr i) => ∀ j, ¬ i = j → rx_isI A j = true → rx_isI B j = true → rx_ivl lv' j = rx_ivl lv j
theorem rx_fl1_le {A B : rx_AL} {u : rx_U} {lv lv' : rx_L} (hu : rx_uin A B u lv lv') (hB : rx_lin B lv') {j : Nat} {c d x : Int} (e : rx_fl1 A B u j c d = some x) : x ≤ c * rx_ivl lv j - d * rx_ivl lv' j := by
  unfold rx_fl1 at e
  cases hc : (decide (c = 0) && decide (d = 0)) with
  | true =>
    rw [hc] at e
    cases e
    simp only [Bool.and_eq_true, decide_eq_true_eq] at hc
    rw [hc.1, hc.2]
    simp
  | false =>
    rw [hc] at e
    simp only [cond_false] at e
    split at e
    · have h1 := rx_lst_le hB e
      have hu : lv' = lv := hu
      subst hu
      rw [Int.sub_mul] at h1
      exact h1
    · next i n =>
      obtain ⟨h2, h3⟩ := hu
      cases hb : Nat.beq i j with
      | true =>
        rw [hb] at e
        have ej := Nat.eq_of_beq_eq_true hb
        subst ej
        obtain ⟨y, h4, h5⟩ := Option.map_eq_some_iff.mp e
        have h1 := rx_lst_le hB h4
        rw [Int.sub_mul] at h1
        rw [h2] at h1 ⊢
        rw [← h5]
        have h6 : c * (rx_ivl lv i + n) = c * rx_ivl lv i + c * n := Int.mul_add _ _ _
        omega
      | false =>
        rw [hb] at e
        simp only [cond_false] at e
        cases hi : (rx_isI A j && rx_isI B j) with
        | true =>
          rw [hi] at e
          have h1 := rx_lst_le hB e
          rw [Int.sub_mul] at h1
          simp only [Bool.and_eq_true] at hi
          rw [h3 j (Nat.ne_of_beq_eq_false hb) hi.1 hi.2] at h1 ⊢
          exact h1
        | false =>
          rw [hi] at e
          cases e
    · next i =>
      cases hb : Nat.beq i j with
      | true =>
        rw [hb] at e
        simp only [cond_true] at e
        cases h0 : decide (c = 0) with
        | true =>
          rw [h0] at e
          have h1 := rx_lst_le hB e
          rw [of_decide_eq_true h0]
          rw [Int.sub_mul] at h1
          simp only [Int.zero_mul] at h1 ⊢
          exact h1
        | false =>
          rw [h0] at e
          cases e
      | false =>
        rw [hb] at e
        simp only [cond_false] at e
        cases hi : (rx_isI A j && rx_isI B j) with
        | true =>
          rw [hi] at e
          have h1 := rx_lst_le hB e
          rw [Int.sub_mul] at h1
          simp only [Bool.and_eq_true] at hi
          rw [hu j (Nat.ne_of_beq_eq_false hb) hi.1 hi.2] at h1 ⊢
          exact h1
        | false =>
          rw [hi] at e
          cases e
theorem rx_fall_le {A B : rx_AL} {u : rx_U} {lv lv' : rx_L} (hu : rx_uin A B u lv lv') (hB : rx_lin B lv') : ∀ (V : List Nat) (cs ds : List Int) (x : Int), rx_fall A B u V cs ds = some x → x ≤ rx_rv lv V cs - rx_rv lv' V ds
  | [], cs, ds, x, e => by
    cases e
    unfold rx_rv
    exact Int.le_refl _
  | j :: V, [], ds, x, e => by cases e
  | j :: V, c :: cs, [], x, e => by cases e
  | j :: V, c :: cs, d :: ds, x, e => by
    unfold rx_fall at e
    split at e
    · next a b h1 h2 =>
      cases e
      have h3 := rx_fl1_le hu hB h1
      have h4 := rx_fall_le hu hB V cs ds b h2
      unfold rx_rv
      omega
    · cases e
theorem rx_lle_in {A B : rx_AL} {lv : rx_L} (h : rx_lin A lv) (e : rx_lle A B = true) : rx_lin B lv := by
  intro i b hb
  have hm : (i, b) ∈ B := by
    clear e h
    induction B with
    | nil => cases hb
    | cons q r ih =>
      rcases rx_ag_c hb with ⟨h1, h2⟩ | ⟨h1, h2⟩
      · obtain ⟨x, y⟩ := q
        simp only at h1 h2
        subst h1 h2
        exact List.mem_cons_self
      · exact List.mem_cons_of_mem _ (ih h2)
  have h1 := List.all_eq_true.mp e (i, b) hm
  simp only at h1
  split at h1
  · next a ha =>
    obtain ⟨v, h2, h3⟩ := h i a ha
    exact ⟨v, h2, rx_vle_in h1 h3⟩
  · cases h1
theorem rx_tle_in {lv : rx_L} {a b : rx_K} {v : Value} (h : rx_tin lv a v) (e : rx_tle a b = true) : rx_tin lv b v := by
  unfold rx_tle at e
  split at e
  · trivial
  · next i =>
    split at e
    · next j =>
      have := Nat.eq_of_beq_eq_true e
      subst this
      exact h
    · cases e
  · next i =>
    split at e
    · next j =>
      have := Nat.eq_of_beq_eq_true e
      subst this
      exact h
    · cases e
theorem rx_kle_in {lv : rx_L} : ∀ (s t : rx_AS) (st : List Value), rx_kle s t = true → rx_kin lv s st → rx_kin lv t st
  | [], [], st, _, h => h
  | [], b :: t, st, e, _ => by cases e
  | a :: s, [], st, e, _ => by cases e
  | a :: s, b :: t, st, e, h => by
    obtain ⟨v, r, rfl, h1, h2, h3⟩ := rx_kin_e h
    unfold rx_kle at e
    simp only [Bool.and_eq_true] at e
    exact ⟨rx_vle_in e.1.1 h1, rx_tle_in h2 e.1.2, rx_kle_in s t r e.2 h3⟩
theorem rx_sle_in {S T : rx_St} {lv : rx_L} {st : List Value} (h : rx_sin S lv st) (e : rx_sle S T = true) : rx_sin T lv st := by
  unfold rx_sle at e
  simp only [Bool.and_eq_true] at e
  exact ⟨rx_lle_in h.1 e.1, rx_kle_in _ _ _ e.2 h.2⟩
