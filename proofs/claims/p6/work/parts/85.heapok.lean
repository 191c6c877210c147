/-! cells under the checker -/
theorem rx_hin_get {I : List rx_I} {h : rx_H} {k : Nat} {ic : rx_I} (hh : rx_hin I h) (hi : I[k]? = some ic) : ∃ c, h[k]? = some c ∧ rx_cin ic c := hh.2 k ic hi
theorem rx_hin_set {I : List rx_I} {h : rx_H} {k : Nat} {ic : rx_I} {c : rx_C} (hh : rx_hin I h) (hi : I[k]? = some ic) (hc : rx_cin ic c) : rx_hin I (h.set k c) := by
  refine ⟨by rw [List.length_set]; exact hh.1, fun j jc hj => ?_⟩
  have hk : k < h.length := by rw [hh.1]; exact (List.getElem?_eq_some_iff.mp hi).1
  by_cases e : j = k
  · subst e
    rw [hi] at hj
    cases hj
    exact ⟨c, List.getElem?_set_self hk, hc⟩
  · rw [List.getElem?_set_ne (Ne.symm e)]
    exact hh.2 j jc hj
theorem rx_ix_in {a b : Int} {n : Nat} {i : Int32} (h : rx_ix a b n = true) (h1 : a ≤ i.toInt) (h2 : i.toInt ≤ b) : vp_in i n ∧ i.toNatClampNeg < n ∧ (i.toNatClampNeg : Int) = i.toInt := by
  unfold rx_ix at h
  simp only [Bool.and_eq_true, decide_eq_true_eq] at h
  have e : i.toNatClampNeg = i.toInt.toNat := rfl
  refine ⟨fun q => ?_, by omega, by omega⟩
  rcases q with q | q
  · have := Int32.lt_iff_toInt_lt.mp q
    have e0 : (0 : Int32).toInt = 0 := rfl
    omega
  · omega
theorem rx_16 {lo : Nat} (h : Nat.ble 16 lo = true) : lo - 16 + 16 = lo := Nat.sub_add_cancel (Nat.le_of_ble_eq_true h)
theorem rx_allj_e {E : rx_E} {w : Bool} {n : Nat} : ∀ (c k : Nat), rx_allj E w n k c = true → ∀ j, k ≤ j → j < k + c → E.1[j]? = some (.inr (.inr (.inl n))) ∧ (w = true → E.2.2.1 j = true)
  | 0, k, _, j, h1, h2 => absurd h2 (by omega)
  | c + 1, k, h, j, h1, h2 => by
    unfold rx_allj at h
    simp only [Bool.and_eq_true] at h
    by_cases e : j = k
    · subst e
      have h3 := h.1
      split at h3
      · next m hm =>
        simp only [Bool.and_eq_true, Bool.or_eq_true, Bool.not_eq_true'] at h3
        have e2 := Nat.eq_of_beq_eq_true h3.1
        subst e2
        refine ⟨hm, fun hw => ?_⟩
        rcases h3.2 with h4 | h4
        · rw [hw] at h4; cases h4
        · exact h4
      · cases h3
    · exact rx_allj_e c (k + 1) h.2 j (by omega) (by omega)
theorem rx_jn_e {E : rx_E} {lo n : Nat} (h : rx_jn E lo = some n) : 16 ≤ lo := by
  unfold rx_jn at h
  split at h
  · obtain ⟨h1, h2⟩ := rx_bif h
    exact Nat.le_of_ble_eq_true h1
  · cases h
theorem rx_nar01 {x : Int32} (h1 : 0 ≤ x.toInt) (h2 : x.toInt ≤ 1) : vp_nar .boolean x = x := by
  have h3 : x = 0 ∨ x = 1 := by
    have h4 : x.toInt = 0 ∨ x.toInt = 1 := by omega
    rcases h4 with h | h
    · exact Or.inl (Int32.toInt_inj.mp h)
    · exact Or.inr (Int32.toInt_inj.mp h)
  rcases h3 with rfl | rfl <;> decide +kernel
section RXC2
variable {E : rx_E} {S : rx_St} {lv : rx_L} {h : rx_H} {su : rx_Su} {pc d w : Nat} {st : List Value} {cds : List (List Value)} {lk : rx_Lk} {rt : rx_R} {M : rx_M}
theorem rx_aial_ok (e : rx_aial E pc S = some su) (ht : rx_tok E rt) (hl : rx_lin S.1 lv) (hk : rx_kin lv S.2 st) (hh : rx_hin E.1 h) : rx_C1 E S lv h (rx_ial rt pc lv st h) su := by
  obtain ⟨L, K⟩ := S
  unfold rx_aial at e
  simp only at e
  split at e
  · next a b t0 lo hi t1 s =>
    obtain ⟨v, r, rfl, ⟨i, rfl, i1, i2⟩, _, hk1⟩ := rx_kin_e hk
    obtain ⟨v, r, rfl, ⟨k, rfl, k1, k2⟩, _, hk2⟩ := rx_kin_e hk1
    obtain ⟨e0, e⟩ := rx_bif e
    have e1 := Nat.eq_of_beq_eq_true e0
    have ek : k = lo := by simp only at k1 k2; omega
    subst ek
    cases hb : Nat.blt k 16 with
    | true =>
      rw [hb] at e
      simp only [cond_true] at e
      split at e
      · next n p q hq =>
        obtain ⟨f1, f2⟩ := rx_bif e
        have hlt : k < 16 := Nat.le_of_ble_eq_true hb
        obtain ⟨f, f3, f4⟩ := ht.2 k n p q hq hlt
        obtain ⟨j1, j2, j3⟩ := rx_ix_in f1 i1 i2
        exact rx_C1.push f2 rfl (rx_ial_i (by unfold rx_ri; rw [if_pos hlt]; exact f3) j1) hl hk2 ⟨_, rfl, (f4 _ j2).1, (f4 _ j2).2⟩ trivial hh
      · cases e
    | false =>
      rw [hb] at e
      simp only [cond_false] at e
      have hge : 16 ≤ k := by
        rcases Nat.lt_or_ge k 16 with z | z
        · exact absurd (Nat.ble_eq_true_of_le z) (by rw [show Nat.ble (k + 1) 16 = Nat.blt k 16 from rfl, hb]; decide)
        · exact z
      split at e
      · next n p q hq =>
        obtain ⟨f1, f2⟩ := rx_bif e
        obtain ⟨c, c1, f, rfl, f4⟩ := rx_hin_get hh hq
        obtain ⟨j1, j2, j3⟩ := rx_ix_in f1 i1 i2
        have c2 : rx_ri rt h k = some (n, f) := by
          have := rx_ri_i (rt := rt) (k := k - 16) c1
          rw [Nat.sub_add_cancel hge] at this
          exact this
        exact rx_C1.push f2 rfl (rx_ial_i c2 j1) hl hk2 ⟨_, rfl, (f4 _ j2).1, (f4 _ j2).2⟩ trivial hh
      · cases e
  · cases e
theorem rx_alal_ok (e : rx_alal E pc S = some su) (hl : rx_lin S.1 lv) (hk : rx_kin lv S.2 st) (hh : rx_hin E.1 h) : rx_C1 E S lv h (rx_lal pc lv st h) su := by
  obtain ⟨L, K⟩ := S
  unfold rx_alal at e
  simp only at e
  split at e
  · next a b t0 lo hi t1 s =>
    obtain ⟨v, r, rfl, ⟨i, rfl, i1, i2⟩, _, hk1⟩ := rx_kin_e hk
    obtain ⟨v, r, rfl, ⟨k, rfl, k1, k2⟩, _, hk2⟩ := rx_kin_e hk1
    split at e
    · next n hn =>
      obtain ⟨e0, e⟩ := rx_bif e
      simp only [Bool.and_eq_true] at e0
      have hge := rx_jn_e hn
      simp only at k1 k2
      obtain ⟨g1, g2⟩ := rx_allj_e _ _ e0.2 (k - 16) (by omega) (by omega)
      obtain ⟨c, c1, f, rfl⟩ := rx_hin_get hh g1
      obtain ⟨j1, j2, j3⟩ := rx_ix_in e0.1 i1 i2
      have c2 : rx_rl h k = some (n, f) := by
        have := rx_rl_i (k := k - 16) c1
        rw [Nat.sub_add_cancel (by omega)] at this
        exact this
      exact rx_C1.push e rfl (rx_lal_i c2 j1) hl hk2 (rx_anyL _) trivial hh
    · cases e
  · cases e
theorem rx_azal_ok (e : rx_azal E pc S = some su) (hl : rx_lin S.1 lv) (hk : rx_kin lv S.2 st) (hh : rx_hin E.1 h) : rx_C1 E S lv h (rx_zal pc lv st h) su := by
  obtain ⟨L, K⟩ := S
  unfold rx_azal at e
  simp only at e
  split at e
  · next a b t0 lo hi t1 s =>
    obtain ⟨v, r, rfl, ⟨i, rfl, i1, i2⟩, _, hk1⟩ := rx_kin_e hk
    obtain ⟨v, r, rfl, ⟨k, rfl, k1, k2⟩, _, hk2⟩ := rx_kin_e hk1
    obtain ⟨e0, e⟩ := rx_bif e
    simp only [Bool.and_eq_true] at e0
    have e1 := Nat.eq_of_beq_eq_true e0.1
    have ek : k = lo := by simp only at k1 k2; omega
    subst ek
    split at e
    · next n hn =>
      obtain ⟨f1, f2⟩ := rx_bif e
      obtain ⟨c, c1, f, rfl, f4⟩ := rx_hin_get hh hn
      obtain ⟨j1, j2, j3⟩ := rx_ix_in f1 i1 i2
      have c2 : rx_rz h k = some (n, f) := by
        have := rx_rz_i (k := k - 16) c1
        rw [rx_16 e0.2] at this
        exact this
      exact rx_C1.push f2 rfl (rx_zal_i c2 j1) hl hk2 ⟨_, rfl, (f4 _ j2).1, (f4 _ j2).2⟩ trivial hh
    · cases e
  · cases e
theorem rx_aqal_ok (e : rx_aqal E pc S = some su) (hl : rx_lin S.1 lv) (hk : rx_kin lv S.2 st) (hh : rx_hin E.1 h) : rx_C1 E S lv h (rx_qal pc lv st h) su := by
  obtain ⟨L, K⟩ := S
  unfold rx_aqal at e
  simp only at e
  split at e
  · next a b t0 lo hi t1 s =>
    obtain ⟨v, r, rfl, ⟨i, rfl, i1, i2⟩, _, hk1⟩ := rx_kin_e hk
    obtain ⟨v, r, rfl, ⟨k, rfl, k1, k2⟩, _, hk2⟩ := rx_kin_e hk1
    obtain ⟨e0, e⟩ := rx_bif e
    simp only [Bool.and_eq_true] at e0
    have e1 := Nat.eq_of_beq_eq_true e0.1
    have ek : k = lo := by simp only at k1 k2; omega
    subst ek
    split at e
    · next n base hn =>
      obtain ⟨f1, f2⟩ := rx_bif e
      obtain ⟨c, c1, f, rfl, f4⟩ := rx_hin_get hh hn
      obtain ⟨j1, j2, j3⟩ := rx_ix_in f1 i1 i2
      have c2 : rx_rq h k = some (n, f) := by
        have h9 := rx_cold_i (k := k - 16) c1
        rw [rx_16 e0.2] at h9
        unfold rx_rq
        rw [h9]
      have ho : rx_qal pc lv (.int i :: .ref k :: r) h = some (pc + 1, lv, .ref (base + i.toNatClampNeg) :: r, h) := by
        unfold rx_qal
        simp only [c2, rx_ok_i j1, if_true, f4 _ j2]
        rfl
      refine rx_C1.push f2 rfl ho hl hk2 ⟨_, rfl, ?_, ?_⟩ trivial hh
      · simp only at i1 i2 ⊢
        omega
      · simp only at i1 i2 ⊢
        omega
    · cases e
  · cases e
theorem rx_aias_ok (e : rx_aias E pc S = some su) (hl : rx_lin S.1 lv) (hk : rx_kin lv S.2 st) (hh : rx_hin E.1 h) : rx_C1 E S lv h (rx_ias pc lv st h) su := by
  obtain ⟨L, K⟩ := S
  unfold rx_aias at e
  simp only at e
  split at e
  · next x y t9 a b t0 lo hi t1 s =>
    obtain ⟨v, r, rfl, ⟨z, rfl, z1, z2⟩, _, hk0⟩ := rx_kin_e hk
    obtain ⟨v, r, rfl, ⟨i, rfl, i1, i2⟩, _, hk1⟩ := rx_kin_e hk0
    obtain ⟨v, r, rfl, ⟨k, rfl, k1, k2⟩, _, hk2⟩ := rx_kin_e hk1
    obtain ⟨e0, e⟩ := rx_bif e
    simp only [Bool.and_eq_true] at e0
    have e1 := Nat.eq_of_beq_eq_true e0.1.1
    have ek : k = lo := by simp only at k1 k2; omega
    subst ek
    split at e
    · next n p q hn =>
      obtain ⟨f1, f2⟩ := rx_bif e
      simp only [Bool.and_eq_true, decide_eq_true_eq] at f1
      obtain ⟨c, c1, f, rfl, f4⟩ := rx_hin_get hh hn
      obtain ⟨j1, j2, j3⟩ := rx_ix_in f1.1.1 i1 i2
      have ho := rx_ias_i (pc := pc) (lv := lv) (r := r) (x := z) c1 j1
      rw [rx_16 e0.1.2] at ho
      refine rx_C1.w _ f2 rfl ho hl hk2 (rx_hin_set hh hn ⟨_, rfl, fun j hj => ?_⟩) (Or.inr (Or.inl ⟨_, _, e0.2, rfl⟩))
      unfold upd
      by_cases ej : j = i.toNatClampNeg
      · rw [if_pos ej]
        simp only at z1 z2
        exact ⟨by omega, by omega⟩
      · rw [if_neg ej]
        exact f4 j hj
    · cases e
  · cases e
theorem rx_azas_ok (e : rx_azas E pc S = some su) (hl : rx_lin S.1 lv) (hk : rx_kin lv S.2 st) (hh : rx_hin E.1 h) : rx_C1 E S lv h (rx_zas pc lv st h) su := by
  obtain ⟨L, K⟩ := S
  unfold rx_azas at e
  simp only at e
  split at e
  · next x y t9 a b t0 lo hi t1 s =>
    obtain ⟨v, r, rfl, ⟨z, rfl, z1, z2⟩, _, hk0⟩ := rx_kin_e hk
    obtain ⟨v, r, rfl, ⟨i, rfl, i1, i2⟩, _, hk1⟩ := rx_kin_e hk0
    obtain ⟨v, r, rfl, ⟨k, rfl, k1, k2⟩, _, hk2⟩ := rx_kin_e hk1
    obtain ⟨e0, e⟩ := rx_bif e
    simp only [Bool.and_eq_true] at e0
    have e1 := Nat.eq_of_beq_eq_true e0.1.1
    have ek : k = lo := by simp only at k1 k2; omega
    subst ek
    split at e
    · next n hn =>
      obtain ⟨f1, f2⟩ := rx_bif e
      simp only [Bool.and_eq_true, decide_eq_true_eq] at f1
      obtain ⟨c, c1, f, rfl, f4⟩ := rx_hin_get hh hn
      obtain ⟨j1, j2, j3⟩ := rx_ix_in f1.1.1 i1 i2
      have ho := rx_zas_i (pc := pc) (lv := lv) (r := r) (x := z) c1 j1
      rw [rx_16 e0.1.2] at ho
      refine rx_C1.w _ f2 rfl ho hl hk2 (rx_hin_set hh hn ⟨_, rfl, fun j hj => ?_⟩) (Or.inr (Or.inl ⟨_, _, e0.2, rfl⟩))
      unfold upd
      by_cases ej : j = i.toNatClampNeg
      · rw [if_pos ej]
        simp only at z1 z2
        rw [rx_nar01 (by omega) (by omega)]
        exact ⟨by omega, by omega⟩
      · rw [if_neg ej]
        exact f4 j hj
    · cases e
  · cases e
theorem rx_alas_ok (e : rx_alas E pc S = some su) (hl : rx_lin S.1 lv) (hk : rx_kin lv S.2 st) (hh : rx_hin E.1 h) : rx_C1 E S lv h (rx_las pc lv st h) su := by
  obtain ⟨L, K⟩ := S
  unfold rx_alas at e
  simp only at e
  split at e
  · next v9 t9 a b t0 lo hi t1 s =>
    obtain ⟨v, r, rfl, hz, _, hk0⟩ := rx_kin_e hk
    obtain ⟨v2, r, rfl, ⟨i, rfl, i1, i2⟩, _, hk1⟩ := rx_kin_e hk0
    obtain ⟨v2, r, rfl, ⟨k, rfl, k1, k2⟩, _, hk2⟩ := rx_kin_e hk1
    split at e
    · next n hn =>
      obtain ⟨e0, e⟩ := rx_bif e
      simp only [Bool.and_eq_true] at e0
      obtain ⟨z, rfl⟩ := rx_isL_e e0.1.1 hz
      have hge := rx_jn_e hn
      simp only at k1 k2
      obtain ⟨g1, g2⟩ := rx_allj_e _ _ e0.2 (k - 16) (by omega) (by omega)
      obtain ⟨c, c1, f, rfl⟩ := rx_hin_get hh g1
      obtain ⟨j1, j2, j3⟩ := rx_ix_in e0.1.2 i1 i2
      have ho := rx_las_i (pc := pc) (lv := lv) (r := r) (x := z) c1 j1
      rw [Nat.sub_add_cancel (by omega)] at ho
      exact rx_C1.w _ e rfl ho hl hk2 (rx_hin_set hh g1 ⟨_, rfl⟩) (Or.inr (Or.inl ⟨_, _, g2 rfl, rfl⟩))
    · cases e
  · cases e
theorem rx_aaln_ok (e : rx_aaln E pc S = some su) (ht : rx_tok E rt) (hl : rx_lin S.1 lv) (hk : rx_kin lv S.2 st) (hh : rx_hin E.1 h) : rx_C1 E S lv h (rx_al rt pc lv st h) su := by
  obtain ⟨L, K⟩ := S
  unfold rx_aaln at e
  simp only at e
  split at e
  · next lo hi t1 s =>
    obtain ⟨v, r, rfl, ⟨k, rfl, k1, k2⟩, _, hk2⟩ := rx_kin_e hk
    simp only at k1 k2
    have key : ∀ n : Nat, rx_aln rt h k = some n → Nat.ble n 2147483647 = true → rx_push (pc + 1) (L, s) (.inl ((n : Int), (n : Int))) none = some su → rx_C1 E (L, (.inr (.inl (lo, hi)), t1) :: s) lv h (rx_al rt pc lv (.ref k :: r) h) su := by
      intro n h1 h2 h3
      have ho : rx_al rt pc lv (.ref k :: r) h = some (pc + 1, lv, .int (Int32.ofNat n) :: r, h) := by
        unfold rx_al
        simp only [h1]
        rfl
      have h4 : (Int32.ofNat n).toInt = n := Int32.toInt_ofNat_of_lt (Nat.lt_of_le_of_lt (Nat.le_of_ble_eq_true h2) (by decide))
      exact rx_C1.push h3 rfl ho hl hk2 ⟨_, rfl, by rw [h4]; exact Int.le_refl _, by rw [h4]; exact Int.le_refl _⟩ trivial hh
    cases hb : Nat.blt lo 16 with
    | true =>
      rw [hb] at e
      simp only [cond_true] at e
      obtain ⟨e0, e⟩ := rx_bif e
      have e1 := Nat.eq_of_beq_eq_true e0
      have ek : k = lo := by omega
      subst ek
      split at e
      · next n p q hq =>
        obtain ⟨f1, f2⟩ := rx_bif e
        have hlt : k < 16 := Nat.le_of_ble_eq_true hb
        obtain ⟨f, f3, f4⟩ := ht.2 k n p q hq hlt
        exact key n (by unfold rx_aln; rw [if_pos hlt, f3]; rfl) f1 f2
      · cases e
    | false =>
      rw [hb] at e
      simp only [cond_false] at e
      split at e
      · next n hn =>
        obtain ⟨e0, e⟩ := rx_bif e
        simp only [Bool.and_eq_true] at e0
        have hge := rx_jn_e hn
        obtain ⟨g1, g2⟩ := rx_allj_e _ _ e0.2 (k - 16) (by omega) (by omega)
        obtain ⟨c, c1, f, rfl⟩ := rx_hin_get hh g1
        refine key n ?_ e0.1 e
        unfold rx_aln rx_cell
        rw [if_neg (by omega), if_neg (by omega), c1]
        rfl
      · cases e
  · cases e
theorem rx_agf_ok {o : Option (Nat × Nat × FieldType × Nat)} (e : rx_agf E o pc S = some su) (hl : rx_lin S.1 lv) (hk : rx_kin lv S.2 st) (hh : rx_hin E.1 h) : rx_C1 E S lv h (rx_gf o pc lv st h) su := by
  obtain ⟨L, K⟩ := S
  unfold rx_agf at e
  simp only at e
  split at e
  · next lo hi t1 s ci k9 ty fl =>
    obtain ⟨v, r, rfl, ⟨k, rfl, k1, k2⟩, _, hk2⟩ := rx_kin_e hk
    obtain ⟨e0, e⟩ := rx_bif e
    simp only [Bool.and_eq_true] at e0
    have e1 := Nat.eq_of_beq_eq_true e0.1
    have ek : k = lo := by simp only at k1 k2; omega
    subst ek
    split at e
    · next cj fs hc =>
      obtain ⟨f1, e2⟩ := rx_bif e
      clear e
      have ec := Nat.eq_of_beq_eq_true f1
      subst ec
      split at e2
      · next a ha =>
        obtain ⟨c, c1, vs, rfl, c2, c3⟩ := rx_hin_get hh hc
        obtain ⟨v, c4, c5⟩ := c3 k9 a ha
        have ho := rx_gf_i (pc := pc) (lv := lv) (r := r) (o := some (cj, k9, ty, fl)) rfl c1 c4
        rw [rx_16 e0.2] at ho
        exact rx_C1.push e2 rfl ho hl hk2 c5 trivial hh
      · cases e2
    · cases e
  · cases e
theorem rx_apf_ok {ini : Bool} {o : Option (Nat × Nat × FieldType × Nat)} (e : rx_apf E o pc S = some su) (hl : rx_lin S.1 lv) (hk : rx_kin lv S.2 st) (hh : rx_hin E.1 h) : rx_C1 E S lv h (rx_pf ini o pc lv st h) su := by
  obtain ⟨L, K⟩ := S
  unfold rx_apf at e
  simp only at e
  split at e
  · next x t9 lo hi t1 s ci k9 ty fl =>
    obtain ⟨z, r, rfl, hz, _, hk1⟩ := rx_kin_e hk
    obtain ⟨v, r, rfl, ⟨k, rfl, k1, k2⟩, _, hk2⟩ := rx_kin_e hk1
    obtain ⟨e0, e1⟩ := rx_bif e
    clear e
    simp only [Bool.and_eq_true] at e0
    obtain ⟨⟨⟨⟨a1, a2⟩, a3⟩, a4⟩, a5⟩ := e0
    have e8 := Nat.eq_of_beq_eq_true a1
    have ek : k = lo := by simp only at k1 k2; omega
    subst ek
    have ef := Nat.eq_of_beq_eq_true a3
    subst ef
    split at e1
    · next cj fs hc =>
      obtain ⟨f1, e2⟩ := rx_bif e1
      clear e1
      have ec := Nat.eq_of_beq_eq_true f1
      subst ec
      split at e2
      · next a ha =>
        obtain ⟨f2, e3⟩ := rx_bif e2
        obtain ⟨c, c1, vs, rfl, c2, c3⟩ := rx_hin_get hh hc
        have hkl : k9 < vs.length := by rw [c2]; exact (List.getElem?_eq_some_iff.mp ha).1
        have hfit : rx_fit ty z = true := by
          unfold rx_afit at a4
          split at a4
          · next p =>
            obtain ⟨y, rfl, _⟩ := hz
            rfl
          · next lo hi =>
            obtain ⟨y, rfl, y1, y2⟩ := hz
            simp only [Bool.and_eq_true, decide_eq_true_eq] at a4
            simp only at y1 y2
            have h4 : y.toInt = 0 ∨ y.toInt = 1 := by omega
            rcases h4 with h5 | h5
            · have : y = 0 := Int32.toInt_inj.mp h5
              subst this
              rfl
            · have : y = 1 := Int32.toInt_inj.mp h5
              subst this
              rfl
          · cases a4
        have ho := rx_pf_i (pc := pc) (lv := lv) (r := r) (ini := ini) (o := some (cj, k9, ty, 0)) rfl c1 hkl hfit (Or.inl rfl)
        rw [rx_16 a2] at ho
        refine rx_C1.w _ e3 rfl ho hl hk2 (rx_hin_set hh hc ⟨_, rfl, by rw [List.length_set]; exact c2, fun m b hb => ?_⟩) (Or.inr (Or.inr ⟨_, _, _, _, _, a5, c1, rfl⟩))
        by_cases em : m = k9
        · subst em
          rw [ha] at hb
          cases hb
          exact ⟨z, List.getElem?_set_self hkl, rx_vle_in f2 hz⟩
        · rw [List.getElem?_set_ne (Ne.symm em)]
          exact c3 m b hb
      · cases e2
    · cases e1
  · cases e
end RXC2
