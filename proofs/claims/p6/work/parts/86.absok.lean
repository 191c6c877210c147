section RXC3
variable {E : rx_E} {S : rx_St} {lv : rx_L} {h : rx_H} {su : rx_Su} {pc d w D W : Nat} {st : List Value} {cds : List (List Value)} {lk : rx_Lk} {rt : rx_R} {M : rx_M}
theorem rx_ain_ok {nL i : Nat} {n : Int} (e : rx_ain nL i n pc S = some su) (hl : rx_lin S.1 lv) (hk : rx_kin lv S.2 st) (hh : rx_hin E.1 h) : rx_C1 E S lv h (rx_in nL i n pc lv st h) su := by
  unfold rx_ain at e
  split at e
  · next a b hab =>
    obtain ⟨e0, e⟩ := rx_bif e
    simp only [Bool.and_eq_true] at e0
    obtain ⟨e1, e2⟩ := e0
    obtain ⟨v, h1, x, rfl, h2, h3⟩ := hl i _ hab
    simp only at h2 h3
    have f2 := rx_fits_e e2
    have en : (Int32.ofInt n).toInt = n := Int32.toInt_ofInt_of_le (by omega) (by omega)
    have ho : rx_in nL i n pc lv st h = some (pc + 3, rx_s1 lv i (.int (x + Int32.ofInt n)), st, h) := by
      unfold rx_in
      rw [h1]
      exact if_pos (Nat.le_of_ble_eq_true e1)
    cases hf : rx_fits (a + n) (b + n) with
    | true =>
      rw [hf] at e
      have f3 := rx_fits_e hf
      have ea : (x + Int32.ofInt n).toInt = x.toInt + n := by
        rw [rxi_add (a := a) (b := b) (c := n) (d := n) h2 h3 (by omega) (by omega) f3.1 f3.2, en]
      cases e
      refine ⟨_, ho, ⟨_, List.mem_cons_self, rfl, ⟨rx_lin_s1 hl ⟨_, rfl, by rw [ea]; simp only; omega, by rw [ea]; simp only; omega⟩, rx_kin_tks (fun j y a1 a2 a3 a4 => rx_lk_s1 a1 (fun z => absurd z a3) a4) S.2 st hk⟩, ?_, fun j a1 a2 _ => rx_ivl_s1 hl a1 a2⟩, hh, Or.inl rfl⟩
      unfold rx_ivl
      rw [h1]
      show (match rx_lk (rx_s1 lv i (.int (x + Int32.ofInt n))) i with | some (.int y) => y.toInt | _ => 0) = _
      rw [show rx_lk (rx_s1 lv i (.int (x + Int32.ofInt n))) i = some (.int (x + Int32.ofInt n)) from rx_lk_s _ _ _]
      exact ea
    | false =>
      rw [hf] at e
      cases e
      exact ⟨_, ho, ⟨_, List.mem_cons_self, rfl, ⟨rx_lin_s1 hl (rx_full_in _), rx_kin_tks (fun j y a1 a2 a3 a4 => rx_lk_s1 a1 (fun z => absurd z a3) a4) S.2 st hk⟩, fun j a1 a2 _ => rx_ivl_s1 hl a1 a2⟩, hh, Or.inl rfl⟩
  · cases e
theorem rx_lso : ∀ (l : List (Int × Int)) (d k : Int), Op.lookupswitch.offset l d k ∈ d :: l.map (fun q => q.2)
  | [], d, k => List.mem_cons_self
  | (a, o) :: l, d, k => by
    rw [Op.lookupswitch.offset_cons]
    split
    · exact List.mem_cons_of_mem _ List.mem_cons_self
    · rcases List.mem_cons.mp (rx_lso l d k) with h | h
      · rw [h]; exact List.mem_cons_self
      · exact List.mem_cons_of_mem _ (List.mem_cons_of_mem _ h)
theorem rx_a2i_ok {f : Int → Int → Int → Int → rx_V} {g : Int32 → Int32 → Int32} (e : rx_a2i f pc S = some su) (hl : rx_lin S.1 lv) (hk : rx_kin lv S.2 st) (hh : rx_hin E.1 h) (hf : ∀ (x y : Int32) (a b c d : Int), a ≤ x.toInt → x.toInt ≤ b → c ≤ y.toInt → y.toInt ≤ d → rx_vin (f a b c d) (.int (g x y))) : rx_C1 E S lv h (rx_2i g pc lv st h) su := by
  obtain ⟨L, K⟩ := S
  unfold rx_a2i at e
  simp only at e
  split at e
  · next c d t0 a b t1 s =>
    obtain ⟨v, r, rfl, ⟨y, rfl, y1, y2⟩, _, hk1⟩ := rx_kin_e hk
    obtain ⟨v, r, rfl, ⟨x, rfl, x1, x2⟩, _, hk2⟩ := rx_kin_e hk1
    exact rx_C1.push e rfl rfl hl hk2 (hf x y a b c d x1 x2 y1 y2) trivial hh
  · cases e
theorem rx_a2l_ok {g : Int64 → Int64 → Int64} (e : rx_a2l pc S = some su) (hl : rx_lin S.1 lv) (hk : rx_kin lv S.2 st) (hh : rx_hin E.1 h) : rx_C1 E S lv h (rx_2l g pc lv st h) su := by
  obtain ⟨L, K⟩ := S
  unfold rx_a2l at e
  simp only at e
  split at e
  · next a t0 b t1 s =>
    obtain ⟨v, r, rfl, h1, _, hk1⟩ := rx_kin_e hk
    obtain ⟨v2, r, rfl, h2, _, hk2⟩ := rx_kin_e hk1
    obtain ⟨e0, e⟩ := rx_bif e
    simp only [Bool.and_eq_true] at e0
    obtain ⟨y, rfl⟩ := rx_isL_e e0.1 h1
    obtain ⟨x, rfl⟩ := rx_isL_e e0.2 h2
    exact rx_C1.push e rfl rfl hl hk2 (rx_anyL _) trivial hh
  · cases e
theorem rx_adl_ok {g : Int64 → Int64 → Int64} (e : rx_adl pc S = some su) (hl : rx_lin S.1 lv) (hk : rx_kin lv S.2 st) (hh : rx_hin E.1 h) : rx_C1 E S lv h (rx_dl g pc lv st h) su := by
  obtain ⟨L, K⟩ := S
  unfold rx_adl at e
  simp only at e
  split at e
  · next t0 b t1 s =>
    obtain ⟨v, r, rfl, ⟨y, rfl, y1, _⟩, _, hk1⟩ := rx_kin_e hk
    obtain ⟨v2, r, rfl, h2, _, hk2⟩ := rx_kin_e hk1
    obtain ⟨e0, e⟩ := rx_bif e
    obtain ⟨x, rfl⟩ := rx_isL_e e0 h2
    exact rx_C1.push e rfl (if_neg (y1 rfl)) hl hk2 (rx_anyL _) trivial hh
  · cases e
theorem rx_ari_ok {g : Int32 → Int32 → Int32} (e : rx_ari pc S = some su) (hl : rx_lin S.1 lv) (hk : rx_kin lv S.2 st) (hh : rx_hin E.1 h) : rx_C1 E S lv h (rx_dv g pc lv st h) su := by
  obtain ⟨L, K⟩ := S
  unfold rx_ari at e
  simp only at e
  split at e
  · next q t0 q2 t1 s =>
    obtain ⟨v, r, rfl, ⟨y, rfl, y1, _⟩, _, hk1⟩ := rx_kin_e hk
    obtain ⟨v2, r, rfl, ⟨x, rfl, _⟩, _, hk2⟩ := rx_kin_e hk1
    obtain ⟨e0, e⟩ := rx_bif e
    have e1 : 0 < q.1 := of_decide_eq_true e0
    have hy : ¬ y = 0 := fun z => by
      rw [z] at y1
      have : (0 : Int32).toInt = 0 := rfl
      omega
    exact rx_C1.push e rfl (if_neg hy) hl hk2 (rx_full_in _) trivial hh
  · cases e
theorem rx_cmp_in (x y : Int64) : rx_vin (.inl (-1, 1)) (.int (lg_cmp x y)) := by
  unfold lg_cmp
  split
  · exact ⟨_, rfl, by decide, by decide⟩
  · split
    · exact ⟨_, rfl, by decide, by decide⟩
    · exact ⟨_, rfl, by decide, by decide⟩
theorem rx_cmp0 (x : Int64) : lg_cmp x 0 = 0 ↔ x = 0 := by
  unfold lg_cmp
  constructor
  · intro q
    split at q
    · exact absurd q (by decide)
    · split at q
      · next z => exact z
      · exact absurd q (by decide)
  · rintro rfl
    rfl
theorem rx_acm_ok (e : rx_acm pc S = some su) (hl : rx_lin S.1 lv) (hk : rx_kin lv S.2 st) (hh : rx_hin E.1 h) : rx_C1 E S lv h (rx_cm pc lv st h) su := by
  obtain ⟨L, K⟩ := S
  unfold rx_acm at e
  simp only at e
  split at e
  · next t0 b i s =>
    obtain ⟨v, r, rfl, ⟨y, rfl, _, y2⟩, _, hk1⟩ := rx_kin_e hk
    obtain ⟨v2, r, rfl, h2, h3, hk2⟩ := rx_kin_e hk1
    obtain ⟨e0, e⟩ := rx_bif e
    obtain ⟨x, rfl⟩ := rx_isL_e e0 h2
    have := y2 rfl
    subst this
    exact rx_C1.push e rfl rfl hl hk2 (rx_cmp_in _ _) ⟨x, _, h3, rfl, rx_cmp0 x⟩ hh
  · next a t0 b t1 s _ =>
    obtain ⟨v, r, rfl, h1, _, hk1⟩ := rx_kin_e hk
    obtain ⟨v2, r, rfl, h2, _, hk2⟩ := rx_kin_e hk1
    obtain ⟨e0, e⟩ := rx_bif e
    simp only [Bool.and_eq_true] at e0
    obtain ⟨y, rfl⟩ := rx_isL_e e0.1 h1
    obtain ⟨x, rfl⟩ := rx_isL_e e0.2 h2
    exact rx_C1.push e rfl rfl hl hk2 (rx_cmp_in _ _) trivial hh
  · cases e
theorem rx_tg_e {off : Int} {g : Nat} (h : rx_tg pc off = some g) : (pc : Int) + off = (g : Int) := by
  unfold rx_tg at h
  obtain ⟨h1, h2⟩ := rx_bif h
  cases h2
  exact (Int.toNat_of_nonneg (of_decide_eq_true h1)).symm
theorem rx_up_in {L : rx_AL} {t : rx_K} {q : Int × Int} {x : Int32} (hl : rx_lin L lv) (ht : rx_tin lv t (.int x)) (hq : q.1 ≤ x.toInt ∧ x.toInt ≤ q.2) : rx_lin (rx_up L t q) lv := by
  unfold rx_up
  split
  · next i =>
    intro j b hb
    rcases rx_ag_c hb with ⟨h1, h2⟩ | ⟨h1, h2⟩
    · simp only at h1 h2
      subst h1 h2
      exact ⟨_, ht, x, rfl, hq.1, hq.2⟩
    · exact hl j b h2
  · exact hl
theorem rx_upz_in {L : rx_AL} {t : rx_K} {c : ClassFile.Cond} {b : Bool} {x : Int32} (hl : rx_lin L lv) (ht : rx_tin lv t (.int x)) (hc : rx_c1 c x = b) : rx_lin (rx_upz L t c b) lv := by
  have key : ∀ i : Nat, rx_tin lv (some (.inr i)) (.int x) → ¬ x = 0 → rx_lin ((i, .inr (.inr 1)) :: L) lv := by
    intro i ⟨y, n, h1, h2, h3⟩ hx j b hb
    cases h2
    rcases rx_ag_c hb with ⟨h4, h5⟩ | ⟨h4, h5⟩
    · simp only at h4 h5
      subst h4 h5
      exact ⟨_, h1, y, rfl, fun _ z => hx (h3.mpr z), fun z => absurd z (by decide)⟩
    · exact hl j b h5
  unfold rx_upz
  split
  · next i => exact key i ht (of_decide_eq_false hc)
  · next i => exact key i ht (of_decide_eq_true hc)
  · exact hl
theorem rx_rd_mem {g : Nat} {L : rx_AL} {s : rx_AS} {p q : Int × Int} {x y : Int32} (h1 : p.1 ≤ x.toInt ∧ x.toInt ≤ p.2) (h2 : q.1 ≤ y.toInt ∧ y.toInt ≤ q.2) : (g, (L, s), none) ∈ rx_rd g L s p q := by
  unfold rx_rd
  have : (decide (p.1 ≤ p.2) && decide (q.1 ≤ q.2)) = true := by
    simp only [Bool.and_eq_true, decide_eq_true_eq]
    exact ⟨Int.le_trans h1.1 h1.2, Int.le_trans h2.1 h2.2⟩
  rw [this]
  exact List.mem_cons_self
theorem rx_ab1_ok {c : ClassFile.Cond} {off : Int} (e : rx_ab1 c off pc S = some su) (hl : rx_lin S.1 lv) (hk : rx_kin lv S.2 st) (hh : rx_hin E.1 h) : rx_C1 E S lv h (rx_b1 c off pc lv st h) su := by
  obtain ⟨L, K⟩ := S
  unfold rx_ab1 at e
  simp only at e
  split at e
  · next a b t s g hg =>
    obtain ⟨v, r, rfl, ⟨x, rfl, x1, x2⟩, h3, hk1⟩ := rx_kin_e hk
    cases e
    have z0 : (0 : Int) ≤ (0 : Int32).toInt := by decide
    have z1 : (0 : Int32).toInt ≤ (0 : Int) := by decide
    cases hc : rx_c1 c x with
    | true =>
      have hr := rx_rf_in x1 x2 z0 z1 ((rx_c1_2 c x).symm.trans hc)
      exact ⟨_, rx_b1_t g hc (rx_tg_e hg), ⟨_, List.mem_append_left _ (rx_rd_mem hr.1 hr.2), rfl, ⟨rx_upz_in (rx_up_in hl h3 hr.1) h3 hc, hk1⟩, rfl⟩, hh, Or.inl rfl⟩
    | false =>
      have hr := rx_rf_in x1 x2 z0 z1 ((rx_c1_2 c x).symm.trans hc)
      exact ⟨_, rx_b1_f hc (by have := rx_tg_e hg; omega), ⟨_, List.mem_append_right _ (rx_rd_mem hr.1 hr.2), rfl, ⟨rx_upz_in (rx_up_in hl h3 hr.1) h3 hc, hk1⟩, rfl⟩, hh, Or.inl rfl⟩
  · cases e
theorem rx_ab2_ok {c : ClassFile.Cond} {off : Int} (e : rx_ab2 c off pc S = some su) (hl : rx_lin S.1 lv) (hk : rx_kin lv S.2 st) (hh : rx_hin E.1 h) : rx_C1 E S lv h (rx_b2 c off pc lv st h) su := by
  obtain ⟨L, K⟩ := S
  unfold rx_ab2 at e
  simp only at e
  split at e
  · next p q u a b t s g hg =>
    obtain ⟨v, r, rfl, ⟨y, rfl, y1, y2⟩, h4, hk0⟩ := rx_kin_e hk
    obtain ⟨v, r, rfl, ⟨x, rfl, x1, x2⟩, h3, hk1⟩ := rx_kin_e hk0
    cases e
    cases hc : rx_c2 c x y with
    | true =>
      have hr := rx_rf_in x1 x2 y1 y2 hc
      exact ⟨_, rx_b2_t g hc (rx_tg_e hg), ⟨_, List.mem_append_left _ (rx_rd_mem hr.1 hr.2), rfl, ⟨rx_up_in (rx_up_in hl h3 hr.1) h4 hr.2, hk1⟩, rfl⟩, hh, Or.inl rfl⟩
    | false =>
      have hr := rx_rf_in x1 x2 y1 y2 hc
      exact ⟨_, rx_b2_f hc (by have := rx_tg_e hg; omega), ⟨_, List.mem_append_right _ (rx_rd_mem hr.1 hr.2), rfl, ⟨rx_up_in (rx_up_in hl h3 hr.1) h4 hr.2, hk1⟩, rfl⟩, hh, Or.inl rfl⟩
  · cases e
theorem rx_tgs_e {T : rx_St} : ∀ (l : List Int) (su : rx_Su), rx_tgs pc T l = some su → ∀ o ∈ l, ∃ g : Nat, (pc : Int) + o = (g : Int) ∧ (g, T, none) ∈ su
  | [], su, _, o, ho => by cases ho
  | a :: l, su, e, o, ho => by
    unfold rx_tgs at e
    split at e
    · next g l2 h1 h2 =>
      cases e
      rcases List.mem_cons.mp ho with rfl | ho
      · exact ⟨g, rx_tg_e h1, List.mem_cons_self⟩
      · obtain ⟨g2, h3, h4⟩ := rx_tgs_e l l2 h2 o ho
        exact ⟨g2, h3, List.mem_cons_of_mem _ h4⟩
    · cases e
theorem rx_ats_ok {dflt lo hi : Int} {offs : Array Int} (e : rx_ats dflt lo hi offs pc S = some su) (hl : rx_lin S.1 lv) (hk : rx_kin lv S.2 st) (hh : rx_hin E.1 h) : rx_C1 E S lv h (rx_ts dflt lo hi offs pc lv st h) su := by
  obtain ⟨L, K⟩ := S
  unfold rx_ats at e
  simp only at e
  split at e
  · next a b t s =>
    obtain ⟨v, r, rfl, ⟨x, rfl, x1, x2⟩, h3, hk1⟩ := rx_kin_e hk
    obtain ⟨e0, e⟩ := rx_bif e
    have e1 := of_decide_eq_true e0
    by_cases hx : x.toInt < lo ∨ hi < x.toInt
    · obtain ⟨g, h4, h5⟩ := rx_tgs_e _ _ e dflt List.mem_cons_self
      exact ⟨_, rx_tsd_i hx h4, ⟨_, h5, rfl, ⟨hl, hk1⟩, rfl⟩, hh, Or.inl rfl⟩
    · have hlt : (x.toInt - lo).toNat < offs.size := by omega
      have hget : offs[(x.toInt - lo).toNat]? = some offs[(x.toInt - lo).toNat] := Array.getElem?_eq_getElem hlt
      obtain ⟨g, h4, h5⟩ := rx_tgs_e _ _ e offs[(x.toInt - lo).toNat] (List.mem_cons_of_mem _ (Array.getElem_mem_toList hlt))
      exact ⟨_, rx_ts_i hx hget h4, ⟨_, h5, rfl, ⟨hl, hk1⟩, rfl⟩, hh, Or.inl rfl⟩
  · cases e
theorem rx_als_ok {dflt : Int} {ps : Array (Int × Int)} (e : rx_als dflt ps pc S = some su) (hl : rx_lin S.1 lv) (hk : rx_kin lv S.2 st) (hh : rx_hin E.1 h) : rx_C1 E S lv h (rx_ls dflt ps pc lv st h) su := by
  obtain ⟨L, K⟩ := S
  unfold rx_als at e
  simp only at e
  split at e
  · next a b t s =>
    obtain ⟨v, r, rfl, ⟨x, rfl, x1, x2⟩, h3, hk1⟩ := rx_kin_e hk
    obtain ⟨e0, e⟩ := rx_bif e
    obtain ⟨g, h4, h5⟩ := rx_tgs_e _ _ e _ (rx_lso ps.toList dflt x.toInt)
    have ho : rx_ls dflt ps pc lv (.int x :: r) h = some (g, lv, r, h) := by
      unfold rx_ls
      simp only [e0, if_true]
      exact rx_jp_i h4
    exact ⟨_, ho, ⟨_, h5, rfl, ⟨hl, hk1⟩, rfl⟩, hh, Or.inl rfl⟩
  · cases e
theorem rx_cs8_e : ∀ (s : rx_AS) (r : List Value), rx_kin lv s r → (r.map (fun v => v.category)).sum = (s.map (fun q => rx_cat2 q.1)).sum
  | [], r, hk => by rw [rx_kin_nil hk]; rfl
  | a :: s, r, hk => by
    obtain ⟨v, r, rfl, h1, _, h2⟩ := rx_kin_e hk
    simp only [List.map_cons, List.sum_cons]
    rw [rx_vin_cat h1, rx_cs8_e s r h2]
theorem rx_cs8_le {s : rx_AS} {r : List Value} (hk : rx_kin lv s r) (h : rx_cs8 s = true) : (r.map (fun v => v.category)).sum ≤ 8 := by
  rw [rx_cs8_e s r hk]
  exact Nat.le_of_ble_eq_true h
theorem rx_amm_ok4 (e : rx_amm true D W pc S = some su) (hl : rx_lin S.1 lv) (hk : rx_kin lv S.2 st) (hh : rx_hin E.1 h) (hd : D ≤ d) (hw : W ≤ w) : rx_C1 E S lv h (rx_m4 d w pc lv st h) su := by
  obtain ⟨L, K⟩ := S
  unfold rx_amm at e
  simp only at e
  split at e
  · next c d9 t0 a b t1 s =>
    obtain ⟨v, r, rfl, ⟨y, rfl, y1, y2⟩, _, hk1⟩ := rx_kin_e hk
    obtain ⟨v, r, rfl, ⟨x, rfl, x1, x2⟩, _, hk2⟩ := rx_kin_e hk1
    obtain ⟨e0, e⟩ := rx_bif e
    simp only [Bool.and_eq_true] at e0
    have q1 := Nat.le_of_ble_eq_true e0.1.1
    have q2 := Nat.le_of_ble_eq_true e0.1.2
    refine rx_C1.push e rfl (if_pos ⟨⟨by omega, by omega⟩, rx_cs8_le hk2 e0.2⟩) hl hk2 ?_ trivial hh
    simp only at x1 x2 y1 y2
    refine ⟨_, rfl, ?_, ?_⟩
    · simp only
      split
      · next z => have := Int32.lt_iff_toInt_lt.mp z; omega
      · next z => have := Int32.le_iff_toInt_le.mp (Int32.not_lt.mp z); omega
    · simp only
      split
      · next z => have := Int32.lt_iff_toInt_lt.mp z; omega
      · next z => have := Int32.le_iff_toInt_le.mp (Int32.not_lt.mp z); omega
  · cases e
theorem rx_amm_ok5 (e : rx_amm false D W pc S = some su) (hl : rx_lin S.1 lv) (hk : rx_kin lv S.2 st) (hh : rx_hin E.1 h) (hd : D ≤ d) (hw : W ≤ w) : rx_C1 E S lv h (rx_m5 d w pc lv st h) su := by
  obtain ⟨L, K⟩ := S
  unfold rx_amm at e
  simp only at e
  split at e
  · next c d9 t0 a b t1 s =>
    obtain ⟨v, r, rfl, ⟨y, rfl, y1, y2⟩, _, hk1⟩ := rx_kin_e hk
    obtain ⟨v, r, rfl, ⟨x, rfl, x1, x2⟩, _, hk2⟩ := rx_kin_e hk1
    obtain ⟨e0, e⟩ := rx_bif e
    simp only [Bool.and_eq_true] at e0
    have q1 := Nat.le_of_ble_eq_true e0.1.1
    have q2 := Nat.le_of_ble_eq_true e0.1.2
    refine rx_C1.push e rfl (if_pos ⟨⟨by omega, by omega⟩, rx_cs8_le hk2 e0.2⟩) hl hk2 ?_ trivial hh
    simp only at x1 x2 y1 y2
    refine ⟨_, rfl, ?_, ?_⟩
    · simp only
      split
      · next z => have := Int32.lt_iff_toInt_lt.mp z; omega
      · next z => have := Int32.le_iff_toInt_le.mp (Int32.not_lt.mp z); omega
    · simp only
      split
      · next z => have := Int32.lt_iff_toInt_lt.mp z; omega
      · next z => have := Int32.le_iff_toInt_le.mp (Int32.not_lt.mp z); omega
  · cases e
theorem rx_nn {x : Int32} (h : 0 ≤ x.toInt) : ¬ x < 0 ∧ (x.toNatClampNeg : Int) = x.toInt := by
  have e : x.toNatClampNeg = x.toInt.toNat := rfl
  refine ⟨fun z => ?_, by omega⟩
  have := Int32.lt_iff_toInt_lt.mp z
  have e0 : (0 : Int32).toInt = 0 := rfl
  omega
theorem rx_aac_ok (e : rx_aac E D W pc S = some su) (hl : rx_lin S.1 lv) (hk : rx_kin lv S.2 st) (hh : rx_hin E.1 h) (hd : D ≤ d) (hw : W ≤ w) : rx_C1 E S lv h (rx_ac d w pc lv st h) su := by
  obtain ⟨L, K⟩ := S
  unfold rx_aac at e
  simp only at e
  split at e
  · next n0 n1 t0 d0 d1 t1 a0 a1 t2 s0 s1 t3 b0 b1 t4 s =>
    obtain ⟨v, r, rfl, ⟨n, rfl, x1, x2⟩, _, hk1⟩ := rx_kin_e hk
    obtain ⟨v, r, rfl, ⟨dp, rfl, x3, x4⟩, _, hk2⟩ := rx_kin_e hk1
    obtain ⟨v, r, rfl, ⟨ka, rfl, x5, x6⟩, _, hk3⟩ := rx_kin_e hk2
    obtain ⟨v, r, rfl, ⟨sp, rfl, x7, x8⟩, _, hk4⟩ := rx_kin_e hk3
    obtain ⟨v, r, rfl, ⟨kb, rfl, x9, x10⟩, _, hk5⟩ := rx_kin_e hk4
    obtain ⟨e0, e⟩ := rx_bif e
    simp only [Bool.and_eq_true, decide_eq_true_eq] at e0
    obtain ⟨⟨⟨⟨⟨⟨⟨⟨⟨⟨c1, c2⟩, c3⟩, c4⟩, c5⟩, c6⟩, c7⟩, c8⟩, c9⟩, c10⟩, c11⟩ := e0
    simp only at x1 x2 x3 x4 x5 x6 x7 x8 x9 x10
    have q1 := Nat.le_of_ble_eq_true c1
    have q2 := Nat.le_of_ble_eq_true c2
    have q4 := Nat.eq_of_beq_eq_true c4
    have q5 := Nat.eq_of_beq_eq_true c5
    have ea : ka = a0 := by omega
    have eb : kb = b0 := by omega
    subst ea eb
    split at e
    · next m p q m2 u v2 i1 i2 =>
      obtain ⟨f0, e⟩ := rx_bif e
      simp only [Bool.and_eq_true, decide_eq_true_eq] at f0
      obtain ⟨c, k1, f, rfl, k2⟩ := rx_hin_get hh i1
      obtain ⟨c, k3, g, rfl, k4⟩ := rx_hin_get hh i2
      obtain ⟨n2, n3⟩ := rx_nn (x := n) (by omega)
      obtain ⟨n4, n5⟩ := rx_nn (x := dp) (by omega)
      obtain ⟨n6, n7⟩ := rx_nn (x := sp) (by omega)
      have g1 := rx_cold_i (k := ka - 16) k1
      rw [rx_16 c6] at g1
      have g2 := rx_cold_i (k := kb - 16) k3
      rw [rx_16 c7] at g2
      have ho : rx_ac d w pc lv (.int n :: .int dp :: .ref ka :: .int sp :: .ref kb :: r) h = some (pc + 3, lv, r, h.set (ka - 16) (.inl (0, m, .inl (va_cpy g f sp.toNatClampNeg dp.toNatClampNeg n.toNatClampNeg)))) := by
        unfold rx_ac
        simp only [g1, g2]
        rw [if_pos ⟨⟨by omega, by omega⟩, rx_cs8_le hk5 c3, n6, n4, n2, by omega, by omega⟩]
        rfl
      refine rx_C1.w _ e rfl ho hl hk5 (rx_hin_set hh i1 ⟨_, rfl, fun j hj => ?_⟩) (Or.inr (Or.inl ⟨_, _, c8, rfl⟩))
      unfold va_cpy
      split
      · next z =>
        have := k4 (sp.toNatClampNeg + (j - dp.toNatClampNeg)) (by omega)
        exact ⟨by omega, by omega⟩
      · exact k2 j hj
    · cases e
  · cases e
set_option maxHeartbeats 4000000 in
set_option maxRecDepth 100000 in
theorem rx_abs_ok {ins : Instr} (e : rx_abs E lk D W M ins pc S = some su) (ht : rx_tok E rt) (hl : rx_lin S.1 lv) (hk : rx_kin lv S.2 st) (hh : rx_hin E.1 h) (hd : D ≤ d) (hw : W ≤ w) : rx_C1 E S lv h (rx_opI cds lk rt d w M ins pc lv st h) su := by
  cases ins
  case iconst n =>
    obtain ⟨h1, h2⟩ := rx_bif (show (bif rx_fits n n then rx_push (pc + 1) S (.inl (n, n)) none else none) = some su from e)
    have h4 := rx_fits_e h1
    have h3 : (Int32.ofInt n).toInt = n := Int32.toInt_ofInt_of_le (by omega) (by omega)
    exact rx_C1.push h2 rfl rfl hl hk ⟨_, rfl, by rw [h3]; exact Int.le_refl _, by rw [h3]; exact Int.le_refl _⟩ trivial hh
  case bipush n =>
    obtain ⟨h1, h2⟩ := rx_bif (show (bif decide (-128 ≤ n) && decide (n ≤ 127) then rx_push (pc + 2) S (.inl (n, n)) none else none) = some su from e)
    simp only [Bool.and_eq_true, decide_eq_true_eq] at h1
    have h3 : (Int8.ofInt n).toInt32.toInt = n := by rw [Int8.toInt_toInt32, Int8.toInt_ofInt_of_le (by omega) (by omega)]
    exact rx_C1.push h2 rfl rfl hl hk ⟨_, rfl, by rw [h3]; exact Int.le_refl _, by rw [h3]; exact Int.le_refl _⟩ trivial hh
  case sipush n =>
    obtain ⟨h1, h2⟩ := rx_bif (show (bif decide (-32768 ≤ n) && decide (n ≤ 32767) then rx_push (pc + 3) S (.inl (n, n)) none else none) = some su from e)
    simp only [Bool.and_eq_true, decide_eq_true_eq] at h1
    have h3 : (Int16.ofInt n).toInt32.toInt = n := by rw [Int16.toInt_toInt32, Int16.toInt_ofInt_of_le (by omega) (by omega)]
    exact rx_C1.push h2 rfl rfl hl hk ⟨_, rfl, by rw [h3]; exact Int.le_refl _, by rw [h3]; exact Int.le_refl _⟩ trivial hh
  case lconst n =>
    have e : (bif Nat.beq n.val 0 then rx_push (pc + 1) S (.inr (.inr 2)) none else rx_push (pc + 1) S (.inr (.inr 0)) none) = some su := e
    cases hb : Nat.beq n.val 0 with
    | true =>
      rw [hb] at e
      have h1 := Nat.eq_of_beq_eq_true hb
      refine rx_C1.push e rfl rfl hl hk ⟨_, rfl, fun z => absurd z (by decide), fun _ => ?_⟩ trivial hh
      rw [h1]
      rfl
    | false =>
      rw [hb] at e
      exact rx_C1.push e rfl rfl hl hk (rx_anyL _) trivial hh
  case ldc_w ix =>
    have e : (match rx_luv lk.2.2.2.2.1 (rx_Mo M) ix with | some v => rx_push (pc + 3) S (.inl (v.toInt, v.toInt)) none | none => none) = some su := e
    split at e
    · next v hv =>
      have ho : rx_opI cds lk rt d w M (.ldc_w ix) pc lv st h = some (pc + 3, lv, .int v :: st, h) := by
        show rx_kc ((rx_luv lk.2.2.2.2.1 (rx_Mo M) ix).map _) 3 pc lv st h = _
        rw [hv]
        rfl
      exact rx_C1.push e rfl ho hl hk ⟨_, rfl, Int.le_refl _, Int.le_refl _⟩ trivial hh
    · cases e
  case ldc2_w ix =>
    have e : (match rx_luv lk.2.2.2.2.2 (rx_Mo M) ix with | some v => rx_push (pc + 3) S (.inr (.inr 0)) none | none => none) = some su := e
    split at e
    · next v hv =>
      have ho : rx_opI cds lk rt d w M (.ldc2_w ix) pc lv st h = some (pc + 3, lv, .long v :: st, h) := by
        show rx_kc ((rx_luv lk.2.2.2.2.2 (rx_Mo M) ix).map _) 3 pc lv st h = _
        rw [hv]
        rfl
      exact rx_C1.push e rfl ho hl hk (rx_anyL _) trivial hh
    · cases e
  case getstatic ix =>
    have e : (match rx_luv lk.2.1 (rx_Mo M) ix with | some v => rx_push (pc + 3) S (.inr (.inl (v, v))) none | none => none) = some su := e
    split at e
    · next v hv =>
      have ho : rx_opI cds lk rt d w M (.getstatic ix) pc lv st h = some (pc + 3, lv, .ref v :: st, h) := by
        show rx_kc ((rx_luv lk.2.1 (rx_Mo M) ix).map _) 3 pc lv st h = _
        rw [hv]
        rfl
      exact rx_C1.push e rfl ho hl hk ⟨_, rfl, Nat.le_refl _, Nat.le_refl _⟩ trivial hh
    · cases e
  case iload_n k =>
    refine rx_ald_ok e hl hk hh (fun x h1 a h2 h3 => ?_)
    obtain ⟨y, rfl⟩ := rx_kd0 h3 h2
    show rx_li lv k.val _ st h = _
    unfold rx_li
    rw [h1]
    rfl
  case iload i =>
    refine rx_ald_ok e hl hk hh (fun x h1 a h2 h3 => ?_)
    obtain ⟨y, rfl⟩ := rx_kd0 h3 h2
    show rx_li lv i _ st h = _
    unfold rx_li
    rw [h1]
    rfl
  case lload_n k =>
    refine rx_ald_ok e hl hk hh (fun x h1 a h2 h3 => ?_)
    obtain ⟨y, rfl⟩ := rx_kd1 h3 h2
    show rx_ll lv k.val _ st h = _
    unfold rx_ll
    rw [h1]
    rfl
  case lload i =>
    refine rx_ald_ok e hl hk hh (fun x h1 a h2 h3 => ?_)
    obtain ⟨y, rfl⟩ := rx_kd1 h3 h2
    show rx_ll lv i _ st h = _
    unfold rx_ll
    rw [h1]
    rfl
  case aload_n k =>
    refine rx_ald_ok e hl hk hh (fun x h1 a h2 h3 => ?_)
    obtain ⟨y, rfl⟩ := rx_kd2 h3 h2
    show rx_la lv k.val _ st h = _
    unfold rx_la
    rw [h1]
    rfl
  case aload i =>
    refine rx_ald_ok e hl hk hh (fun x h1 a h2 h3 => ?_)
    obtain ⟨y, rfl⟩ := rx_kd2 h3 h2
    show rx_la lv i _ st h = _
    unfold rx_la
    rw [h1]
    rfl
  case istore_n k =>
    refine rx_ast_ok (by decide) e hl hk hh (fun x q h0 h1 a h2 h3 => ?_)
    obtain ⟨y, rfl⟩ := rx_kd0 h3 h2
    subst h0
    exact if_pos h1
  case istore i =>
    refine rx_ast_ok (by decide) e hl hk hh (fun x q h0 h1 a h2 h3 => ?_)
    obtain ⟨y, rfl⟩ := rx_kd0 h3 h2
    subst h0
    exact if_pos h1
  case astore_n k =>
    refine rx_ast_ok (by decide) e hl hk hh (fun x q h0 h1 a h2 h3 => ?_)
    obtain ⟨y, rfl⟩ := rx_kd2 h3 h2
    subst h0
    exact if_pos h1
  case astore i =>
    refine rx_ast_ok (by decide) e hl hk hh (fun x q h0 h1 a h2 h3 => ?_)
    obtain ⟨y, rfl⟩ := rx_kd2 h3 h2
    subst h0
    exact if_pos h1
  case lstore_n k =>
    refine rx_ast1_ok e hl hk hh (fun x q h0 h1 a h2 h3 => ?_)
    obtain ⟨y, rfl⟩ := rx_kd1 h3 h2
    subst h0
    exact if_pos h1
  case lstore i =>
    refine rx_ast1_ok e hl hk hh (fun x q h0 h1 a h2 h3 => ?_)
    obtain ⟨y, rfl⟩ := rx_kd1 h3 h2
    subst h0
    exact if_pos h1
  case iinc i n =>
    exact rx_ain_ok e hl hk hh
  case iadd =>
    exact rx_a2i_ok (f := rx_oadd) e hl hk hh (fun x y a b p q h1 h2 h3 h4 => rx_oadd_in h1 h2 h3 h4)
  case isub =>
    exact rx_a2i_ok (f := rx_osub) e hl hk hh (fun x y a b p q h1 h2 h3 h4 => rx_osub_in h1 h2 h3 h4)
  case imul =>
    exact rx_a2i_ok (f := rx_omul) e hl hk hh (fun x y a b p q h1 h2 h3 h4 => rx_omul_in h1 h2 h3 h4)
  case iand =>
    exact rx_a2i_ok (f := rx_oand) e hl hk hh (fun x y a b p q h1 h2 h3 h4 => rx_oand_in h1 h2 h3 h4)
  case ior =>
    exact rx_a2i_ok (f := rx_oor) e hl hk hh (fun x y a b p q h1 h2 h3 h4 => (rx_oor_in h1 h2 h3 h4).1)
  case ixor =>
    exact rx_a2i_ok (f := rx_oor) e hl hk hh (fun x y a b p q h1 h2 h3 h4 => (rx_oor_in h1 h2 h3 h4).2)
  case ishl =>
    exact rx_a2i_ok (f := rx_oshl) e hl hk hh (fun x y a b p q h1 h2 h3 h4 => rx_oshl_in h1 h2 h3 h4)
  case ishr =>
    exact rx_a2i_ok (f := (fun _ _ _ _ => rx_full)) e hl hk hh (fun x y a b p q h1 h2 h3 h4 => rx_full_in _)
  case iushr =>
    exact rx_a2i_ok (f := (fun _ _ _ _ => rx_full)) e hl hk hh (fun x y a b p q h1 h2 h3 h4 => rx_full_in _)
  case ladd =>
    exact rx_a2l_ok e hl hk hh
  case lsub =>
    exact rx_a2l_ok e hl hk hh
  case lmul =>
    exact rx_a2l_ok e hl hk hh
  case land =>
    exact rx_a2l_ok e hl hk hh
  case lxor =>
    exact rx_a2l_ok e hl hk hh
  case irem =>
    exact rx_ari_ok e hl hk hh
  case ldiv =>
    exact rx_adl_ok e hl hk hh
  case lrem =>
    exact rx_adl_ok e hl hk hh
  case i2l =>
    have e : (match S.2 with | (.inl p, _) :: s => rx_push (pc + 1) (S.1, s) (.inr (.inr 0)) none | _ => none) = some su := e
    obtain ⟨L, K⟩ := S
    simp only at e
    split at e
    · next p t0 s =>
      obtain ⟨v, r, rfl, ⟨y, rfl, _⟩, _, hk1⟩ := rx_kin_e hk
      exact rx_C1.push e rfl rfl hl hk1 (rx_anyL _) trivial hh
    · cases e
  case l2i =>
    have e : (match S.2 with | (.inr (.inr p), _) :: s => rx_push (pc + 1) (S.1, s) rx_full none | _ => none) = some su := e
    obtain ⟨L, K⟩ := S
    simp only at e
    split at e
    · next p t0 s =>
      obtain ⟨v, r, rfl, ⟨y, rfl, _⟩, _, hk1⟩ := rx_kin_e hk
      exact rx_C1.push e rfl rfl hl hk1 (rx_full_in _) trivial hh
    · cases e
  case lneg =>
    have e : (match S.2 with | (.inr (.inr p), _) :: s => rx_push (pc + 1) (S.1, s) (.inr (.inr 0)) none | _ => none) = some su := e
    obtain ⟨L, K⟩ := S
    simp only at e
    split at e
    · next p t0 s =>
      obtain ⟨v, r, rfl, ⟨y, rfl, _⟩, _, hk1⟩ := rx_kin_e hk
      exact rx_C1.push e rfl rfl hl hk1 (rx_anyL _) trivial hh
    · cases e
  case lcmp =>
    exact rx_acm_ok e hl hk hh
  case dup =>
    have e : (match S.2 with | (a, t) :: s => bif rx_isL a then none else rx_1 (pc + 1) (S.1, (a, t) :: (a, t) :: s) | _ => none) = some su := e
    obtain ⟨L, K⟩ := S
    simp only at e
    split at e
    · next a t s _ =>
      obtain ⟨v, r, rfl, h1, h2, hk1⟩ := rx_kin_e hk
      cases hb : rx_isL a with
      | true => rw [hb] at e; cases e
      | false =>
        rw [hb] at e
        exact rx_C1.one e rfl (if_pos (rx_vin_c1 h1 hb)) hl ⟨h1, h2, h1, h2, hk1⟩ hh
    · cases e
  case dup2 =>
    have e : (match S.2 with | (a, t) :: (b, u) :: s => bif rx_isL a || rx_isL b then none else rx_1 (pc + 1) (S.1, (a, t) :: (b, u) :: (a, t) :: (b, u) :: s) | _ => none) = some su := e
    obtain ⟨L, K⟩ := S
    simp only at e
    split at e
    · next a t b u s _ =>
      obtain ⟨v, r, rfl, h1, h2, hk1⟩ := rx_kin_e hk
      obtain ⟨v2, r, rfl, h3, h4, hk2⟩ := rx_kin_e hk1
      cases hb : (rx_isL a || rx_isL b) with
      | true => rw [hb] at e; cases e
      | false =>
        rw [hb] at e
        simp only [Bool.or_eq_false_iff] at hb
        exact rx_C1.one e rfl (if_pos ⟨rx_vin_c1 h1 hb.1, rx_vin_c1 h3 hb.2⟩) hl ⟨h1, h2, h3, h4, h1, h2, h3, h4, hk2⟩ hh
    · cases e
  case pop =>
    have e : (match S.2 with | (a, _) :: s => bif rx_isL a then none else rx_1 (pc + 1) (S.1, s) | _ => none) = some su := e
    obtain ⟨L, K⟩ := S
    simp only at e
    split at e
    · next a t s _ =>
      obtain ⟨v, r, rfl, h1, h2, hk1⟩ := rx_kin_e hk
      cases hb : rx_isL a with
      | true => rw [hb] at e; cases e
      | false =>
        rw [hb] at e
        exact rx_C1.one e rfl (if_pos (rx_vin_c1 h1 hb)) hl hk1 hh
    · cases e
  case ifCond c off =>
    exact rx_ab1_ok e hl hk hh
  case if_icmp c off =>
    exact rx_ab2_ok e hl hk hh
  case goto off =>
    have e : (match rx_tg pc off with | some g => rx_1 g S | none => none) = some su := e
    split at e
    · next g hg =>
      exact rx_C1.one e rfl (rx_jp_i (rx_tg_e hg)) hl hk hh
    · cases e
  case lookupswitch dflt ps =>
    exact rx_als_ok e hl hk hh
  case ineg =>
    have e : (match S.2 with | (.inl p, _) :: s => rx_push (pc + 1) (S.1, s) rx_full none | _ => none) = some su := e
    obtain ⟨L, K⟩ := S
    simp only at e
    split at e
    · next p t0 s =>
      obtain ⟨v, r, rfl, ⟨y, rfl, _⟩, _, hk1⟩ := rx_kin_e hk
      exact rx_C1.push e rfl rfl hl hk1 (rx_full_in _) trivial hh
    · cases e
  case tableswitch dflt lo hi offs =>
    exact rx_ats_ok e hl hk hh
  case iaload =>
    exact rx_aial_ok e ht hl hk hh
  case arraylength =>
    exact rx_aaln_ok e ht hl hk hh
  case laload =>
    exact rx_alal_ok e hl hk hh
  case baload =>
    exact rx_azal_ok e hl hk hh
  case aaload =>
    exact rx_aqal_ok e hl hk hh
  case iastore =>
    exact rx_aias_ok e hl hk hh
  case lastore =>
    exact rx_alas_ok e hl hk hh
  case bastore =>
    exact rx_azas_ok e hl hk hh
  case getfield ix =>
    exact rx_agf_ok e hl hk hh
  case putfield ix =>
    exact rx_apf_ok e hl hk hh
  case invokestatic ix =>
    have e : (match rx_luv lk.2.2.1 (rx_Mo M) ix with | some q => (bif Nat.beq q.1 1001 then rx_aac E D W pc S else bif Nat.beq q.1 1004 then rx_amm true D W pc S else bif Nat.beq q.1 1005 then rx_amm false D W pc S else none) | none => none) = some su := e
    split at e
    · next q hq =>
      have ho : rx_opI cds lk rt d w M (.invokestatic ix) pc lv st h = (if q.1 = 1001 then rx_ac d w pc lv st h else if q.1 = 1004 then rx_m4 d w pc lv st h else if q.1 = 1005 then rx_m5 d w pc lv st h else none) := by
        show rx_it d w (rx_luv lk.2.2.1 (rx_Mo M) ix) pc lv st h = _
        rw [hq]
        rfl
      rw [ho]
      cases b1 : Nat.beq q.1 1001 with
      | true =>
        rw [b1] at e
        rw [if_pos (Nat.eq_of_beq_eq_true b1)]
        exact rx_aac_ok e hl hk hh hd hw
      | false =>
        rw [b1] at e
        simp only [cond_false] at e
        rw [if_neg (Nat.ne_of_beq_eq_false b1)]
        cases b2 : Nat.beq q.1 1004 with
        | true =>
          rw [b2] at e
          rw [if_pos (Nat.eq_of_beq_eq_true b2)]
          exact rx_amm_ok4 e hl hk hh hd hw
        | false =>
          rw [b2] at e
          simp only [cond_false] at e
          rw [if_neg (Nat.ne_of_beq_eq_false b2)]
          cases b3 : Nat.beq q.1 1005 with
          | true =>
            rw [b3] at e
            rw [if_pos (Nat.eq_of_beq_eq_true b3)]
            exact rx_amm_ok5 e hl hk hh hd hw
          | false =>
            rw [b3] at e
            cases e
    · cases e
  all_goals exact absurd e (fun z => by cases z)
end RXC3
