section RXE
variable {pc i : Nat} {lv : rx_L} {st : List Value} {h : rx_H} {r : Nat × rx_L × List Value × rx_H} {off : Int} {nL : Nat}
theorem rx_nx_e (e : rx_nx pc lv st h = some r) : r = (pc, lv, st, h) := by
  unfold rx_nx at e
  exact (Option.some.inj e).symm
theorem rx_jp_e (e : rx_jp pc off lv st h = some r) : ∃ t : Nat, (pc : Int) + off = (t : Int) ∧ r = (t, lv, st, h) := by
  unfold rx_jp at e
  split at e
  · next q => exact ⟨_, (Int.toNat_of_nonneg q).symm, rx_nx_e e⟩
  · cases e
theorem rx_li_e (e : rx_li lv i pc st h = some r) : ∃ x, rx_lk lv i = some (.int x) ∧ r = (pc, lv, .int x :: st, h) := by
  unfold rx_li at e
  split at e
  · next x q => exact ⟨x, q, rx_nx_e e⟩
  · cases e
theorem rx_ll_e (e : rx_ll lv i pc st h = some r) : ∃ x, rx_lk lv i = some (.long x) ∧ r = (pc, lv, .long x :: st, h) := by
  unfold rx_ll at e
  split at e
  · next x q => exact ⟨x, q, rx_nx_e e⟩
  · cases e
theorem rx_la_e (e : rx_la lv i pc st h = some r) : ∃ x, rx_lk lv i = some (.ref x) ∧ r = (pc, lv, .ref x :: st, h) := by
  unfold rx_la at e
  split at e
  · next x q => exact ⟨x, q, rx_nx_e e⟩
  · cases e
theorem rx_si_e (e : rx_si nL lv i pc st h = some r) : ∃ x t, st = .int x :: t ∧ i < nL ∧ r = (pc, rx_s1 lv i (.int x), t, h) := by
  unfold rx_si at e
  split at e
  · next x t =>
    split at e
    · next q => exact ⟨x, t, rfl, q, rx_nx_e e⟩
    · cases e
  · cases e
theorem rx_sl_e (e : rx_sl nL lv i pc st h = some r) : ∃ x t, st = .long x :: t ∧ i + 1 < nL ∧ r = (pc, rx_s2 lv i (.long x), t, h) := by
  unfold rx_sl at e
  split at e
  · next x t =>
    split at e
    · next q => exact ⟨x, t, rfl, q, rx_nx_e e⟩
    · cases e
  · cases e
theorem rx_sa_e (e : rx_sa nL lv i pc st h = some r) : ∃ x t, st = .ref x :: t ∧ i < nL ∧ r = (pc, rx_s1 lv i (.ref x), t, h) := by
  unfold rx_sa at e
  split at e
  · next x t =>
    split at e
    · next q => exact ⟨x, t, rfl, q, rx_nx_e e⟩
    · cases e
  · cases e
theorem rx_2i_e {f : Int32 → Int32 → Int32} (e : rx_2i f pc lv st h = some r) : ∃ x y t, st = .int y :: .int x :: t ∧ r = (pc + 1, lv, .int (f x y) :: t, h) := by
  unfold rx_2i at e
  split at e
  · next y x t => exact ⟨x, y, t, rfl, rx_nx_e e⟩
  · cases e
theorem rx_2l_e {f : Int64 → Int64 → Int64} (e : rx_2l f pc lv st h = some r) : ∃ x y t, st = .long y :: .long x :: t ∧ r = (pc + 1, lv, .long (f x y) :: t, h) := by
  unfold rx_2l at e
  split at e
  · next y x t => exact ⟨x, y, t, rfl, rx_nx_e e⟩
  · cases e
theorem rx_bi_e {P : Bool} (e : rx_bi P pc off lv st h = some r) : ∃ g : Nat, (pc : Int) + off = (g : Int) ∧ ((P = true ∧ r = (g, lv, st, h)) ∨ (P = false ∧ r = (pc + 3, lv, st, h))) := by
  unfold rx_bi at e
  split at e
  · next w =>
    refine ⟨_, (Int.toNat_of_nonneg w).symm, ?_⟩
    split at e
    · next q => exact Or.inl ⟨q, rx_nx_e e⟩
    · next q => exact Or.inr ⟨by simpa using q, rx_nx_e e⟩
  · cases e
end RXE
theorem rx_cell_e {h : rx_H} {a : Nat} {c : rx_C} (e : rx_cell h a = some c) : ∃ k, a = k + 16 ∧ h[k]? = some c ∧ k < h.length := by
  unfold rx_cell at e
  split at e
  · cases e
  · next q => exact ⟨a - 16, by omega, e, (List.getElem?_eq_some_iff.mp e).1⟩
theorem rx_cold_e {h : rx_H} {a t : Nat} {x : vp_A} (e : rx_cold h a t = some x) : ∃ k, a = k + 16 ∧ h[k]? = some (.inl (t, x)) ∧ k < h.length := by
  unfold rx_cold at e
  split at e
  · next q w =>
    split at e
    · next z =>
      subst z
      cases e
      exact rx_cell_e w
    · cases e
  · cases e
theorem rx_ad_k (ro : Nat → Nat) (base k : Nat) : rx_ad ro base (k + 16) = base + k := by
  unfold rx_ad
  rw [if_neg (by omega)]
  rfl
theorem rx_ad_r (ro : Nat → Nat) (base : Nat) {k : Nat} (h : k < 16) : rx_ad ro base k = ro k := by
  unfold rx_ad
  rw [if_pos h]
theorem rx_ok_e {i : Int32} {n : Nat} (h : rx_ok i n = true) : vp_in i n := by
  unfold rx_ok at h
  simp only [Bool.not_eq_true', Bool.or_eq_false_iff, decide_eq_false_iff_not] at h
  intro q
  rcases q with q | q
  · exact h.1 q
  · have := Nat.ble_eq_true_of_le q
    rw [this] at h
    exact absurd h.2 (by decide)
section RXE2
variable {pc i : Nat} {lv : rx_L} {st : List Value} {h : rx_H} {r : Nat × rx_L × List Value × rx_H} {off : Int} {nL : Nat}
theorem rx_dv_e {f : Int32 → Int32 → Int32} (e : rx_dv f pc lv st h = some r) : ∃ x y t, st = .int y :: .int x :: t ∧ ¬ y = 0 ∧ r = (pc + 1, lv, .int (f x y) :: t, h) := by
  unfold rx_dv at e
  split at e
  · next y x t =>
    split at e
    · cases e
    · next q => exact ⟨x, y, t, rfl, q, rx_nx_e e⟩
  · cases e
theorem rx_dl_e {f : Int64 → Int64 → Int64} (e : rx_dl f pc lv st h = some r) : ∃ x y t, st = .long y :: .long x :: t ∧ ¬ y = 0 ∧ r = (pc + 1, lv, .long (f x y) :: t, h) := by
  unfold rx_dl at e
  split at e
  · next y x t =>
    split at e
    · cases e
    · next q => exact ⟨x, y, t, rfl, q, rx_nx_e e⟩
  · cases e
theorem rx_1i_e {f : Int32 → Value} (e : rx_1i f pc lv st h = some r) : ∃ x t, st = .int x :: t ∧ r = (pc + 1, lv, f x :: t, h) := by
  unfold rx_1i at e
  split at e
  · next x t => exact ⟨x, t, rfl, rx_nx_e e⟩
  · cases e
theorem rx_1l_e {f : Int64 → Value} (e : rx_1l f pc lv st h = some r) : ∃ x t, st = .long x :: t ∧ r = (pc + 1, lv, f x :: t, h) := by
  unfold rx_1l at e
  split at e
  · next x t => exact ⟨x, t, rfl, rx_nx_e e⟩
  · cases e
theorem rx_cm_e (e : rx_cm pc lv st h = some r) : ∃ x y t, st = .long y :: .long x :: t ∧ r = (pc + 1, lv, .int (lg_cmp x y) :: t, h) := by
  unfold rx_cm at e
  split at e
  · next y x t => exact ⟨x, y, t, rfl, rx_nx_e e⟩
  · cases e
theorem rx_in_e {n : Int} (e : rx_in nL i n pc lv st h = some r) : ∃ x, rx_lk lv i = some (.int x) ∧ i < nL ∧ r = (pc + 3, rx_s1 lv i (.int (x + Int32.ofInt n)), st, h) := by
  unfold rx_in at e
  split at e
  · next x q =>
    split at e
    · next w => exact ⟨x, q, w, rx_nx_e e⟩
    · cases e
  · cases e
theorem rx_d0_e (e : rx_d0 pc lv st h = some r) : ∃ a t, st = a :: t ∧ a.category = 1 ∧ r = (pc + 1, lv, a :: a :: t, h) := by
  unfold rx_d0 at e
  split at e
  · next a t =>
    split at e
    · next w => exact ⟨a, t, rfl, w, rx_nx_e e⟩
    · cases e
  · cases e
theorem rx_pp_e (e : rx_pp pc lv st h = some r) : ∃ a t, st = a :: t ∧ a.category = 1 ∧ r = (pc + 1, lv, t, h) := by
  unfold rx_pp at e
  split at e
  · next a t =>
    split at e
    · next w => exact ⟨a, t, rfl, w, rx_nx_e e⟩
    · cases e
  · cases e
theorem rx_d1_e (e : rx_d1 pc lv st h = some r) : ∃ a b t, st = a :: b :: t ∧ a.category = 1 ∧ b.category = 1 ∧ r = (pc + 1, lv, a :: b :: a :: t, h) := by
  unfold rx_d1 at e
  split at e
  · next a b t =>
    split at e
    · next w => exact ⟨a, b, t, rfl, w.1, w.2, rx_nx_e e⟩
    · cases e
  · cases e
theorem rx_d2_e (e : rx_d2 pc lv st h = some r) : ∃ a b d t, st = a :: b :: d :: t ∧ a.category = 1 ∧ b.category = 1 ∧ d.category = 1 ∧ r = (pc + 1, lv, a :: b :: d :: a :: t, h) := by
  unfold rx_d2 at e
  split at e
  · next a b d t =>
    split at e
    · next w => exact ⟨a, b, d, t, rfl, w.1, w.2.1, w.2.2, rx_nx_e e⟩
    · cases e
  · cases e
theorem rx_dd_e (e : rx_dd pc lv st h = some r) : ∃ a b t, st = a :: b :: t ∧ a.category = 1 ∧ b.category = 1 ∧ r = (pc + 1, lv, a :: b :: a :: b :: t, h) := by
  unfold rx_dd at e
  split at e
  · next a b t =>
    split at e
    · next w => exact ⟨a, b, t, rfl, w.1, w.2, rx_nx_e e⟩
    · cases e
  · cases e
theorem rx_b1_e {c : ClassFile.Cond} (e : rx_b1 c off pc lv st h = some r) : ∃ x t, st = .int x :: t ∧ ∃ g : Nat, (pc : Int) + off = (g : Int) ∧ ((rx_c1 c x = true ∧ r = (g, lv, t, h)) ∨ (rx_c1 c x = false ∧ r = (pc + 3, lv, t, h))) := by
  unfold rx_b1 at e
  split at e
  · next x t => exact ⟨x, t, rfl, rx_bi_e e⟩
  · cases e
theorem rx_b2_e {c : ClassFile.Cond} (e : rx_b2 c off pc lv st h = some r) : ∃ x y t, st = .int y :: .int x :: t ∧ ∃ g : Nat, (pc : Int) + off = (g : Int) ∧ ((rx_c2 c x y = true ∧ r = (g, lv, t, h)) ∨ (rx_c2 c x y = false ∧ r = (pc + 3, lv, t, h))) := by
  unfold rx_b2 at e
  split at e
  · next y x t => exact ⟨x, y, t, rfl, rx_bi_e e⟩
  · cases e
theorem rx_ts_e {dflt lo hi : Int} {offs : Array Int} (e : rx_ts dflt lo hi offs pc lv st h = some r) : ∃ x t, st = .int x :: t ∧ (((x.toInt < lo ∨ hi < x.toInt) ∧ ∃ g : Nat, (pc : Int) + dflt = (g : Int) ∧ r = (g, lv, t, h)) ∨ (¬ x.toInt < lo ∧ ¬ hi < x.toInt ∧ ∃ (off : Int) (g : Nat), offs[(x.toInt - lo).toNat]? = some off ∧ (pc : Int) + off = (g : Int) ∧ r = (g, lv, t, h))) := by
  unfold rx_ts at e
  split at e
  · next x t =>
    refine ⟨x, t, rfl, ?_⟩
    split at e
    · next q => exact Or.inl ⟨q, rx_jp_e e⟩
    · next q =>
      split at e
      · next off w =>
        obtain ⟨g, h1, h2⟩ := rx_jp_e e
        exact Or.inr ⟨fun z => q (Or.inl z), fun z => q (Or.inr z), off, g, w, h1, h2⟩
      · cases e
  · cases e
theorem rx_kc_e {o : Option Value} {n : Nat} (e : rx_kc o n pc lv st h = some r) : ∃ v, o = some v ∧ r = (pc + n, lv, v :: st, h) := by
  unfold rx_kc at e
  split at e
  · next v => exact ⟨v, rfl, rx_nx_e e⟩
  · cases e
theorem rx_ri_e {rt : rx_R} {a : Nat} {q : Nat × (Nat → Int32)} (e : rx_ri rt h a = some q) : (a < 16 ∧ rt a = some q) ∨ ∃ k, a = k + 16 ∧ h[k]? = some (.inl (0, q.1, .inl q.2)) ∧ k < h.length := by
  unfold rx_ri at e
  split at e
  · next w => exact Or.inl ⟨w, e⟩
  · next w =>
    split at e
    · next n f z =>
      cases e
      exact Or.inr (rx_cold_e z)
    · cases e
theorem rx_rl_e {a : Nat} {q : Nat × (Nat → Int64)} (e : rx_rl h a = some q) : ∃ k, a = k + 16 ∧ h[k]? = some (.inl (1, q.1, .inr (.inl q.2))) ∧ k < h.length := by
  unfold rx_rl at e
  split at e
  · next n f z =>
    cases e
    exact rx_cold_e z
  · cases e
theorem rx_rz_e {a : Nat} {q : Nat × (Nat → Int32)} (e : rx_rz h a = some q) : ∃ k, a = k + 16 ∧ h[k]? = some (.inl (2, q.1, .inl q.2)) ∧ k < h.length := by
  unfold rx_rz at e
  split at e
  · next n f z =>
    cases e
    exact rx_cold_e z
  · cases e
theorem rx_rq_e {a : Nat} {q : Nat × (Nat → Option Nat)} (e : rx_rq h a = some q) : ∃ k, a = k + 16 ∧ h[k]? = some (.inl (3, q.1, .inr (.inr (.inr (.inr q.2))))) ∧ k < h.length := by
  unfold rx_rq at e
  split at e
  · next n f z =>
    cases e
    exact rx_cold_e z
  · cases e
theorem rx_us_e (e : rx_us pc lv st h = some r) : ∃ x y t, st = .int y :: .long x :: t ∧ r = (pc + 1, lv, .long (x.toUInt64 >>> (y.toInt64.toUInt64 &&& Int64.toUInt64 63)).toInt64 :: t, h) := by
  unfold rx_us at e
  split at e
  · next y x t => exact ⟨x, y, t, rfl, rx_nx_e e⟩
  · cases e
theorem rx_ls_e {dflt : Int} {ps : Array (Int × Int)} (e : rx_ls dflt ps pc lv st h = some r) : ∃ x t, st = .int x :: t ∧ (ps.toList.zip (ps.toList.drop 1)).all (fun (a, next) => a.1 < next.1) = true ∧ ∃ g : Nat, (pc : Int) + Op.lookupswitch.offset ps.toList dflt x.toInt = (g : Int) ∧ r = (g, lv, t, h) := by
  unfold rx_ls at e
  split at e
  · next x t =>
    split at e
    · next w => exact ⟨x, t, rfl, w, rx_jp_e e⟩
    · cases e
  · cases e
theorem rx_ro_e {a : Nat} {q : Nat × List Value} (e : rx_ro h a = some q) : ∃ k, a = k + 16 ∧ h[k]? = some (.inr q) ∧ k < h.length := by
  unfold rx_ro at e
  split at e
  · next w z =>
    cases e
    exact rx_cell_e z
  · cases e
theorem rx_ial_e {rt : rx_R} (e : rx_ial rt pc lv st h = some r) : ∃ i a t q, st = .int i :: .ref a :: t ∧ rx_ri rt h a = some q ∧ vp_in i q.1 ∧ r = (pc + 1, lv, .int (q.2 i.toNatClampNeg) :: t, h) := by
  unfold rx_ial at e
  split at e
  · next i a t =>
    split at e
    · next q w =>
      split at e
      · next z => exact ⟨i, a, t, q, rfl, w, rx_ok_e z, rx_nx_e e⟩
      · cases e
    · cases e
  · cases e
theorem rx_lal_e (e : rx_lal pc lv st h = some r) : ∃ i a t q, st = .int i :: .ref a :: t ∧ rx_rl h a = some q ∧ vp_in i q.1 ∧ r = (pc + 1, lv, .long (q.2 i.toNatClampNeg) :: t, h) := by
  unfold rx_lal at e
  split at e
  · next i a t =>
    split at e
    · next q w =>
      split at e
      · next z => exact ⟨i, a, t, q, rfl, w, rx_ok_e z, rx_nx_e e⟩
      · cases e
    · cases e
  · cases e
theorem rx_zal_e (e : rx_zal pc lv st h = some r) : ∃ i a t q, st = .int i :: .ref a :: t ∧ rx_rz h a = some q ∧ vp_in i q.1 ∧ r = (pc + 1, lv, .int (q.2 i.toNatClampNeg) :: t, h) := by
  unfold rx_zal at e
  split at e
  · next i a t =>
    split at e
    · next q w =>
      split at e
      · next z => exact ⟨i, a, t, q, rfl, w, rx_ok_e z, rx_nx_e e⟩
      · cases e
    · cases e
  · cases e
theorem rx_qal_e (e : rx_qal pc lv st h = some r) : ∃ i a t q k, st = .int i :: .ref a :: t ∧ rx_rq h a = some q ∧ vp_in i q.1 ∧ q.2 i.toNatClampNeg = some k ∧ r = (pc + 1, lv, .ref k :: t, h) := by
  unfold rx_qal at e
  split at e
  · next i a t =>
    split at e
    · next q w =>
      split at e
      · next z =>
        split at e
        · next k y => exact ⟨i, a, t, q, k, rfl, w, rx_ok_e z, y, rx_nx_e e⟩
        · cases e
      · cases e
    · cases e
  · cases e
theorem rx_ias_e (e : rx_ias pc lv st h = some r) : ∃ x i k t n f, st = .int x :: .int i :: .ref (k + 16) :: t ∧ h[k]? = some (.inl (0, n, .inl f)) ∧ k < h.length ∧ vp_in i n ∧ r = (pc + 1, lv, t, h.set k (.inl (0, n, .inl (upd f i.toNatClampNeg x)))) := by
  unfold rx_ias at e
  split at e
  · next x i a t =>
    split at e
    · cases e
    · next na =>
      split at e
      · next q w =>
        split at e
        · next z =>
          rcases rx_ri_e w with ⟨q1, -⟩ | ⟨k, rfl, h1, h2⟩
          · exact absurd q1 na
          · exact ⟨x, i, k, t, q.1, q.2, rfl, h1, h2, rx_ok_e z, rx_nx_e e⟩
        · cases e
      · cases e
  · cases e
theorem rx_las_e (e : rx_las pc lv st h = some r) : ∃ x i k t n f, st = .long x :: .int i :: .ref (k + 16) :: t ∧ h[k]? = some (.inl (1, n, .inr (.inl f))) ∧ k < h.length ∧ vp_in i n ∧ r = (pc + 1, lv, t, h.set k (.inl (1, n, .inr (.inl (vp_updL f i.toNatClampNeg x))))) := by
  unfold rx_las at e
  split at e
  · next x i a t =>
    split at e
    · next q w =>
      split at e
      · next z =>
        obtain ⟨k, rfl, h1, h2⟩ := rx_rl_e w
        exact ⟨x, i, k, t, q.1, q.2, rfl, h1, h2, rx_ok_e z, rx_nx_e e⟩
      · cases e
    · cases e
  · cases e
theorem rx_zas_e (e : rx_zas pc lv st h = some r) : ∃ x i k t n f, st = .int x :: .int i :: .ref (k + 16) :: t ∧ h[k]? = some (.inl (2, n, .inl f)) ∧ k < h.length ∧ vp_in i n ∧ r = (pc + 1, lv, t, h.set k (.inl (2, n, .inl (upd f i.toNatClampNeg (vp_nar .boolean x))))) := by
  unfold rx_zas at e
  split at e
  · next x i a t =>
    split at e
    · next q w =>
      split at e
      · next z =>
        obtain ⟨k, rfl, h1, h2⟩ := rx_rz_e w
        exact ⟨x, i, k, t, q.1, q.2, rfl, h1, h2, rx_ok_e z, rx_nx_e e⟩
      · cases e
    · cases e
  · cases e
theorem rx_al_e {rt : rx_R} (e : rx_al rt pc lv st h = some r) : ∃ a t n, st = .ref a :: t ∧ rx_aln rt h a = some n ∧ r = (pc + 1, lv, .int (Int32.ofNat n) :: t, h) := by
  unfold rx_al at e
  split at e
  · next a t =>
    split at e
    · next n w => exact ⟨a, t, n, rfl, w, rx_nx_e e⟩
    · cases e
  · cases e
theorem rx_gf_e {o : Option (Nat × Nat × FieldType × Nat)} (e : rx_gf o pc lv st h = some r) : ∃ k t q fs v, st = .ref (k + 16) :: t ∧ o = some q ∧ h[k]? = some (.inr (q.1, fs)) ∧ fs[q.2.1]? = some v ∧ r = (pc + 3, lv, v :: t, h) := by
  unfold rx_gf at e
  split at e
  · next a t q =>
    split at e
    · next w z =>
      split at e
      · next y =>
        split at e
        · next v u =>
          obtain ⟨k, rfl, h1, h2⟩ := rx_ro_e z
          obtain ⟨w1, w2⟩ := w
          dsimp only at y u
          subst y
          exact ⟨k, t, q, w2, v, rfl, rfl, h1, u, rx_nx_e e⟩
        · cases e
      · cases e
    · cases e
  · cases e
theorem rx_pf_e {ini : Bool} {o : Option (Nat × Nat × FieldType × Nat)} (e : rx_pf ini o pc lv st h = some r) : ∃ v k t q fs, st = v :: .ref (k + 16) :: t ∧ o = some q ∧ h[k]? = some (.inr (q.1, fs)) ∧ k < h.length ∧ q.2.1 < fs.length ∧ rx_fit q.2.2.1 v = true ∧ (q.2.2.2 = 0 ∨ (q.2.2.2 = 1 ∧ ini = true)) ∧ r = (pc + 3, lv, t, h.set k (.inr (q.1, fs.set q.2.1 v))) := by
  unfold rx_pf at e
  split at e
  · next v a t q =>
    split at e
    · next w z =>
      split at e
      · next y =>
        obtain ⟨k, rfl, h1, h2⟩ := rx_ro_e z
        obtain ⟨w1, w2⟩ := w
        obtain ⟨y1, y2, y3, y4⟩ := y
        dsimp only at y1 y2 e
        subst y1
        exact ⟨v, k, t, q, w2, rfl, rfl, h1, h2, y2, y3, y4, rx_nx_e e⟩
      · cases e
    · cases e
  · cases e
end RXE2
theorem rx_f1_e : ∀ {t : List (Nat × Instr × Nat)} {pc : Nat} {i : Instr}, rx_f1 t pc = some i → ∃ n, (pc, i, n) ∈ t
  | [], _, _, h => by cases h
  | q :: r, pc, i, h => by
    unfold rx_f1 at h
    cases hb : Nat.beq q.1 pc with
    | true =>
      rw [hb] at h
      have e := Nat.eq_of_beq_eq_true hb
      obtain ⟨a, b, c⟩ := q
      dsimp only at e h
      subst e
      cases h
      exact ⟨c, List.mem_cons_self⟩
    | false =>
      rw [hb] at h
      obtain ⟨n, hn⟩ := rx_f1_e (t := r) h
      exact ⟨n, List.mem_cons_of_mem _ hn⟩
theorem rx_f2_e : ∀ {t : rx_Tb} {pc : Nat} {i : Instr}, rx_f2 t pc = some i → ∃ c ∈ t, ∃ n, (pc, i, n) ∈ c.2
  | [], _, _, h => by cases h
  | q :: r, pc, i, h => by
    unfold rx_f2 at h
    cases hb : Nat.blt pc q.1 with
    | true =>
      rw [hb] at h
      exact ⟨q, List.mem_cons_self, rx_f1_e h⟩
    | false =>
      rw [hb] at h
      obtain ⟨c, hc, w⟩ := rx_f2_e (t := r) h
      exact ⟨c, List.mem_cons_of_mem _ hc, w⟩
theorem rx_luv_e {α : Type} : ∀ {t : List ((Nat × Nat) × α)} {o ix : Nat} {v : α}, rx_luv t o ix = some v → ((o, ix), v) ∈ t
  | [], _, _, _, h => by cases h
  | q :: r, o, ix, v, h => by
    unfold rx_luv at h
    cases hb : (Nat.beq q.1.1 o && Nat.beq q.1.2 ix) with
    | true =>
      rw [hb] at h
      obtain ⟨⟨a, b⟩, c⟩ := q
      simp only [Bool.and_eq_true] at hb
      have e1 := Nat.eq_of_beq_eq_true hb.1
      have e2 := Nat.eq_of_beq_eq_true hb.2
      dsimp only at e1 e2 h
      subst e1
      subst e2
      cases h
      exact List.mem_cons_self
    | false =>
      rw [hb] at h
      exact List.mem_cons_of_mem _ (rx_luv_e (t := r) h)
