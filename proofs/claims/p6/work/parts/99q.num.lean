section RXNB
variable {rt : rx_R} {d w : Nat} {P : Option Value → rx_H → Prop}
/-- how many places of the table are taken -/
def rx_cnt (t : Nat → Int32) : Nat := rx_sum (fun j => if (t j).toInt < 0 then 0 else 1) 2048
theorem rx_sum_full {t : Nat → Nat} : ∀ n : Nat, (∀ j, j < n → 1 ≤ t j) → n ≤ rx_sum t n
  | 0, _ => Nat.le_refl _
  | n + 1, h => by
    have h1 := rx_sum_full n (fun j hj => h j (by omega))
    have h2 := h n (by omega)
    unfold rx_sum
    omega
theorem rx_cnt_free {t : Nat → Int32} (h : rx_cnt t < 2048) : ∃ j, j < 2048 ∧ (t j).toInt < 0 := by
  refine Classical.byContradiction (fun hn => ?_)
  have h1 : 2048 ≤ rx_cnt t := rx_sum_full 2048 (fun j hj => by
    have h2 : ¬ (t j).toInt < 0 := fun z => hn ⟨j, hj, z⟩
    rw [if_neg h2]
    exact Nat.le_refl _)
  omega
theorem rx_sum_upd {t t' : Nat → Nat} {i : Nat} (h1 : ∀ j, ¬ j = i → t' j ≤ t j) (h2 : t' i ≤ t i + 1) : ∀ n : Nat, rx_sum t' n ≤ rx_sum t n + 1 ∧ (n ≤ i → rx_sum t' n ≤ rx_sum t n)
  | 0 => ⟨Nat.le_succ _, fun _ => Nat.le_refl _⟩
  | n + 1 => by
    obtain ⟨a1, a2⟩ := rx_sum_upd h1 h2 n
    unfold rx_sum
    by_cases e : n = i
    · subst e
      have := a2 (Nat.le_refl _)
      exact ⟨by omega, fun z => absurd z (by omega)⟩
    · have := h1 n e
      exact ⟨by omega, fun z => by have := a2 (by omega); omega⟩
theorem rx_cnt_upd {t : Nat → Int32} {i : Nat} {x : Int32} (h : (t i).toInt < 0) : rx_cnt (upd t i x) ≤ rx_cnt t + 1 := by
  refine (rx_sum_upd (i := i) (fun j hj => ?_) ?_ 2048).1
  · rw [show upd t i x j = t j from if_neg hj]
    exact Nat.le_refl _
  · rw [if_pos h]
    by_cases e : (upd t i x i).toInt < 0
    · rw [if_pos e]; omega
    · rw [if_neg e]; omega
/-- the numbers given so far: at most k, and no more places taken -/
def rx_nbi (k : Nat) (h : rx_H) : Prop := (rx_gF h 37 32).toInt ≤ k ∧ (rx_cnt (rx_gI h 60) : Int) ≤ (rx_gF h 37 32).toInt
theorem rx_nbi.le {k k' : Nat} {h : rx_H} (H : rx_nbi k h) (hk : k ≤ k') : rx_nbi k' h := ⟨by have := H.1; omega, H.2⟩
theorem rx_nbi.of {k : Nat} {h h' : rx_H} (H : rx_nbi k h) (e1 : rx_gF h' 37 32 = rx_gF h 37 32) (e2 : rx_gI h' 60 = rx_gI h 60) : rx_nbi k h' := by
  unfold rx_nbi
  rw [e1, e2]
  exact H
/-- the numbers and the row alone changed -/
theorem rx_Fm_nb {h h' : rx_H} (e : ∀ z, ¬ (z = 37 ∨ z = 52 ∨ z = 58 ∨ z = 59 ∨ z = 60) → h'[z]? = h[z]?) (f : ∀ j, j < 32 → rx_gF h' 37 j = rx_gF h 37 j) : rx_Fm h h' := by
  have a1 : rx_MA h' = rx_MA h := by
    unfold rx_MA
    rw [rx_gI_of (e 46 (by decide)), rx_gI_of (e 47 (by decide)), rx_gI_of (e 48 (by decide))]
  have a2 : rx_MU h' = rx_MU h := by
    unfold rx_MU
    rw [rx_gL_of (e 50 (by decide)), rx_gI_of (e 51 (by decide))]
  refine ⟨fun z hz => e z (by omega), fun j hj => f j (by omega), Or.inr ⟨a1, by omega⟩, fun hn => Or.inl ?_, fun hn => Or.inl ?_⟩
  · rw [← f 17 (by decide)]
    exact hn
  · rw [← f 20 (by decide)]
    exact hn
theorem rx_Xm_nb {h h' : rx_H} (e : ∀ z, ¬ (z = 37 ∨ z = 52 ∨ z = 58 ∨ z = 59 ∨ z = 60) → h'[z]? = h[z]?) (hx : rx_Xm h) : rx_Xm h' := by
  unfold rx_Xm
  rw [rx_gL_of (e 50 (by decide)), rx_gI_of (e 51 (by decide)), rx_gI_of (e 47 (by decide))]
  exact hx
theorem rx_tok_nm {rt : rx_R} (h : rx_tok rx_Em rt) : rx_tok rx_En rt := h
theorem rx_sum_0 {t : Nat → Nat} : ∀ n : Nat, (∀ j, j < n → t j = 0) → rx_sum t n = 0
  | 0, _ => rfl
  | n + 1, h => by
    unfold rx_sum
    rw [rx_sum_0 n (fun j hj => h j (by omega)), h n (by omega)]
set_option maxRecDepth 100000 in
theorem rx_rem2048 : ∀ t : Nat, t < 2048 → (nI t + 1) - (nI t + 1) / (Int16.ofInt 2048).toInt32 * (Int16.ofInt 2048).toInt32 = nI ((t + 1) % 2048) := by decide +kernel
theorem rx_ushr (x : Int64) : ∃ n : Nat, n < 2048 ∧ ((x.toUInt64 >>> ((Int8.ofInt 53).toInt32.toInt64.toUInt64 &&& Int64.toUInt64 63)).toInt64).toInt32 = nI n := by
  rw [show ((Int8.ofInt 53).toInt32.toInt64.toUInt64 &&& Int64.toUInt64 63) = (53 : UInt64) by decide +kernel]
  have h1 : (x.toUInt64 >>> (53 : UInt64)).toNat < 2048 := by
    rw [UInt64.toNat_shiftRight, show (53 : UInt64).toNat % 64 = 53 by decide, Nat.shiftRight_eq_div_pow]
    have := x.toUInt64.toNat_lt
    omega
  generalize x.toUInt64 >>> (53 : UInt64) = y at *
  refine ⟨y.toNat, h1, ?_⟩
  apply Int32.toInt_inj.mp
  rw [nI_toInt (by omega)]
  have h2 : y.toInt64.toInt = (y.toNat : Int) := by
    show y.toInt64.toBitVec.toInt = _
    rw [show y.toInt64.toBitVec = y.toBitVec from rfl, BitVec.toInt_eq_toNat_of_lt (by show 2 * y.toNat < 2 ^ 64; omega)]
    rfl
  rw [Int64.toInt_toInt32, h2]
  exact Int.bmod_eq_of_le (by omega) (by omega)
set_option maxRecDepth 100000 in
set_option maxHeartbeats 4000000 in
theorem rx_nb_h {h : rx_H} (hh : rx_hin rx_I0 h) (K : ∀ x : Int64, rx_T rx_cds rx_ms rx_lk0 rt d w 139 40 [(1, .long x), (0, .ref 53)] [] h P) : ∀ (q c : Nat) (x : Int64), c + q = 22 →
    rx_T rx_cds rx_ms rx_lk0 rt d w 139 11 [(3, .int (nI c)), (1, .long x), (0, .ref 53)] [] h P := by
  intro q
  induction q with
  | zero =>
    intro c x hc
    have ec : c = 22 := by omega
    subst ec
    refine rx_T.to 2 14 [(3, .int (nI 22)), (1, .long x), (0, .ref 53)] [.int (Int8.ofInt 22).toInt32, .int (nI 22)] h rfl ?_
    refine rx_T.op (M := rxm_139) (ins := .if_icmp .ge 26) rfl rfl rfl rfl (rx_b2_t 40 (by decide +kernel) (by decide)) ?_
    exact rx_T.lv [(1, .long x), (0, .ref 53)] (((rx_lvl.nil _).cons rfl rfl).cons rfl rfl) (K x)
  | succ q ih =>
    intro c x hc
    have hc22 : c < 22 := by omega
    refine rx_T.to 2 14 [(3, .int (nI c)), (1, .long x), (0, .ref 53)] [.int (Int8.ofInt 22).toInt32, .int (nI c)] h rfl ?_
    refine rx_T.op (M := rxm_139) (ins := .if_icmp .ge 26) rfl rfl rfl rfl (rx_b2_f (decide_eq_false (show ¬ (Int8.ofInt 22).toInt32 ≤ nI c by rw [show (Int8.ofInt 22).toInt32 = nI 22 by decide +kernel]; exact nI_ge hc22 (by decide))) (by decide)) ?_
    refine rx_T.to 4 23 [(3, .int (nI c)), (1, .long x), (0, .ref 53)] [.ref 53, .long _] h rfl ?_
    refine rx_T.gfr (M := rxm_139) (k := 37) rfl rfl rfl hh rfl rfl ?_
    refine rx_T.to 1 27 [(3, .int (nI c)), (1, .long x), (0, .ref 53)] [.int (nI c), .ref 68, .long _] h rfl ?_
    refine rx_T.lald (M := rxm_139) rfl rfl (rx_rl_i (k := 52) (rx_lat_g hh).2.2) (vp_in_nI hc22 (by decide)) ?_
    refine rx_T.to 6 11 [(3, .int (nI c + Int32.ofInt 1)), (1, .long _), (0, .ref 53)] [] h rfl ?_
    rw [show nI c + Int32.ofInt 1 = nI (c + 1) from nI_1 c]
    exact ih (c + 1) _ (by omega)
theorem rx_ix22b (a b : Nat) (ha : a < 500) (hb : b < 22) : (Int8.ofInt 22).toInt32 * nI a + nI b = nI (22 * a + b) := by
  rw [show (Int8.ofInt 22).toInt32 = nI 22 by decide +kernel, rx_mulI 22 a (by omega) (by decide) (by omega), nI_add]
set_option maxRecDepth 100000 in
set_option maxHeartbeats 4000000 in
theorem rx_nb_k {m t : Nat} (hm : m ≤ 442) : ∀ (q c : Nat) (h : rx_H), c + q = 22 → rx_hin rx_I0 h → rx_gF h 37 32 = nI m →
    (∀ h' : rx_H, rx_hin rx_I0 h' → (∀ z, ¬ z = 58 → h'[z]? = h[z]?) → rx_T rx_cds rx_ms rx_lk0 rt d w 139 136 [(3, .int (nI t)), (0, .ref 53)] [] h' P) →
    rx_T rx_cds rx_ms rx_lk0 rt d w 139 101 [(4, .int (nI c)), (3, .int (nI t)), (0, .ref 53)] [] h P := by
  intro q
  induction q with
  | zero =>
    intro c h hc hh em K
    have ec : c = 22 := by omega
    subst ec
    refine rx_T.to 2 105 [(4, .int (nI 22)), (3, .int (nI t)), (0, .ref 53)] [.int (Int8.ofInt 22).toInt32, .int (nI 22)] h rfl ?_
    refine rx_T.op (M := rxm_139) (ins := .if_icmp .ge 31) rfl rfl rfl rfl (rx_b2_t 136 (by decide +kernel) (by decide)) ?_
    exact rx_T.lv [(3, .int (nI t)), (0, .ref 53)] (((rx_lvl.nil _).cons rfl rfl).cons rfl rfl) (K h hh (fun _ _ => rfl))
  | succ q ih =>
    intro c h hc hh em K
    have hc22 : c < 22 := by omega
    refine rx_T.to 2 105 [(4, .int (nI c)), (3, .int (nI t)), (0, .ref 53)] [.int (Int8.ofInt 22).toInt32, .int (nI c)] h rfl ?_
    refine rx_T.op (M := rxm_139) (ins := .if_icmp .ge 31) rfl rfl rfl rfl (rx_b2_f (decide_eq_false (show ¬ (Int8.ofInt 22).toInt32 ≤ nI c by rw [show (Int8.ofInt 22).toInt32 = nI 22 by decide +kernel]; exact nI_ge hc22 (by decide))) (by decide)) ?_
    refine rx_T.to 1 109 [(4, .int (nI c)), (3, .int (nI t)), (0, .ref 53)] [.ref 53] h rfl ?_
    refine rx_T.gfr (M := rxm_139) (k := 37) rfl rfl rfl hh rfl rfl ?_
    refine rx_T.to 2 115 [(4, .int (nI c)), (3, .int (nI t)), (0, .ref 53)] [.ref 53, .int (Int8.ofInt 22).toInt32, .ref 74] h rfl ?_
    refine rx_T.gfF (M := rxm_139) (k := 37) rfl rfl rfl hh rfl rfl ?_
    rw [em]
    refine rx_T.to 4 123 [(4, .int (nI c)), (3, .int (nI t)), (0, .ref 53)] [.ref 53, .int (((Int8.ofInt 22).toInt32 * (nI m)) + (nI c)), .ref 74] h rfl ?_
    rw [rx_ix22b m c (by omega) hc22]
    refine rx_T.gfr (M := rxm_139) (k := 37) rfl rfl rfl hh rfl rfl ?_
    refine rx_T.to 1 128 [(4, .int (nI c)), (3, .int (nI t)), (0, .ref 53)] [.int (nI c), .ref 68, .int (nI (22 * m + c)), .ref 74] h rfl ?_
    refine rx_T.laR (M := rxm_139) (k := 52) rfl rfl hh rfl (show c < 22 by omega) (by decide) ?_
    refine rx_T.laW (M := rxm_139) (k := 58) rfl rfl hh rfl (show (22 * m + c) < 10000 by omega) (by decide) (fun h2 hh2 z2 => ?_)
    refine rx_T.to 2 101 [(4, .int ((nI c) + Int32.ofInt 1)), (3, .int (nI t)), (0, .ref 53)] [] h2 rfl ?_
    rw [show nI c + Int32.ofInt 1 = nI (c + 1) from nI_1 c]
    exact ih (c + 1) h2 (by omega) hh2 ((rx_gF_of (z2 37 (by decide))).trans em) (fun h' a1 a2 => K h' a1 (fun z hz => (a2 z hz).trans (z2 z hz)))
set_option maxRecDepth 100000 in
set_option maxHeartbeats 4000000 in
theorem rx_nb_e {k t : Nat} {h : rx_H} (hk : k ≤ 442) (ht2 : t < 2048) (hh : rx_hin rx_I0 h) (hx : rx_Xm h) (hb : rx_nbi k h) : rx_T rx_cds rx_ms rx_lk0 rt d w 139 79 [(3, .int (nI t)), (0, .ref 53)] [] h (fun v h' => (∃ x : Int32, v = some (.int x) ∧ 0 ≤ x.toInt ∧ x.toInt ≤ 442) ∧ rx_hin rx_I0 h' ∧ rx_Xm h' ∧ rx_Fm h h' ∧ rx_nbi (k + 1) h') := by
  have bF := rx_bF (h := h) (k := 37) (j := 32) hh rfl rfl
  obtain ⟨m, eF, _⟩ := rx_nIof (n := 443) bF.1 bF.2
  have hm : m ≤ k := by
    have := hb.1
    rw [eF, nI_toInt (by omega)] at this
    omega
  refine rx_T.to 1 80 [(3, .int (nI t)), (0, .ref 53)] [.ref 53] h rfl ?_
  refine rx_T.gfr (M := rxm_139) (k := 37) rfl rfl rfl hh rfl rfl ?_
  refine rx_T.to 1 84 [(3, .int (nI t)), (0, .ref 53)] [.int (nI t), .ref 76] h rfl ?_
  refine rx_T.iaR (M := rxm_139) (k := 60) rfl rfl hh rfl (show t < 2048 by omega) (by decide) ?_
  refine rx_T.br1 (M := rxm_139) 146 rfl rfl (by decide) (fun q0 => ?_) (fun q0 => ?_)
  · have q1 : 0 ≤ (rx_gI h 60 t).toInt := Int32.le_iff_toInt_le.mp (of_decide_eq_true q0)
    refine rx_T.to 1 147 [(3, .int (nI t)), (0, .ref 53)] [.ref 53] h rfl ?_
    refine rx_T.gfr (M := rxm_139) (k := 37) rfl rfl rfl hh rfl rfl ?_
    refine rx_T.to 1 151 [(3, .int (nI t)), (0, .ref 53)] [.int (nI t), .ref 76] h rfl ?_
    refine rx_T.iaR (M := rxm_139) (k := 60) rfl rfl hh rfl (show t < 2048 by omega) (by decide) ?_
    exact rx_T.ret (M := rxm_139) (v := some (.int (rx_gI h 60 t))) rfl rfl rfl ⟨⟨_, rfl, q1, (rx_bI (h := h) (k := 60) (j := t) hh rfl ht2).2⟩, hh, hx, rx_Fm.refl h, hb.le (by omega)⟩
  · have q1 : (rx_gI h 60 t).toInt < 0 := by
      have z : ¬ 0 ≤ (rx_gI h 60 t).toInt := fun z => of_decide_eq_false q0 (Int32.le_iff_toInt_le.mpr z)
      omega
    refine rx_T.to 1 89 [(3, .int (nI t)), (0, .ref 53)] [.ref 53] h rfl ?_
    refine rx_T.gfr (M := rxm_139) (k := 37) rfl rfl rfl hh rfl rfl ?_
    refine rx_T.to 2 94 [(3, .int (nI t)), (0, .ref 53)] [.ref 53, .int (nI t), .ref 76] h rfl ?_
    refine rx_T.gfF (M := rxm_139) (k := 37) rfl rfl rfl hh rfl rfl ?_
    rw [eF]
    refine rx_T.iaW (M := rxm_139) (k := 60) rfl rfl hh rfl (show t < 2048 by omega) (by decide) (by rw [nI_toInt (by omega)]; omega) (by rw [nI_toInt (by omega)]; omega) (fun h2 hh2 v2 z2 => ?_)
    have eF2 : rx_gF h2 37 32 = nI m := (rx_gF_of (z2 37 (by decide))).trans eF
    refine rx_T.to 2 101 [(4, .int (nI 0)), (3, .int (nI t)), (0, .ref 53)] [] h2 rfl ?_
    refine rx_nb_k (m := m) (by omega) 22 0 h2 rfl hh2 eF2 (fun h3 hh3 z3 => ?_)
    have eF3 : rx_gF h3 37 32 = nI m := (rx_gF_of (z3 37 (by decide))).trans eF2
    refine rx_T.to 2 138 [(3, .int (nI t)), (0, .ref 53)] [.ref 53, .ref 53] h3 rfl ?_
    refine rx_T.gfF (M := rxm_139) (k := 37) rfl rfl rfl hh3 rfl rfl ?_
    rw [eF3]
    refine rx_T.to 2 143 [(3, .int (nI t)), (0, .ref 53)] [.int ((nI m) + 1), .ref 53] h3 rfl ?_
    rw [show nI m + 1 = nI (m + 1) from nI_1 m]
    refine rx_T.pfF (M := rxm_139) (k := 37) rfl rfl rfl hh3 rfl rfl rfl (by rw [nI_toInt (by omega)]; omega) (by rw [nI_toInt (by omega)]; omega) (fun h4 hh4 v4 f4 z4 => ?_)
    refine rx_T.to 1 147 [(3, .int (nI t)), (0, .ref 53)] [.ref 53] h4 rfl ?_
    refine rx_T.gfr (M := rxm_139) (k := 37) rfl rfl rfl hh4 rfl rfl ?_
    refine rx_T.to 1 151 [(3, .int (nI t)), (0, .ref 53)] [.int (nI t), .ref 76] h4 rfl ?_
    refine rx_T.iaR (M := rxm_139) (k := 60) rfl rfl hh4 rfl (show t < 2048 by omega) (by decide) ?_
    have e4 : rx_gI h4 60 = upd (rx_gI h 60) t (nI m) := by rw [rx_gI_of (z4 60 (by decide)), rx_gI_of (z3 60 (by decide)), v2]
    have s1 : ∀ z, ¬ (z = 37 ∨ z = 52 ∨ z = 58 ∨ z = 59 ∨ z = 60) → h4[z]? = h[z]? := fun z hz => by rw [z4 z (by omega), z3 z (by omega), z2 z (by omega)]
    have s2 : ∀ j, j < 32 → rx_gF h4 37 j = rx_gF h 37 j := fun j hj => by rw [f4 j (by omega), rx_gF_of (z3 37 (by decide)), rx_gF_of (z2 37 (by decide))]
    rw [e4, show upd (rx_gI h 60) t (nI m) t = nI m from if_pos rfl]
    refine rx_T.ret (M := rxm_139) (v := some (.int (nI m))) rfl rfl rfl ⟨⟨_, rfl, by rw [nI_toInt (by omega)]; omega, by rw [nI_toInt (by omega)]; omega⟩, hh4, rx_Xm_nb s1 hx, rx_Fm_nb s1 s2, ?_⟩
    have b1 := hb.2
    rw [eF, nI_toInt (by omega)] at b1
    have b2 := rx_cnt_upd (x := nI m) q1
    unfold rx_nbi
    rw [v4, e4, nI_toInt (by omega)]
    exact ⟨by omega, by omega⟩
set_option maxRecDepth 100000 in
set_option maxHeartbeats 4000000 in
theorem rx_nb_w {k : Nat} {h : rx_H} (hk : k ≤ 442) (ht : rx_tok rx_Em rt) (hw : 30 ≤ w) (hh : rx_hin rx_I0 h) (hx : rx_Xm h) (hb : rx_nbi k h) : ∀ (q t : Nat), t < 2048 → (∃ s, s ≤ q ∧ (rx_gI h 60 ((t + s) % 2048)).toInt < 0) →
    rx_T rx_cds rx_ms rx_lk0 rt (d + 1) w 139 46 [(3, .int (nI t)), (0, .ref 53)] [] h (fun v h' => (∃ x : Int32, v = some (.int x) ∧ 0 ≤ x.toInt ∧ x.toInt ≤ 442) ∧ rx_hin rx_I0 h' ∧ rx_Xm h' ∧ rx_Fm h h' ∧ rx_nbi (k + 1) h') := by
  obtain ⟨f, e0, e1⟩ := rx_get_a (k := 60) hh rfl
  rw [rx_gI_at e0]
  intro q
  induction q with
  | zero =>
    intro t ht2 hz
    obtain ⟨s, hs, hz⟩ := hz
    have es : s = 0 := by omega
    subst es
    rw [Nat.add_zero, Nat.mod_eq_of_lt ht2] at hz
    refine rx_T.to 1 47 [(3, .int (nI t)), (0, .ref 53)] [.ref 53] h rfl ?_
    refine rx_T.gfr (M := rxm_139) (k := 37) rfl rfl rfl hh rfl rfl ?_
    refine rx_T.to 1 51 [(3, .int (nI t)), (0, .ref 53)] [.int (nI t), .ref 76] h rfl ?_
    refine rx_T.iald (M := rxm_139) rfl rfl (rx_ri_i (k := 60) e0) (vp_in_nI ht2 (by decide)) ?_
    rw [nI_clamp (show t < 2 ^ 31 by omega)]
    refine rx_T.op (M := rxm_139) (ins := .ifCond .lt 27) rfl rfl rfl rfl (rx_b1_t 79 (decide_eq_true (Int32.lt_iff_toInt_lt.mpr hz)) (by decide)) ?_
    exact rx_nb_e hk ht2 hh hx hb
  | succ q ih =>
    intro t ht2 hz
    refine rx_T.to 1 47 [(3, .int (nI t)), (0, .ref 53)] [.ref 53] h rfl ?_
    refine rx_T.gfr (M := rxm_139) (k := 37) rfl rfl rfl hh rfl rfl ?_
    refine rx_T.to 1 51 [(3, .int (nI t)), (0, .ref 53)] [.int (nI t), .ref 76] h rfl ?_
    refine rx_T.iald (M := rxm_139) rfl rfl (rx_ri_i (k := 60) e0) (vp_in_nI ht2 (by decide)) ?_
    rw [nI_clamp (show t < 2 ^ 31 by omega)]
    refine rx_T.br1 (M := rxm_139) 79 rfl rfl (by decide) (fun _ => rx_nb_e hk ht2 hh hx hb) (fun q0 => ?_)
    have q1 : ¬ (f t).toInt < 0 := fun z => of_decide_eq_false q0 (Int32.lt_iff_toInt_lt.mpr z)
    refine rx_T.to 2 57 [(3, .int (nI t)), (0, .ref 53)] [.ref 53, .ref 53] h rfl ?_
    refine rx_T.gfr (M := rxm_139) (k := 37) rfl rfl rfl hh rfl rfl ?_
    refine rx_T.to 1 61 [(3, .int (nI t)), (0, .ref 53)] [.int (nI t), .ref 76, .ref 53] h rfl ?_
    refine rx_T.iald (M := rxm_139) rfl rfl (rx_ri_i (k := 60) e0) (vp_in_nI ht2 (by decide)) ?_
    rw [nI_clamp (show t < 2 ^ 31 by omega)]
    refine rx_T.callm (M := rxm_139) (N := rxm_140) (j := 140) (nest := 0) (as' := [.int (f t)]) (rest := []) rfl rfl rfl rfl rfl rfl rfl rfl (Nat.le_of_ble_eq_true rfl) (Nat.le_of_ble_eq_true rfl) hh (show 19 + 4 ≤ w by omega) (rxnc_0 rt d (w - (19 + 4)) [.ref 53, .int (f t)] h (rx_tok_nm ht) (show 0 ≤ d by omega) (show 0 ≤ w - (19 + 4) by omega) ⟨⟨53, rfl, Nat.le_refl _, Nat.le_refl _⟩, ⟨_, rfl, by simp only; omega, (e1 t ht2).2⟩, trivial⟩ hh trivial) ?_
    intro v1 h1 hp
    obtain ⟨pv, _, _, rfl⟩ := hp
    obtain ⟨u1, rfl, u2, rfl, _⟩ := rx_pin_s pv
    refine rx_T.br1 (M := rxm_139) 79 rfl rfl (by decide) (fun _ => rx_nb_e hk ht2 hh hx hb) (fun _ => ?_)
    refine rx_T.to 4 74 [(3, .int (nI t)), (0, .ref 53)] [.int (Int16.ofInt 2048).toInt32, .int ((nI t) + 1)] h1 rfl ?_
    refine rx_T.irm (M := rxm_139) rfl rfl (show ¬ (Int16.ofInt 2048).toInt32 = 0 by decide +kernel) ?_
    refine rx_T.to 2 46 [(3, .int ((nI t + 1) - (nI t + 1) / (Int16.ofInt 2048).toInt32 * (Int16.ofInt 2048).toInt32)), (0, .ref 53)] [] h1 rfl ?_
    rw [rx_rem2048 t ht2]
    refine ih ((t + 1) % 2048) (Nat.mod_lt _ (by decide)) ?_
    obtain ⟨s, hs, hz⟩ := hz
    have es : ¬ s = 0 := fun z => by
      subst z
      rw [Nat.add_zero, Nat.mod_eq_of_lt ht2] at hz
      exact q1 hz
    refine ⟨s - 1, by omega, ?_⟩
    rw [show ((t + 1) % 2048 + (s - 1)) % 2048 = (t + s) % 2048 by omega]
    exact hz
set_option maxRecDepth 100000 in
set_option maxHeartbeats 4000000 in
theorem rx_number {k : Nat} {h : rx_H} (hk : k ≤ 442) (ht : rx_tok rx_Em rt) (hw : 90 ≤ w) (hh : rx_hin rx_I0 h) (hx : rx_Xm h) (hb : rx_nbi k h) : rx_T rx_cds rx_ms rx_lk0 rt (d + 2) w 139 0 [(0, .ref 53)] [] h (fun v h' => (∃ x : Int32, v = some (.int x) ∧ 0 ≤ x.toInt ∧ x.toInt ≤ 442) ∧ rx_hin rx_I0 h' ∧ rx_Xm h' ∧ rx_Fm h h' ∧ rx_nbi (k + 1) h') := by
  refine rx_T.to 2 2 [(0, .ref 53)] [.int 0, .ref 53] h rfl ?_
  refine rx_T.callm (M := rxm_139) (N := rxm_130) (j := 130) (nest := 0) (as' := [.int 0]) (rest := []) rfl rfl rfl rfl rfl rfl rfl rfl (Nat.le_of_ble_eq_true rfl) (Nat.le_of_ble_eq_true rfl) hh (show 19 + 6 ≤ w by omega) (rx_red_r rt (d + 1) (w - (19 + 6)) [.ref 53, .int 0] h ht (show 1 ≤ (d + 1) by omega) (show 60 ≤ w - (19 + 6) by omega) ⟨⟨53, rfl, Nat.le_refl _, Nat.le_refl _⟩, ⟨_, rfl, by decide, by decide⟩, trivial⟩ hh hx) ?_
  intro v1 h1 hp
  obtain ⟨pv, hh1, hx1, e1⟩ := hp
  obtain rfl := rx_pin_n pv
  have hb1 : rx_nbi k h1 := hb.of (rx_gF_of (e1 37 (by decide))) (rx_gI_of (e1 60 (by decide)))
  refine rx_T.to 4 11 [(3, .int (nI 0)), (1, .long _), (0, .ref 53)] [] h1 rfl ?_
  refine rx_nb_h hh1 (fun x => ?_) 22 0 _ rfl
  refine rx_T.to 5 46 [(3, .int ((x.toUInt64 >>> ((Int8.ofInt 53).toInt32.toInt64.toUInt64 &&& Int64.toUInt64 63)).toInt64).toInt32), (1, .long x), (0, .ref 53)] [] h1 rfl ?_
  obtain ⟨t, ht2, et⟩ := rx_ushr x
  rw [et]
  refine rx_T.lv [(3, .int (nI t)), (0, .ref 53)] (((rx_lvl.nil _).cons rfl rfl).cons rfl rfl) ?_
  have hfree : ∃ j, j < 2048 ∧ (rx_gI h1 60 j).toInt < 0 := rx_cnt_free (by
    have := hb1.1
    have := hb1.2
    omega)
  obtain ⟨j, hj, hz⟩ := hfree
  refine (rx_nb_w (d := d + 1) (k := k) hk ht (by omega) hh1 hx1 hb1 2047 t ht2 ⟨(j + 2048 - t) % 2048, by omega, ?_⟩).mono (fun v h' p => ⟨p.1, p.2.1, p.2.2.1, (rx_Fm_row e1).trans p.2.2.2.1, p.2.2.2.2⟩)
  rw [show (t + (j + 2048 - t) % 2048) % 2048 = j by omega]
  exact hz
end RXNB
