section RXPN
variable {rt : rx_R} {d w : Nat} {P : Option Value → rx_H → Prop}
theorem rx_ix8 (a b : Nat) (ha : a < 100) (hb : b < 8) : (Int8.ofInt 8).toInt32 * nI a + nI b = nI (8 * a + b) := by
  rw [show (Int8.ofInt 8).toInt32 = nI 8 by decide +kernel, rx_mulI 8 a (by omega) (by decide) (by omega), nI_add]
set_option maxRecDepth 100000 in
set_option maxHeartbeats 4000000 in
theorem rx_mf_l {f c : Nat} (hf : f < 30) (hc : c ≤ 8) : ∀ (q j : Nat) (h : rx_H), j + q = c → rx_hin rx_I0 h → rx_gF h 37 6 = nI f → (∀ h', rx_hin rx_I0 h' → (∀ z, ¬ z = 42 → h'[z]? = h[z]?) → rx_T rx_cds rx_ms rx_lk0 rt d w 109 118 [(0, .ref 53)] [] h' P) →
    rx_T rx_cds rx_ms rx_lk0 rt d w 109 83 [(5, .int (nI j)), (4, .int (nI c)), (0, .ref 53)] [] h P := by
  intro q
  induction q with
  | zero =>
    intro j h hj hh ef K
    have ej : j = c := by omega
    subst ej
    refine rx_T.to 2 87 [(5, .int (nI j)), (4, .int (nI j)), (0, .ref 53)] [.int (nI j), .int (nI j)] h rfl ?_
    refine rx_T.op (M := rxm_109) (ins := .if_icmp .ge 31) rfl rfl rfl rfl (rx_b2_t 118 (decide_eq_true (nI_le (Nat.le_refl j) (by omega))) (by decide)) ?_
    refine rx_T.lv [(0, .ref 53)] ((rx_lvl.nil _).cons rfl rfl) ?_
    exact K h hh (fun _ _ => rfl)
  | succ q ih =>
    intro j h hj hh ef K
    have hjc : j < c := by omega
    refine rx_T.to 2 87 [(5, .int (nI j)), (4, .int (nI c)), (0, .ref 53)] [.int (nI c), .int (nI j)] h rfl ?_
    refine rx_T.op (M := rxm_109) (ins := .if_icmp .ge 31) rfl rfl rfl rfl (rx_b2_f (decide_eq_false (nI_ge hjc (by omega))) (by decide)) ?_
    refine rx_T.to 1 91 [(5, .int (nI j)), (4, .int (nI c)), (0, .ref 53)] [.ref 53] h rfl ?_
    refine rx_T.gfr (M := rxm_109) (k := 37) rfl rfl rfl hh rfl rfl ?_
    refine rx_T.to 2 97 [(5, .int (nI j)), (4, .int (nI c)), (0, .ref 53)] [.ref 53, .int (Int8.ofInt 8).toInt32, .ref 58] h rfl ?_
    refine rx_T.gfF (M := rxm_109) (k := 37) rfl rfl rfl hh rfl rfl ?_
    rw [ef]
    refine rx_T.to 4 105 [(5, .int (nI j)), (4, .int (nI c)), (0, .ref 53)] [.ref 53, .int (((Int8.ofInt 8).toInt32 * (nI f)) + (nI j)), .ref 58] h rfl ?_
    rw [rx_ix8 f j (by omega) (by omega)]
    refine rx_T.gfr (M := rxm_109) (k := 37) rfl rfl rfl hh rfl rfl ?_
    refine rx_T.to 1 110 [(5, .int (nI j)), (4, .int (nI c)), (0, .ref 53)] [.int (nI j), .ref 56, .int (nI (8 * f + j)), .ref 58] h rfl ?_
    refine rx_T.iaR (M := rxm_109) (k := 40) rfl rfl hh rfl (show j < 8 by omega) (by decide) ?_
    have hb := rx_bI (h := h) (k := 40) (j := j) hh rfl (by omega)
    refine rx_T.iaW (M := rxm_109) (k := 42) rfl rfl hh rfl (show (8 * f + j) < 320 by omega) (by decide) hb.1 hb.2 (fun h2 hh2 v2 z2 => ?_)
    refine rx_T.to 2 83 [(5, .int ((nI j) + Int32.ofInt 1)), (4, .int (nI c)), (0, .ref 53)] [] h2 rfl ?_
    rw [show nI j + Int32.ofInt 1 = nI (j + 1) from nI_1 j]
    exact ih (j + 1) h2 (by omega) hh2 ((rx_gF_of (z2 37 (by decide))).trans ef) (fun h3 a1 a2 => K h3 a1 (fun z hz => (a2 z hz).trans (z2 z hz)))
set_option maxRecDepth 100000 in
set_option maxHeartbeats 4000000 in
theorem rx_mfact {n f c : Nat} {k : Int32} {h : rx_H} (hw : 120 ≤ w) (H : rx_CM h n f c) : rx_T rx_cds rx_ms rx_lk0 rt (d + 4) w 109 0 [(0, .ref 53), (1, .int k)] [] h (fun v h' => rx_hin rx_I0 h' ∧ rx_Xm h' ∧ (∀ z, z < 37 ∨ (38 ≤ z ∧ z < 41) → h'[z]? = h[z]?) ∧ rx_gF h' 37 1 = rx_gF h 37 1 ∧ rx_gF h' 37 5 = 0 ∧ ((∃ K, K ≤ 6 ∧ k = nI K ∧ rx_OK K c (rx_p h) ∧ f < 30 ∧ ((v = some (.int (nI f)) ∧ rx_HV (rx_gI h 38) (rx_gI h 39) K (rx_p h) ∧ rx_gF h' 37 6 = nI (f + 1)) ∨ (v = some (.int (-2)) ∧ ¬ rx_HV (rx_gI h 38) (rx_gI h 39) K (rx_p h) ∧ rx_gF h' 37 6 = nI f))) ∨ (((∀ K, K ≤ 6 → k = nI K → ¬ rx_OK K c (rx_p h)) ∨ ¬ f < 30) ∧ v = some (.int (-1)) ∧ rx_gF h' 37 6 = nI f))) := by
  have hh := H.1
  have hc := H.2.2.2.2.1
  have hf := H.2.2.2.1
  refine rx_T.to 2 2 [(0, .ref 53), (1, .int k)] [.int 0, .ref 53] h rfl ?_
  refine rx_T.pfF (M := rxm_109) (k := 37) rfl rfl rfl hh rfl rfl rfl (by decide) (by decide) (fun h1 hh1 v1 f1 z1 => ?_)
  have hx1 := rx_Xm_z (h := h) (fun z hz => z1 z (by omega)) H.2.1
  have en1 : rx_gF h1 37 1 = nI n := (f1 1 (by decide)).trans H.2.2.2.2.2.1
  have ef1 : rx_gF h1 37 6 = nI f := (f1 6 (by decide)).trans H.2.2.2.2.2.2.1
  have ec1 : rx_gF h1 37 5 = nI c := (f1 5 (by decide)).trans H.2.2.2.2.2.2.2
  obtain ⟨vs, c1, d2, d3⟩ := rx_get_o hh1 (k := 37) rfl
  obtain ⟨v5, c5, y5, rfl, _⟩ := d3 5 _ rfl
  have e5 := (rx_fk_at c1 c5).symm.trans ec1
  subst e5
  have ep : rx_p h1 = rx_p h := by unfold rx_p; rw [rx_gI_of (z1 40 (by decide))]
  have g8 : rx_gI h1 38 = rx_gI h 38 := rx_gI_of (z1 38 (by decide))
  have g9 : rx_gI h1 39 = rx_gI h 39 := rx_gI_of (z1 39 (by decide))
  refine rx_T.to 2 7 [(0, .ref 53), (1, .int k)] [.int k, .ref 53] h1 rfl ?_
  refine rx_T.callm (M := rxm_109) (N := rxm_100) (j := 100) (nest := 0) (as' := [.int k]) (rest := []) rfl rfl rfl rfl rfl rfl rfl rfl (Nat.le_of_ble_eq_true rfl) (Nat.le_of_ble_eq_true rfl) hh1 (show 19 + 6 ≤ w by omega) (rx_isFact (d := d + 2) (show 20 ≤ w - (19 + 6) by omega) hc hh1 c1 c5) ?_
  intro v2 g2 hp
  obtain ⟨e2, hp⟩ := hp
  rw [e2]
  rw [ep] at hp
  rcases hp with ⟨K, hK6, rfl, hok, rfl⟩ | ⟨hno, rfl⟩
  · refine rx_T.op (M := rxm_109) (ins := .ifCond .eq 16) rfl rfl rfl rfl (rx_b1_f (by decide) (by decide)) ?_
    refine rx_T.to 1 14 [(0, .ref 53), (1, .int (nI K))] [.ref 53] h1 rfl ?_
    refine rx_T.gfF (M := rxm_109) (k := 37) rfl rfl rfl hh1 rfl rfl ?_
    rw [ef1]
    refine rx_T.to 1 19 [(0, .ref 53), (1, .int (nI K))] [.int (Int8.ofInt 30).toInt32, .int (nI f)] h1 rfl ?_
    refine rx_T.br2 (M := rxm_109) 26 rfl rfl (by decide) (fun r => ?_) (fun r => ?_)
    · have z : ((Int8.ofInt 30).toInt32).toInt ≤ (nI f).toInt := Int32.le_iff_toInt_le.mp (of_decide_eq_true r)
      rw [show ((Int8.ofInt 30).toInt32).toInt = 30 by decide +kernel, nI_toInt (by omega)] at z
      refine rx_T.to 3 29 [(2, .int 0), (0, .ref 53), (1, .int (nI K))] [.int 0] h1 rfl ?_
      refine rx_T.op (M := rxm_109) (ins := .ifCond .eq 15) rfl rfl rfl rfl (rx_b1_t 44 (by decide) (by decide)) ?_
      refine rx_T.to 3 47 [(3, .int 0), (2, .int 0), (0, .ref 53), (1, .int (nI K))] [.ref 53] h1 rfl ?_
      refine rx_T.gfF (M := rxm_109) (k := 37) rfl rfl rfl hh1 rfl rfl ?_
      rw [ec1]
      refine rx_T.to 3 54 [(4, .int (nI c)), (3, .int 0), (2, .int 0), (0, .ref 53), (1, .int (nI K))] [.int 0, .ref 53] h1 rfl ?_
      refine rx_T.pfF (M := rxm_109) (k := 37) rfl rfl rfl hh1 rfl rfl rfl (by decide) (by decide) (fun h4 hh4 v4 f4 z4 => ?_)
      refine rx_T.to 1 58 [(4, .int (nI c)), (3, .int 0), (2, .int 0), (0, .ref 53), (1, .int (nI K))] [.int 0] h4 rfl ?_
      refine rx_T.op (M := rxm_109) (ins := .ifCond .ne 5) rfl rfl rfl rfl (rx_b1_f (by decide) (by decide)) ?_
      refine rx_T.to 1 62 [(4, .int (nI c)), (3, .int 0), (2, .int 0), (0, .ref 53), (1, .int (nI K))] [.int (-1)] h4 rfl ?_
      exact rx_T.ret (M := rxm_109) (v := some (.int (-1))) rfl rfl rfl ⟨hh4, rx_Xm_z (h := h1) (fun z hz => z4 z (by omega)) hx1, fun z hz => (z4 z (by omega)).trans (z1 z (by omega)), (f4 1 (by decide)).trans (f1 1 (by decide)), v4, Or.inr ⟨Or.inr (by omega), rfl, (f4 6 (by decide)).trans ef1⟩⟩
    · have z : ¬ ((Int8.ofInt 30).toInt32).toInt ≤ (nI f).toInt := fun z => of_decide_eq_false r (Int32.le_iff_toInt_le.mpr z)
      rw [show ((Int8.ofInt 30).toInt32).toInt = 30 by decide +kernel, nI_toInt (by omega)] at z
      refine rx_T.to 4 29 [(2, .int 1), (0, .ref 53), (1, .int (nI K))] [.int 1] h1 rfl ?_
      refine rx_T.op (M := rxm_109) (ins := .ifCond .eq 15) rfl rfl rfl rfl (rx_b1_f (by decide) (by decide)) ?_
      refine rx_T.to 2 34 [(2, .int 1), (0, .ref 53), (1, .int (nI K))] [.int (nI K), .ref 53] h1 rfl ?_
      refine rx_T.callm (M := rxm_109) (N := rxm_102) (j := 102) (nest := 0) (as' := [.int (nI K)]) (rest := []) rfl rfl rfl rfl rfl rfl rfl rfl (Nat.le_of_ble_eq_true rfl) (Nat.le_of_ble_eq_true rfl) hh1 (show 19 + 2 ≤ w by omega) (rx_mholds (d := d) hK6 (show 90 ≤ w - (19 + 2) by omega) hh1) ?_
      intro v3 g3 hp
      obtain ⟨hp, e3⟩ := hp
      rw [e3]
      rw [ep, g8, g9] at hp
      rcases hp with ⟨rfl, hv⟩ | ⟨rfl, hv⟩
      · refine rx_T.op (M := rxm_109) (ins := .ifCond .eq 7) rfl rfl rfl rfl (rx_b1_f (by decide) (by decide)) ?_
        refine rx_T.to 4 47 [(3, .int 1), (2, .int 1), (0, .ref 53), (1, .int (nI K))] [.ref 53] h1 rfl ?_
        refine rx_T.gfF (M := rxm_109) (k := 37) rfl rfl rfl hh1 rfl rfl ?_
        rw [ec1]
        refine rx_T.to 3 54 [(4, .int (nI c)), (3, .int 1), (2, .int 1), (0, .ref 53), (1, .int (nI K))] [.int 0, .ref 53] h1 rfl ?_
        refine rx_T.pfF (M := rxm_109) (k := 37) rfl rfl rfl hh1 rfl rfl rfl (by decide) (by decide) (fun h4 hh4 v4 f4 z4 => ?_)
        have ef4 : rx_gF h4 37 6 = nI f := (f4 6 (by decide)).trans ef1
        refine rx_T.to 1 58 [(4, .int (nI c)), (3, .int 1), (2, .int 1), (0, .ref 53), (1, .int (nI K))] [.int 1] h4 rfl ?_
        refine rx_T.op (M := rxm_109) (ins := .ifCond .ne 5) rfl rfl rfl rfl (rx_b1_t 63 (by decide) (by decide)) ?_
        refine rx_T.to 1 64 [(4, .int (nI c)), (3, .int 1), (2, .int 1), (0, .ref 53), (1, .int (nI K))] [.int 1] h4 rfl ?_
        refine rx_T.op (M := rxm_109) (ins := .ifCond .ne 6) rfl rfl rfl rfl (rx_b1_t 70 (by decide) (by decide)) ?_
        refine rx_T.to 1 71 [(4, .int (nI c)), (3, .int 1), (2, .int 1), (0, .ref 53), (1, .int (nI K))] [.ref 53] h4 rfl ?_
        refine rx_T.gfr (M := rxm_109) (k := 37) rfl rfl rfl hh4 rfl rfl ?_
        refine rx_T.to 1 75 [(4, .int (nI c)), (3, .int 1), (2, .int 1), (0, .ref 53), (1, .int (nI K))] [.ref 53, .ref 57] h4 rfl ?_
        refine rx_T.gfF (M := rxm_109) (k := 37) rfl rfl rfl hh4 rfl rfl ?_
        rw [ef4]
        refine rx_T.to 1 79 [(4, .int (nI c)), (3, .int 1), (2, .int 1), (0, .ref 53), (1, .int (nI K))] [.int (nI K), .int (nI f), .ref 57] h4 rfl ?_
        refine rx_T.iaW (M := rxm_109) (k := 41) rfl rfl hh4 rfl (show f < 40 by omega) (by decide) (rxi_lo _) (rxi_hi _) (fun h5 hh5 v5 z5 => ?_)
        refine rx_T.to 2 83 [(5, .int (nI 0)), (4, .int (nI c)), (3, .int 1), (2, .int 1), (0, .ref 53), (1, .int (nI K))] [] h5 rfl ?_
        refine rx_T.lv [(5, .int (nI 0)), (4, .int (nI c)), (0, .ref 53)] ((((rx_lvl.nil _).cons rfl rfl).cons rfl rfl).cons rfl rfl) ?_
        have ef5 : rx_gF h5 37 6 = nI f := (rx_gF_of (z5 37 (by decide))).trans ef4
        refine rx_mf_l (by omega) hc c 0 h5 (by omega) hh5 ef5 (fun h6 hh6 z6 => ?_)
        have ef6 : rx_gF h6 37 6 = nI f := (rx_gF_of (z6 37 (by decide))).trans ef5
        refine rx_T.to 1 119 [(0, .ref 53)] [.ref 53] h6 rfl ?_
        refine rx_T.gfr (M := rxm_109) (k := 37) rfl rfl rfl hh6 rfl rfl ?_
        refine rx_T.to 1 123 [(0, .ref 53)] [.ref 53, .ref 59] h6 rfl ?_
        refine rx_T.gfF (M := rxm_109) (k := 37) rfl rfl rfl hh6 rfl rfl ?_
        rw [ef6]
        refine rx_T.to 1 127 [(0, .ref 53)] [.int 1, .int (nI f), .ref 59] h6 rfl ?_
        refine rx_T.zaW (M := rxm_109) (k := 43) rfl rfl hh6 rfl (show f < 40 by omega) (by decide) (by decide) (fun h7 hh7 z7 => ?_)
        have ef7 : rx_gF h7 37 6 = nI f := (rx_gF_of (z7 37 (by decide))).trans ef6
        refine rx_T.to 2 130 [(0, .ref 53)] [.ref 53, .ref 53] h7 rfl ?_
        refine rx_T.gfF (M := rxm_109) (k := 37) rfl rfl rfl hh7 rfl rfl ?_
        rw [ef7]
        refine rx_T.to 2 135 [(0, .ref 53)] [.int ((nI f) + 1), .ref 53] h7 rfl ?_
        rw [show nI f + 1 = nI (f + 1) from nI_1 f]
        refine rx_T.pfF (M := rxm_109) (k := 37) rfl rfl rfl hh7 rfl rfl rfl (by rw [nI_toInt (by omega)]; omega) (by rw [nI_toInt (by omega)]; omega) (fun h8 hh8 v8 f8 z8 => ?_)
        refine rx_T.to 2 140 [(0, .ref 53)] [.int 0, .ref 53] h8 rfl ?_
        refine rx_T.pfF (M := rxm_109) (k := 37) rfl rfl rfl hh8 rfl rfl rfl (by decide) (by decide) (fun h9 hh9 v9 f9 z9 => ?_)
        have ef9 : rx_gF h9 37 6 = nI (f + 1) := (f9 6 (by decide)).trans v8
        refine rx_T.to 1 144 [(0, .ref 53)] [.ref 53] h9 rfl ?_
        refine rx_T.gfF (M := rxm_109) (k := 37) rfl rfl rfl hh9 rfl rfl ?_
        rw [ef9]
        refine rx_T.to 2 149 [(0, .ref 53)] [.int ((nI (f + 1)) - 1)] h9 rfl ?_
        rw [show nI (f + 1) - 1 = nI f from rx_sub1 f]
        have zz : ∀ z, ¬ (z = 37 ∨ z = 41 ∨ z = 42 ∨ z = 43) → h9[z]? = h1[z]? := fun z hz => by rw [z9 z (by omega), z8 z (by omega), z7 z (by omega), z6 z (by omega), z5 z (by omega), z4 z (by omega)]
        have ff : ∀ j, ¬ (j = 5 ∨ j = 6 ∨ j = 13) → rx_gF h9 37 j = rx_gF h1 37 j := fun j hj => by rw [f9 j (by omega), f8 j (by omega), rx_gF_of (z7 37 (by decide)), rx_gF_of (z6 37 (by decide)), rx_gF_of (z5 37 (by decide)), f4 j (by omega)]
        have e5' : rx_gF h9 37 5 = 0 := by rw [f9 5 (by decide), f8 5 (by decide), rx_gF_of (z7 37 (by decide)), rx_gF_of (z6 37 (by decide)), rx_gF_of (z5 37 (by decide)), v4]
        exact rx_T.ret (M := rxm_109) (v := some (.int (nI f))) rfl rfl rfl ⟨hh9, rx_Xm_z (h := h1) (fun z hz => zz z (by omega)) hx1, fun z hz => (zz z (by omega)).trans (z1 z (by omega)), (ff 1 (by decide)).trans (f1 1 (by decide)), e5', Or.inl ⟨K, hK6, rfl, hok, by omega, Or.inl ⟨rfl, hv, ef9⟩⟩⟩
      · refine rx_T.op (M := rxm_109) (ins := .ifCond .eq 7) rfl rfl rfl rfl (rx_b1_t 44 (by decide) (by decide)) ?_
        refine rx_T.to 3 47 [(3, .int 0), (2, .int 1), (0, .ref 53), (1, .int (nI K))] [.ref 53] h1 rfl ?_
        refine rx_T.gfF (M := rxm_109) (k := 37) rfl rfl rfl hh1 rfl rfl ?_
        rw [ec1]
        refine rx_T.to 3 54 [(4, .int (nI c)), (3, .int 0), (2, .int 1), (0, .ref 53), (1, .int (nI K))] [.int 0, .ref 53] h1 rfl ?_
        refine rx_T.pfF (M := rxm_109) (k := 37) rfl rfl rfl hh1 rfl rfl rfl (by decide) (by decide) (fun h4 hh4 v4 f4 z4 => ?_)
        refine rx_T.to 1 58 [(4, .int (nI c)), (3, .int 0), (2, .int 1), (0, .ref 53), (1, .int (nI K))] [.int 1] h4 rfl ?_
        refine rx_T.op (M := rxm_109) (ins := .ifCond .ne 5) rfl rfl rfl rfl (rx_b1_t 63 (by decide) (by decide)) ?_
        refine rx_T.to 1 64 [(4, .int (nI c)), (3, .int 0), (2, .int 1), (0, .ref 53), (1, .int (nI K))] [.int 0] h4 rfl ?_
        refine rx_T.op (M := rxm_109) (ins := .ifCond .ne 6) rfl rfl rfl rfl (rx_b1_f (by decide) (by decide)) ?_
        refine rx_T.to 1 69 [(4, .int (nI c)), (3, .int 0), (2, .int 1), (0, .ref 53), (1, .int (nI K))] [.int (Int8.ofInt (-2)).toInt32] h4 rfl ?_
        exact rx_T.ret (M := rxm_109) (v := some (.int (-2))) rfl rfl rfl ⟨hh4, rx_Xm_z (h := h1) (fun z hz => z4 z (by omega)) hx1, fun z hz => (z4 z (by omega)).trans (z1 z (by omega)), (f4 1 (by decide)).trans (f1 1 (by decide)), v4, Or.inl ⟨K, hK6, rfl, hok, by omega, Or.inr ⟨rfl, hv, (f4 6 (by decide)).trans ef1⟩⟩⟩
  · refine rx_T.op (M := rxm_109) (ins := .ifCond .eq 16) rfl rfl rfl rfl (rx_b1_t 26 (by decide) (by decide)) ?_
    refine rx_T.to 3 29 [(2, .int 0), (0, .ref 53), (1, .int k)] [.int 0] h1 rfl ?_
    refine rx_T.op (M := rxm_109) (ins := .ifCond .eq 15) rfl rfl rfl rfl (rx_b1_t 44 (by decide) (by decide)) ?_
    refine rx_T.to 3 47 [(3, .int 0), (2, .int 0), (0, .ref 53), (1, .int k)] [.ref 53] h1 rfl ?_
    refine rx_T.gfF (M := rxm_109) (k := 37) rfl rfl rfl hh1 rfl rfl ?_
    rw [ec1]
    refine rx_T.to 3 54 [(4, .int (nI c)), (3, .int 0), (2, .int 0), (0, .ref 53), (1, .int k)] [.int 0, .ref 53] h1 rfl ?_
    refine rx_T.pfF (M := rxm_109) (k := 37) rfl rfl rfl hh1 rfl rfl rfl (by decide) (by decide) (fun h4 hh4 v4 f4 z4 => ?_)
    refine rx_T.to 1 58 [(4, .int (nI c)), (3, .int 0), (2, .int 0), (0, .ref 53), (1, .int k)] [.int 0] h4 rfl ?_
    refine rx_T.op (M := rxm_109) (ins := .ifCond .ne 5) rfl rfl rfl rfl (rx_b1_f (by decide) (by decide)) ?_
    refine rx_T.to 1 62 [(4, .int (nI c)), (3, .int 0), (2, .int 0), (0, .ref 53), (1, .int k)] [.int (-1)] h4 rfl ?_
    exact rx_T.ret (M := rxm_109) (v := some (.int (-1))) rfl rfl rfl ⟨hh4, rx_Xm_z (h := h1) (fun z hz => z4 z (by omega)) hx1, fun z hz => (z4 z (by omega)).trans (z1 z (by omega)), (f4 1 (by decide)).trans (f1 1 (by decide)), v4, Or.inr ⟨Or.inl hno, rfl, (f4 6 (by decide)).trans ef1⟩⟩
set_option maxRecDepth 100000 in
set_option maxHeartbeats 4000000 in
theorem rx_mnop {p : Int32} {n : Nat} {h : rx_H} (hn : n ≤ 7) (hh : rx_hin rx_I0 h) (en : rx_gF h 37 1 = nI n) : rx_T rx_cds rx_ms rx_lk0 rt d w 157 0 [(0, .ref 53), (1, .int p)] [] h (fun v h' => ((v = some (.int 1) ∧ (¬ ∃ a, a < n ∧ p = nI a)) ∨ (v = some (.int 0) ∧ ¬ (¬ ∃ a, a < n ∧ p = nI a))) ∧ h' = h) := by
  refine rx_T.to 1 1 [(0, .ref 53), (1, .int p)] [.int p] h rfl ?_
  refine rx_T.br1 (M := rxm_157) 12 rfl rfl (by decide) (fun q => ?_) (fun q1 => ?_)
  · have z : p.toInt < 0 := Int32.lt_iff_toInt_lt.mp (of_decide_eq_true q)
    refine rx_T.to 2 17 [(0, .ref 53), (1, .int p)] [.int 1] h rfl ?_
    refine rx_T.ret (M := rxm_157) (v := some (.int 1)) rfl rfl rfl ⟨Or.inl ⟨rfl, fun y => ?_⟩, rfl⟩
    obtain ⟨a, ha, rfl⟩ := y
    rw [nI_toInt (by omega)] at z
    omega
  · have z1 : ¬ p.toInt < 0 := fun z => of_decide_eq_false q1 (Int32.lt_iff_toInt_lt.mpr z)
    refine rx_T.to 2 6 [(0, .ref 53), (1, .int p)] [.ref 53, .int p] h rfl ?_
    refine rx_T.gfF (M := rxm_157) (k := 37) rfl rfl rfl hh rfl rfl ?_
    rw [en]
    refine rx_T.br2 (M := rxm_157) 16 rfl rfl (by decide) (fun q2 => ?_) (fun q => ?_)
    · have z : p.toInt < (nI n).toInt := Int32.lt_iff_toInt_lt.mp (of_decide_eq_true q2)
      rw [nI_toInt (by omega)] at z
      refine rx_T.to 1 17 [(0, .ref 53), (1, .int p)] [.int 0] h rfl ?_
      obtain ⟨a, rfl, ha⟩ := rx_nIof (n := 6) (x := p) (by omega) (by omega)
      rw [nI_toInt (by omega)] at z
      exact rx_T.ret (M := rxm_157) (v := some (.int 0)) rfl rfl rfl ⟨Or.inr ⟨rfl, fun y => y ⟨a, by omega, rfl⟩⟩, rfl⟩
    · have z : ¬ p.toInt < (nI n).toInt := fun z => of_decide_eq_false q (Int32.lt_iff_toInt_lt.mpr z)
      rw [nI_toInt (by omega)] at z
      refine rx_T.to 2 17 [(0, .ref 53), (1, .int p)] [.int 1] h rfl ?_
      refine rx_T.ret (M := rxm_157) (v := some (.int 1)) rfl rfl rfl ⟨Or.inl ⟨rfl, fun y => ?_⟩, rfl⟩
      obtain ⟨a, ha, rfl⟩ := y
      rw [nI_toInt (by omega)] at z
      omega
def rx_mny (h : rx_H) (v : Option Value) (h' : rx_H) : Prop := (∃ x : Int32, v = some (.int x)) ∧ rx_hin rx_I0 h' ∧ rx_Xm h' ∧ rx_Fg h h'
set_option maxRecDepth 100000 in
set_option maxHeartbeats 4000000 in
theorem rx_mline {h : rx_H} {x y : Int32} {n : Nat} (ht : rx_tok rx_Em rt) (hn : n ≤ 7) (hw : 291 ≤ w) (hh : rx_hin rx_I0 h) (hx : rx_Xm h) (en : rx_gF h 37 1 = nI n) : rx_T rx_cds rx_ms rx_lk0 rt (d + 9) w 156 0 [(0, .ref 53), (1, .int x), (2, .int y)] [] h (rx_mny h) := by
  refine rx_T.to 2 2 [(0, .ref 53), (1, .int x), (2, .int y)] [.int 0, .ref 53] h rfl ?_
  refine rx_T.pfF (M := rxm_156) (k := 37) rfl rfl rfl hh rfl rfl rfl (by decide) (by decide) (fun h1 hh1 v1 f1 z1 => ?_)
  have hx1 := rx_Xm_z (h := h) (fun z hz => z1 z (by omega)) hx
  have en1 : rx_gF h1 37 1 = nI n := (f1 1 (by decide)).trans en
  have hg1 : rx_Fg h h1 := rx_Fg_f (i := 0) (by decide) f1 z1
  refine rx_T.to 2 7 [(0, .ref 53), (1, .int x), (2, .int y)] [.int x, .ref 53] h1 rfl ?_
  refine rx_T.callm (M := rxm_156) (N := rxm_157) (j := 157) (nest := 0) (as' := [.int x]) (rest := []) rfl rfl rfl rfl rfl rfl rfl rfl (Nat.le_of_ble_eq_true rfl) (Nat.le_of_ble_eq_true rfl) hh1 (show 19 + 2 ≤ w by omega) (rx_mnop hn hh1 en1) ?_
  intro v2 g0 hp
  obtain ⟨hp, e0⟩ := hp
  rw [e0]
  rcases hp with ⟨rfl, q0⟩ | ⟨rfl, q0⟩
  · refine rx_T.op (M := rxm_156) (ins := .ifCond .ne 16) rfl rfl rfl rfl (rx_b1_t 26 (by decide) (by decide)) ?_
    refine rx_T.to 1 27 [(0, .ref 53), (1, .int x), (2, .int y)] [.int 0] h1 rfl ?_
    exact rx_T.ret (M := rxm_156) rfl rfl rfl ⟨⟨_, rfl⟩, hh1, hx1, hg1⟩
  refine rx_T.op (M := rxm_156) (ins := .ifCond .ne 16) rfl rfl rfl rfl (rx_b1_f (by decide) (by decide)) ?_
  obtain ⟨a, ha, rfl⟩ := Classical.not_not.mp q0
  refine rx_T.to 2 15 [(0, .ref 53), (1, .int (nI a)), (2, .int y)] [.int y, .ref 53] h1 rfl ?_
  refine rx_T.callm (M := rxm_156) (N := rxm_157) (j := 157) (nest := 0) (as' := [.int y]) (rest := []) rfl rfl rfl rfl rfl rfl rfl rfl (Nat.le_of_ble_eq_true rfl) (Nat.le_of_ble_eq_true rfl) hh1 (show 19 + 2 ≤ w by omega) (rx_mnop hn hh1 en1) ?_
  intro v3 g1 hp
  obtain ⟨hp, e1⟩ := hp
  rw [e1]
  rcases hp with ⟨rfl, q1⟩ | ⟨rfl, q1⟩
  · refine rx_T.op (M := rxm_156) (ins := .ifCond .ne 8) rfl rfl rfl rfl (rx_b1_t 26 (by decide) (by decide)) ?_
    refine rx_T.to 1 27 [(0, .ref 53), (1, .int (nI a)), (2, .int y)] [.int 0] h1 rfl ?_
    exact rx_T.ret (M := rxm_156) rfl rfl rfl ⟨⟨_, rfl⟩, hh1, hx1, hg1⟩
  refine rx_T.op (M := rxm_156) (ins := .ifCond .ne 8) rfl rfl rfl rfl (rx_b1_f (by decide) (by decide)) ?_
  obtain ⟨b, hb, rfl⟩ := Classical.not_not.mp q1
  refine rx_T.to 2 23 [(0, .ref 53), (1, .int (nI a)), (2, .int (nI b))] [.int (nI b), .int (nI a)] h1 rfl ?_
  refine rx_T.br2 (M := rxm_156) 28 rfl rfl (by decide) (fun _ => ?_) (fun _ => ?_)
  rotate_left
  · refine rx_T.to 1 27 [(0, .ref 53), (1, .int (nI a)), (2, .int (nI b))] [.int 0] h1 rfl ?_
    exact rx_T.ret (M := rxm_156) rfl rfl rfl ⟨⟨_, rfl⟩, hh1, hx1, hg1⟩
  refine rx_T.to 1 29 [(0, .ref 53), (1, .int (nI a)), (2, .int (nI b))] [.ref 53] h1 rfl ?_
  refine rx_T.callm (M := rxm_156) (N := rxm_112) (j := 112) (nest := 0) (as' := []) (rest := []) rfl rfl rfl rfl rfl rfl rfl rfl (Nat.le_of_ble_eq_true rfl) (Nat.le_of_ble_eq_true rfl) hh1 (show 19 + 2 ≤ w by omega) (rx_g_refresh rt (d + 8) (w - (19 + 2)) [.ref 53] h1 (rx_tok_gm ht) (show 8 ≤ (d + 8) by omega) (show 261 ≤ w - (19 + 2) by omega) ⟨⟨53, rfl, Nat.le_refl _, Nat.le_refl _⟩, trivial⟩ hh1 hx1) ?_
  intro v8 h8 hp
  obtain ⟨pv8, hh8, hx8, hF8⟩ := hp
  obtain rfl := rx_pin_n pv8
  refine rx_T.to 3 35 [(0, .ref 53), (1, .int (nI a)), (2, .int (nI b))] [.int (nI b), .int (nI a), .ref 53] h8 rfl ?_
  refine rx_T.callm (M := rxm_156) (N := rxm_116) (j := 116) (nest := 0) (as' := [.int (nI a), .int (nI b)]) (rest := []) rfl rfl rfl rfl rfl rfl rfl rfl (Nat.le_of_ble_eq_true rfl) (Nat.le_of_ble_eq_true rfl) hh8 (show 19 + 3 ≤ w by omega) (rx_lineOf (by omega) (by omega) hh8) ?_
  intro v9 g9 hp
  obtain ⟨rfl, e9⟩ := hp
  rw [e9]
  exact rx_T.ret (M := rxm_156) rfl rfl rfl ⟨⟨_, rfl⟩, hh8, hx8, hg1.trans hF8⟩
set_option maxRecDepth 100000 in
set_option maxHeartbeats 4000000 in
theorem rx_mlen {h : rx_H} {x y : Int32} {n : Nat} (ht : rx_tok rx_Em rt) (hn : n ≤ 7) (hw : 291 ≤ w) (hh : rx_hin rx_I0 h) (hx : rx_Xm h) (en : rx_gF h 37 1 = nI n) : rx_T rx_cds rx_ms rx_lk0 rt (d + 9) w 159 0 [(0, .ref 53), (1, .int x), (2, .int y)] [] h (rx_mny h) := by
  refine rx_T.to 2 2 [(0, .ref 53), (1, .int x), (2, .int y)] [.int 0, .ref 53] h rfl ?_
  refine rx_T.pfF (M := rxm_159) (k := 37) rfl rfl rfl hh rfl rfl rfl (by decide) (by decide) (fun h1 hh1 v1 f1 z1 => ?_)
  have hx1 := rx_Xm_z (h := h) (fun z hz => z1 z (by omega)) hx
  have en1 : rx_gF h1 37 1 = nI n := (f1 1 (by decide)).trans en
  have hg1 : rx_Fg h h1 := rx_Fg_f (i := 0) (by decide) f1 z1
  refine rx_T.to 2 7 [(0, .ref 53), (1, .int x), (2, .int y)] [.int x, .ref 53] h1 rfl ?_
  refine rx_T.callm (M := rxm_159) (N := rxm_157) (j := 157) (nest := 0) (as' := [.int x]) (rest := []) rfl rfl rfl rfl rfl rfl rfl rfl (Nat.le_of_ble_eq_true rfl) (Nat.le_of_ble_eq_true rfl) hh1 (show 19 + 2 ≤ w by omega) (rx_mnop hn hh1 en1) ?_
  intro v2 g0 hp
  obtain ⟨hp, e0⟩ := hp
  rw [e0]
  rcases hp with ⟨rfl, q0⟩ | ⟨rfl, q0⟩
  · refine rx_T.op (M := rxm_159) (ins := .ifCond .ne 16) rfl rfl rfl rfl (rx_b1_t 26 (by decide) (by decide)) ?_
    refine rx_T.to 1 27 [(0, .ref 53), (1, .int x), (2, .int y)] [.int (-1)] h1 rfl ?_
    exact rx_T.ret (M := rxm_159) rfl rfl rfl ⟨⟨_, rfl⟩, hh1, hx1, hg1⟩
  refine rx_T.op (M := rxm_159) (ins := .ifCond .ne 16) rfl rfl rfl rfl (rx_b1_f (by decide) (by decide)) ?_
  obtain ⟨a, ha, rfl⟩ := Classical.not_not.mp q0
  refine rx_T.to 2 15 [(0, .ref 53), (1, .int (nI a)), (2, .int y)] [.int y, .ref 53] h1 rfl ?_
  refine rx_T.callm (M := rxm_159) (N := rxm_157) (j := 157) (nest := 0) (as' := [.int y]) (rest := []) rfl rfl rfl rfl rfl rfl rfl rfl (Nat.le_of_ble_eq_true rfl) (Nat.le_of_ble_eq_true rfl) hh1 (show 19 + 2 ≤ w by omega) (rx_mnop hn hh1 en1) ?_
  intro v3 g1 hp
  obtain ⟨hp, e1⟩ := hp
  rw [e1]
  rcases hp with ⟨rfl, q1⟩ | ⟨rfl, q1⟩
  · refine rx_T.op (M := rxm_159) (ins := .ifCond .ne 8) rfl rfl rfl rfl (rx_b1_t 26 (by decide) (by decide)) ?_
    refine rx_T.to 1 27 [(0, .ref 53), (1, .int (nI a)), (2, .int y)] [.int (-1)] h1 rfl ?_
    exact rx_T.ret (M := rxm_159) rfl rfl rfl ⟨⟨_, rfl⟩, hh1, hx1, hg1⟩
  refine rx_T.op (M := rxm_159) (ins := .ifCond .ne 8) rfl rfl rfl rfl (rx_b1_f (by decide) (by decide)) ?_
  obtain ⟨b, hb, rfl⟩ := Classical.not_not.mp q1
  refine rx_T.to 2 23 [(0, .ref 53), (1, .int (nI a)), (2, .int (nI b))] [.int (nI b), .int (nI a)] h1 rfl ?_
  refine rx_T.br2 (M := rxm_159) 28 rfl rfl (by decide) (fun _ => ?_) (fun _ => ?_)
  rotate_left
  · refine rx_T.to 1 27 [(0, .ref 53), (1, .int (nI a)), (2, .int (nI b))] [.int (-1)] h1 rfl ?_
    exact rx_T.ret (M := rxm_159) rfl rfl rfl ⟨⟨_, rfl⟩, hh1, hx1, hg1⟩
  refine rx_T.to 1 29 [(0, .ref 53), (1, .int (nI a)), (2, .int (nI b))] [.ref 53] h1 rfl ?_
  refine rx_T.callm (M := rxm_159) (N := rxm_112) (j := 112) (nest := 0) (as' := []) (rest := []) rfl rfl rfl rfl rfl rfl rfl rfl (Nat.le_of_ble_eq_true rfl) (Nat.le_of_ble_eq_true rfl) hh1 (show 19 + 2 ≤ w by omega) (rx_g_refresh rt (d + 8) (w - (19 + 2)) [.ref 53] h1 (rx_tok_gm ht) (show 8 ≤ (d + 8) by omega) (show 261 ≤ w - (19 + 2) by omega) ⟨⟨53, rfl, Nat.le_refl _, Nat.le_refl _⟩, trivial⟩ hh1 hx1) ?_
  intro v8 h8 hp
  obtain ⟨pv8, hh8, hx8, hF8⟩ := hp
  obtain rfl := rx_pin_n pv8
  refine rx_T.to 3 35 [(0, .ref 53), (1, .int (nI a)), (2, .int (nI b))] [.int (nI b), .int (nI a), .ref 53] h8 rfl ?_
  refine rx_T.callm (M := rxm_159) (N := rxm_125) (j := 125) (nest := 0) (as' := [.int (nI a), .int (nI b)]) (rest := []) rfl rfl rfl rfl rfl rfl rfl rfl (Nat.le_of_ble_eq_true rfl) (Nat.le_of_ble_eq_true rfl) hh8 (show 19 + 3 ≤ w by omega) (rx_lengthOf (by omega) (by omega) hh8) ?_
  intro v9 g9 hp
  obtain ⟨rfl, e9⟩ := hp
  rw [e9]
  exact rx_T.ret (M := rxm_159) rfl rfl rfl ⟨⟨_, rfl⟩, hh8, hx8, hg1.trans hF8⟩
set_option maxRecDepth 100000 in
set_option maxHeartbeats 4000000 in
theorem rx_mcircle {h : rx_H} {x y z : Int32} {n : Nat} (ht : rx_tok rx_Em rt) (hn : n ≤ 7) (hw : 291 ≤ w) (hh : rx_hin rx_I0 h) (hx : rx_Xm h) (en : rx_gF h 37 1 = nI n) : rx_T rx_cds rx_ms rx_lk0 rt (d + 9) w 158 0 [(0, .ref 53), (1, .int x), (2, .int y), (3, .int z)] [] h (rx_mny h) := by
  refine rx_T.to 2 2 [(0, .ref 53), (1, .int x), (2, .int y), (3, .int z)] [.int 0, .ref 53] h rfl ?_
  refine rx_T.pfF (M := rxm_158) (k := 37) rfl rfl rfl hh rfl rfl rfl (by decide) (by decide) (fun h1 hh1 v1 f1 z1 => ?_)
  have hx1 := rx_Xm_z (h := h) (fun z hz => z1 z (by omega)) hx
  have en1 : rx_gF h1 37 1 = nI n := (f1 1 (by decide)).trans en
  have hg1 : rx_Fg h h1 := rx_Fg_f (i := 0) (by decide) f1 z1
  refine rx_T.to 2 7 [(0, .ref 53), (1, .int x), (2, .int y), (3, .int z)] [.int x, .ref 53] h1 rfl ?_
  refine rx_T.callm (M := rxm_158) (N := rxm_157) (j := 157) (nest := 0) (as' := [.int x]) (rest := []) rfl rfl rfl rfl rfl rfl rfl rfl (Nat.le_of_ble_eq_true rfl) (Nat.le_of_ble_eq_true rfl) hh1 (show 19 + 2 ≤ w by omega) (rx_mnop hn hh1 en1) ?_
  intro v2 g0 hp
  obtain ⟨hp, e0⟩ := hp
  rw [e0]
  rcases hp with ⟨rfl, q0⟩ | ⟨rfl, q0⟩
  · refine rx_T.op (M := rxm_158) (ins := .ifCond .ne 19) rfl rfl rfl rfl (rx_b1_t 29 (by decide) (by decide)) ?_
    refine rx_T.to 1 30 [(0, .ref 53), (1, .int x), (2, .int y), (3, .int z)] [.int 0] h1 rfl ?_
    exact rx_T.ret (M := rxm_158) rfl rfl rfl ⟨⟨_, rfl⟩, hh1, hx1, hg1⟩
  refine rx_T.op (M := rxm_158) (ins := .ifCond .ne 19) rfl rfl rfl rfl (rx_b1_f (by decide) (by decide)) ?_
  obtain ⟨a, ha, rfl⟩ := Classical.not_not.mp q0
  refine rx_T.to 2 15 [(0, .ref 53), (1, .int (nI a)), (2, .int y), (3, .int z)] [.int y, .ref 53] h1 rfl ?_
  refine rx_T.callm (M := rxm_158) (N := rxm_157) (j := 157) (nest := 0) (as' := [.int y]) (rest := []) rfl rfl rfl rfl rfl rfl rfl rfl (Nat.le_of_ble_eq_true rfl) (Nat.le_of_ble_eq_true rfl) hh1 (show 19 + 2 ≤ w by omega) (rx_mnop hn hh1 en1) ?_
  intro v3 g1 hp
  obtain ⟨hp, e1⟩ := hp
  rw [e1]
  rcases hp with ⟨rfl, q1⟩ | ⟨rfl, q1⟩
  · refine rx_T.op (M := rxm_158) (ins := .ifCond .ne 11) rfl rfl rfl rfl (rx_b1_t 29 (by decide) (by decide)) ?_
    refine rx_T.to 1 30 [(0, .ref 53), (1, .int (nI a)), (2, .int y), (3, .int z)] [.int 0] h1 rfl ?_
    exact rx_T.ret (M := rxm_158) rfl rfl rfl ⟨⟨_, rfl⟩, hh1, hx1, hg1⟩
  refine rx_T.op (M := rxm_158) (ins := .ifCond .ne 11) rfl rfl rfl rfl (rx_b1_f (by decide) (by decide)) ?_
  obtain ⟨b, hb, rfl⟩ := Classical.not_not.mp q1
  refine rx_T.to 2 23 [(0, .ref 53), (1, .int (nI a)), (2, .int (nI b)), (3, .int z)] [.int z, .ref 53] h1 rfl ?_
  refine rx_T.callm (M := rxm_158) (N := rxm_157) (j := 157) (nest := 0) (as' := [.int z]) (rest := []) rfl rfl rfl rfl rfl rfl rfl rfl (Nat.le_of_ble_eq_true rfl) (Nat.le_of_ble_eq_true rfl) hh1 (show 19 + 2 ≤ w by omega) (rx_mnop hn hh1 en1) ?_
  intro v4 g2 hp
  obtain ⟨hp, e2⟩ := hp
  rw [e2]
  rcases hp with ⟨rfl, q2⟩ | ⟨rfl, q2⟩
  · refine rx_T.op (M := rxm_158) (ins := .ifCond .eq 5) rfl rfl rfl rfl (rx_b1_f (by decide) (by decide)) ?_
    refine rx_T.to 1 30 [(0, .ref 53), (1, .int (nI a)), (2, .int (nI b)), (3, .int z)] [.int 0] h1 rfl ?_
    exact rx_T.ret (M := rxm_158) rfl rfl rfl ⟨⟨_, rfl⟩, hh1, hx1, hg1⟩
  refine rx_T.op (M := rxm_158) (ins := .ifCond .eq 5) rfl rfl rfl rfl (rx_b1_t 31 (by decide) (by decide)) ?_
  obtain ⟨c, hc, rfl⟩ := Classical.not_not.mp q2
  refine rx_T.to 1 32 [(0, .ref 53), (1, .int (nI a)), (2, .int (nI b)), (3, .int (nI c))] [.ref 53] h1 rfl ?_
  refine rx_T.callm (M := rxm_158) (N := rxm_112) (j := 112) (nest := 0) (as' := []) (rest := []) rfl rfl rfl rfl rfl rfl rfl rfl (Nat.le_of_ble_eq_true rfl) (Nat.le_of_ble_eq_true rfl) hh1 (show 19 + 2 ≤ w by omega) (rx_g_refresh rt (d + 8) (w - (19 + 2)) [.ref 53] h1 (rx_tok_gm ht) (show 8 ≤ (d + 8) by omega) (show 261 ≤ w - (19 + 2) by omega) ⟨⟨53, rfl, Nat.le_refl _, Nat.le_refl _⟩, trivial⟩ hh1 hx1) ?_
  intro v8 h8 hp
  obtain ⟨pv8, hh8, hx8, hF8⟩ := hp
  obtain rfl := rx_pin_n pv8
  refine rx_T.to 4 39 [(0, .ref 53), (1, .int (nI a)), (2, .int (nI b)), (3, .int (nI c))] [.int (nI c), .int (nI b), .int (nI a), .ref 53] h8 rfl ?_
  refine rx_T.callm (M := rxm_158) (N := rxm_123) (j := 123) (nest := 0) (as' := [.int (nI a), .int (nI b), .int (nI c)]) (rest := []) rfl rfl rfl rfl rfl rfl rfl rfl (Nat.le_of_ble_eq_true rfl) (Nat.le_of_ble_eq_true rfl) hh8 (show 19 + 4 ≤ w by omega) (rx_circleOf (by omega) (by omega) (by omega) hh8) ?_
  intro v9 g9 hp
  obtain ⟨rfl, e9⟩ := hp
  rw [e9]
  exact rx_T.ret (M := rxm_158) rfl rfl rfl ⟨⟨_, rfl⟩, hh8, hx8, hg1.trans hF8⟩
set_option maxRecDepth 100000 in
set_option maxHeartbeats 4000000 in
theorem rx_mneed {h : rx_H} {k : Int32} (ht : rx_tok rx_Em rt) (hd : 0 ≤ d) (hw : 0 ≤ w) (hh : rx_hin rx_I0 h) (hx : rx_Xm h) : rx_T rx_cds rx_ms rx_lk0 rt d w 155 0 [(0, .ref 53), (1, .int k)] [] h (rx_mny h) := by
  refine (rx_g_need rt d w [.ref 53, .int k] h (rx_tok_gm ht) hd hw ⟨⟨53, rfl, Nat.le_refl _, Nat.le_refl _⟩, ⟨k, rfl, rxi_lo _, rxi_hi _⟩, trivial⟩ hh hx).mono (fun v h2 q => ?_)
  obtain ⟨q1, q2, q3, q4⟩ := q
  exact ⟨rx_ints q1, q2, q3, q4⟩
set_option maxRecDepth 100000 in
set_option maxHeartbeats 4000000 in
theorem rx_mtold {h : rx_H} {k : Int32} (ht : rx_tok rx_Em rt) (hd : 9 ≤ d) (hw : 282 ≤ w) (hh : rx_hin rx_I0 h) (hx : rx_Xm h) : rx_T rx_cds rx_ms rx_lk0 rt d w 160 0 [(0, .ref 53), (1, .int k)] [] h (rx_mny h) := by
  refine (rx_g_told rt d w [.ref 53, .int k] h (rx_tok_gm ht) hd hw ⟨⟨53, rfl, Nat.le_refl _, Nat.le_refl _⟩, ⟨k, rfl, rxi_lo _, rxi_hi _⟩, trivial⟩ hh hx).mono (fun v h2 q => ?_)
  obtain ⟨q1, q2, q3, q4⟩ := q
  exact ⟨rx_ints q1, q2, q3, q4⟩
end RXPN
