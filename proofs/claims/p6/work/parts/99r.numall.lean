section RXNA
variable {rt : rx_R} {d w : Nat} {P : Option Value → rx_H → Prop}
theorem rx_ix21 (a b : Nat) (ha : a < 500) (hb : b < 22) : (Int8.ofInt 21).toInt32 * nI a + nI b = nI (21 * a + b) := by
  rw [show (Int8.ofInt 21).toInt32 = nI 21 by decide +kernel, rx_mulI 21 a (by omega) (by decide) (by omega), nI_add]
set_option maxRecDepth 100000 in
set_option maxHeartbeats 4000000 in
theorem rx_na_j {i : Nat} {h0 : rx_H} (hi : i < 21) (ht : rx_tok rx_Em rt) (hw : 120 ≤ w) (K : ∀ h, rx_hin rx_I0 h → rx_Xm h → rx_Fm h0 h → rx_nbi (2 + 21 * (i + 1)) h → rx_T rx_cds rx_ms rx_lk0 rt (d + 3) w 138 121 [(2, .int (nI i)), (0, .ref 53)] [] h P) : ∀ (q j : Nat) (h : rx_H), j + q = 21 → rx_hin rx_I0 h → rx_Xm h → rx_Fm h0 h → rx_nbi (2 + 21 * i + j) h →
    rx_T rx_cds rx_ms rx_lk0 rt (d + 3) w 138 68 [(3, .int (nI j)), (2, .int (nI i)), (0, .ref 53)] [] h P := by
  intro q
  induction q with
  | zero =>
    intro j h hj hh hx hF hb
    have ej : j = 21 := by omega
    subst ej
    refine rx_T.to 2 70 [(3, .int (nI 21)), (2, .int (nI i)), (0, .ref 53)] [.ref 53, .int (nI 21)] h rfl ?_
    refine rx_T.gfi (M := rxm_138) (k := 37) rfl rfl rfl hh rfl rfl (fun vs x c1 c2 x1 x2 => ?_)
    obtain ⟨c, rfl, hc⟩ := rx_nIof (n := 21) x1 x2
    refine rx_T.op (M := rxm_138) (ins := .if_icmp .ge 48) rfl rfl rfl rfl (rx_b2_t 121 (decide_eq_true (nI_le (show c ≤ 21 by omega) (by omega))) (by decide)) ?_
    refine rx_T.lv [(2, .int (nI i)), (0, .ref 53)] (((rx_lvl.nil _).cons rfl rfl).cons rfl rfl) ?_
    exact K h hh hx hF (hb.le (by omega))
  | succ q ih =>
    intro j h hj hh hx hF hb
    refine rx_T.to 2 70 [(3, .int (nI j)), (2, .int (nI i)), (0, .ref 53)] [.ref 53, .int (nI j)] h rfl ?_
    refine rx_T.gfi (M := rxm_138) (k := 37) rfl rfl rfl hh rfl rfl (fun vs x c1 c2 x1 x2 => ?_)
    obtain ⟨c, rfl, hc⟩ := rx_nIof (n := 21) x1 x2
    refine rx_T.br2 (M := rxm_138) 121 rfl rfl (by decide) (fun _ => ?_) (fun q0 => ?_)
    · refine rx_T.lv [(2, .int (nI i)), (0, .ref 53)] (((rx_lvl.nil _).cons rfl rfl).cons rfl rfl) ?_
      exact K h hh hx hF (hb.le (by omega))
    · have hjc : j < 21 := by
        have z : ¬ nI c ≤ nI j := of_decide_eq_false q0
        exact Nat.lt_of_not_le (fun y => z (nI_le (by omega) (by omega)))
      refine rx_T.to 1 77 [(3, .int (nI j)), (2, .int (nI i)), (0, .ref 53)] [.ref 53] h rfl ?_
      refine rx_T.callm (M := rxm_138) (N := rxm_128) (j := 128) (nest := 0) (as' := []) (rest := []) rfl rfl rfl rfl rfl rfl rfl rfl (Nat.le_of_ble_eq_true rfl) (Nat.le_of_ble_eq_true rfl) hh (show 19 + 2 ≤ w by omega) (rxqc_1 rt (d + 2) (w - (19 + 2)) [.ref 53] h ht (show 0 ≤ (d + 2) by omega) (show 0 ≤ w - (19 + 2) by omega) ⟨⟨53, rfl, Nat.le_refl _, Nat.le_refl _⟩, trivial⟩ hh hx) ?_
      intro v1 h1 hp
      obtain ⟨pv1, hh1, hx1, e1⟩ := hp
      obtain rfl := rx_pin_n pv1
      refine rx_T.to 1 81 [(3, .int (nI j)), (2, .int (nI i)), (0, .ref 53)] [.ref 53] h1 rfl ?_
      refine rx_T.gfr (M := rxm_138) (k := 37) rfl rfl rfl hh1 rfl rfl ?_
      refine rx_T.to 2 86 [(3, .int (nI j)), (2, .int (nI i)), (0, .ref 53)] [.int (nI i), .ref 68, .int (nI i), .ref 68] h1 rfl ?_
      refine rx_T.laR (M := rxm_138) (k := 52) rfl rfl hh1 rfl (show i < 22 by omega) (by decide) ?_
      refine rx_T.to 2 89 [(3, .int (nI j)), (2, .int (nI i)), (0, .ref 53)] [.long ((rx_gL h1 52 (i)) + (Int64.ofNat 1)), .int (nI i), .ref 68] h1 rfl ?_
      refine rx_T.laW (M := rxm_138) (k := 52) rfl rfl hh1 rfl (show i < 22 by omega) (by decide) (fun h2 hh2 z2 => ?_)
      refine rx_T.to 1 91 [(3, .int (nI j)), (2, .int (nI i)), (0, .ref 53)] [.ref 53] h2 rfl ?_
      refine rx_T.gfr (M := rxm_138) (k := 37) rfl rfl rfl hh2 rfl rfl ?_
      refine rx_T.to 2 96 [(3, .int (nI j)), (2, .int (nI i)), (0, .ref 53)] [.int (nI j), .ref 68, .int (nI j), .ref 68] h2 rfl ?_
      refine rx_T.laR (M := rxm_138) (k := 52) rfl rfl hh2 rfl (show j < 22 by omega) (by decide) ?_
      refine rx_T.to 2 99 [(3, .int (nI j)), (2, .int (nI i)), (0, .ref 53)] [.long ((rx_gL h2 52 (j)) - (Int64.ofNat 1)), .int (nI j), .ref 68] h2 rfl ?_
      refine rx_T.laW (M := rxm_138) (k := 52) rfl rfl hh2 rfl (show j < 22 by omega) (by decide) (fun h3 hh3 z3 => ?_)
      have e4 : ∀ z, ¬ z = 52 → h3[z]? = h[z]? := fun z hz => (z3 z hz).trans ((z2 z hz).trans (e1 z hz))
      have hx3 := rx_Xm_row e4 hx
      have hb3 := hb.of (h' := h3) (rx_gF_of (e4 37 (by decide))) (rx_gI_of (e4 60 (by decide)))
      refine rx_T.to 1 101 [(3, .int (nI j)), (2, .int (nI i)), (0, .ref 53)] [.ref 53] h3 rfl ?_
      refine rx_T.gfr (M := rxm_138) (k := 37) rfl rfl rfl hh3 rfl rfl ?_
      refine rx_T.to 6 111 [(3, .int (nI j)), (2, .int (nI i)), (0, .ref 53)] [.ref 53, .int (((Int8.ofInt 21).toInt32 * (nI i)) + (nI j)), .ref 75] h3 rfl ?_
      rw [rx_ix21 i j (by omega) (by omega)]
      refine rx_T.callm (M := rxm_138) (N := rxm_139) (j := 139) (nest := 0) (as' := []) (rest := [.int (nI (21 * i + j)), .ref 75]) rfl rfl rfl rfl rfl rfl rfl rfl (Nat.le_of_ble_eq_true rfl) (Nat.le_of_ble_eq_true rfl) hh3 (show 19 + 5 ≤ w by omega) (rx_number (d := d) (k := 2 + 21 * i + j) (by omega) ht (show 90 ≤ w - (19 + 5) by omega) hh3 hx3 hb3) ?_
      intro v4 h4 hp
      obtain ⟨⟨y, rfl, y1, y2⟩, hh4, hx4, hF4, hb4⟩ := hp
      refine rx_T.iaW (M := rxm_138) (k := 59) rfl rfl hh4 rfl (show (21 * i + j) < 441 by omega) (by decide) (rxi_lo _) (rxi_hi _) (fun h5 hh5 v5 z5 => ?_)
      have e5 := z5
      have e6 : ∀ z, ¬ (z = 37 ∨ z = 52 ∨ z = 58 ∨ z = 59 ∨ z = 60) → h5[z]? = h4[z]? := fun z hz => z5 z (by omega)
      refine rx_T.to 2 68 [(3, .int ((nI j) + Int32.ofInt 1)), (2, .int (nI i)), (0, .ref 53)] [] h5 rfl ?_
      rw [show nI j + Int32.ofInt 1 = nI (j + 1) from nI_1 j]
      exact ih (j + 1) h5 (by omega) hh5 (rx_Xm_nb e6 hx4) ((hF.trans (rx_Fm_row e4)).trans (hF4.trans (rx_Fm_nb e6 (fun q _ => rx_gF_of (e5 37 (by decide)))))) ((hb4.of (rx_gF_of (e5 37 (by decide))) (rx_gI_of (e5 60 (by decide)))).le (by omega))
set_option maxRecDepth 100000 in
set_option maxHeartbeats 4000000 in
theorem rx_na_i {h0 : rx_H} (ht : rx_tok rx_Em rt) (hw : 120 ≤ w) : ∀ (q i : Nat) (h : rx_H), i + q = 21 → rx_hin rx_I0 h → rx_Xm h → rx_Fm h0 h → rx_nbi (2 + 21 * i) h →
    rx_T rx_cds rx_ms rx_lk0 rt (d + 3) w 138 58 [(2, .int (nI i)), (0, .ref 53)] [] h (fun v h' => rx_pin none v ∧ rx_hin rx_I0 h' ∧ rx_Xm h' ∧ rx_Fm h0 h') := by
  intro q
  induction q with
  | zero =>
    intro i h hi hh hx hF hb
    have ei : i = 21 := by omega
    subst ei
    refine rx_T.to 2 60 [(2, .int (nI 21)), (0, .ref 53)] [.ref 53, .int (nI 21)] h rfl ?_
    refine rx_T.gfi (M := rxm_138) (k := 37) rfl rfl rfl hh rfl rfl (fun vs x c1 c2 x1 x2 => ?_)
    obtain ⟨c, rfl, hc⟩ := rx_nIof (n := 21) x1 x2
    refine rx_T.op (M := rxm_138) (ins := .if_icmp .ge 64) rfl rfl rfl rfl (rx_b2_t 127 (decide_eq_true (nI_le (show c ≤ 21 by omega) (by omega))) (by decide)) ?_
    exact rx_T.ret (M := rxm_138) (v := none) rfl rfl rfl ⟨trivial, hh, hx, hF⟩
  | succ q ih =>
    intro i h hiq hh hx hF hb
    have hi : i < 21 := by omega
    refine rx_T.to 2 60 [(2, .int (nI i)), (0, .ref 53)] [.ref 53, .int (nI i)] h rfl ?_
    refine rx_T.gfi (M := rxm_138) (k := 37) rfl rfl rfl hh rfl rfl (fun vs x c1 c2 x1 x2 => ?_)
    obtain ⟨c, rfl, hc⟩ := rx_nIof (n := 21) x1 x2
    refine rx_T.br2 (M := rxm_138) 127 rfl rfl (by decide) (fun _ => ?_) (fun q0 => ?_)
    · exact rx_T.ret (M := rxm_138) (v := none) rfl rfl rfl ⟨trivial, hh, hx, hF⟩
    · refine rx_T.to 2 68 [(3, .int (nI 0)), (2, .int (nI i)), (0, .ref 53)] [] h rfl ?_
      refine rx_na_j hi ht hw (fun h2 hh2 hx2 hF2 hb2 => ?_) 21 0 h rfl hh hx hF hb
      refine rx_T.to 2 58 [(2, .int ((nI i) + Int32.ofInt 1)), (0, .ref 53)] [] h2 rfl ?_
      rw [show nI i + Int32.ofInt 1 = nI (i + 1) from nI_1 i]
      exact ih (i + 1) h2 (by omega) hh2 hx2 hF2 hb2
def rx_s_na : rx_Sp := (138, [.inr (.inl (53, 53))], none, 3, 120)
set_option maxRecDepth 100000 in
set_option maxHeartbeats 4000000 in
theorem rx_sp_na : rx_spm rx_s_na := by
  intro rt d w as h ht hd hw has hh hx
  have hd : 3 ≤ d := hd
  have hw : 120 ≤ w := hw
  obtain ⟨v0, as0, rfl, k0, has0⟩ := rx_asin_e has
  have e0 := rx_ref_e k0
  subst e0
  have e1 := rx_asin_nil has0
  subst e1
  obtain ⟨d, rfl⟩ : ∃ d', d = d' + 3 := ⟨d - 3, by omega⟩
  obtain ⟨f, g0, _⟩ := rx_get_a (k := 60) hh rfl
  obtain ⟨vs, c0, d2, d3⟩ := rx_get_o hh (k := 37) rfl
  obtain ⟨v31, f31, g31⟩ := d3 31 _ rfl
  have e31 := rx_ref_e g31
  subst e31
  show rx_T rx_cds rx_ms rx_lk0 rt (d + 3) w 138 0 [(0, .ref 53)] [] h _
  refine rx_T.to 2 2 [(1, .int (nI 0)), (0, .ref 53)] [] h rfl ?_
  refine rx_fill_table 37 60 vs f31 (by decide) 2048 0 h f rfl c0 g0 (fun j hj => absurd hj (by omega)) (fun h1 g c1 a1 a2 a0 a3 => ?_)
  have hh1 : rx_hin rx_I0 h1 := ⟨a0.trans hh.1, fun k ic hk => by
    by_cases ek : k = 60
    · subst ek
      cases hk
      exact ⟨_, a1, g, rfl, fun j hj => by rw [a3 j hj]; decide⟩
    · rw [a2 k ek]
      exact hh.2 k ic hk⟩
  refine rx_T.to 2 24 [(1, .int (nI 2048)), (0, .ref 53)] [.int 0, .ref 53] h1 rfl ?_
  refine rx_T.pfF (M := rxm_138) (k := 37) rfl rfl rfl hh1 rfl rfl rfl (by decide) (by decide) (fun h2 hh2 v2 f2 z2 => ?_)
  have s3 : ∀ z, ¬ (z = 37 ∨ z = 52 ∨ z = 58 ∨ z = 59 ∨ z = 60) → h2[z]? = h[z]? := fun z hz => (z2 z (by omega)).trans (a2 z (by omega))
  have f4 : ∀ j, j < 32 → rx_gF h2 37 j = rx_gF h 37 j := fun j hj => (f2 j (by omega)).trans (rx_gF_of (a2 37 (by decide)))
  have hx2 := rx_Xm_nb s3 hx
  have hF2 := rx_Fm_nb s3 f4
  have hb2 : rx_nbi 0 h2 := by
    unfold rx_nbi
    rw [v2, rx_gI_of (z2 60 (by decide)), rx_gI_at a1, show rx_cnt g = 0 from rx_sum_0 2048 (fun j hj => if_pos (by rw [a3 j hj]; decide))]
    decide
  refine rx_T.to 1 28 [(1, .int (nI 2048)), (0, .ref 53)] [.ref 53] h2 rfl ?_
  refine rx_T.callm (M := rxm_138) (N := rxm_128) (j := 128) (nest := 0) (as' := []) (rest := []) rfl rfl rfl rfl rfl rfl rfl rfl (Nat.le_of_ble_eq_true rfl) (Nat.le_of_ble_eq_true rfl) hh2 (show 19 + 2 ≤ w by omega) (rxqc_1 rt (d + 2) (w - (19 + 2)) [.ref 53] h2 ht (show 0 ≤ (d + 2) by omega) (show 0 ≤ w - (19 + 2) by omega) ⟨⟨53, rfl, Nat.le_refl _, Nat.le_refl _⟩, trivial⟩ hh2 hx2) ?_
  intro v3 h3 hp
  obtain ⟨pv3, hh3, hx3, e3⟩ := hp
  obtain rfl := rx_pin_n pv3
  have hb3 := hb2.of (h' := h3) (rx_gF_of (e3 37 (by decide))) (rx_gI_of (e3 60 (by decide)))
  refine rx_T.to 1 32 [(1, .int (nI 2048)), (0, .ref 53)] [.ref 53] h3 rfl ?_
  refine rx_T.callm (M := rxm_138) (N := rxm_139) (j := 139) (nest := 0) (as' := []) (rest := []) rfl rfl rfl rfl rfl rfl rfl rfl (Nat.le_of_ble_eq_true rfl) (Nat.le_of_ble_eq_true rfl) hh3 (show 19 + 5 ≤ w by omega) (rx_number (d := d) (k := 0) (by omega) ht (show 90 ≤ w - (19 + 5) by omega) hh3 hx3 hb3) ?_
  intro v4 h4 hp
  obtain ⟨⟨y, rfl, y1, y2⟩, hh4, hx4, hF4, hb4⟩ := hp
  refine rx_T.to 2 37 [(1, .int y), (0, .ref 53)] [.ref 53] h4 rfl ?_
  refine rx_T.callm (M := rxm_138) (N := rxm_128) (j := 128) (nest := 0) (as' := []) (rest := []) rfl rfl rfl rfl rfl rfl rfl rfl (Nat.le_of_ble_eq_true rfl) (Nat.le_of_ble_eq_true rfl) hh4 (show 19 + 2 ≤ w by omega) (rxqc_1 rt (d + 2) (w - (19 + 2)) [.ref 53] h4 ht (show 0 ≤ (d + 2) by omega) (show 0 ≤ w - (19 + 2) by omega) ⟨⟨53, rfl, Nat.le_refl _, Nat.le_refl _⟩, trivial⟩ hh4 hx4) ?_
  intro v5 h5 hp
  obtain ⟨pv5, hh5, hx5, e5⟩ := hp
  obtain rfl := rx_pin_n pv5
  have hb5 := hb4.of (h' := h5) (rx_gF_of (e5 37 (by decide))) (rx_gI_of (e5 60 (by decide)))
  refine rx_T.to 1 41 [(1, .int y), (0, .ref 53)] [.ref 53] h5 rfl ?_
  refine rx_T.gfr (M := rxm_138) (k := 37) rfl rfl rfl hh5 rfl rfl ?_
  refine rx_T.to 2 47 [(1, .int y), (0, .ref 53)] [.long (Int64.ofNat 1), .int (Int8.ofInt 21).toInt32, .ref 68] h5 rfl ?_
  rw [show (Int8.ofInt 21).toInt32 = nI 21 by decide +kernel]
  refine rx_T.laW (M := rxm_138) (k := 52) rfl rfl hh5 rfl (show 21 < 22 by omega) (by decide) (fun h6 hh6 z6 => ?_)
  have e6 := z6
  have hx6 := rx_Xm_row e6 hx5
  have hb6 := hb5.of (h' := h6) (rx_gF_of (e6 37 (by decide))) (rx_gI_of (e6 60 (by decide)))
  refine rx_T.to 2 50 [(1, .int y), (0, .ref 53)] [.ref 53, .ref 53] h6 rfl ?_
  refine rx_T.callm (M := rxm_138) (N := rxm_139) (j := 139) (nest := 0) (as' := []) (rest := [.ref 53]) rfl rfl rfl rfl rfl rfl rfl rfl (Nat.le_of_ble_eq_true rfl) (Nat.le_of_ble_eq_true rfl) hh6 (show 19 + 5 ≤ w by omega) (rx_number (d := d) (k := 1) (by omega) ht (show 90 ≤ w - (19 + 5) by omega) hh6 hx6 hb6) ?_
  intro v7 h7 hp
  obtain ⟨⟨y7, rfl, _, _⟩, hh7, hx7, hF7, hb7⟩ := hp
  refine rx_T.pfF (M := rxm_138) (k := 37) rfl rfl rfl hh7 rfl rfl rfl (rxi_lo _) (rxi_hi _) (fun h8 hh8 v8 f8 z8 => ?_)
  have s8 := z8
  have s9 : ∀ z, ¬ (z = 37 ∨ z = 52 ∨ z = 58 ∨ z = 59 ∨ z = 60) → h8[z]? = h7[z]? := fun z hz => z8 z (by omega)
  refine rx_T.to 2 58 [(2, .int (nI 0)), (1, .int y), (0, .ref 53)] [] h8 rfl ?_
  refine rx_T.lv [(2, .int (nI 0)), (0, .ref 53)] (((rx_lvl.nil _).cons rfl rfl).cons rfl rfl) ?_
  exact rx_na_i ht hw 21 0 h8 rfl hh8 (rx_Xm_nb s9 hx7) (((hF2.trans (rx_Fm_row e3)).trans (hF4.trans (rx_Fm_row e5))).trans (((rx_Fm_row e6).trans hF7).trans (rx_Fm_nb s9 (fun j hj => f8 j (by omega))))) (hb7.of (f8 32 (by decide)) (rx_gI_of (s8 60 (by decide))))
end RXNA
