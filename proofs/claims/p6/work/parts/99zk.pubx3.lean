section RXPZ
variable {rt : rx_R} {d w : Nat} {P : Option Value → rx_H → Prop}
theorem rx_Fc.k {h h' : rx_H} (H : rx_Fc h h') : rx_KX h h' ∧ rx_DXs h h' := ⟨⟨fun z hz => H.1 z (by omega), H.2 3 (by decide)⟩, H.2 6 (by decide), H.2 7 (by decide)⟩
/-- an int, and what is compared stays -/
def rx_any (h : rx_H) (v : Option Value) (h' : rx_H) : Prop := (∃ x : Int32, v = some (.int x)) ∧ rx_hin rx_I0 h' ∧ rx_KX h h' ∧ rx_DXs h h'
theorem rx_any0 {h : rx_H} {x : Int32} (hh : rx_hin rx_I0 h) : rx_any h (some (.int x)) h := ⟨⟨x, rfl⟩, hh, ⟨fun _ _ => rfl, rfl⟩, rfl, rfl⟩
def rx_any1 (h : rx_H) (v : Option Value) (h' : rx_H) : Prop := (∃ x : Int32, v = some (.int x)) ∧ rx_hin rx_I0 h' ∧ rx_KX h h' ∧ rx_DX0 h'
theorem rx_ints {v : Option Value} {lo hi : Int} (h : rx_pin (some (.inl (lo, hi))) v) : ∃ x : Int32, v = some (.int x) := by
  obtain ⟨y, rfl, x, rfl, _⟩ := rx_pin_s h
  exact ⟨x, rfl⟩
set_option maxRecDepth 100000 in
set_option maxHeartbeats 4000000 in
theorem rx_xline {h : rx_H} {x y : Int32} {n : Nat} (ht : rx_tok rx_Em rt) (hn : n ≤ 7) (hw : 176 ≤ w) (hh : rx_hin rx_I0 h) (en : rx_gF h 1 2 = nI n) : rx_T rx_cds rx_ms rx_lk0 rt (d + 7) w 83 0 [(0, .ref 16), (1, .int x), (2, .int y)] [] h (rx_any h) := by
  refine rx_T.to 1 1 [(0, .ref 16), (1, .int x), (2, .int y)] [.ref 16] h rfl ?_
  refine rx_T.gfr (M := rxm_83) (k := 0) rfl rfl rfl hh rfl rfl ?_
  refine rx_T.to 1 5 [(0, .ref 16), (1, .int x), (2, .int y)] [.int x, .ref 17] h rfl ?_
  refine rx_T.callk (M := rxm_83) (N := rxm_11) (j := 11) (nest := 0) (k := 1) (as' := [.int x]) (rest := []) rfl rfl rfl rfl rfl rfl rfl rfl rfl (Nat.le_of_ble_eq_true rfl) (Nat.le_of_ble_eq_true rfl) hh (show 19 + 2 ≤ w by omega) (rx_xhas hn hh en) ?_
  intro v0 g0 hp
  obtain ⟨hp, e0⟩ := hp
  rw [e0]
  rcases hp with ⟨rfl, q0⟩ | ⟨rfl, q0⟩
  rotate_left
  · refine rx_T.op (M := rxm_83) (ins := .ifCond .eq 19) rfl rfl rfl rfl (rx_b1_t 27 (by decide) (by decide)) ?_
    refine rx_T.to 1 28 [(0, .ref 16), (1, .int x), (2, .int y)] [.int 0] h rfl ?_
    exact rx_T.ret (M := rxm_83) rfl rfl rfl (rx_any0 hh)
  refine rx_T.op (M := rxm_83) (ins := .ifCond .eq 19) rfl rfl rfl rfl (rx_b1_f (by decide) (by decide)) ?_
  obtain ⟨a, ha, rfl⟩ := q0
  refine rx_T.to 1 12 [(0, .ref 16), (1, .int (nI a)), (2, .int y)] [.ref 16] h rfl ?_
  refine rx_T.gfr (M := rxm_83) (k := 0) rfl rfl rfl hh rfl rfl ?_
  refine rx_T.to 1 16 [(0, .ref 16), (1, .int (nI a)), (2, .int y)] [.int y, .ref 17] h rfl ?_
  refine rx_T.callk (M := rxm_83) (N := rxm_11) (j := 11) (nest := 0) (k := 1) (as' := [.int y]) (rest := []) rfl rfl rfl rfl rfl rfl rfl rfl rfl (Nat.le_of_ble_eq_true rfl) (Nat.le_of_ble_eq_true rfl) hh (show 19 + 2 ≤ w by omega) (rx_xhas hn hh en) ?_
  intro v1 g1 hp
  obtain ⟨hp, e1⟩ := hp
  rw [e1]
  rcases hp with ⟨rfl, q1⟩ | ⟨rfl, q1⟩
  rotate_left
  · refine rx_T.op (M := rxm_83) (ins := .ifCond .eq 8) rfl rfl rfl rfl (rx_b1_t 27 (by decide) (by decide)) ?_
    refine rx_T.to 1 28 [(0, .ref 16), (1, .int (nI a)), (2, .int y)] [.int 0] h rfl ?_
    exact rx_T.ret (M := rxm_83) rfl rfl rfl (rx_any0 hh)
  refine rx_T.op (M := rxm_83) (ins := .ifCond .eq 8) rfl rfl rfl rfl (rx_b1_f (by decide) (by decide)) ?_
  obtain ⟨b, hb, rfl⟩ := q1
  refine rx_T.to 2 24 [(0, .ref 16), (1, .int (nI a)), (2, .int (nI b))] [.int (nI b), .int (nI a)] h rfl ?_
  refine rx_T.br2 (M := rxm_83) 29 rfl rfl (by decide) (fun _ => ?_) (fun _ => ?_)
  rotate_left
  · refine rx_T.to 1 28 [(0, .ref 16), (1, .int (nI a)), (2, .int (nI b))] [.int 0] h rfl ?_
    exact rx_T.ret (M := rxm_83) rfl rfl rfl (rx_any0 hh)
  refine rx_T.to 1 30 [(0, .ref 16), (1, .int (nI a)), (2, .int (nI b))] [.ref 16] h rfl ?_
  refine rx_T.gfr (M := rxm_83) (k := 0) rfl rfl rfl hh rfl rfl ?_
  refine rx_T.to 1 34 [(0, .ref 16), (1, .int (nI a)), (2, .int (nI b))] [.ref 16, .ref 21] h rfl ?_
  refine rx_T.gfi (M := rxm_83) (k := 0) rfl rfl rfl hh rfl rfl (fun us x4 a1 a4 _ _ => ?_)
  refine rx_T.callk (M := rxm_83) (N := rxm_30) (j := 30) (nest := 0) (k := 5) (as' := [.int x4]) (rest := []) rfl rfl rfl rfl rfl rfl rfl rfl rfl (Nat.le_of_ble_eq_true rfl) (Nat.le_of_ble_eq_true rfl) hh (show 19 + 5 ≤ w by omega) (rx_c_close rt (d + 6) (w - (19 + 5)) [.ref 21, .int x4] h (rx_tok_cm ht) (show 6 ≤ (d + 6) by omega) (show 146 ≤ w - (19 + 5) by omega) ⟨⟨21, rfl, Nat.le_refl _, Nat.le_refl _⟩, ⟨x4, rfl, rxi_lo _, rxi_hi _⟩, trivial⟩ hh trivial) ?_
  intro v8 h8 hp
  obtain ⟨pv8, hh8, _, hF8⟩ := hp
  obtain rfl := rx_pin_n pv8
  refine rx_T.to 1 41 [(0, .ref 16), (1, .int (nI a)), (2, .int (nI b))] [.ref 16] h8 rfl ?_
  refine rx_T.gfr (M := rxm_83) (k := 0) rfl rfl rfl hh8 rfl rfl ?_
  refine rx_T.to 2 46 [(0, .ref 16), (1, .int (nI a)), (2, .int (nI b))] [.int (nI b), .int (nI a), .ref 21] h8 rfl ?_
  refine rx_T.callk (M := rxm_83) (N := rxm_84) (j := 84) (nest := 0) (k := 5) (as' := [.int (nI a), .int (nI b)]) (rest := []) rfl rfl rfl rfl rfl rfl rfl rfl rfl (Nat.le_of_ble_eq_true rfl) (Nat.le_of_ble_eq_true rfl) hh8 (show 19 + 3 ≤ w by omega) (rx_c_lineBits rt (d + 6) (w - (19 + 3)) [.ref 21, .int (nI a), .int (nI b)] h8 (rx_tok_cm ht) (show 1 ≤ (d + 6) by omega) (show 21 ≤ w - (19 + 3) by omega) ⟨⟨21, rfl, Nat.le_refl _, Nat.le_refl _⟩, ⟨_, rfl, by rw [nI_toInt (by omega)]; simp only; omega, by rw [nI_toInt (by omega)]; simp only; omega⟩, ⟨_, rfl, by rw [nI_toInt (by omega)]; simp only; omega, by rw [nI_toInt (by omega)]; simp only; omega⟩, trivial⟩ hh8 trivial) ?_
  intro v9 h9 hp
  obtain ⟨pv9, hh9, _, hF9⟩ := hp
  obtain ⟨y9, rfl⟩ := rx_ints pv9
  have hk := rx_Fc.k (rx_env_c.2.1 _ _ _ hF8 hF9)
  exact rx_T.ret (M := rxm_83) (v := some (.int y9)) rfl rfl rfl ⟨⟨y9, rfl⟩, hh9, hk.1, hk.2⟩
set_option maxRecDepth 100000 in
set_option maxHeartbeats 4000000 in
theorem rx_xlen {h : rx_H} {x y : Int32} {n : Nat} (ht : rx_tok rx_Em rt) (hn : n ≤ 7) (hw : 176 ≤ w) (hh : rx_hin rx_I0 h) (en : rx_gF h 1 2 = nI n) : rx_T rx_cds rx_ms rx_lk0 rt (d + 7) w 87 0 [(0, .ref 16), (1, .int x), (2, .int y)] [] h (rx_any h) := by
  refine rx_T.to 1 1 [(0, .ref 16), (1, .int x), (2, .int y)] [.ref 16] h rfl ?_
  refine rx_T.gfr (M := rxm_87) (k := 0) rfl rfl rfl hh rfl rfl ?_
  refine rx_T.to 1 5 [(0, .ref 16), (1, .int x), (2, .int y)] [.int x, .ref 17] h rfl ?_
  refine rx_T.callk (M := rxm_87) (N := rxm_11) (j := 11) (nest := 0) (k := 1) (as' := [.int x]) (rest := []) rfl rfl rfl rfl rfl rfl rfl rfl rfl (Nat.le_of_ble_eq_true rfl) (Nat.le_of_ble_eq_true rfl) hh (show 19 + 2 ≤ w by omega) (rx_xhas hn hh en) ?_
  intro v0 g0 hp
  obtain ⟨hp, e0⟩ := hp
  rw [e0]
  rcases hp with ⟨rfl, q0⟩ | ⟨rfl, q0⟩
  rotate_left
  · refine rx_T.op (M := rxm_87) (ins := .ifCond .eq 19) rfl rfl rfl rfl (rx_b1_t 27 (by decide) (by decide)) ?_
    refine rx_T.to 1 28 [(0, .ref 16), (1, .int x), (2, .int y)] [.int (-1)] h rfl ?_
    exact rx_T.ret (M := rxm_87) rfl rfl rfl (rx_any0 hh)
  refine rx_T.op (M := rxm_87) (ins := .ifCond .eq 19) rfl rfl rfl rfl (rx_b1_f (by decide) (by decide)) ?_
  obtain ⟨a, ha, rfl⟩ := q0
  refine rx_T.to 1 12 [(0, .ref 16), (1, .int (nI a)), (2, .int y)] [.ref 16] h rfl ?_
  refine rx_T.gfr (M := rxm_87) (k := 0) rfl rfl rfl hh rfl rfl ?_
  refine rx_T.to 1 16 [(0, .ref 16), (1, .int (nI a)), (2, .int y)] [.int y, .ref 17] h rfl ?_
  refine rx_T.callk (M := rxm_87) (N := rxm_11) (j := 11) (nest := 0) (k := 1) (as' := [.int y]) (rest := []) rfl rfl rfl rfl rfl rfl rfl rfl rfl (Nat.le_of_ble_eq_true rfl) (Nat.le_of_ble_eq_true rfl) hh (show 19 + 2 ≤ w by omega) (rx_xhas hn hh en) ?_
  intro v1 g1 hp
  obtain ⟨hp, e1⟩ := hp
  rw [e1]
  rcases hp with ⟨rfl, q1⟩ | ⟨rfl, q1⟩
  rotate_left
  · refine rx_T.op (M := rxm_87) (ins := .ifCond .eq 8) rfl rfl rfl rfl (rx_b1_t 27 (by decide) (by decide)) ?_
    refine rx_T.to 1 28 [(0, .ref 16), (1, .int (nI a)), (2, .int y)] [.int (-1)] h rfl ?_
    exact rx_T.ret (M := rxm_87) rfl rfl rfl (rx_any0 hh)
  refine rx_T.op (M := rxm_87) (ins := .ifCond .eq 8) rfl rfl rfl rfl (rx_b1_f (by decide) (by decide)) ?_
  obtain ⟨b, hb, rfl⟩ := q1
  refine rx_T.to 2 24 [(0, .ref 16), (1, .int (nI a)), (2, .int (nI b))] [.int (nI b), .int (nI a)] h rfl ?_
  refine rx_T.br2 (M := rxm_87) 29 rfl rfl (by decide) (fun _ => ?_) (fun _ => ?_)
  rotate_left
  · refine rx_T.to 1 28 [(0, .ref 16), (1, .int (nI a)), (2, .int (nI b))] [.int (-1)] h rfl ?_
    exact rx_T.ret (M := rxm_87) rfl rfl rfl (rx_any0 hh)
  refine rx_T.to 1 30 [(0, .ref 16), (1, .int (nI a)), (2, .int (nI b))] [.ref 16] h rfl ?_
  refine rx_T.gfr (M := rxm_87) (k := 0) rfl rfl rfl hh rfl rfl ?_
  refine rx_T.to 1 34 [(0, .ref 16), (1, .int (nI a)), (2, .int (nI b))] [.ref 16, .ref 21] h rfl ?_
  refine rx_T.gfi (M := rxm_87) (k := 0) rfl rfl rfl hh rfl rfl (fun us x4 a1 a4 _ _ => ?_)
  refine rx_T.callk (M := rxm_87) (N := rxm_30) (j := 30) (nest := 0) (k := 5) (as' := [.int x4]) (rest := []) rfl rfl rfl rfl rfl rfl rfl rfl rfl (Nat.le_of_ble_eq_true rfl) (Nat.le_of_ble_eq_true rfl) hh (show 19 + 5 ≤ w by omega) (rx_c_close rt (d + 6) (w - (19 + 5)) [.ref 21, .int x4] h (rx_tok_cm ht) (show 6 ≤ (d + 6) by omega) (show 146 ≤ w - (19 + 5) by omega) ⟨⟨21, rfl, Nat.le_refl _, Nat.le_refl _⟩, ⟨x4, rfl, rxi_lo _, rxi_hi _⟩, trivial⟩ hh trivial) ?_
  intro v8 h8 hp
  obtain ⟨pv8, hh8, _, hF8⟩ := hp
  obtain rfl := rx_pin_n pv8
  refine rx_T.to 1 41 [(0, .ref 16), (1, .int (nI a)), (2, .int (nI b))] [.ref 16] h8 rfl ?_
  refine rx_T.gfr (M := rxm_87) (k := 0) rfl rfl rfl hh8 rfl rfl ?_
  refine rx_T.to 2 46 [(0, .ref 16), (1, .int (nI a)), (2, .int (nI b))] [.int (nI b), .int (nI a), .ref 21] h8 rfl ?_
  refine rx_T.callk (M := rxm_87) (N := rxm_88) (j := 88) (nest := 0) (k := 5) (as' := [.int (nI a), .int (nI b)]) (rest := []) rfl rfl rfl rfl rfl rfl rfl rfl rfl (Nat.le_of_ble_eq_true rfl) (Nat.le_of_ble_eq_true rfl) hh8 (show 19 + 6 ≤ w by omega) (rx_c_leastPair rt (d + 6) (w - (19 + 6)) [.ref 21, .int (nI a), .int (nI b)] h8 (rx_tok_cm ht) (show 1 ≤ (d + 6) by omega) (show 21 ≤ w - (19 + 6) by omega) ⟨⟨21, rfl, Nat.le_refl _, Nat.le_refl _⟩, ⟨_, rfl, by rw [nI_toInt (by omega)]; simp only; omega, by rw [nI_toInt (by omega)]; simp only; omega⟩, ⟨_, rfl, by rw [nI_toInt (by omega)]; simp only; omega, by rw [nI_toInt (by omega)]; simp only; omega⟩, trivial⟩ hh8 trivial) ?_
  intro v9 h9 hp
  obtain ⟨pv9, hh9, _, hF9⟩ := hp
  obtain ⟨y9, rfl⟩ := rx_ints pv9
  have hk := rx_Fc.k (rx_env_c.2.1 _ _ _ hF8 hF9)
  exact rx_T.ret (M := rxm_87) (v := some (.int y9)) rfl rfl rfl ⟨⟨y9, rfl⟩, hh9, hk.1, hk.2⟩
set_option maxRecDepth 100000 in
set_option maxHeartbeats 4000000 in
theorem rx_xcircle {h : rx_H} {x y z : Int32} {n : Nat} (ht : rx_tok rx_Em rt) (hn : n ≤ 7) (hw : 176 ≤ w) (hh : rx_hin rx_I0 h) (en : rx_gF h 1 2 = nI n) : rx_T rx_cds rx_ms rx_lk0 rt (d + 7) w 85 0 [(0, .ref 16), (1, .int x), (2, .int y), (3, .int z)] [] h (rx_any h) := by
  refine rx_T.to 1 1 [(0, .ref 16), (1, .int x), (2, .int y), (3, .int z)] [.ref 16] h rfl ?_
  refine rx_T.gfr (M := rxm_85) (k := 0) rfl rfl rfl hh rfl rfl ?_
  refine rx_T.to 1 5 [(0, .ref 16), (1, .int x), (2, .int y), (3, .int z)] [.int x, .ref 17] h rfl ?_
  refine rx_T.callk (M := rxm_85) (N := rxm_11) (j := 11) (nest := 0) (k := 1) (as' := [.int x]) (rest := []) rfl rfl rfl rfl rfl rfl rfl rfl rfl (Nat.le_of_ble_eq_true rfl) (Nat.le_of_ble_eq_true rfl) hh (show 19 + 2 ≤ w by omega) (rx_xhas hn hh en) ?_
  intro v0 g0 hp
  obtain ⟨hp, e0⟩ := hp
  rw [e0]
  rcases hp with ⟨rfl, q0⟩ | ⟨rfl, q0⟩
  rotate_left
  · refine rx_T.op (M := rxm_85) (ins := .ifCond .eq 25) rfl rfl rfl rfl (rx_b1_t 33 (by decide) (by decide)) ?_
    refine rx_T.to 1 34 [(0, .ref 16), (1, .int x), (2, .int y), (3, .int z)] [.int 0] h rfl ?_
    exact rx_T.ret (M := rxm_85) rfl rfl rfl (rx_any0 hh)
  refine rx_T.op (M := rxm_85) (ins := .ifCond .eq 25) rfl rfl rfl rfl (rx_b1_f (by decide) (by decide)) ?_
  obtain ⟨a, ha, rfl⟩ := q0
  refine rx_T.to 1 12 [(0, .ref 16), (1, .int (nI a)), (2, .int y), (3, .int z)] [.ref 16] h rfl ?_
  refine rx_T.gfr (M := rxm_85) (k := 0) rfl rfl rfl hh rfl rfl ?_
  refine rx_T.to 1 16 [(0, .ref 16), (1, .int (nI a)), (2, .int y), (3, .int z)] [.int y, .ref 17] h rfl ?_
  refine rx_T.callk (M := rxm_85) (N := rxm_11) (j := 11) (nest := 0) (k := 1) (as' := [.int y]) (rest := []) rfl rfl rfl rfl rfl rfl rfl rfl rfl (Nat.le_of_ble_eq_true rfl) (Nat.le_of_ble_eq_true rfl) hh (show 19 + 2 ≤ w by omega) (rx_xhas hn hh en) ?_
  intro v1 g1 hp
  obtain ⟨hp, e1⟩ := hp
  rw [e1]
  rcases hp with ⟨rfl, q1⟩ | ⟨rfl, q1⟩
  rotate_left
  · refine rx_T.op (M := rxm_85) (ins := .ifCond .eq 14) rfl rfl rfl rfl (rx_b1_t 33 (by decide) (by decide)) ?_
    refine rx_T.to 1 34 [(0, .ref 16), (1, .int (nI a)), (2, .int y), (3, .int z)] [.int 0] h rfl ?_
    exact rx_T.ret (M := rxm_85) rfl rfl rfl (rx_any0 hh)
  refine rx_T.op (M := rxm_85) (ins := .ifCond .eq 14) rfl rfl rfl rfl (rx_b1_f (by decide) (by decide)) ?_
  obtain ⟨b, hb, rfl⟩ := q1
  refine rx_T.to 1 23 [(0, .ref 16), (1, .int (nI a)), (2, .int (nI b)), (3, .int z)] [.ref 16] h rfl ?_
  refine rx_T.gfr (M := rxm_85) (k := 0) rfl rfl rfl hh rfl rfl ?_
  refine rx_T.to 1 27 [(0, .ref 16), (1, .int (nI a)), (2, .int (nI b)), (3, .int z)] [.int z, .ref 17] h rfl ?_
  refine rx_T.callk (M := rxm_85) (N := rxm_11) (j := 11) (nest := 0) (k := 1) (as' := [.int z]) (rest := []) rfl rfl rfl rfl rfl rfl rfl rfl rfl (Nat.le_of_ble_eq_true rfl) (Nat.le_of_ble_eq_true rfl) hh (show 19 + 2 ≤ w by omega) (rx_xhas hn hh en) ?_
  intro v2 g2 hp
  obtain ⟨hp, e2⟩ := hp
  rw [e2]
  rcases hp with ⟨rfl, q2⟩ | ⟨rfl, q2⟩
  rotate_left
  · refine rx_T.op (M := rxm_85) (ins := .ifCond .ne 5) rfl rfl rfl rfl (rx_b1_f (by decide) (by decide)) ?_
    refine rx_T.to 1 34 [(0, .ref 16), (1, .int (nI a)), (2, .int (nI b)), (3, .int z)] [.int 0] h rfl ?_
    exact rx_T.ret (M := rxm_85) rfl rfl rfl (rx_any0 hh)
  refine rx_T.op (M := rxm_85) (ins := .ifCond .ne 5) rfl rfl rfl rfl (rx_b1_t 35 (by decide) (by decide)) ?_
  obtain ⟨c, hc, rfl⟩ := q2
  refine rx_T.to 1 36 [(0, .ref 16), (1, .int (nI a)), (2, .int (nI b)), (3, .int (nI c))] [.ref 16] h rfl ?_
  refine rx_T.gfr (M := rxm_85) (k := 0) rfl rfl rfl hh rfl rfl ?_
  refine rx_T.to 3 42 [(0, .ref 16), (1, .int (nI a)), (2, .int (nI b)), (3, .int (nI c))] [.int (nI c), .int (nI b), .int (nI a), .ref 17] h rfl ?_
  refine rx_T.callk (M := rxm_85) (N := rxm_20) (j := 20) (nest := 0) (k := 1) (as' := [.int (nI a), .int (nI b), .int (nI c)]) (rest := []) rfl rfl rfl rfl rfl rfl rfl rfl rfl (Nat.le_of_ble_eq_true rfl) (Nat.le_of_ble_eq_true rfl) hh (show 19 + 4 ≤ w by omega) (rx_xcol (d := d + 5) (by omega) (by omega) (by omega) (show 24 ≤ w - (19 + 4) by omega) hh) ?_
  intro v7 g7 hp
  obtain ⟨hp, e7⟩ := hp
  rw [e7]
  rcases hp with ⟨rfl, q7⟩ | ⟨rfl, q7⟩
  · refine rx_T.op (M := rxm_85) (ins := .ifCond .eq 5) rfl rfl rfl rfl (rx_b1_f (by decide) (by decide)) ?_
    refine rx_T.to 1 49 [(0, .ref 16), (1, .int (nI a)), (2, .int (nI b)), (3, .int (nI c))] [.int 0] h rfl ?_
    exact rx_T.ret (M := rxm_85) rfl rfl rfl (rx_any0 hh)
  refine rx_T.op (M := rxm_85) (ins := .ifCond .eq 5) rfl rfl rfl rfl (rx_b1_t 50 (by decide) (by decide)) ?_
  refine rx_T.to 1 51 [(0, .ref 16), (1, .int (nI a)), (2, .int (nI b)), (3, .int (nI c))] [.ref 16] h rfl ?_
  refine rx_T.gfr (M := rxm_85) (k := 0) rfl rfl rfl hh rfl rfl ?_
  refine rx_T.to 1 55 [(0, .ref 16), (1, .int (nI a)), (2, .int (nI b)), (3, .int (nI c))] [.ref 16, .ref 21] h rfl ?_
  refine rx_T.gfi (M := rxm_85) (k := 0) rfl rfl rfl hh rfl rfl (fun us x4 a1 a4 _ _ => ?_)
  refine rx_T.callk (M := rxm_85) (N := rxm_30) (j := 30) (nest := 0) (k := 5) (as' := [.int x4]) (rest := []) rfl rfl rfl rfl rfl rfl rfl rfl rfl (Nat.le_of_ble_eq_true rfl) (Nat.le_of_ble_eq_true rfl) hh (show 19 + 5 ≤ w by omega) (rx_c_close rt (d + 6) (w - (19 + 5)) [.ref 21, .int x4] h (rx_tok_cm ht) (show 6 ≤ (d + 6) by omega) (show 146 ≤ w - (19 + 5) by omega) ⟨⟨21, rfl, Nat.le_refl _, Nat.le_refl _⟩, ⟨x4, rfl, rxi_lo _, rxi_hi _⟩, trivial⟩ hh trivial) ?_
  intro v8 h8 hp
  obtain ⟨pv8, hh8, _, hF8⟩ := hp
  obtain rfl := rx_pin_n pv8
  refine rx_T.to 1 62 [(0, .ref 16), (1, .int (nI a)), (2, .int (nI b)), (3, .int (nI c))] [.ref 16] h8 rfl ?_
  refine rx_T.gfr (M := rxm_85) (k := 0) rfl rfl rfl hh8 rfl rfl ?_
  refine rx_T.to 3 68 [(0, .ref 16), (1, .int (nI a)), (2, .int (nI b)), (3, .int (nI c))] [.int (nI c), .int (nI b), .int (nI a), .ref 21] h8 rfl ?_
  refine rx_T.callk (M := rxm_85) (N := rxm_86) (j := 86) (nest := 0) (k := 5) (as' := [.int (nI a), .int (nI b), .int (nI c)]) (rest := []) rfl rfl rfl rfl rfl rfl rfl rfl rfl (Nat.le_of_ble_eq_true rfl) (Nat.le_of_ble_eq_true rfl) hh8 (show 19 + 4 ≤ w by omega) (rx_c_circleBits rt (d + 6) (w - (19 + 4)) [.ref 21, .int (nI a), .int (nI b), .int (nI c)] h8 (rx_tok_cm ht) (show 0 ≤ (d + 6) by omega) (show 0 ≤ w - (19 + 4) by omega) ⟨⟨21, rfl, Nat.le_refl _, Nat.le_refl _⟩, ⟨_, rfl, by rw [nI_toInt (by omega)]; simp only; omega, by rw [nI_toInt (by omega)]; simp only; omega⟩, ⟨_, rfl, by rw [nI_toInt (by omega)]; simp only; omega, by rw [nI_toInt (by omega)]; simp only; omega⟩, ⟨_, rfl, by rw [nI_toInt (by omega)]; simp only; omega, by rw [nI_toInt (by omega)]; simp only; omega⟩, trivial⟩ hh8 trivial) ?_
  intro v9 h9 hp
  obtain ⟨pv9, hh9, _, hF9⟩ := hp
  obtain ⟨y9, rfl⟩ := rx_ints pv9
  have hk := rx_Fc.k (rx_env_c.2.1 _ _ _ hF8 hF9)
  exact rx_T.ret (M := rxm_85) (v := some (.int y9)) rfl rfl rfl ⟨⟨y9, rfl⟩, hh9, hk.1, hk.2⟩
set_option maxRecDepth 100000 in
set_option maxHeartbeats 4000000 in
theorem rx_xfollows {h : rx_H} {k : Int32} {f c : Nat} {p : Nat → Nat} (ht : rx_tok rx_Em rt) (hw : 170 ≤ w) (H : rx_CX h f c p) : rx_T rx_cds rx_ms rx_lk0 rt (d + 7) w 29 0 [(0, .ref 16), (1, .int k)] [] h (rx_any1 h) := by
  have hh := H.1
  refine rx_T.to 2 2 [(0, .ref 16), (1, .int k)] [.int k, .ref 16] h rfl ?_
  refine rx_T.callk (M := rxm_29) (N := rxm_13) (j := 13) (nest := 0) (k := 0) (as' := [.int k]) (rest := []) rfl rfl rfl rfl rfl rfl rfl rfl rfl (Nat.le_of_ble_eq_true rfl) (Nat.le_of_ble_eq_true rfl) hh (show 19 + 6 ≤ w by omega) (rx_take2 (d := d + 4) ht (show 50 ≤ w - (19 + 6) by omega) H) ?_
  intro v1 h1 hp
  obtain ⟨hh1, hK1, hD1, hp⟩ := hp
  have hv : ∃ x : Int32, v1 = some (.int x) := by
    rcases hp with ⟨K, _, _, _, rfl⟩ | ⟨_, rfl⟩
    · exact ⟨_, rfl⟩
    · exact ⟨_, rfl⟩
  obtain ⟨x, rfl⟩ := hv
  refine (rx_k_X_follows (f := x) (k := k) ht (show 7 ≤ d + 7 by omega) (by omega) hh1).mono (fun v h2 q => ?_)
  obtain ⟨q1, q2, _, q3⟩ := q
  have hk := rx_Fc.k q3
  exact ⟨rx_ints q1, q2, ⟨fun z hz => (hk.1.1 z hz).trans (hK1.1 z hz), hk.1.2.trans hK1.2⟩, hk.2.1.trans hD1.1, hk.2.2.trans hD1.2⟩
set_option maxRecDepth 100000 in
set_option maxHeartbeats 4000000 in
theorem rx_xneeds {h : rx_H} {k : Int32} {f c : Nat} {p : Nat → Nat} (ht : rx_tok rx_Em rt) (hw : 170 ≤ w) (H : rx_CX h f c p) : rx_T rx_cds rx_ms rx_lk0 rt (d + 7) w 81 0 [(0, .ref 16), (1, .int k)] [] h (rx_any1 h) := by
  have hh := H.1
  refine rx_T.to 2 2 [(0, .ref 16), (1, .int k)] [.int k, .ref 16] h rfl ?_
  refine rx_T.callk (M := rxm_81) (N := rxm_13) (j := 13) (nest := 0) (k := 0) (as' := [.int k]) (rest := []) rfl rfl rfl rfl rfl rfl rfl rfl rfl (Nat.le_of_ble_eq_true rfl) (Nat.le_of_ble_eq_true rfl) hh (show 19 + 6 ≤ w by omega) (rx_take2 (d := d + 4) ht (show 50 ≤ w - (19 + 6) by omega) H) ?_
  intro v1 h1 hp
  obtain ⟨hh1, hK1, hD1, hp⟩ := hp
  have hv : ∃ x : Int32, v1 = some (.int x) := by
    rcases hp with ⟨K, _, _, _, rfl⟩ | ⟨_, rfl⟩
    · exact ⟨_, rfl⟩
    · exact ⟨_, rfl⟩
  obtain ⟨x, rfl⟩ := hv
  refine (rx_k_X_needs (f := x) (k := k) ht (show 7 ≤ d + 7 by omega) (by omega) hh1).mono (fun v h2 q => ?_)
  obtain ⟨q1, q2, _, q3⟩ := q
  have hk := rx_Fc.k q3
  exact ⟨rx_ints q1, q2, ⟨fun z hz => (hk.1.1 z hz).trans (hK1.1 z hz), hk.1.2.trans hK1.2⟩, hk.2.1.trans hD1.1, hk.2.2.trans hD1.2⟩
set_option maxRecDepth 100000 in
set_option maxHeartbeats 4000000 in
theorem rx_xneed {h : rx_H} {k : Int32} (ht : rx_tok rx_Em rt) (hd : 0 ≤ d) (hw : 0 ≤ w) (hh : rx_hin rx_I0 h) : rx_T rx_cds rx_ms rx_lk0 rt d w 82 0 [(0, .ref 16), (1, .int k)] [] h (rx_any h) := by
  refine (rx_s_X_need rt d w [.ref 16, .int k] h (rx_tok_cm ht) hd hw ⟨⟨16, rfl, Nat.le_refl _, Nat.le_refl _⟩, ⟨k, rfl, rxi_lo _, rxi_hi _⟩, trivial⟩ hh trivial).mono (fun v h2 q => ?_)
  obtain ⟨q1, q2, _, q3⟩ := q
  have hk := rx_Fc.k q3
  exact ⟨rx_ints q1, q2, hk.1, hk.2⟩
set_option maxRecDepth 100000 in
set_option maxHeartbeats 4000000 in
theorem rx_xtold {h : rx_H} {k : Int32} (ht : rx_tok rx_Em rt) (hd : 7 ≤ d) (hw : 170 ≤ w) (hh : rx_hin rx_I0 h) : rx_T rx_cds rx_ms rx_lk0 rt d w 89 0 [(0, .ref 16), (1, .int k)] [] h (rx_any h) := by
  refine (rx_s_X_told rt d w [.ref 16, .int k] h (rx_tok_cm ht) hd hw ⟨⟨16, rfl, Nat.le_refl _, Nat.le_refl _⟩, ⟨k, rfl, rxi_lo _, rxi_hi _⟩, trivial⟩ hh trivial).mono (fun v h2 q => ?_)
  obtain ⟨q1, q2, _, q3⟩ := q
  have hk := rx_Fc.k q3
  exact ⟨rx_ints q1, q2, hk.1, hk.2⟩
end RXPZ
