section RXP4
def rx_Q1 : Option Value → rx_H → Prop := fun v h' => v = some (.int 1) ∧ h'.length ≤ 600000 ∧ rx_sz h' ≤ 7302250
set_option maxRecDepth 1000000 in
set_option maxHeartbeats 8000000 in
theorem rx_p1_pre (xs : Nat → Int32) (k : Int32) {P : Option Value → rx_H → Prop} (h0 : xs 0 &&& 15 = k) (K : rx_T rx_cds rx_ms rx_lk0 (rx_rt 4 xs) 12 468 0 32 [(3, .int (nI 0)), (2, .ref 53), (1, .ref 16), (0, .ref 0)] [.int k] rx_lay0 P) : rx_T rx_cds rx_ms rx_lk0 (rx_rt 4 xs) 12 468 0 18 [(3, .int (nI 0)), (2, .ref 53), (1, .ref 16), (0, .ref 0)] [] rx_lay0 P := by
  refine rx_T.to 5 23 [(3, .int (nI 0)), (2, .ref 53), (1, .ref 16), (0, .ref 0)] [.int (Int32.ofNat 4 - Int32.ofInt 4), .int (nI 0)] rx_lay0 rfl ?_
  refine rx_T.op (M := rxm_0) (ins := .if_icmp .gt 431) rfl rfl rfl rfl (rx_b2_f (by decide +kernel) (by decide)) ?_
  refine rx_T.to 2 28 [(3, .int (nI 0)), (2, .ref 53), (1, .ref 16), (0, .ref 0)] [.int (nI 0), .ref 0] rx_lay0 rfl ?_
  refine rx_T.iald (M := rxm_0) (n := 4) (f := xs) rfl rfl rfl (vp_in_nI (by decide) (by decide)) ?_
  refine rx_T.to 2 32 [(3, .int (nI 0)), (2, .ref 53), (1, .ref 16), (0, .ref 0)] [.int (xs (nI 0).toNatClampNeg &&& (Int8.ofInt 15).toInt32)] rx_lay0 rfl ?_
  rw [show (nI 0).toNatClampNeg = 0 by decide +kernel, show (Int8.ofInt 15).toInt32 = 15 by decide +kernel, h0]
  exact K
set_option maxRecDepth 1000000 in
set_option maxHeartbeats 8000000 in
theorem rx_p1_fin (xs : Nat → Int32) (h : rx_H) (h1 : h.length ≤ 600000) (h2 : rx_sz h ≤ 7302250) : rx_T rx_cds rx_ms rx_lk0 (rx_rt 4 xs) 12 468 0 448 [(3, .int (nI 0)), (2, .ref 53), (1, .ref 16), (0, .ref 0)] [] h rx_Q1 := by
  refine rx_T.to 2 18 [(3, .int (nI 4)), (2, .ref 53), (1, .ref 16), (0, .ref 0)] [] h rfl ?_
  exact (rx_law_end (Nat.le_refl 4) (by decide) (Nat.le_refl 4)).mono (fun v h' q => by obtain ⟨rfl, rfl⟩ := q; exact ⟨rfl, h1, h2⟩)
set_option maxRecDepth 1000000 in
theorem rx_lay0_sz : rx_lay0.length ≤ 600000 ∧ rx_sz rx_lay0 ≤ 7302250 := by decide +kernel
set_option maxRecDepth 1000000 in
set_option maxHeartbeats 8000000 in
theorem rx_p1_l1 (xs : Nat → Int32) (h0 : xs 0 &&& 15 = 1) : rx_T rx_cds rx_ms rx_lk0 (rx_rt 4 xs) 12 468 0 18 [(3, .int (nI 0)), (2, .ref 53), (1, .ref 16), (0, .ref 0)] [] rx_lay0 rx_Q1 := by
  refine rx_p1_pre xs 1 h0 ?_
  refine rx_T.tsw (M := rxm_0) 97 129 rfl rfl (by decide +kernel) (by decide +kernel) (by decide) ?_
  refine rx_T.to 5 134 [(3, .int (nI 0)), (2, .ref 53), (1, .ref 16), (0, .ref 0)] [.int (nI 0 + Int32.ofInt 1), .ref 0, .ref 16] rx_lay0 rfl ?_
  refine rx_T.iald (M := rxm_0) (n := 4) (f := xs) rfl rfl rfl (by rw [show nI 0 + Int32.ofInt 1 = nI 1 by decide +kernel]; exact vp_in_nI (by decide) (by decide)) ?_
  rw [show (nI 0 + Int32.ofInt 1).toNatClampNeg = 1 by decide +kernel]
  refine rx_T.call (M := rxm_0) (N := rxm_10) (j := 10) (as := [.ref 16, .int (xs 1)]) (rest := []) rfl rfl rfl rfl rfl (by decide) (rx_p1_of_x (xs 1) (by decide)) ?_
  intro v1 h1 hp
  obtain ⟨rfl, rfl⟩ := hp
  refine rx_T.to 5 143 [(3, .int (nI 0)), (2, .ref 53), (1, .ref 16), (0, .ref 0)] [.int (nI 0 + Int32.ofInt 1), .ref 0, .ref 53, .int (-1)] rx_lay0 rfl ?_
  refine rx_T.iald (M := rxm_0) (n := 4) (f := xs) rfl rfl rfl (by rw [show nI 0 + Int32.ofInt 1 = nI 1 by decide +kernel]; exact vp_in_nI (by decide) (by decide)) ?_
  rw [show (nI 0 + Int32.ofInt 1).toNatClampNeg = 1 by decide +kernel]
  refine rx_T.call (M := rxm_0) (N := rxm_98) (j := 98) (as := [.ref 53, .int (xs 1)]) (rest := [.int (-1)]) rfl rfl rfl rfl rfl (by decide) (rx_p1_of_m (xs 1)) ?_
  intro v1 h1 hp
  obtain ⟨rfl, rfl⟩ := hp
  refine rx_T.to 1 448 [(3, .int (nI 0)), (2, .ref 53), (1, .ref 16), (0, .ref 0)] [] rx_lay0 rfl ?_
  exact rx_p1_fin xs rx_lay0 rx_lay0_sz.1 rx_lay0_sz.2
set_option maxRecDepth 1000000 in
set_option maxHeartbeats 8000000 in
theorem rx_p1_l2 (xs : Nat → Int32) (h0 : xs 0 &&& 15 = 2) : rx_T rx_cds rx_ms rx_lk0 (rx_rt 4 xs) 12 468 0 18 [(3, .int (nI 0)), (2, .ref 53), (1, .ref 16), (0, .ref 0)] [] rx_lay0 rx_Q1 := by
  refine rx_p1_pre xs 2 h0 ?_
  refine rx_T.tsw (M := rxm_0) 120 152 rfl rfl (by decide +kernel) (by decide +kernel) (by decide) ?_
  refine rx_T.to 5 157 [(3, .int (nI 0)), (2, .ref 53), (1, .ref 16), (0, .ref 0)] [.int (nI 0 + Int32.ofInt 1), .ref 0, .ref 16] rx_lay0 rfl ?_
  refine rx_T.iald (M := rxm_0) (n := 4) (f := xs) rfl rfl rfl (by rw [show nI 0 + Int32.ofInt 1 = nI 1 by decide +kernel]; exact vp_in_nI (by decide) (by decide)) ?_
  rw [show (nI 0 + Int32.ofInt 1).toNatClampNeg = 1 by decide +kernel]
  refine rx_T.call (M := rxm_0) (N := rxm_12) (j := 12) (as := [.ref 16, .int (xs 1)]) (rest := []) rfl rfl rfl rfl rfl (by decide) (rx_p1_isTrue_x (xs 1) rfl (by decide)) ?_
  intro v1 h1 hp
  obtain ⟨rfl, rfl⟩ := hp
  refine rx_T.to 5 166 [(3, .int (nI 0)), (2, .ref 53), (1, .ref 16), (0, .ref 0)] [.int (nI 0 + Int32.ofInt 1), .ref 0, .ref 53, .int (-1)] rx_lay0 rfl ?_
  refine rx_T.iald (M := rxm_0) (n := 4) (f := xs) rfl rfl rfl (by rw [show nI 0 + Int32.ofInt 1 = nI 1 by decide +kernel]; exact vp_in_nI (by decide) (by decide)) ?_
  rw [show (nI 0 + Int32.ofInt 1).toNatClampNeg = 1 by decide +kernel]
  refine rx_T.call (M := rxm_0) (N := rxm_99) (j := 99) (as := [.ref 53, .int (xs 1)]) (rest := [.int (-1)]) rfl rfl rfl rfl rfl (by decide) (rx_p1_isTrue_m (xs 1) (by decide)) ?_
  intro v1 h1 hp
  obtain ⟨rfl, rfl⟩ := hp
  refine rx_T.to 1 448 [(3, .int (nI 0)), (2, .ref 53), (1, .ref 16), (0, .ref 0)] [] rx_lay0 rfl ?_
  exact rx_p1_fin xs rx_lay0 rx_lay0_sz.1 rx_lay0_sz.2
set_option maxRecDepth 1000000 in
set_option maxHeartbeats 8000000 in
theorem rx_p1_l3 (xs : Nat → Int32) (h0 : xs 0 &&& 15 = 3) : rx_T rx_cds rx_ms rx_lk0 (rx_rt 4 xs) 12 468 0 18 [(3, .int (nI 0)), (2, .ref 53), (1, .ref 16), (0, .ref 0)] [] rx_lay0 rx_Q1 := by
  refine rx_p1_pre xs 3 h0 ?_
  refine rx_T.tsw (M := rxm_0) 143 175 rfl rfl (by decide +kernel) (by decide +kernel) (by decide) ?_
  refine rx_T.to 5 180 [(3, .int (nI 0)), (2, .ref 53), (1, .ref 16), (0, .ref 0)] [.int (nI 0 + Int32.ofInt 1), .ref 0, .ref 16] rx_lay0 rfl ?_
  refine rx_T.iald (M := rxm_0) (n := 4) (f := xs) rfl rfl rfl (by rw [show nI 0 + Int32.ofInt 1 = nI 1 by decide +kernel]; exact vp_in_nI (by decide) (by decide)) ?_
  rw [show (nI 0 + Int32.ofInt 1).toNatClampNeg = 1 by decide +kernel]
  refine rx_T.call (M := rxm_0) (N := rxm_27) (j := 27) (as := [.ref 16, .int (xs 1)]) (rest := []) rfl rfl rfl rfl rfl (by decide) (rx_p1_fact_x (xs 1) rfl (by decide)) ?_
  intro v1 h1 hp
  obtain ⟨rfl, rfl⟩ := hp
  refine rx_T.to 5 189 [(3, .int (nI 0)), (2, .ref 53), (1, .ref 16), (0, .ref 0)] [.int (nI 0 + Int32.ofInt 1), .ref 0, .ref 53, .int (-1)] rx_lay0 rfl ?_
  refine rx_T.iald (M := rxm_0) (n := 4) (f := xs) rfl rfl rfl (by rw [show nI 0 + Int32.ofInt 1 = nI 1 by decide +kernel]; exact vp_in_nI (by decide) (by decide)) ?_
  rw [show (nI 0 + Int32.ofInt 1).toNatClampNeg = 1 by decide +kernel]
  refine rx_T.call (M := rxm_0) (N := rxm_109) (j := 109) (as := [.ref 53, .int (xs 1)]) (rest := [.int (-1)]) rfl rfl rfl rfl rfl (by decide) (rx_p1_fact_m (xs 1) (by decide)) ?_
  intro v1 h1 hp
  obtain ⟨rfl, rfl⟩ := hp
  refine rx_T.to 1 448 [(3, .int (nI 0)), (2, .ref 53), (1, .ref 16), (0, .ref 0)] [] rx_lay0 rfl ?_
  exact rx_p1_fin xs rx_lay0 rx_lay0_sz.1 rx_lay0_sz.2
set_option maxRecDepth 1000000 in
set_option maxHeartbeats 8000000 in
theorem rx_p1_l5 (xs : Nat → Int32) (h0 : xs 0 &&& 15 = 5) : rx_T rx_cds rx_ms rx_lk0 (rx_rt 4 xs) 12 468 0 18 [(3, .int (nI 0)), (2, .ref 53), (1, .ref 16), (0, .ref 0)] [] rx_lay0 rx_Q1 := by
  refine rx_p1_pre xs 5 h0 ?_
  refine rx_T.tsw (M := rxm_0) 215 247 rfl rfl (by decide +kernel) (by decide +kernel) (by decide) ?_
  refine rx_T.to 5 252 [(3, .int (nI 0)), (2, .ref 53), (1, .ref 16), (0, .ref 0)] [.int (nI 0 + Int32.ofInt 1), .ref 0, .ref 16] rx_lay0 rfl ?_
  refine rx_T.iald (M := rxm_0) (n := 4) (f := xs) rfl rfl rfl (by rw [show nI 0 + Int32.ofInt 1 = nI 1 by decide +kernel]; exact vp_in_nI (by decide) (by decide)) ?_
  rw [show (nI 0 + Int32.ofInt 1).toNatClampNeg = 1 by decide +kernel]
  refine rx_T.call (M := rxm_0) (N := rxm_29) (j := 29) (as := [.ref 16, .int (xs 1)]) (rest := []) rfl rfl rfl rfl rfl (by decide) (rx_p1_follows_x (xs 1) rfl (by decide)) ?_
  intro v1 h1 hp
  obtain ⟨rfl, rfl⟩ := hp
  refine rx_T.to 5 261 [(3, .int (nI 0)), (2, .ref 53), (1, .ref 16), (0, .ref 0)] [.int (nI 0 + Int32.ofInt 1), .ref 0, .ref 53, .int (-1)] rx_lay0 rfl ?_
  refine rx_T.iald (M := rxm_0) (n := 4) (f := xs) rfl rfl rfl (by rw [show nI 0 + Int32.ofInt 1 = nI 1 by decide +kernel]; exact vp_in_nI (by decide) (by decide)) ?_
  rw [show (nI 0 + Int32.ofInt 1).toNatClampNeg = 1 by decide +kernel]
  refine rx_T.call (M := rxm_0) (N := rxm_111) (j := 111) (as := [.ref 53, .int (xs 1)]) (rest := [.int (-1)]) rfl rfl rfl rfl rfl (by decide) (rx_p1_follows_m (xs 1) (by decide)) ?_
  intro v1 h1 hp
  obtain ⟨rfl, rfl⟩ := hp
  refine rx_T.to 1 448 [(3, .int (nI 0)), (2, .ref 53), (1, .ref 16), (0, .ref 0)] [] rx_lay0 rfl ?_
  exact rx_p1_fin xs rx_lay0 rx_lay0_sz.1 rx_lay0_sz.2
set_option maxRecDepth 1000000 in
set_option maxHeartbeats 8000000 in
theorem rx_p1_l6 (xs : Nat → Int32) (h0 : xs 0 &&& 15 = 6) : rx_T rx_cds rx_ms rx_lk0 (rx_rt 4 xs) 12 468 0 18 [(3, .int (nI 0)), (2, .ref 53), (1, .ref 16), (0, .ref 0)] [] rx_lay0 rx_Q1 := by
  refine rx_p1_pre xs 6 h0 ?_
  refine rx_T.tsw (M := rxm_0) 238 270 rfl rfl (by decide +kernel) (by decide +kernel) (by decide) ?_
  refine rx_T.to 5 275 [(3, .int (nI 0)), (2, .ref 53), (1, .ref 16), (0, .ref 0)] [.int (nI 0 + Int32.ofInt 1), .ref 0, .ref 16] rx_lay0 rfl ?_
  refine rx_T.iald (M := rxm_0) (n := 4) (f := xs) rfl rfl rfl (by rw [show nI 0 + Int32.ofInt 1 = nI 1 by decide +kernel]; exact vp_in_nI (by decide) (by decide)) ?_
  rw [show (nI 0 + Int32.ofInt 1).toNatClampNeg = 1 by decide +kernel]
  refine rx_T.call (M := rxm_0) (N := rxm_81) (j := 81) (as := [.ref 16, .int (xs 1)]) (rest := []) rfl rfl rfl rfl rfl (by decide) (rx_p1_needs_x (xs 1) rfl (by decide)) ?_
  intro v1 h1 hp
  obtain ⟨rfl, rfl⟩ := hp
  refine rx_T.to 5 284 [(3, .int (nI 0)), (2, .ref 53), (1, .ref 16), (0, .ref 0)] [.int (nI 0 + Int32.ofInt 1), .ref 0, .ref 53, .int (-1)] rx_lay0 rfl ?_
  refine rx_T.iald (M := rxm_0) (n := 4) (f := xs) rfl rfl rfl (by rw [show nI 0 + Int32.ofInt 1 = nI 1 by decide +kernel]; exact vp_in_nI (by decide) (by decide)) ?_
  rw [show (nI 0 + Int32.ofInt 1).toNatClampNeg = 1 by decide +kernel]
  refine rx_T.call (M := rxm_0) (N := rxm_154) (j := 154) (as := [.ref 53, .int (xs 1)]) (rest := [.int (-1)]) rfl rfl rfl rfl rfl (by decide) (rx_p1_needs_m (xs 1) (by decide)) ?_
  intro v1 h1 hp
  obtain ⟨rfl, rfl⟩ := hp
  refine rx_T.to 1 448 [(3, .int (nI 0)), (2, .ref 53), (1, .ref 16), (0, .ref 0)] [] rx_lay0 rfl ?_
  exact rx_p1_fin xs rx_lay0 rx_lay0_sz.1 rx_lay0_sz.2
set_option maxRecDepth 1000000 in
set_option maxHeartbeats 8000000 in
theorem rx_p1_l7 (xs : Nat → Int32) (h0 : xs 0 &&& 15 = 7) : rx_T rx_cds rx_ms rx_lk0 (rx_rt 4 xs) 12 468 0 18 [(3, .int (nI 0)), (2, .ref 53), (1, .ref 16), (0, .ref 0)] [] rx_lay0 rx_Q1 := by
  refine rx_p1_pre xs 7 h0 ?_
  refine rx_T.tsw (M := rxm_0) 261 293 rfl rfl (by decide +kernel) (by decide +kernel) (by decide) ?_
  refine rx_T.to 5 298 [(3, .int (nI 0)), (2, .ref 53), (1, .ref 16), (0, .ref 0)] [.int (nI 0 + Int32.ofInt 1), .ref 0, .ref 16] rx_lay0 rfl ?_
  refine rx_T.iald (M := rxm_0) (n := 4) (f := xs) rfl rfl rfl (by rw [show nI 0 + Int32.ofInt 1 = nI 1 by decide +kernel]; exact vp_in_nI (by decide) (by decide)) ?_
  rw [show (nI 0 + Int32.ofInt 1).toNatClampNeg = 1 by decide +kernel]
  refine rx_T.call (M := rxm_0) (N := rxm_82) (j := 82) (as := [.ref 16, .int (xs 1)]) (rest := []) rfl rfl rfl rfl rfl (by decide) (rx_p1_need_x (xs 1)) ?_
  intro v1 h1 hp
  obtain ⟨rfl, rfl⟩ := hp
  refine rx_T.to 5 307 [(3, .int (nI 0)), (2, .ref 53), (1, .ref 16), (0, .ref 0)] [.int (nI 0 + Int32.ofInt 1), .ref 0, .ref 53, .int (-1)] rx_lay0 rfl ?_
  refine rx_T.iald (M := rxm_0) (n := 4) (f := xs) rfl rfl rfl (by rw [show nI 0 + Int32.ofInt 1 = nI 1 by decide +kernel]; exact vp_in_nI (by decide) (by decide)) ?_
  rw [show (nI 0 + Int32.ofInt 1).toNatClampNeg = 1 by decide +kernel]
  refine rx_T.call (M := rxm_0) (N := rxm_155) (j := 155) (as := [.ref 53, .int (xs 1)]) (rest := [.int (-1)]) rfl rfl rfl rfl rfl (by decide) (rx_p1_need_m (xs 1)) ?_
  intro v1 h1 hp
  obtain ⟨rfl, rfl⟩ := hp
  refine rx_T.to 1 448 [(3, .int (nI 0)), (2, .ref 53), (1, .ref 16), (0, .ref 0)] [] rx_lay0 rfl ?_
  exact rx_p1_fin xs rx_lay0 rx_lay0_sz.1 rx_lay0_sz.2
set_option maxRecDepth 1000000 in
set_option maxHeartbeats 8000000 in
theorem rx_p1_l8 (xs : Nat → Int32) (h0 : xs 0 &&& 15 = 8) : rx_T rx_cds rx_ms rx_lk0 (rx_rt 4 xs) 12 468 0 18 [(3, .int (nI 0)), (2, .ref 53), (1, .ref 16), (0, .ref 0)] [] rx_lay0 rx_Q1 := by
  refine rx_p1_pre xs 8 h0 ?_
  refine rx_T.tsw (M := rxm_0) 284 316 rfl rfl (by decide +kernel) (by decide +kernel) (by decide) ?_
  refine rx_T.to 5 321 [(3, .int (nI 0)), (2, .ref 53), (1, .ref 16), (0, .ref 0)] [.int (nI 0 + Int32.ofInt 1), .ref 0, .ref 16] rx_lay0 rfl ?_
  refine rx_T.iald (M := rxm_0) (n := 4) (f := xs) rfl rfl rfl (by rw [show nI 0 + Int32.ofInt 1 = nI 1 by decide +kernel]; exact vp_in_nI (by decide) (by decide)) ?_
  rw [show (nI 0 + Int32.ofInt 1).toNatClampNeg = 1 by decide +kernel]
  refine rx_T.to 4 326 [(3, .int (nI 0)), (2, .ref 53), (1, .ref 16), (0, .ref 0)] [.int (nI 0 + Int32.ofInt 2), .ref 0, .int (xs 1), .ref 16] rx_lay0 rfl ?_
  refine rx_T.iald (M := rxm_0) (n := 4) (f := xs) rfl rfl rfl (by rw [show nI 0 + Int32.ofInt 2 = nI 2 by decide +kernel]; exact vp_in_nI (by decide) (by decide)) ?_
  rw [show (nI 0 + Int32.ofInt 2).toNatClampNeg = 2 by decide +kernel]
  refine rx_T.call (M := rxm_0) (N := rxm_83) (j := 83) (as := [.ref 16, .int (xs 1), .int (xs 2)]) (rest := []) rfl rfl rfl rfl rfl (by decide) (rx_p1_line_x (xs 1) (xs 2) (by decide)) ?_
  intro v1 h1 hp
  obtain ⟨rfl, rfl⟩ := hp
  refine rx_T.to 5 335 [(3, .int (nI 0)), (2, .ref 53), (1, .ref 16), (0, .ref 0)] [.int (nI 0 + Int32.ofInt 1), .ref 0, .ref 53, .int (0)] rx_lay0 rfl ?_
  refine rx_T.iald (M := rxm_0) (n := 4) (f := xs) rfl rfl rfl (by rw [show nI 0 + Int32.ofInt 1 = nI 1 by decide +kernel]; exact vp_in_nI (by decide) (by decide)) ?_
  rw [show (nI 0 + Int32.ofInt 1).toNatClampNeg = 1 by decide +kernel]
  refine rx_T.to 4 340 [(3, .int (nI 0)), (2, .ref 53), (1, .ref 16), (0, .ref 0)] [.int (nI 0 + Int32.ofInt 2), .ref 0, .int (xs 1), .ref 53, .int (0)] rx_lay0 rfl ?_
  refine rx_T.iald (M := rxm_0) (n := 4) (f := xs) rfl rfl rfl (by rw [show nI 0 + Int32.ofInt 2 = nI 2 by decide +kernel]; exact vp_in_nI (by decide) (by decide)) ?_
  rw [show (nI 0 + Int32.ofInt 2).toNatClampNeg = 2 by decide +kernel]
  refine rx_T.call (M := rxm_0) (N := rxm_156) (j := 156) (as := [.ref 53, .int (xs 1), .int (xs 2)]) (rest := [.int (0)]) rfl rfl rfl rfl rfl (by decide) (rx_p1_line_m (xs 1) (xs 2) (by decide)) ?_
  intro v1 h1 hp
  obtain ⟨rfl, rfl⟩ := hp
  refine rx_T.to 1 448 [(3, .int (nI 0)), (2, .ref 53), (1, .ref 16), (0, .ref 0)] [] rx_lay0 rfl ?_
  exact rx_p1_fin xs rx_lay0 rx_lay0_sz.1 rx_lay0_sz.2
set_option maxRecDepth 1000000 in
set_option maxHeartbeats 8000000 in
theorem rx_p1_l9 (xs : Nat → Int32) (h0 : xs 0 &&& 15 = 9) : rx_T rx_cds rx_ms rx_lk0 (rx_rt 4 xs) 12 468 0 18 [(3, .int (nI 0)), (2, .ref 53), (1, .ref 16), (0, .ref 0)] [] rx_lay0 rx_Q1 := by
  refine rx_p1_pre xs 9 h0 ?_
  refine rx_T.tsw (M := rxm_0) 317 349 rfl rfl (by decide +kernel) (by decide +kernel) (by decide) ?_
  refine rx_T.to 5 354 [(3, .int (nI 0)), (2, .ref 53), (1, .ref 16), (0, .ref 0)] [.int (nI 0 + Int32.ofInt 1), .ref 0, .ref 16] rx_lay0 rfl ?_
  refine rx_T.iald (M := rxm_0) (n := 4) (f := xs) rfl rfl rfl (by rw [show nI 0 + Int32.ofInt 1 = nI 1 by decide +kernel]; exact vp_in_nI (by decide) (by decide)) ?_
  rw [show (nI 0 + Int32.ofInt 1).toNatClampNeg = 1 by decide +kernel]
  refine rx_T.to 4 359 [(3, .int (nI 0)), (2, .ref 53), (1, .ref 16), (0, .ref 0)] [.int (nI 0 + Int32.ofInt 2), .ref 0, .int (xs 1), .ref 16] rx_lay0 rfl ?_
  refine rx_T.iald (M := rxm_0) (n := 4) (f := xs) rfl rfl rfl (by rw [show nI 0 + Int32.ofInt 2 = nI 2 by decide +kernel]; exact vp_in_nI (by decide) (by decide)) ?_
  rw [show (nI 0 + Int32.ofInt 2).toNatClampNeg = 2 by decide +kernel]
  refine rx_T.to 4 364 [(3, .int (nI 0)), (2, .ref 53), (1, .ref 16), (0, .ref 0)] [.int (nI 0 + Int32.ofInt 3), .ref 0, .int (xs 2), .int (xs 1), .ref 16] rx_lay0 rfl ?_
  refine rx_T.iald (M := rxm_0) (n := 4) (f := xs) rfl rfl rfl (by rw [show nI 0 + Int32.ofInt 3 = nI 3 by decide +kernel]; exact vp_in_nI (by decide) (by decide)) ?_
  rw [show (nI 0 + Int32.ofInt 3).toNatClampNeg = 3 by decide +kernel]
  refine rx_T.call (M := rxm_0) (N := rxm_85) (j := 85) (as := [.ref 16, .int (xs 1), .int (xs 2), .int (xs 3)]) (rest := []) rfl rfl rfl rfl rfl (by decide) (rx_p1_circle_x (xs 1) (xs 2) (xs 3) (by decide)) ?_
  intro v1 h1 hp
  obtain ⟨rfl, rfl⟩ := hp
  refine rx_T.to 5 373 [(3, .int (nI 0)), (2, .ref 53), (1, .ref 16), (0, .ref 0)] [.int (nI 0 + Int32.ofInt 1), .ref 0, .ref 53, .int (0)] rx_lay0 rfl ?_
  refine rx_T.iald (M := rxm_0) (n := 4) (f := xs) rfl rfl rfl (by rw [show nI 0 + Int32.ofInt 1 = nI 1 by decide +kernel]; exact vp_in_nI (by decide) (by decide)) ?_
  rw [show (nI 0 + Int32.ofInt 1).toNatClampNeg = 1 by decide +kernel]
  refine rx_T.to 4 378 [(3, .int (nI 0)), (2, .ref 53), (1, .ref 16), (0, .ref 0)] [.int (nI 0 + Int32.ofInt 2), .ref 0, .int (xs 1), .ref 53, .int (0)] rx_lay0 rfl ?_
  refine rx_T.iald (M := rxm_0) (n := 4) (f := xs) rfl rfl rfl (by rw [show nI 0 + Int32.ofInt 2 = nI 2 by decide +kernel]; exact vp_in_nI (by decide) (by decide)) ?_
  rw [show (nI 0 + Int32.ofInt 2).toNatClampNeg = 2 by decide +kernel]
  refine rx_T.to 4 383 [(3, .int (nI 0)), (2, .ref 53), (1, .ref 16), (0, .ref 0)] [.int (nI 0 + Int32.ofInt 3), .ref 0, .int (xs 2), .int (xs 1), .ref 53, .int (0)] rx_lay0 rfl ?_
  refine rx_T.iald (M := rxm_0) (n := 4) (f := xs) rfl rfl rfl (by rw [show nI 0 + Int32.ofInt 3 = nI 3 by decide +kernel]; exact vp_in_nI (by decide) (by decide)) ?_
  rw [show (nI 0 + Int32.ofInt 3).toNatClampNeg = 3 by decide +kernel]
  refine rx_T.call (M := rxm_0) (N := rxm_158) (j := 158) (as := [.ref 53, .int (xs 1), .int (xs 2), .int (xs 3)]) (rest := [.int (0)]) rfl rfl rfl rfl rfl (by decide) (rx_p1_circle_m (xs 1) (xs 2) (xs 3) (by decide)) ?_
  intro v1 h1 hp
  obtain ⟨rfl, rfl⟩ := hp
  refine rx_T.to 1 448 [(3, .int (nI 0)), (2, .ref 53), (1, .ref 16), (0, .ref 0)] [] rx_lay0 rfl ?_
  exact rx_p1_fin xs rx_lay0 rx_lay0_sz.1 rx_lay0_sz.2
set_option maxRecDepth 1000000 in
set_option maxHeartbeats 8000000 in
theorem rx_p1_l10 (xs : Nat → Int32) (h0 : xs 0 &&& 15 = 10) : rx_T rx_cds rx_ms rx_lk0 (rx_rt 4 xs) 12 468 0 18 [(3, .int (nI 0)), (2, .ref 53), (1, .ref 16), (0, .ref 0)] [] rx_lay0 rx_Q1 := by
  refine rx_p1_pre xs 10 h0 ?_
  refine rx_T.tsw (M := rxm_0) 360 392 rfl rfl (by decide +kernel) (by decide +kernel) (by decide) ?_
  refine rx_T.to 5 397 [(3, .int (nI 0)), (2, .ref 53), (1, .ref 16), (0, .ref 0)] [.int (nI 0 + Int32.ofInt 1), .ref 0, .ref 16] rx_lay0 rfl ?_
  refine rx_T.iald (M := rxm_0) (n := 4) (f := xs) rfl rfl rfl (by rw [show nI 0 + Int32.ofInt 1 = nI 1 by decide +kernel]; exact vp_in_nI (by decide) (by decide)) ?_
  rw [show (nI 0 + Int32.ofInt 1).toNatClampNeg = 1 by decide +kernel]
  refine rx_T.to 4 402 [(3, .int (nI 0)), (2, .ref 53), (1, .ref 16), (0, .ref 0)] [.int (nI 0 + Int32.ofInt 2), .ref 0, .int (xs 1), .ref 16] rx_lay0 rfl ?_
  refine rx_T.iald (M := rxm_0) (n := 4) (f := xs) rfl rfl rfl (by rw [show nI 0 + Int32.ofInt 2 = nI 2 by decide +kernel]; exact vp_in_nI (by decide) (by decide)) ?_
  rw [show (nI 0 + Int32.ofInt 2).toNatClampNeg = 2 by decide +kernel]
  refine rx_T.call (M := rxm_0) (N := rxm_87) (j := 87) (as := [.ref 16, .int (xs 1), .int (xs 2)]) (rest := []) rfl rfl rfl rfl rfl (by decide) (rx_p1_length_x (xs 1) (xs 2) (by decide)) ?_
  intro v1 h1 hp
  obtain ⟨rfl, rfl⟩ := hp
  refine rx_T.to 5 411 [(3, .int (nI 0)), (2, .ref 53), (1, .ref 16), (0, .ref 0)] [.int (nI 0 + Int32.ofInt 1), .ref 0, .ref 53, .int (-1)] rx_lay0 rfl ?_
  refine rx_T.iald (M := rxm_0) (n := 4) (f := xs) rfl rfl rfl (by rw [show nI 0 + Int32.ofInt 1 = nI 1 by decide +kernel]; exact vp_in_nI (by decide) (by decide)) ?_
  rw [show (nI 0 + Int32.ofInt 1).toNatClampNeg = 1 by decide +kernel]
  refine rx_T.to 4 416 [(3, .int (nI 0)), (2, .ref 53), (1, .ref 16), (0, .ref 0)] [.int (nI 0 + Int32.ofInt 2), .ref 0, .int (xs 1), .ref 53, .int (-1)] rx_lay0 rfl ?_
  refine rx_T.iald (M := rxm_0) (n := 4) (f := xs) rfl rfl rfl (by rw [show nI 0 + Int32.ofInt 2 = nI 2 by decide +kernel]; exact vp_in_nI (by decide) (by decide)) ?_
  rw [show (nI 0 + Int32.ofInt 2).toNatClampNeg = 2 by decide +kernel]
  refine rx_T.call (M := rxm_0) (N := rxm_159) (j := 159) (as := [.ref 53, .int (xs 1), .int (xs 2)]) (rest := [.int (-1)]) rfl rfl rfl rfl rfl (by decide) (rx_p1_length_m (xs 1) (xs 2) (by decide)) ?_
  intro v1 h1 hp
  obtain ⟨rfl, rfl⟩ := hp
  refine rx_T.to 1 448 [(3, .int (nI 0)), (2, .ref 53), (1, .ref 16), (0, .ref 0)] [] rx_lay0 rfl ?_
  exact rx_p1_fin xs rx_lay0 rx_lay0_sz.1 rx_lay0_sz.2
set_option maxRecDepth 1000000 in
set_option maxHeartbeats 8000000 in
theorem rx_p1_l4 (xs : Nat → Int32) (h0 : xs 0 &&& 15 = 4) : rx_T rx_cds rx_ms rx_lk0 (rx_rt 4 xs) 12 468 0 18 [(3, .int (nI 0)), (2, .ref 53), (1, .ref 16), (0, .ref 0)] [] rx_lay0 rx_Q1 := by
  refine rx_p1_pre xs 4 h0 ?_
  refine rx_T.tsw (M := rxm_0) 166 198 rfl rfl (by decide +kernel) (by decide +kernel) (by decide) ?_
  refine rx_T.to 5 203 [(3, .int (nI 0)), (2, .ref 53), (1, .ref 16), (0, .ref 0)] [.int (nI 0 + Int32.ofInt 1), .ref 0, .ref 16] rx_lay0 rfl ?_
  refine rx_T.iald (M := rxm_0) (n := 4) (f := xs) rfl rfl rfl (by rw [show nI 0 + Int32.ofInt 1 = nI 1 by decide +kernel]; exact vp_in_nI (by decide) (by decide)) ?_
  rw [show (nI 0 + Int32.ofInt 1).toNatClampNeg = 1 by decide +kernel]
  refine rx_T.to 4 208 [(3, .int (nI 0)), (2, .ref 53), (1, .ref 16), (0, .ref 0)] [.int (nI 0 + Int32.ofInt 2), .ref 0, .int (xs 1), .ref 16] rx_lay0 rfl ?_
  refine rx_T.iald (M := rxm_0) (n := 4) (f := xs) rfl rfl rfl (by rw [show nI 0 + Int32.ofInt 2 = nI 2 by decide +kernel]; exact vp_in_nI (by decide) (by decide)) ?_
  rw [show (nI 0 + Int32.ofInt 2).toNatClampNeg = 2 by decide +kernel]
  have K : ∀ z : Int32, rx_T rx_cds rx_ms rx_lk0 (rx_rt 4 xs) 12 468 0 217 [(3, .int (nI 0)), (2, .ref 53), (1, .ref 16), (0, .ref 0)] [.int z, .int (xs 1), .ref 16] rx_lay0 rx_Q1 := by
    intro z
    refine rx_T.call (M := rxm_0) (N := rxm_28) (j := 28) (as := [.ref 16, .int (xs 1), .int z]) (rest := []) rfl rfl rfl rfl rfl (by decide) (rx_p1_turn_x (xs 1) z) ?_
    intro v1 h1 hp
    obtain ⟨rfl, rfl⟩ := hp
    refine rx_T.to 5 225 [(3, .int (nI 0)), (2, .ref 53), (1, .ref 16), (0, .ref 0)] [.int (nI 0 + Int32.ofInt 1), .ref 0, .ref 53, .int 0] rx_lay0 rfl ?_
    refine rx_T.iald (M := rxm_0) (n := 4) (f := xs) rfl rfl rfl (by rw [show nI 0 + Int32.ofInt 1 = nI 1 by decide +kernel]; exact vp_in_nI (by decide) (by decide)) ?_
    rw [show (nI 0 + Int32.ofInt 1).toNatClampNeg = 1 by decide +kernel]
    refine rx_T.to 4 230 [(3, .int (nI 0)), (2, .ref 53), (1, .ref 16), (0, .ref 0)] [.int (nI 0 + Int32.ofInt 2), .ref 0, .int (xs 1), .ref 53, .int 0] rx_lay0 rfl ?_
    refine rx_T.iald (M := rxm_0) (n := 4) (f := xs) rfl rfl rfl (by rw [show nI 0 + Int32.ofInt 2 = nI 2 by decide +kernel]; exact vp_in_nI (by decide) (by decide)) ?_
    rw [show (nI 0 + Int32.ofInt 2).toNatClampNeg = 2 by decide +kernel]
    have K : ∀ z : Int32, rx_T rx_cds rx_ms rx_lk0 (rx_rt 4 xs) 12 468 0 239 [(3, .int (nI 0)), (2, .ref 53), (1, .ref 16), (0, .ref 0)] [.int z, .int (xs 1), .ref 53, .int 0] rx_lay0 rx_Q1 := by
      intro z
      refine rx_T.call (M := rxm_0) (N := rxm_110) (j := 110) (as := [.ref 53, .int (xs 1), .int z]) (rest := [.int 0]) rfl rfl rfl rfl rfl (by decide) (rx_p1_turn_m (xs 1) z) ?_
      intro v1 h1 hp
      obtain ⟨rfl, rfl⟩ := hp
      refine rx_T.to 1 448 [(3, .int (nI 0)), (2, .ref 53), (1, .ref 16), (0, .ref 0)] [] rx_lay0 rfl ?_
      exact rx_p1_fin xs rx_lay0 rx_lay0_sz.1 rx_lay0_sz.2
    refine rx_T.br1 (M := rxm_0) 238 rfl rfl (by decide) (fun _ => ?_) (fun _ => ?_)
    · refine rx_T.to 1 239 [(3, .int (nI 0)), (2, .ref 53), (1, .ref 16), (0, .ref 0)] [.int 0, .int (xs 1), .ref 53, .int 0] rx_lay0 rfl ?_
      exact K 0
    · refine rx_T.to 2 239 [(3, .int (nI 0)), (2, .ref 53), (1, .ref 16), (0, .ref 0)] [.int 1, .int (xs 1), .ref 53, .int 0] rx_lay0 rfl ?_
      exact K 1
  refine rx_T.br1 (M := rxm_0) 216 rfl rfl (by decide) (fun _ => ?_) (fun _ => ?_)
  · refine rx_T.to 1 217 [(3, .int (nI 0)), (2, .ref 53), (1, .ref 16), (0, .ref 0)] [.int 0, .int (xs 1), .ref 16] rx_lay0 rfl ?_
    exact K 0
  · refine rx_T.to 2 217 [(3, .int (nI 0)), (2, .ref 53), (1, .ref 16), (0, .ref 0)] [.int 1, .int (xs 1), .ref 16] rx_lay0 rfl ?_
    exact K 1
set_option maxRecDepth 1000000 in
set_option maxHeartbeats 8000000 in
theorem rx_p1_l0 (xs : Nat → Int32) (h0 : xs 0 &&& 15 = 0) : rx_T rx_cds rx_ms rx_lk0 (rx_rt 4 xs) 12 468 0 18 [(3, .int (nI 0)), (2, .ref 53), (1, .ref 16), (0, .ref 0)] [] rx_lay0 rx_Q1 := by
  refine rx_p1_pre xs 0 h0 ?_
  refine rx_T.tsw (M := rxm_0) 64 96 rfl rfl (by decide +kernel) (by decide +kernel) (by decide) ?_
  refine rx_T.to 5 101 [(3, .int (nI 0)), (2, .ref 53), (1, .ref 16), (0, .ref 0)] [.int (nI 0 + Int32.ofInt 1), .ref 0, .ref 16] rx_lay0 rfl ?_
  refine rx_T.iald (M := rxm_0) (n := 4) (f := xs) rfl rfl rfl (by rw [show nI 0 + Int32.ofInt 1 = nI 1 by decide +kernel]; exact vp_in_nI (by decide) (by decide)) ?_
  rw [show (nI 0 + Int32.ofInt 1).toNatClampNeg = 1 by decide +kernel]
  refine rx_T.to 4 106 [(3, .int (nI 0)), (2, .ref 53), (1, .ref 16), (0, .ref 0)] [.int (nI 0 + Int32.ofInt 2), .ref 0, .int (xs 1), .ref 16] rx_lay0 rfl ?_
  refine rx_T.iald (M := rxm_0) (n := 4) (f := xs) rfl rfl rfl (by rw [show nI 0 + Int32.ofInt 2 = nI 2 by decide +kernel]; exact vp_in_nI (by decide) (by decide)) ?_
  rw [show (nI 0 + Int32.ofInt 2).toNatClampNeg = 2 by decide +kernel]
  refine rx_T.call (M := rxm_0) (N := rxm_6) (j := 6) (as := [.ref 16, .int (xs 1), .int (xs 2)]) (rest := []) rfl rfl rfl rfl rfl (by decide) (rx_p1_point_x (xs 1) (xs 2) (by decide)) ?_
  intro v1 h1 hp
  obtain ⟨hi, rfl, rfl⟩ | ⟨hi, rfl, rfl⟩ := hp
  · refine rx_T.to 5 115 [(3, .int (nI 0)), (2, .ref 53), (1, .ref 16), (0, .ref 0)] [.int (nI 0 + Int32.ofInt 1), .ref 0, .ref 53, .int (0)] (rx_layP (xs 1) (xs 2)) rfl ?_
    refine rx_T.iald (M := rxm_0) (n := 4) (f := xs) rfl rfl rfl (by rw [show nI 0 + Int32.ofInt 1 = nI 1 by decide +kernel]; exact vp_in_nI (by decide) (by decide)) ?_
    rw [show (nI 0 + Int32.ofInt 1).toNatClampNeg = 1 by decide +kernel]
    refine rx_T.to 4 120 [(3, .int (nI 0)), (2, .ref 53), (1, .ref 16), (0, .ref 0)] [.int (nI 0 + Int32.ofInt 2), .ref 0, .int (xs 1), .ref 53, .int (0)] (rx_layP (xs 1) (xs 2)) rfl ?_
    refine rx_T.iald (M := rxm_0) (n := 4) (f := xs) rfl rfl rfl (by rw [show nI 0 + Int32.ofInt 2 = nI 2 by decide +kernel]; exact vp_in_nI (by decide) (by decide)) ?_
    rw [show (nI 0 + Int32.ofInt 2).toNatClampNeg = 2 by decide +kernel]
    refine rx_T.call (M := rxm_0) (N := rxm_97) (j := 97) (as := [.ref 53, .int (xs 1), .int (xs 2)]) (rest := [.int (0)]) rfl rfl rfl rfl rfl (by decide) (rx_p1_point_m1 (xs 1) (xs 2) hi) ?_
    intro v1 h1 hp
    obtain ⟨rfl, rfl⟩ := hp
    refine rx_T.to 1 448 [(3, .int (nI 0)), (2, .ref 53), (1, .ref 16), (0, .ref 0)] [] (rx_layQ (xs 1) (xs 2)) rfl ?_
    exact rx_p1_fin xs (rx_layQ (xs 1) (xs 2)) (by rw [rx_layQ_len]; decide) (by rw [rx_layQ_sz]; exact rx_lay0_sz.2)
  · refine rx_T.to 5 115 [(3, .int (nI 0)), (2, .ref 53), (1, .ref 16), (0, .ref 0)] [.int (nI 0 + Int32.ofInt 1), .ref 0, .ref 53, .int (-1)] rx_lay0 rfl ?_
    refine rx_T.iald (M := rxm_0) (n := 4) (f := xs) rfl rfl rfl (by rw [show nI 0 + Int32.ofInt 1 = nI 1 by decide +kernel]; exact vp_in_nI (by decide) (by decide)) ?_
    rw [show (nI 0 + Int32.ofInt 1).toNatClampNeg = 1 by decide +kernel]
    refine rx_T.to 4 120 [(3, .int (nI 0)), (2, .ref 53), (1, .ref 16), (0, .ref 0)] [.int (nI 0 + Int32.ofInt 2), .ref 0, .int (xs 1), .ref 53, .int (-1)] rx_lay0 rfl ?_
    refine rx_T.iald (M := rxm_0) (n := 4) (f := xs) rfl rfl rfl (by rw [show nI 0 + Int32.ofInt 2 = nI 2 by decide +kernel]; exact vp_in_nI (by decide) (by decide)) ?_
    rw [show (nI 0 + Int32.ofInt 2).toNatClampNeg = 2 by decide +kernel]
    refine rx_T.call (M := rxm_0) (N := rxm_97) (j := 97) (as := [.ref 53, .int (xs 1), .int (xs 2)]) (rest := [.int (-1)]) rfl rfl rfl rfl rfl (by decide) (rx_p1_point_m0 (xs 1) (xs 2) hi) ?_
    intro v1 h1 hp
    obtain ⟨rfl, rfl⟩ := hp
    refine rx_T.to 1 448 [(3, .int (nI 0)), (2, .ref 53), (1, .ref 16), (0, .ref 0)] [] rx_lay0 rfl ?_
    exact rx_p1_fin xs rx_lay0 rx_lay0_sz.1 rx_lay0_sz.2
set_option maxRecDepth 1000000 in
set_option maxHeartbeats 8000000 in
theorem rx_p1_l11_0 (xs : Nat → Int32) (h0 : xs 0 &&& 15 = 11) (h1 : xs 1 = 0) : rx_T rx_cds rx_ms rx_lk0 (rx_rt 4 xs) 12 468 0 18 [(3, .int (nI 0)), (2, .ref 53), (1, .ref 16), (0, .ref 0)] [] rx_lay0 rx_Q1 := by
  refine rx_p1_pre xs 11 h0 ?_
  refine rx_T.tsw (M := rxm_0) 393 425 rfl rfl (by decide +kernel) (by decide +kernel) (by decide) ?_
  refine rx_T.to 5 430 [(3, .int (nI 0)), (2, .ref 53), (1, .ref 16), (0, .ref 0)] [.int (nI 0 + Int32.ofInt 1), .ref 0, .ref 16] rx_lay0 rfl ?_
  refine rx_T.iald (M := rxm_0) (n := 4) (f := xs) rfl rfl rfl (by rw [show nI 0 + Int32.ofInt 1 = nI 1 by decide +kernel]; exact vp_in_nI (by decide) (by decide)) ?_
  rw [show (nI 0 + Int32.ofInt 1).toNatClampNeg = 1 by decide +kernel]
  refine rx_T.call (M := rxm_0) (N := rxm_89) (j := 89) (as := [.ref 16, .int (xs 1)]) (rest := []) rfl rfl rfl rfl rfl (by decide) (by rw [h1]; exact rx_p1_told0_x (by decide)) ?_
  intro v1 h2 hp
  obtain ⟨rfl, rfl⟩ := hp
  refine rx_T.to 5 439 [(3, .int (nI 0)), (2, .ref 53), (1, .ref 16), (0, .ref 0)] [.int (nI 0 + Int32.ofInt 1), .ref 0, .ref 53, .int (0)] rx_lay0 rfl ?_
  refine rx_T.iald (M := rxm_0) (n := 4) (f := xs) rfl rfl rfl (by rw [show nI 0 + Int32.ofInt 1 = nI 1 by decide +kernel]; exact vp_in_nI (by decide) (by decide)) ?_
  rw [show (nI 0 + Int32.ofInt 1).toNatClampNeg = 1 by decide +kernel]
  refine rx_T.call (M := rxm_0) (N := rxm_160) (j := 160) (as := [.ref 53, .int (xs 1)]) (rest := [.int (0)]) rfl rfl rfl rfl rfl (by decide) (by rw [h1]; exact rx_p1_told0_m) ?_
  intro v1 h2 hp
  obtain ⟨rfl, rfl⟩ := hp
  refine rx_T.to 1 448 [(3, .int (nI 0)), (2, .ref 53), (1, .ref 16), (0, .ref 0)] [] rx_lay0 rfl ?_
  exact rx_p1_fin xs rx_lay0 rx_lay0_sz.1 rx_lay0_sz.2
set_option maxRecDepth 1000000 in
set_option maxHeartbeats 8000000 in
theorem rx_p1_l11_1 (xs : Nat → Int32) (h0 : xs 0 &&& 15 = 11) (h1 : xs 1 = 1) : rx_T rx_cds rx_ms rx_lk0 (rx_rt 4 xs) 12 468 0 18 [(3, .int (nI 0)), (2, .ref 53), (1, .ref 16), (0, .ref 0)] [] rx_lay0 rx_Q1 := by
  refine rx_p1_pre xs 11 h0 ?_
  refine rx_T.tsw (M := rxm_0) 393 425 rfl rfl (by decide +kernel) (by decide +kernel) (by decide) ?_
  refine rx_T.to 5 430 [(3, .int (nI 0)), (2, .ref 53), (1, .ref 16), (0, .ref 0)] [.int (nI 0 + Int32.ofInt 1), .ref 0, .ref 16] rx_lay0 rfl ?_
  refine rx_T.iald (M := rxm_0) (n := 4) (f := xs) rfl rfl rfl (by rw [show nI 0 + Int32.ofInt 1 = nI 1 by decide +kernel]; exact vp_in_nI (by decide) (by decide)) ?_
  rw [show (nI 0 + Int32.ofInt 1).toNatClampNeg = 1 by decide +kernel]
  refine rx_T.call (M := rxm_0) (N := rxm_89) (j := 89) (as := [.ref 16, .int (xs 1)]) (rest := []) rfl rfl rfl rfl rfl (by decide) (by rw [h1]; exact rx_p1_told1_x (by decide)) ?_
  intro v1 h2 hp
  obtain ⟨rfl, rfl⟩ := hp
  refine rx_T.to 5 439 [(3, .int (nI 0)), (2, .ref 53), (1, .ref 16), (0, .ref 0)] [.int (nI 0 + Int32.ofInt 1), .ref 0, .ref 53, .int (0)] rx_lay0 rfl ?_
  refine rx_T.iald (M := rxm_0) (n := 4) (f := xs) rfl rfl rfl (by rw [show nI 0 + Int32.ofInt 1 = nI 1 by decide +kernel]; exact vp_in_nI (by decide) (by decide)) ?_
  rw [show (nI 0 + Int32.ofInt 1).toNatClampNeg = 1 by decide +kernel]
  refine rx_T.call (M := rxm_0) (N := rxm_160) (j := 160) (as := [.ref 53, .int (xs 1)]) (rest := [.int (0)]) rfl rfl rfl rfl rfl (by decide) (by rw [h1]; exact rx_p1_told1_m) ?_
  intro v1 h2 hp
  obtain ⟨rfl, rfl⟩ := hp
  refine rx_T.to 1 448 [(3, .int (nI 0)), (2, .ref 53), (1, .ref 16), (0, .ref 0)] [] rx_lay0 rfl ?_
  exact rx_p1_fin xs rx_lay0 rx_lay0_sz.1 rx_lay0_sz.2
set_option maxRecDepth 1000000 in
set_option maxHeartbeats 8000000 in
theorem rx_p1_l11_2 (xs : Nat → Int32) (h0 : xs 0 &&& 15 = 11) (h1 : xs 1 = 2) : rx_T rx_cds rx_ms rx_lk0 (rx_rt 4 xs) 12 468 0 18 [(3, .int (nI 0)), (2, .ref 53), (1, .ref 16), (0, .ref 0)] [] rx_lay0 rx_Q1 := by
  refine rx_p1_pre xs 11 h0 ?_
  refine rx_T.tsw (M := rxm_0) 393 425 rfl rfl (by decide +kernel) (by decide +kernel) (by decide) ?_
  refine rx_T.to 5 430 [(3, .int (nI 0)), (2, .ref 53), (1, .ref 16), (0, .ref 0)] [.int (nI 0 + Int32.ofInt 1), .ref 0, .ref 16] rx_lay0 rfl ?_
  refine rx_T.iald (M := rxm_0) (n := 4) (f := xs) rfl rfl rfl (by rw [show nI 0 + Int32.ofInt 1 = nI 1 by decide +kernel]; exact vp_in_nI (by decide) (by decide)) ?_
  rw [show (nI 0 + Int32.ofInt 1).toNatClampNeg = 1 by decide +kernel]
  refine rx_T.call (M := rxm_0) (N := rxm_89) (j := 89) (as := [.ref 16, .int (xs 1)]) (rest := []) rfl rfl rfl rfl rfl (by decide) (by rw [h1]; exact rx_p1_told2_x (by decide)) ?_
  intro v1 h2 hp
  obtain ⟨rfl, rfl⟩ := hp
  refine rx_T.to 5 439 [(3, .int (nI 0)), (2, .ref 53), (1, .ref 16), (0, .ref 0)] [.int (nI 0 + Int32.ofInt 1), .ref 0, .ref 53, .int (0)] rx_lay0 rfl ?_
  refine rx_T.iald (M := rxm_0) (n := 4) (f := xs) rfl rfl rfl (by rw [show nI 0 + Int32.ofInt 1 = nI 1 by decide +kernel]; exact vp_in_nI (by decide) (by decide)) ?_
  rw [show (nI 0 + Int32.ofInt 1).toNatClampNeg = 1 by decide +kernel]
  refine rx_T.call (M := rxm_0) (N := rxm_160) (j := 160) (as := [.ref 53, .int (xs 1)]) (rest := [.int (0)]) rfl rfl rfl rfl rfl (by decide) (by rw [h1]; exact rx_p1_told2_m) ?_
  intro v1 h2 hp
  obtain ⟨rfl, rfl⟩ := hp
  refine rx_T.to 1 448 [(3, .int (nI 0)), (2, .ref 53), (1, .ref 16), (0, .ref 0)] [] rx_lay0 rfl ?_
  exact rx_p1_fin xs rx_lay0 rx_lay0_sz.1 rx_lay0_sz.2
set_option maxRecDepth 1000000 in
set_option maxHeartbeats 8000000 in
theorem rx_p1_l11_3 (xs : Nat → Int32) (h0 : xs 0 &&& 15 = 11) (h1 : xs 1 = 3) : rx_T rx_cds rx_ms rx_lk0 (rx_rt 4 xs) 12 468 0 18 [(3, .int (nI 0)), (2, .ref 53), (1, .ref 16), (0, .ref 0)] [] rx_lay0 rx_Q1 := by
  refine rx_p1_pre xs 11 h0 ?_
  refine rx_T.tsw (M := rxm_0) 393 425 rfl rfl (by decide +kernel) (by decide +kernel) (by decide) ?_
  refine rx_T.to 5 430 [(3, .int (nI 0)), (2, .ref 53), (1, .ref 16), (0, .ref 0)] [.int (nI 0 + Int32.ofInt 1), .ref 0, .ref 16] rx_lay0 rfl ?_
  refine rx_T.iald (M := rxm_0) (n := 4) (f := xs) rfl rfl rfl (by rw [show nI 0 + Int32.ofInt 1 = nI 1 by decide +kernel]; exact vp_in_nI (by decide) (by decide)) ?_
  rw [show (nI 0 + Int32.ofInt 1).toNatClampNeg = 1 by decide +kernel]
  refine rx_T.call (M := rxm_0) (N := rxm_89) (j := 89) (as := [.ref 16, .int (xs 1)]) (rest := []) rfl rfl rfl rfl rfl (by decide) (by rw [h1]; exact rx_p1_told3_x (by decide)) ?_
  intro v1 h2 hp
  obtain ⟨rfl, rfl⟩ := hp
  refine rx_T.to 5 439 [(3, .int (nI 0)), (2, .ref 53), (1, .ref 16), (0, .ref 0)] [.int (nI 0 + Int32.ofInt 1), .ref 0, .ref 53, .int (0)] rx_lay0 rfl ?_
  refine rx_T.iald (M := rxm_0) (n := 4) (f := xs) rfl rfl rfl (by rw [show nI 0 + Int32.ofInt 1 = nI 1 by decide +kernel]; exact vp_in_nI (by decide) (by decide)) ?_
  rw [show (nI 0 + Int32.ofInt 1).toNatClampNeg = 1 by decide +kernel]
  refine rx_T.call (M := rxm_0) (N := rxm_160) (j := 160) (as := [.ref 53, .int (xs 1)]) (rest := [.int (0)]) rfl rfl rfl rfl rfl (by decide) (by rw [h1]; exact rx_p1_told3_m) ?_
  intro v1 h2 hp
  obtain ⟨rfl, rfl⟩ := hp
  refine rx_T.to 1 448 [(3, .int (nI 0)), (2, .ref 53), (1, .ref 16), (0, .ref 0)] [] rx_lay0 rfl ?_
  exact rx_p1_fin xs rx_lay0 rx_lay0_sz.1 rx_lay0_sz.2
set_option maxRecDepth 1000000 in
set_option maxHeartbeats 8000000 in
theorem rx_p1_l11_n (xs : Nat → Int32) (h0 : xs 0 &&& 15 = 11) (ha : (xs 1).toInt < 0 ∨ 7 < (xs 1).toInt) : rx_T rx_cds rx_ms rx_lk0 (rx_rt 4 xs) 12 468 0 18 [(3, .int (nI 0)), (2, .ref 53), (1, .ref 16), (0, .ref 0)] [] rx_lay0 rx_Q1 := by
  refine rx_p1_pre xs 11 h0 ?_
  refine rx_T.tsw (M := rxm_0) 393 425 rfl rfl (by decide +kernel) (by decide +kernel) (by decide) ?_
  refine rx_T.to 5 430 [(3, .int (nI 0)), (2, .ref 53), (1, .ref 16), (0, .ref 0)] [.int (nI 0 + Int32.ofInt 1), .ref 0, .ref 16] rx_lay0 rfl ?_
  refine rx_T.iald (M := rxm_0) (n := 4) (f := xs) rfl rfl rfl (by rw [show nI 0 + Int32.ofInt 1 = nI 1 by decide +kernel]; exact vp_in_nI (by decide) (by decide)) ?_
  rw [show (nI 0 + Int32.ofInt 1).toNatClampNeg = 1 by decide +kernel]
  refine rx_T.call (M := rxm_0) (N := rxm_89) (j := 89) (as := [.ref 16, .int (xs 1)]) (rest := []) rfl rfl rfl rfl rfl (by decide) (rx_p1_toldn_x (xs 1) ha) ?_
  intro v1 h1 hp
  obtain ⟨rfl, rfl⟩ := hp
  refine rx_T.to 5 439 [(3, .int (nI 0)), (2, .ref 53), (1, .ref 16), (0, .ref 0)] [.int (nI 0 + Int32.ofInt 1), .ref 0, .ref 53, .int (-1)] rx_lay0 rfl ?_
  refine rx_T.iald (M := rxm_0) (n := 4) (f := xs) rfl rfl rfl (by rw [show nI 0 + Int32.ofInt 1 = nI 1 by decide +kernel]; exact vp_in_nI (by decide) (by decide)) ?_
  rw [show (nI 0 + Int32.ofInt 1).toNatClampNeg = 1 by decide +kernel]
  refine rx_T.call (M := rxm_0) (N := rxm_160) (j := 160) (as := [.ref 53, .int (xs 1)]) (rest := [.int (-1)]) rfl rfl rfl rfl rfl (by decide) (rx_p1_toldn_m (xs 1) ha) ?_
  intro v1 h1 hp
  obtain ⟨rfl, rfl⟩ := hp
  refine rx_T.to 1 448 [(3, .int (nI 0)), (2, .ref 53), (1, .ref 16), (0, .ref 0)] [] rx_lay0 rfl ?_
  exact rx_p1_fin xs rx_lay0 rx_lay0_sz.1 rx_lay0_sz.2
set_option maxRecDepth 1000000 in
set_option maxHeartbeats 8000000 in
theorem rx_p1_ln (xs : Nat → Int32) (h0 : 11 < (xs 0 &&& 15).toInt) : rx_T rx_cds rx_ms rx_lk0 (rx_rt 4 xs) 12 468 0 18 [(3, .int (nI 0)), (2, .ref 53), (1, .ref 16), (0, .ref 0)] [] rx_lay0 rx_Q1 := by
  refine rx_p1_pre xs _ rfl ?_
  refine rx_T.tsd (M := rxm_0) 448 rfl rfl (Or.inr h0) (by decide) ?_
  exact rx_p1_fin xs rx_lay0 rx_lay0_sz.1 rx_lay0_sz.2
end RXP4
