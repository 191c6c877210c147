section RXP4
def rx_Q1 : Option Value → rx_H → Prop := fun v h' => v = some (.int 1) ∧ h'.length ≤ 600000 ∧ rx_sz h' ≤ 7302250
set_option maxRecDepth 1000000 in
set_option maxHeartbeats 8000000 in
theorem rx_p1_pre (xs : Nat → Int32) (k : Int32) {P : Option Value → rx_H → Prop} (h0 : xs 0 &&& 15 = k) (K : rx_T rx_cds rx_ms rx_lk0 (rx_rt 4 xs) 12 468 0 32 [(3, .int (nI 0)), (2, .ref 53), (1, .ref 16), (0, .ref 0)] [.int k] rx_lay0 P) : rx_T rx_cds rx_ms rx_lk0 (rx_rt 4 xs) 12 468 0 18 [(3, .int (nI 0)), (2, .ref 53), (1, .ref 16), (0, .ref 0)] [] rx_lay0 P := sorry
set_option maxRecDepth 1000000 in
set_option maxHeartbeats 8000000 in
theorem rx_p1_fin (xs : Nat → Int32) (h : rx_H) (h1 : h.length ≤ 600000) (h2 : rx_sz h ≤ 7302250) : rx_T rx_cds rx_ms rx_lk0 (rx_rt 4 xs) 12 468 0 448 [(3, .int (nI 0)), (2, .ref 53), (1, .ref 16), (0, .ref 0)] [] h rx_Q1 := sorry
set_option maxRecDepth 1000000 in
theorem rx_lay0_sz : rx_lay0.length ≤ 600000 ∧ rx_sz rx_lay0 ≤ 7302250 := sorry
set_option maxRecDepth 1000000 in
set_option maxHeartbeats 8000000 in
theorem rx_p1_l1 (xs : Nat → Int32) (h0 : xs 0 &&& 15 = 1) : rx_T rx_cds rx_ms rx_lk0 (rx_rt 4 xs) 12 468 0 18 [(3, .int (nI 0)), (2, .ref 53), (1, .ref 16), (0, .ref 0)] [] rx_lay0 rx_Q1 := sorry
set_option maxRecDepth 1000000 in
set_option maxHeartbeats 8000000 in
theorem rx_p1_l2 (xs : Nat → Int32) (h0 : xs 0 &&& 15 = 2) : rx_T rx_cds rx_ms rx_lk0 (rx_rt 4 xs) 12 468 0 18 [(3, .int (nI 0)), (2, .ref 53), (1, .ref 16), (0, .ref 0)] [] rx_lay0 rx_Q1 := sorry
set_option maxRecDepth 1000000 in
set_option maxHeartbeats 8000000 in
theorem rx_p1_l3 (xs : Nat → Int32) (h0 : xs 0 &&& 15 = 3) : rx_T rx_cds rx_ms rx_lk0 (rx_rt 4 xs) 12 468 0 18 [(3, .int (nI 0)), (2, .ref 53), (1, .ref 16), (0, .ref 0)] [] rx_lay0 rx_Q1 := sorry
set_option maxRecDepth 1000000 in
set_option maxHeartbeats 8000000 in
theorem rx_p1_l5 (xs : Nat → Int32) (h0 : xs 0 &&& 15 = 5) : rx_T rx_cds rx_ms rx_lk0 (rx_rt 4 xs) 12 468 0 18 [(3, .int (nI 0)), (2, .ref 53), (1, .ref 16), (0, .ref 0)] [] rx_lay0 rx_Q1 := sorry
set_option maxRecDepth 1000000 in
set_option maxHeartbeats 8000000 in
theorem rx_p1_l6 (xs : Nat → Int32) (h0 : xs 0 &&& 15 = 6) : rx_T rx_cds rx_ms rx_lk0 (rx_rt 4 xs) 12 468 0 18 [(3, .int (nI 0)), (2, .ref 53), (1, .ref 16), (0, .ref 0)] [] rx_lay0 rx_Q1 := sorry
set_option maxRecDepth 1000000 in
set_option maxHeartbeats 8000000 in
theorem rx_p1_l7 (xs : Nat → Int32) (h0 : xs 0 &&& 15 = 7) : rx_T rx_cds rx_ms rx_lk0 (rx_rt 4 xs) 12 468 0 18 [(3, .int (nI 0)), (2, .ref 53), (1, .ref 16), (0, .ref 0)] [] rx_lay0 rx_Q1 := sorry
set_option maxRecDepth 1000000 in
set_option maxHeartbeats 8000000 in
theorem rx_p1_l8 (xs : Nat → Int32) (h0 : xs 0 &&& 15 = 8) : rx_T rx_cds rx_ms rx_lk0 (rx_rt 4 xs) 12 468 0 18 [(3, .int (nI 0)), (2, .ref 53), (1, .ref 16), (0, .ref 0)] [] rx_lay0 rx_Q1 := sorry
set_option maxRecDepth 1000000 in
set_option maxHeartbeats 8000000 in
theorem rx_p1_l9 (xs : Nat → Int32) (h0 : xs 0 &&& 15 = 9) : rx_T rx_cds rx_ms rx_lk0 (rx_rt 4 xs) 12 468 0 18 [(3, .int (nI 0)), (2, .ref 53), (1, .ref 16), (0, .ref 0)] [] rx_lay0 rx_Q1 := sorry
set_option maxRecDepth 1000000 in
set_option maxHeartbeats 8000000 in
theorem rx_p1_l10 (xs : Nat → Int32) (h0 : xs 0 &&& 15 = 10) : rx_T rx_cds rx_ms rx_lk0 (rx_rt 4 xs) 12 468 0 18 [(3, .int (nI 0)), (2, .ref 53), (1, .ref 16), (0, .ref 0)] [] rx_lay0 rx_Q1 := sorry
set_option maxRecDepth 1000000 in
set_option maxHeartbeats 8000000 in
theorem rx_p1_l4 (xs : Nat → Int32) (h0 : xs 0 &&& 15 = 4) : rx_T rx_cds rx_ms rx_lk0 (rx_rt 4 xs) 12 468 0 18 [(3, .int (nI 0)), (2, .ref 53), (1, .ref 16), (0, .ref 0)] [] rx_lay0 rx_Q1 := sorry
set_option maxRecDepth 1000000 in
set_option maxHeartbeats 8000000 in
theorem rx_p1_l0 (xs : Nat → Int32) (h0 : xs 0 &&& 15 = 0) : rx_T rx_cds rx_ms rx_lk0 (rx_rt 4 xs) 12 468 0 18 [(3, .int (nI 0)), (2, .ref 53), (1, .ref 16), (0, .ref 0)] [] rx_lay0 rx_Q1 := sorry
set_option maxRecDepth 1000000 in
set_option maxHeartbeats 8000000 in
theorem rx_p1_l11_0 (xs : Nat → Int32) (h0 : xs 0 &&& 15 = 11) (h1 : xs 1 = 0) : rx_T rx_cds rx_ms rx_lk0 (rx_rt 4 xs) 12 468 0 18 [(3, .int (nI 0)), (2, .ref 53), (1, .ref 16), (0, .ref 0)] [] rx_lay0 rx_Q1 := sorry
set_option maxRecDepth 1000000 in
set_option maxHeartbeats 8000000 in
theorem rx_p1_l11_1 (xs : Nat → Int32) (h0 : xs 0 &&& 15 = 11) (h1 : xs 1 = 1) : rx_T rx_cds rx_ms rx_lk0 (rx_rt 4 xs) 12 468 0 18 [(3, .int (nI 0)), (2, .ref 53), (1, .ref 16), (0, .ref 0)] [] rx_lay0 rx_Q1 := sorry
set_option maxRecDepth 1000000 in
set_option maxHeartbeats 8000000 in
theorem rx_p1_l11_2 (xs : Nat → Int32) (h0 : xs 0 &&& 15 = 11) (h1 : xs 1 = 2) : rx_T rx_cds rx_ms rx_lk0 (rx_rt 4 xs) 12 468 0 18 [(3, .int (nI 0)), (2, .ref 53), (1, .ref 16), (0, .ref 0)] [] rx_lay0 rx_Q1 := sorry
set_option maxRecDepth 1000000 in
set_option maxHeartbeats 8000000 in
theorem rx_p1_l11_3 (xs : Nat → Int32) (h0 : xs 0 &&& 15 = 11) (h1 : xs 1 = 3) : rx_T rx_cds rx_ms rx_lk0 (rx_rt 4 xs) 12 468 0 18 [(3, .int (nI 0)), (2, .ref 53), (1, .ref 16), (0, .ref 0)] [] rx_lay0 rx_Q1 := sorry
set_option maxRecDepth 1000000 in
set_option maxHeartbeats 8000000 in
theorem rx_p1_l11_n (xs : Nat → Int32) (h0 : xs 0 &&& 15 = 11) (ha : (xs 1).toInt < 0 ∨ 7 < (xs 1).toInt) : rx_T rx_cds rx_ms rx_lk0 (rx_rt 4 xs) 12 468 0 18 [(3, .int (nI 0)), (2, .ref 53), (1, .ref 16), (0, .ref 0)] [] rx_lay0 rx_Q1 := sorry
set_option maxRecDepth 1000000 in
set_option maxHeartbeats 8000000 in
theorem rx_p1_ln (xs : Nat → Int32) (h0 : 11 < (xs 0 &&& 15).toInt) : rx_T rx_cds rx_ms rx_lk0 (rx_rt 4 xs) 12 468 0 18 [(3, .int (nI 0)), (2, .ref 53), (1, .ref 16), (0, .ref 0)] [] rx_lay0 rx_Q1 := sorry
end RXP4
