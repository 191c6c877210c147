section RXP5
set_option maxRecDepth 1000000 in
theorem rx_p1_callm {g : rx_H} {i : Int32} (h4 : ∀ k, 37 ≤ k → g[k]? = rx_lay0[k]?) : rx_call rx_ms rx_lk0 rxm_0 (.invokevirtual 64) [.int i, .ref 53, .int 0] g = some (160, [.ref 53, .int i], [.int 0]) := rx_callv1 (k := 37) (ci := 5) (vs := rx_fsM) (as' := [.int i]) (as := [.ref 53, .int i]) (rest := [.int 0]) (N := rxm_160) (nest := 0) rfl rfl rfl rfl rfl (Nat.le_of_ble_eq_true rfl) (Nat.le_of_ble_eq_true rfl) rfl ((h4 37 (by decide)).trans rfl) rfl
set_option maxRecDepth 1000000 in
set_option maxHeartbeats 8000000 in
theorem rx_p1_l11_4 (xs : Nat → Int32) (h0 : xs 0 &&& 15 = 11) (h1 : xs 1 = 4) : rx_T rx_cds rx_ms rx_lk0 (rx_rt 4 xs) 12 468 0 18 [(3, .int (nI 0)), (2, .ref 53), (1, .ref 16), (0, .ref 0)] [] rx_lay0 rx_Q1 := by
  refine rx_p1_pre xs 11 h0 ?_
  refine rx_T.tsw (M := rxm_0) 393 425 rfl rfl (by decide +kernel) (by decide +kernel) (by decide) ?_
  refine rx_T.to 5 430 [(3, .int (nI 0)), (2, .ref 53), (1, .ref 16), (0, .ref 0)] [.int (nI 0 + Int32.ofInt 1), .ref 0, .ref 16] rx_lay0 rfl ?_
  refine rx_T.iald (M := rxm_0) (n := 4) (f := xs) rfl rfl rfl (by rw [show nI 0 + Int32.ofInt 1 = nI 1 by decide +kernel]; exact vp_in_nI (by decide) (by decide)) ?_
  rw [show (nI 0 + Int32.ofInt 1).toNatClampNeg = 1 by decide +kernel]
  rw [h1]
  refine rx_T.call (M := rxm_0) (N := rxm_89) (j := 89) (as := [.ref 16, .int 4]) (rest := []) rfl rfl rfl rfl rfl (by decide) (rx_p1_tx rx_p1_tx4) ?_
  intro v1 g hp
  obtain ⟨rfl, h2, h3, h4⟩ := hp
  refine rx_T.to 5 439 [(3, .int (nI 0)), (2, .ref 53), (1, .ref 16), (0, .ref 0)] [.int (nI 0 + Int32.ofInt 1), .ref 0, .ref 53, .int 0] g rfl ?_
  refine rx_T.iald (M := rxm_0) (n := 4) (f := xs) rfl rfl rfl (by rw [show nI 0 + Int32.ofInt 1 = nI 1 by decide +kernel]; exact vp_in_nI (by decide) (by decide)) ?_
  rw [show (nI 0 + Int32.ofInt 1).toNatClampNeg = 1 by decide +kernel]
  rw [h1]
  refine rx_T.call (M := rxm_0) (N := rxm_160) (j := 160) (as := [.ref 53, .int 4]) (rest := [.int 0]) rfl rfl rfl (rx_p1_callm h4) rfl (by decide) (rx_p1_tm rx_p1_tm4 h2 h4) ?_
  intro v2 g' hp
  obtain ⟨rfl, h5, h6⟩ := hp
  refine rx_T.to 1 448 [(3, .int (nI 0)), (2, .ref 53), (1, .ref 16), (0, .ref 0)] [] g' rfl ?_
  exact rx_p1_fin xs g' (by rw [h5]; decide) (by rw [h6, h3]; exact rx_lay0_sz.2)
set_option maxRecDepth 1000000 in
set_option maxHeartbeats 8000000 in
theorem rx_p1_l11_5 (xs : Nat → Int32) (h0 : xs 0 &&& 15 = 11) (h1 : xs 1 = 5) : rx_T rx_cds rx_ms rx_lk0 (rx_rt 4 xs) 12 468 0 18 [(3, .int (nI 0)), (2, .ref 53), (1, .ref 16), (0, .ref 0)] [] rx_lay0 rx_Q1 := by
  refine rx_p1_pre xs 11 h0 ?_
  refine rx_T.tsw (M := rxm_0) 393 425 rfl rfl (by decide +kernel) (by decide +kernel) (by decide) ?_
  refine rx_T.to 5 430 [(3, .int (nI 0)), (2, .ref 53), (1, .ref 16), (0, .ref 0)] [.int (nI 0 + Int32.ofInt 1), .ref 0, .ref 16] rx_lay0 rfl ?_
  refine rx_T.iald (M := rxm_0) (n := 4) (f := xs) rfl rfl rfl (by rw [show nI 0 + Int32.ofInt 1 = nI 1 by decide +kernel]; exact vp_in_nI (by decide) (by decide)) ?_
  rw [show (nI 0 + Int32.ofInt 1).toNatClampNeg = 1 by decide +kernel]
  rw [h1]
  refine rx_T.call (M := rxm_0) (N := rxm_89) (j := 89) (as := [.ref 16, .int 5]) (rest := []) rfl rfl rfl rfl rfl (by decide) (rx_p1_tx rx_p1_tx5) ?_
  intro v1 g hp
  obtain ⟨rfl, h2, h3, h4⟩ := hp
  refine rx_T.to 5 439 [(3, .int (nI 0)), (2, .ref 53), (1, .ref 16), (0, .ref 0)] [.int (nI 0 + Int32.ofInt 1), .ref 0, .ref 53, .int 0] g rfl ?_
  refine rx_T.iald (M := rxm_0) (n := 4) (f := xs) rfl rfl rfl (by rw [show nI 0 + Int32.ofInt 1 = nI 1 by decide +kernel]; exact vp_in_nI (by decide) (by decide)) ?_
  rw [show (nI 0 + Int32.ofInt 1).toNatClampNeg = 1 by decide +kernel]
  rw [h1]
  refine rx_T.call (M := rxm_0) (N := rxm_160) (j := 160) (as := [.ref 53, .int 5]) (rest := [.int 0]) rfl rfl rfl (rx_p1_callm h4) rfl (by decide) (rx_p1_tm rx_p1_tm5 h2 h4) ?_
  intro v2 g' hp
  obtain ⟨rfl, h5, h6⟩ := hp
  refine rx_T.to 1 448 [(3, .int (nI 0)), (2, .ref 53), (1, .ref 16), (0, .ref 0)] [] g' rfl ?_
  exact rx_p1_fin xs g' (by rw [h5]; decide) (by rw [h6, h3]; exact rx_lay0_sz.2)
set_option maxRecDepth 1000000 in
set_option maxHeartbeats 8000000 in
theorem rx_p1_l11_6 (xs : Nat → Int32) (h0 : xs 0 &&& 15 = 11) (h1 : xs 1 = 6) : rx_T rx_cds rx_ms rx_lk0 (rx_rt 4 xs) 12 468 0 18 [(3, .int (nI 0)), (2, .ref 53), (1, .ref 16), (0, .ref 0)] [] rx_lay0 rx_Q1 := by
  refine rx_p1_pre xs 11 h0 ?_
  refine rx_T.tsw (M := rxm_0) 393 425 rfl rfl (by decide +kernel) (by decide +kernel) (by decide) ?_
  refine rx_T.to 5 430 [(3, .int (nI 0)), (2, .ref 53), (1, .ref 16), (0, .ref 0)] [.int (nI 0 + Int32.ofInt 1), .ref 0, .ref 16] rx_lay0 rfl ?_
  refine rx_T.iald (M := rxm_0) (n := 4) (f := xs) rfl rfl rfl (by rw [show nI 0 + Int32.ofInt 1 = nI 1 by decide +kernel]; exact vp_in_nI (by decide) (by decide)) ?_
  rw [show (nI 0 + Int32.ofInt 1).toNatClampNeg = 1 by decide +kernel]
  rw [h1]
  refine rx_T.call (M := rxm_0) (N := rxm_89) (j := 89) (as := [.ref 16, .int 6]) (rest := []) rfl rfl rfl rfl rfl (by decide) (rx_p1_tx rx_p1_tx6) ?_
  intro v1 g hp
  obtain ⟨rfl, h2, h3, h4⟩ := hp
  refine rx_T.to 5 439 [(3, .int (nI 0)), (2, .ref 53), (1, .ref 16), (0, .ref 0)] [.int (nI 0 + Int32.ofInt 1), .ref 0, .ref 53, .int 0] g rfl ?_
  refine rx_T.iald (M := rxm_0) (n := 4) (f := xs) rfl rfl rfl (by rw [show nI 0 + Int32.ofInt 1 = nI 1 by decide +kernel]; exact vp_in_nI (by decide) (by decide)) ?_
  rw [show (nI 0 + Int32.ofInt 1).toNatClampNeg = 1 by decide +kernel]
  rw [h1]
  refine rx_T.call (M := rxm_0) (N := rxm_160) (j := 160) (as := [.ref 53, .int 6]) (rest := [.int 0]) rfl rfl rfl (rx_p1_callm h4) rfl (by decide) (rx_p1_tm rx_p1_tm6 h2 h4) ?_
  intro v2 g' hp
  obtain ⟨rfl, h5, h6⟩ := hp
  refine rx_T.to 1 448 [(3, .int (nI 0)), (2, .ref 53), (1, .ref 16), (0, .ref 0)] [] g' rfl ?_
  exact rx_p1_fin xs g' (by rw [h5]; decide) (by rw [h6, h3]; exact rx_lay0_sz.2)
set_option maxRecDepth 1000000 in
set_option maxHeartbeats 8000000 in
theorem rx_p1_l11_7 (xs : Nat → Int32) (h0 : xs 0 &&& 15 = 11) (h1 : xs 1 = 7) : rx_T rx_cds rx_ms rx_lk0 (rx_rt 4 xs) 12 468 0 18 [(3, .int (nI 0)), (2, .ref 53), (1, .ref 16), (0, .ref 0)] [] rx_lay0 rx_Q1 := by
  refine rx_p1_pre xs 11 h0 ?_
  refine rx_T.tsw (M := rxm_0) 393 425 rfl rfl (by decide +kernel) (by decide +kernel) (by decide) ?_
  refine rx_T.to 5 430 [(3, .int (nI 0)), (2, .ref 53), (1, .ref 16), (0, .ref 0)] [.int (nI 0 + Int32.ofInt 1), .ref 0, .ref 16] rx_lay0 rfl ?_
  refine rx_T.iald (M := rxm_0) (n := 4) (f := xs) rfl rfl rfl (by rw [show nI 0 + Int32.ofInt 1 = nI 1 by decide +kernel]; exact vp_in_nI (by decide) (by decide)) ?_
  rw [show (nI 0 + Int32.ofInt 1).toNatClampNeg = 1 by decide +kernel]
  rw [h1]
  refine rx_T.call (M := rxm_0) (N := rxm_89) (j := 89) (as := [.ref 16, .int 7]) (rest := []) rfl rfl rfl rfl rfl (by decide) (rx_p1_tx rx_p1_tx7) ?_
  intro v1 g hp
  obtain ⟨rfl, h2, h3, h4⟩ := hp
  refine rx_T.to 5 439 [(3, .int (nI 0)), (2, .ref 53), (1, .ref 16), (0, .ref 0)] [.int (nI 0 + Int32.ofInt 1), .ref 0, .ref 53, .int 0] g rfl ?_
  refine rx_T.iald (M := rxm_0) (n := 4) (f := xs) rfl rfl rfl (by rw [show nI 0 + Int32.ofInt 1 = nI 1 by decide +kernel]; exact vp_in_nI (by decide) (by decide)) ?_
  rw [show (nI 0 + Int32.ofInt 1).toNatClampNeg = 1 by decide +kernel]
  rw [h1]
  refine rx_T.call (M := rxm_0) (N := rxm_160) (j := 160) (as := [.ref 53, .int 7]) (rest := [.int 0]) rfl rfl rfl (rx_p1_callm h4) rfl (by decide) (rx_p1_tm rx_p1_tm7 h2 h4) ?_
  intro v2 g' hp
  obtain ⟨rfl, h5, h6⟩ := hp
  refine rx_T.to 1 448 [(3, .int (nI 0)), (2, .ref 53), (1, .ref 16), (0, .ref 0)] [] g' rfl ?_
  exact rx_p1_fin xs g' (by rw [h5]; decide) (by rw [h6, h3]; exact rx_lay0_sz.2)
theorem rx_and15 (x : Int32) : ∃ n : Nat, n < 16 ∧ x &&& 15 = nI n := by
  refine ⟨(x &&& 15).toBitVec.toNat, ?_, ?_⟩
  · rw [Int32.toBitVec_and, BitVec.toNat_and]
    exact Nat.lt_of_le_of_lt Nat.and_le_right (by decide)
  · apply Int32.toBitVec_inj.mp
    show _ = BitVec.ofNat 32 _
    simp
theorem rx_i32 {x : Int32} (h1 : ¬ x.toInt < 0) (h2 : ¬ 7 < x.toInt) : x = 0 ∨ x = 1 ∨ x = 2 ∨ x = 3 ∨ x = 4 ∨ x = 5 ∨ x = 6 ∨ x = 7 := by
  have h3 : x.toInt = 0 ∨ x.toInt = 1 ∨ x.toInt = 2 ∨ x.toInt = 3 ∨ x.toInt = 4 ∨ x.toInt = 5 ∨ x.toInt = 6 ∨ x.toInt = 7 := by omega
  rcases h3 with h | h | h | h | h | h | h | h
  · exact Or.inl (Int32.toInt_inj.mp h)
  · exact Or.inr (Or.inl (Int32.toInt_inj.mp h))
  · exact Or.inr (Or.inr (Or.inl (Int32.toInt_inj.mp h)))
  · exact Or.inr (Or.inr (Or.inr (Or.inl (Int32.toInt_inj.mp h))))
  · exact Or.inr (Or.inr (Or.inr (Or.inr (Or.inl (Int32.toInt_inj.mp h)))))
  · exact Or.inr (Or.inr (Or.inr (Or.inr (Or.inr (Or.inl (Int32.toInt_inj.mp h))))))
  · exact Or.inr (Or.inr (Or.inr (Or.inr (Or.inr (Or.inr (Or.inl (Int32.toInt_inj.mp h)))))))
  · exact Or.inr (Or.inr (Or.inr (Or.inr (Or.inr (Or.inr (Or.inr (Int32.toInt_inj.mp h)))))))
set_option maxRecDepth 1000000 in
set_option maxHeartbeats 8000000 in
theorem rx_p1_four (xs : Nat → Int32) : rx_T rx_cds rx_ms rx_lk0 (rx_rt 4 xs) 12 468 0 18 [(3, .int (nI 0)), (2, .ref 53), (1, .ref 16), (0, .ref 0)] [] rx_lay0 rx_Q1 := by
  obtain ⟨n, hn, h0⟩ := rx_and15 (xs 0)
  match n, hn, h0 with
  | 0, _, h0 => exact rx_p1_l0 xs h0
  | 1, _, h0 => exact rx_p1_l1 xs h0
  | 2, _, h0 => exact rx_p1_l2 xs h0
  | 3, _, h0 => exact rx_p1_l3 xs h0
  | 4, _, h0 => exact rx_p1_l4 xs h0
  | 5, _, h0 => exact rx_p1_l5 xs h0
  | 6, _, h0 => exact rx_p1_l6 xs h0
  | 7, _, h0 => exact rx_p1_l7 xs h0
  | 8, _, h0 => exact rx_p1_l8 xs h0
  | 9, _, h0 => exact rx_p1_l9 xs h0
  | 10, _, h0 => exact rx_p1_l10 xs h0
  | 11, _, h0 =>
    by_cases ha : (xs 1).toInt < 0 ∨ 7 < (xs 1).toInt
    · exact rx_p1_l11_n xs h0 ha
    · rcases rx_i32 (fun q => ha (Or.inl q)) (fun q => ha (Or.inr q)) with h | h | h | h | h | h | h | h
      · exact rx_p1_l11_0 xs h0 h
      · exact rx_p1_l11_1 xs h0 h
      · exact rx_p1_l11_2 xs h0 h
      · exact rx_p1_l11_3 xs h0 h
      · exact rx_p1_l11_4 xs h0 h
      · exact rx_p1_l11_5 xs h0 h
      · exact rx_p1_l11_6 xs h0 h
      · exact rx_p1_l11_7 xs h0 h
  | 12, _, h0 => exact rx_p1_ln xs (by rw [h0]; decide +kernel)
  | 13, _, h0 => exact rx_p1_ln xs (by rw [h0]; decide +kernel)
  | 14, _, h0 => exact rx_p1_ln xs (by rw [h0]; decide +kernel)
  | 15, _, h0 => exact rx_p1_ln xs (by rw [h0]; decide +kernel)
  | n + 16, hn, _ => exact absurd hn (by omega)
set_option maxRecDepth 1000000 in
set_option maxHeartbeats 8000000 in
theorem rx_p1_all (L : Nat) (xs : Nat → Int32) (hL : L ≤ 4) : ∃ (f : Nat) (h' : rx_H), rx_run rx_cds rx_ms rx_lk0 (rx_rt L xs) f 12 468 0 0 [(0, .ref 0)] [] [] = some (some (.int 1), h') ∧ h'.length ≤ 600000 ∧ rx_sz h' ≤ 7302250 := by
  have K : rx_T rx_cds rx_ms rx_lk0 (rx_rt L xs) 12 468 0 0 [(0, .ref 0)] [] [] rx_Q1 := by
    refine rx_T.stretch0 (rx_rt0_in L xs) rx_s0_at ?_
    show rx_T rx_cds rx_ms rx_lk0 (rx_rt L xs) 12 468 0 18 [(3, .int (nI 0)), (2, .ref 53), (1, .ref 16), (0, .ref 0)] [] rx_hp0 rx_Q1
    rw [rx_hp0_eq]
    by_cases h4 : L = 4
    · subst h4
      exact rx_p1_four xs
    · exact (rx_law_end hL (by omega) (by decide)).mono (fun v h' q => by obtain ⟨rfl, rfl⟩ := q; exact ⟨rfl, rx_lay0_sz.1, rx_lay0_sz.2⟩)
  obtain ⟨f, v, h', e, rfl, h1, h2⟩ := K
  exact ⟨f, h', e, h1, h2⟩
end RXP5
