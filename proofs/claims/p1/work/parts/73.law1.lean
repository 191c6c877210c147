section RXP2
variable {rt : rx_R} {d w : Nat}
set_option maxRecDepth 1000000 in
set_option maxHeartbeats 4000000 in
/-- AngleChainsModel.of on the fresh object: NONE -/
theorem rx_p1_of_m (p : Int32) : rx_T rx_cds rx_ms rx_lk0 rt d w 98 0 [(0, .ref 53), (1, .int p)] [] rx_lay0 (fun v h' => v = some (.int (-1)) ∧ h' = rx_lay0) := by
  refine rx_T.to 4 6 [(0, .ref 53), (1, .int p)] [.int p] rx_lay0 rfl ?_
  refine rx_T.br1 (M := rxm_98) 26 rfl rfl (by decide) (fun _ => ?_) (fun h1 => ?_)
  · refine rx_T.to 1 27 [(0, .ref 53), (1, .int p)] [.int (-1)] rx_lay0 rfl ?_
    exact rx_T.ret (M := rxm_98) rfl rfl rfl ⟨rfl, rfl⟩
  · refine rx_T.to 3 14 [(0, .ref 53), (1, .int p)] [.int 0, .int p] rx_lay0 rfl ?_
    refine rx_T.br2 (M := rxm_98) 26 rfl rfl (by decide) (fun _ => ?_) (fun h2 => ?_)
    · refine rx_T.to 1 27 [(0, .ref 53), (1, .int p)] [.int (-1)] rx_lay0 rfl ?_
      exact rx_T.ret (M := rxm_98) rfl rfl rfl ⟨rfl, rfl⟩
    · exact absurd (Int32.not_lt.mp (of_decide_eq_false h1)) (of_decide_eq_false h2)
set_option maxRecDepth 1000000 in
set_option maxHeartbeats 4000000 in
/-- one of(p) on fresh objects: the law answers 1 -/
theorem rx_p1_op1 (xs : Nat → Int32) (h0 : xs 0 &&& 15 = 1) : rx_T rx_cds rx_ms rx_lk0 (rx_rt 4 xs) 12 468 0 18 [(3, .int (nI 0)), (2, .ref 53), (1, .ref 16), (0, .ref 0)] [] rx_lay0 (fun v h' => v = some (.int 1) ∧ h' = rx_lay0) := by
  refine rx_T.to 5 23 [(3, .int (nI 0)), (2, .ref 53), (1, .ref 16), (0, .ref 0)] [.int (Int32.ofNat 4 - Int32.ofInt 4), .int (nI 0)] rx_lay0 rfl ?_
  refine rx_T.op (M := rxm_0) (ins := .if_icmp .gt 431) rfl rfl rfl rfl (rx_b2_f (by decide +kernel) (by decide)) ?_
  refine rx_T.to 2 28 [(3, .int (nI 0)), (2, .ref 53), (1, .ref 16), (0, .ref 0)] [.int (nI 0), .ref 0] rx_lay0 rfl ?_
  refine rx_T.iald (M := rxm_0) (n := 4) (f := xs) rfl rfl rfl (vp_in_nI (by decide) (by decide)) ?_
  refine rx_T.to 2 32 [(3, .int (nI 0)), (2, .ref 53), (1, .ref 16), (0, .ref 0)] [.int (xs (nI 0).toNatClampNeg &&& (Int8.ofInt 15).toInt32)] rx_lay0 rfl ?_
  rw [show (nI 0).toNatClampNeg = 0 by decide +kernel, show (Int8.ofInt 15).toInt32 = 15 by decide +kernel, h0]
  refine rx_T.tsw (M := rxm_0) 97 129 rfl rfl (by decide +kernel) (by decide +kernel) (by decide) ?_
  refine rx_T.to 5 134 [(3, .int (nI 0)), (2, .ref 53), (1, .ref 16), (0, .ref 0)] [.int (nI 0 + Int32.ofInt 1), .ref 0, .ref 16] rx_lay0 rfl ?_
  refine rx_T.iald (M := rxm_0) (n := 4) (f := xs) rfl rfl rfl (by rw [show nI 0 + Int32.ofInt 1 = nI 1 from nI_1 0]; exact vp_in_nI (by decide) (by decide)) ?_
  rw [show (nI 0 + Int32.ofInt 1).toNatClampNeg = 1 by decide +kernel]
  refine rx_T.call (M := rxm_0) (N := rxm_10) (j := 10) (as := [.ref 16, .int (xs 1)]) (rest := []) rfl rfl rfl rfl rfl (by decide) (rx_p1_of_x (xs 1) (by decide)) ?_
  intro v1 h1 hp
  obtain ⟨rfl, rfl⟩ := hp
  refine rx_T.to 5 143 [(3, .int (nI 0)), (2, .ref 53), (1, .ref 16), (0, .ref 0)] [.int (nI 0 + Int32.ofInt 1), .ref 0, .ref 53, .int (-1)] rx_lay0 rfl ?_
  refine rx_T.iald (M := rxm_0) (n := 4) (f := xs) rfl rfl rfl (by rw [show nI 0 + Int32.ofInt 1 = nI 1 from nI_1 0]; exact vp_in_nI (by decide) (by decide)) ?_
  rw [show (nI 0 + Int32.ofInt 1).toNatClampNeg = 1 by decide +kernel]
  refine rx_T.call (M := rxm_0) (N := rxm_98) (j := 98) (as := [.ref 53, .int (xs 1)]) (rest := [.int (-1)]) rfl rfl rfl rfl rfl (by decide) (rx_p1_of_m (xs 1)) ?_
  intro v1 h1 hp
  obtain ⟨rfl, rfl⟩ := hp
  refine rx_T.to 3 18 [(3, .int (nI 4)), (2, .ref 53), (1, .ref 16), (0, .ref 0)] [] rx_lay0 rfl ?_
  exact rx_law_end (Nat.le_refl 4) (by decide) (Nat.le_refl 4)
end RXP2
