section RXP1
variable {rt : rx_R} {d w : Nat}
set_option maxRecDepth 1000000 in
set_option maxHeartbeats 4000000 in
/-- Figure.has on the fresh figure: no -/
theorem rx_p1_has (p : Int32) : rx_T rx_cds rx_ms rx_lk0 rt d w 11 0 [(0, .ref 17), (1, .int p)] [] rx_lay0 (fun v h' => v = some (.int 0) ∧ h' = rx_lay0) := by
  refine rx_T.to 1 1 [(0, .ref 17), (1, .int p)] [.int p] rx_lay0 rfl ?_
  refine rx_T.br1 (M := rxm_11) 16 rfl rfl (by decide) (fun _ => ?_) (fun h1 => ?_)
  · refine rx_T.to 1 17 [(0, .ref 17), (1, .int p)] [.int 0] rx_lay0 rfl ?_
    exact rx_T.ret (M := rxm_11) rfl rfl rfl ⟨rfl, rfl⟩
  · refine rx_T.to 3 9 [(0, .ref 17), (1, .int p)] [.int 0, .int p] rx_lay0 rfl ?_
    refine rx_T.br2 (M := rxm_11) 16 rfl rfl (by decide) (fun _ => ?_) (fun h2 => ?_)
    · refine rx_T.to 1 17 [(0, .ref 17), (1, .int p)] [.int 0] rx_lay0 rfl ?_
      exact rx_T.ret (M := rxm_11) rfl rfl rfl ⟨rfl, rfl⟩
    · have a1 := of_decide_eq_false h1
      have a2 := of_decide_eq_false h2
      exact absurd (Int32.not_lt.mp a1) a2
set_option maxRecDepth 1000000 in
set_option maxHeartbeats 4000000 in
/-- AngleChains.of on the fresh object: NONE -/
theorem rx_p1_of_x (p : Int32) (hw : 40 ≤ w) : rx_T rx_cds rx_ms rx_lk0 rt (d + 1) w 10 0 [(0, .ref 16), (1, .int p)] [] rx_lay0 (fun v h' => v = some (.int (-1)) ∧ h' = rx_lay0) := by
  refine rx_T.to 3 5 [(0, .ref 16), (1, .int p)] [.int p, .ref 17] rx_lay0 rfl ?_
  refine rx_T.call (M := rxm_10) (N := rxm_11) (j := 11) (as := [.ref 17, .int p]) (rest := []) rfl rfl rfl rfl rfl (show 19 + 2 ≤ w by omega) (rx_p1_has p) ?_
  intro v1 h1 hp
  obtain ⟨rfl, rfl⟩ := hp
  refine rx_T.to 2 21 [(0, .ref 16), (1, .int p)] [.int (-1)] rx_lay0 rfl ?_
  exact rx_T.ret (M := rxm_10) rfl rfl rfl ⟨rfl, rfl⟩
end RXP1
