def rx_ip_t : List rx_Rw := [(23, ([(0, .inr (.inl (21, 21))), (2, .inl (0, 7)), (3, .inl (0, 7)), (4, .inl (0, 7))], []), (100, []), 1000000, []),
  (24, ([(0, .inr (.inl (21, 21))), (2, .inl (0, 7)), (3, .inl (0, 7)), (4, .inl (0, 7))], [(.inr (.inl (21, 21)), none)]), (99, []), 1000000, []),
  (27, ([(0, .inr (.inl (21, 21))), (2, .inl (0, 7)), (3, .inl (0, 7)), (4, .inl (0, 7))], [(.inr (.inl (17, 17)), none)]), (98, []), 1000000, []),
  (28, ([(0, .inr (.inl (21, 21))), (2, .inl (0, 7)), (3, .inl (0, 7)), (4, .inl (0, 7))], [(.inl (0, 7), none), (.inr (.inl (17, 17)), none)]), (97, []), 0, []),
  (31, ([(0, .inr (.inl (21, 21))), (2, .inl (0, 7)), (3, .inl (0, 7)), (4, .inl (0, 7))], [(.inl (0, 1), none)]), (96, []), 1000000, []),
  (34, ([(0, .inr (.inl (21, 21))), (2, .inl (0, 7)), (3, .inl (0, 7)), (4, .inl (0, 7))], []), (95, []), 1000000, []),
  (35, ([(0, .inr (.inl (21, 21))), (2, .inl (0, 7)), (3, .inl (0, 7)), (4, .inl (0, 7))], [(.inr (.inl (21, 21)), none)]), (94, []), 1000000, []),
  (38, ([(0, .inr (.inl (21, 21))), (2, .inl (0, 7)), (3, .inl (0, 7)), (4, .inl (0, 7))], [(.inr (.inl (17, 17)), none)]), (93, []), 1000000, []),
  (39, ([(0, .inr (.inl (21, 21))), (2, .inl (0, 7)), (3, .inl (0, 7)), (4, .inl (0, 7))], [(.inl (0, 7), none), (.inr (.inl (17, 17)), none)]), (92, []), 1000000, []),
  (41, ([(0, .inr (.inl (21, 21))), (2, .inl (0, 7)), (3, .inl (0, 7)), (4, .inl (0, 7))], [(.inl (0, 7), none), (.inl (0, 7), none), (.inr (.inl (17, 17)), none)]), (91, []), 1000000, []),
  (42, ([(0, .inr (.inl (21, 21))), (2, .inl (0, 7)), (3, .inl (0, 7)), (4, .inl (0, 7))], [(.inl (0, 7), none), (.inl (0, 7), none), (.inl (0, 7), none), (.inr (.inl (17, 17)), none)]), (90, []), 1, []),
  (45, ([(0, .inr (.inl (21, 21))), (2, .inl (0, 7)), (3, .inl (0, 7)), (4, .inl (0, 7))], [(.inl (0, 1), none)]), (89, []), 1000000, []),
  (48, ([(0, .inr (.inl (21, 21))), (2, .inl (0, 7)), (3, .inl (0, 7)), (4, .inl (0, 7))], []), (88, []), 1000000, []),
  (49, ([(0, .inr (.inl (21, 21))), (2, .inl (0, 7)), (3, .inl (0, 7)), (4, .inl (0, 7))], [(.inl (1, 1), none)]), (87, []), 1000000, []),
  (52, ([(0, .inr (.inl (21, 21))), (2, .inl (0, 7)), (3, .inl (0, 7)), (4, .inl (0, 7))], []), (86, []), 1000000, []),
  (53, ([(0, .inr (.inl (21, 21))), (2, .inl (0, 7)), (3, .inl (0, 7)), (4, .inl (0, 7))], [(.inl (0, 1), none)]), (85, []), 1000000, [])]
set_option maxRecDepth 100000 in
set_option maxHeartbeats 4000000 in
theorem rx_ip_k {rt : rx_R} {d w : Nat} (ht : rx_tok rx_Ex rt) (hd : 2 ≤ d) (hw : 60 ≤ w) {lv : rx_L} {h : rx_H} (hl : rx_lin [(0, .inr (.inl (21, 21))), (2, .inl (0, 7)), (3, .inl (0, 7)), (4, .inl (0, 7))] lv) (hh : rx_hin rx_I0 h) : rx_T rx_cds rx_ms rx_lk0 rt d w 44 23 lv [] h (fun v h' => rx_pin (some (.inl (0, 1))) v ∧ rx_hin rx_I0 h' ∧ True ∧ rx_Fx h h') :=
  rx_key (E := rx_Ex) (sps := [rxya_88, rxya_8]) (V := []) (tb := rx_ip_t) (D := 2) (W := 60) rx_msl rx_env_x (rx_fc (rxyc_88 ) (rx_fc (rxyc_8 ) rx_fn)) (by decide +kernel) ht hd hw (fun q hq e => by
    have h1 : rx_ip_t.all (fun q => !(Nat.beq q.2.2.2.1 2000000)) = true := by decide +kernel
    have h2 := List.all_eq_true.mp h1 q hq
    rw [e] at h2
    cases h2) _ List.mem_cons_self lv [] h ⟨hl, trivial⟩ (fun r hr => by cases hr) hh trivial
set_option maxRecDepth 100000 in
set_option maxHeartbeats 4000000 in
theorem rx_ip_0 {rt : rx_R} {h : rx_H} {P : Option Value → rx_H → Prop} (K : rx_T rx_cds rx_ms rx_lk0 rt 2 60 44 23 [(4, .int 1), (3, .int 2), (2, .int 0), (0, .ref 21), (1, .int 7)] [] h P) : rx_T rx_cds rx_ms rx_lk0 rt 2 60 44 0 [(0, .ref 21), (1, .int 7)] [] h P := rx_T.toF 200 15 23 [(4, .int 1), (3, .int 2), (2, .int 0), (0, .ref 21), (1, .int 7)] [] h rfl K
set_option maxRecDepth 100000 in
set_option maxHeartbeats 4000000 in
theorem rx_ip_1 {rt : rx_R} {h : rx_H} {P : Option Value → rx_H → Prop} (K : rx_T rx_cds rx_ms rx_lk0 rt 2 60 44 23 [(4, .int 1), (3, .int 3), (2, .int 0), (0, .ref 21), (1, .int 11)] [] h P) : rx_T rx_cds rx_ms rx_lk0 rt 2 60 44 0 [(0, .ref 21), (1, .int 11)] [] h P := rx_T.toF 200 15 23 [(4, .int 1), (3, .int 3), (2, .int 0), (0, .ref 21), (1, .int 11)] [] h rfl K
set_option maxRecDepth 100000 in
set_option maxHeartbeats 4000000 in
theorem rx_ip_2 {rt : rx_R} {h : rx_H} {P : Option Value → rx_H → Prop} (K : rx_T rx_cds rx_ms rx_lk0 rt 2 60 44 23 [(4, .int 2), (3, .int 3), (2, .int 0), (0, .ref 21), (1, .int 13)] [] h P) : rx_T rx_cds rx_ms rx_lk0 rt 2 60 44 0 [(0, .ref 21), (1, .int 13)] [] h P := rx_T.toF 200 15 23 [(4, .int 2), (3, .int 3), (2, .int 0), (0, .ref 21), (1, .int 13)] [] h rfl K
set_option maxRecDepth 100000 in
set_option maxHeartbeats 4000000 in
theorem rx_ip_3 {rt : rx_R} {h : rx_H} {P : Option Value → rx_H → Prop} (K : rx_T rx_cds rx_ms rx_lk0 rt 2 60 44 23 [(4, .int 2), (3, .int 3), (2, .int 1), (0, .ref 21), (1, .int 14)] [] h P) : rx_T rx_cds rx_ms rx_lk0 rt 2 60 44 0 [(0, .ref 21), (1, .int 14)] [] h P := rx_T.toF 200 15 23 [(4, .int 2), (3, .int 3), (2, .int 1), (0, .ref 21), (1, .int 14)] [] h rfl K
set_option maxRecDepth 100000 in
set_option maxHeartbeats 4000000 in
theorem rx_ip_4 {rt : rx_R} {h : rx_H} {P : Option Value → rx_H → Prop} (K : rx_T rx_cds rx_ms rx_lk0 rt 2 60 44 23 [(4, .int 1), (3, .int 4), (2, .int 0), (0, .ref 21), (1, .int 19)] [] h P) : rx_T rx_cds rx_ms rx_lk0 rt 2 60 44 0 [(0, .ref 21), (1, .int 19)] [] h P := rx_T.toF 200 15 23 [(4, .int 1), (3, .int 4), (2, .int 0), (0, .ref 21), (1, .int 19)] [] h rfl K
set_option maxRecDepth 100000 in
set_option maxHeartbeats 4000000 in
theorem rx_ip_5 {rt : rx_R} {h : rx_H} {P : Option Value → rx_H → Prop} (K : rx_T rx_cds rx_ms rx_lk0 rt 2 60 44 23 [(4, .int 2), (3, .int 4), (2, .int 0), (0, .ref 21), (1, .int 21)] [] h P) : rx_T rx_cds rx_ms rx_lk0 rt 2 60 44 0 [(0, .ref 21), (1, .int 21)] [] h P := rx_T.toF 200 15 23 [(4, .int 2), (3, .int 4), (2, .int 0), (0, .ref 21), (1, .int 21)] [] h rfl K
set_option maxRecDepth 100000 in
set_option maxHeartbeats 4000000 in
theorem rx_ip_6 {rt : rx_R} {h : rx_H} {P : Option Value → rx_H → Prop} (K : rx_T rx_cds rx_ms rx_lk0 rt 2 60 44 23 [(4, .int 2), (3, .int 4), (2, .int 1), (0, .ref 21), (1, .int 22)] [] h P) : rx_T rx_cds rx_ms rx_lk0 rt 2 60 44 0 [(0, .ref 21), (1, .int 22)] [] h P := rx_T.toF 200 15 23 [(4, .int 2), (3, .int 4), (2, .int 1), (0, .ref 21), (1, .int 22)] [] h rfl K
set_option maxRecDepth 100000 in
set_option maxHeartbeats 4000000 in
theorem rx_ip_7 {rt : rx_R} {h : rx_H} {P : Option Value → rx_H → Prop} (K : rx_T rx_cds rx_ms rx_lk0 rt 2 60 44 23 [(4, .int 3), (3, .int 4), (2, .int 0), (0, .ref 21), (1, .int 25)] [] h P) : rx_T rx_cds rx_ms rx_lk0 rt 2 60 44 0 [(0, .ref 21), (1, .int 25)] [] h P := rx_T.toF 200 15 23 [(4, .int 3), (3, .int 4), (2, .int 0), (0, .ref 21), (1, .int 25)] [] h rfl K
set_option maxRecDepth 100000 in
set_option maxHeartbeats 4000000 in
theorem rx_ip_8 {rt : rx_R} {h : rx_H} {P : Option Value → rx_H → Prop} (K : rx_T rx_cds rx_ms rx_lk0 rt 2 60 44 23 [(4, .int 3), (3, .int 4), (2, .int 1), (0, .ref 21), (1, .int 26)] [] h P) : rx_T rx_cds rx_ms rx_lk0 rt 2 60 44 0 [(0, .ref 21), (1, .int 26)] [] h P := rx_T.toF 200 15 23 [(4, .int 3), (3, .int 4), (2, .int 1), (0, .ref 21), (1, .int 26)] [] h rfl K
set_option maxRecDepth 100000 in
set_option maxHeartbeats 4000000 in
theorem rx_ip_9 {rt : rx_R} {h : rx_H} {P : Option Value → rx_H → Prop} (K : rx_T rx_cds rx_ms rx_lk0 rt 2 60 44 23 [(4, .int 3), (3, .int 4), (2, .int 2), (0, .ref 21), (1, .int 28)] [] h P) : rx_T rx_cds rx_ms rx_lk0 rt 2 60 44 0 [(0, .ref 21), (1, .int 28)] [] h P := rx_T.toF 200 15 23 [(4, .int 3), (3, .int 4), (2, .int 2), (0, .ref 21), (1, .int 28)] [] h rfl K
set_option maxRecDepth 100000 in
set_option maxHeartbeats 4000000 in
theorem rx_ip_10 {rt : rx_R} {h : rx_H} {P : Option Value → rx_H → Prop} (K : rx_T rx_cds rx_ms rx_lk0 rt 2 60 44 23 [(4, .int 1), (3, .int 5), (2, .int 0), (0, .ref 21), (1, .int 35)] [] h P) : rx_T rx_cds rx_ms rx_lk0 rt 2 60 44 0 [(0, .ref 21), (1, .int 35)] [] h P := rx_T.toF 200 15 23 [(4, .int 1), (3, .int 5), (2, .int 0), (0, .ref 21), (1, .int 35)] [] h rfl K
set_option maxRecDepth 100000 in
set_option maxHeartbeats 4000000 in
theorem rx_ip_11 {rt : rx_R} {h : rx_H} {P : Option Value → rx_H → Prop} (K : rx_T rx_cds rx_ms rx_lk0 rt 2 60 44 23 [(4, .int 2), (3, .int 5), (2, .int 0), (0, .ref 21), (1, .int 37)] [] h P) : rx_T rx_cds rx_ms rx_lk0 rt 2 60 44 0 [(0, .ref 21), (1, .int 37)] [] h P := rx_T.toF 200 15 23 [(4, .int 2), (3, .int 5), (2, .int 0), (0, .ref 21), (1, .int 37)] [] h rfl K
set_option maxRecDepth 100000 in
set_option maxHeartbeats 4000000 in
theorem rx_ip_12 {rt : rx_R} {h : rx_H} {P : Option Value → rx_H → Prop} (K : rx_T rx_cds rx_ms rx_lk0 rt 2 60 44 23 [(4, .int 2), (3, .int 5), (2, .int 1), (0, .ref 21), (1, .int 38)] [] h P) : rx_T rx_cds rx_ms rx_lk0 rt 2 60 44 0 [(0, .ref 21), (1, .int 38)] [] h P := rx_T.toF 200 15 23 [(4, .int 2), (3, .int 5), (2, .int 1), (0, .ref 21), (1, .int 38)] [] h rfl K
set_option maxRecDepth 100000 in
set_option maxHeartbeats 4000000 in
theorem rx_ip_13 {rt : rx_R} {h : rx_H} {P : Option Value → rx_H → Prop} (K : rx_T rx_cds rx_ms rx_lk0 rt 2 60 44 23 [(4, .int 3), (3, .int 5), (2, .int 0), (0, .ref 21), (1, .int 41)] [] h P) : rx_T rx_cds rx_ms rx_lk0 rt 2 60 44 0 [(0, .ref 21), (1, .int 41)] [] h P := rx_T.toF 200 15 23 [(4, .int 3), (3, .int 5), (2, .int 0), (0, .ref 21), (1, .int 41)] [] h rfl K
set_option maxRecDepth 100000 in
set_option maxHeartbeats 4000000 in
theorem rx_ip_14 {rt : rx_R} {h : rx_H} {P : Option Value → rx_H → Prop} (K : rx_T rx_cds rx_ms rx_lk0 rt 2 60 44 23 [(4, .int 3), (3, .int 5), (2, .int 1), (0, .ref 21), (1, .int 42)] [] h P) : rx_T rx_cds rx_ms rx_lk0 rt 2 60 44 0 [(0, .ref 21), (1, .int 42)] [] h P := rx_T.toF 200 15 23 [(4, .int 3), (3, .int 5), (2, .int 1), (0, .ref 21), (1, .int 42)] [] h rfl K
set_option maxRecDepth 100000 in
set_option maxHeartbeats 4000000 in
theorem rx_ip_15 {rt : rx_R} {h : rx_H} {P : Option Value → rx_H → Prop} (K : rx_T rx_cds rx_ms rx_lk0 rt 2 60 44 23 [(4, .int 3), (3, .int 5), (2, .int 2), (0, .ref 21), (1, .int 44)] [] h P) : rx_T rx_cds rx_ms rx_lk0 rt 2 60 44 0 [(0, .ref 21), (1, .int 44)] [] h P := rx_T.toF 200 15 23 [(4, .int 3), (3, .int 5), (2, .int 2), (0, .ref 21), (1, .int 44)] [] h rfl K
set_option maxRecDepth 100000 in
set_option maxHeartbeats 4000000 in
theorem rx_ip_16 {rt : rx_R} {h : rx_H} {P : Option Value → rx_H → Prop} (K : rx_T rx_cds rx_ms rx_lk0 rt 2 60 44 23 [(4, .int 4), (3, .int 5), (2, .int 0), (0, .ref 21), (1, .int 49)] [] h P) : rx_T rx_cds rx_ms rx_lk0 rt 2 60 44 0 [(0, .ref 21), (1, .int 49)] [] h P := rx_T.toF 200 15 23 [(4, .int 4), (3, .int 5), (2, .int 0), (0, .ref 21), (1, .int 49)] [] h rfl K
set_option maxRecDepth 100000 in
set_option maxHeartbeats 4000000 in
theorem rx_ip_17 {rt : rx_R} {h : rx_H} {P : Option Value → rx_H → Prop} (K : rx_T rx_cds rx_ms rx_lk0 rt 2 60 44 23 [(4, .int 4), (3, .int 5), (2, .int 1), (0, .ref 21), (1, .int 50)] [] h P) : rx_T rx_cds rx_ms rx_lk0 rt 2 60 44 0 [(0, .ref 21), (1, .int 50)] [] h P := rx_T.toF 200 15 23 [(4, .int 4), (3, .int 5), (2, .int 1), (0, .ref 21), (1, .int 50)] [] h rfl K
set_option maxRecDepth 100000 in
set_option maxHeartbeats 4000000 in
theorem rx_ip_18 {rt : rx_R} {h : rx_H} {P : Option Value → rx_H → Prop} (K : rx_T rx_cds rx_ms rx_lk0 rt 2 60 44 23 [(4, .int 4), (3, .int 5), (2, .int 2), (0, .ref 21), (1, .int 52)] [] h P) : rx_T rx_cds rx_ms rx_lk0 rt 2 60 44 0 [(0, .ref 21), (1, .int 52)] [] h P := rx_T.toF 200 15 23 [(4, .int 4), (3, .int 5), (2, .int 2), (0, .ref 21), (1, .int 52)] [] h rfl K
set_option maxRecDepth 100000 in
set_option maxHeartbeats 4000000 in
theorem rx_ip_19 {rt : rx_R} {h : rx_H} {P : Option Value → rx_H → Prop} (K : rx_T rx_cds rx_ms rx_lk0 rt 2 60 44 23 [(4, .int 4), (3, .int 5), (2, .int 3), (0, .ref 21), (1, .int 56)] [] h P) : rx_T rx_cds rx_ms rx_lk0 rt 2 60 44 0 [(0, .ref 21), (1, .int 56)] [] h P := rx_T.toF 200 15 23 [(4, .int 4), (3, .int 5), (2, .int 3), (0, .ref 21), (1, .int 56)] [] h rfl K
set_option maxRecDepth 100000 in
set_option maxHeartbeats 4000000 in
theorem rx_ip_20 {rt : rx_R} {h : rx_H} {P : Option Value → rx_H → Prop} (K : rx_T rx_cds rx_ms rx_lk0 rt 2 60 44 23 [(4, .int 1), (3, .int 6), (2, .int 0), (0, .ref 21), (1, .int 67)] [] h P) : rx_T rx_cds rx_ms rx_lk0 rt 2 60 44 0 [(0, .ref 21), (1, .int 67)] [] h P := rx_T.toF 200 15 23 [(4, .int 1), (3, .int 6), (2, .int 0), (0, .ref 21), (1, .int 67)] [] h rfl K
set_option maxRecDepth 100000 in
set_option maxHeartbeats 4000000 in
theorem rx_ip_21 {rt : rx_R} {h : rx_H} {P : Option Value → rx_H → Prop} (K : rx_T rx_cds rx_ms rx_lk0 rt 2 60 44 23 [(4, .int 2), (3, .int 6), (2, .int 0), (0, .ref 21), (1, .int 69)] [] h P) : rx_T rx_cds rx_ms rx_lk0 rt 2 60 44 0 [(0, .ref 21), (1, .int 69)] [] h P := rx_T.toF 200 15 23 [(4, .int 2), (3, .int 6), (2, .int 0), (0, .ref 21), (1, .int 69)] [] h rfl K
set_option maxRecDepth 100000 in
set_option maxHeartbeats 4000000 in
theorem rx_ip_22 {rt : rx_R} {h : rx_H} {P : Option Value → rx_H → Prop} (K : rx_T rx_cds rx_ms rx_lk0 rt 2 60 44 23 [(4, .int 2), (3, .int 6), (2, .int 1), (0, .ref 21), (1, .int 70)] [] h P) : rx_T rx_cds rx_ms rx_lk0 rt 2 60 44 0 [(0, .ref 21), (1, .int 70)] [] h P := rx_T.toF 200 15 23 [(4, .int 2), (3, .int 6), (2, .int 1), (0, .ref 21), (1, .int 70)] [] h rfl K
set_option maxRecDepth 100000 in
set_option maxHeartbeats 4000000 in
theorem rx_ip_23 {rt : rx_R} {h : rx_H} {P : Option Value → rx_H → Prop} (K : rx_T rx_cds rx_ms rx_lk0 rt 2 60 44 23 [(4, .int 3), (3, .int 6), (2, .int 0), (0, .ref 21), (1, .int 73)] [] h P) : rx_T rx_cds rx_ms rx_lk0 rt 2 60 44 0 [(0, .ref 21), (1, .int 73)] [] h P := rx_T.toF 200 15 23 [(4, .int 3), (3, .int 6), (2, .int 0), (0, .ref 21), (1, .int 73)] [] h rfl K
set_option maxRecDepth 100000 in
set_option maxHeartbeats 4000000 in
theorem rx_ip_24 {rt : rx_R} {h : rx_H} {P : Option Value → rx_H → Prop} (K : rx_T rx_cds rx_ms rx_lk0 rt 2 60 44 23 [(4, .int 3), (3, .int 6), (2, .int 1), (0, .ref 21), (1, .int 74)] [] h P) : rx_T rx_cds rx_ms rx_lk0 rt 2 60 44 0 [(0, .ref 21), (1, .int 74)] [] h P := rx_T.toF 200 15 23 [(4, .int 3), (3, .int 6), (2, .int 1), (0, .ref 21), (1, .int 74)] [] h rfl K
set_option maxRecDepth 100000 in
set_option maxHeartbeats 4000000 in
theorem rx_ip_25 {rt : rx_R} {h : rx_H} {P : Option Value → rx_H → Prop} (K : rx_T rx_cds rx_ms rx_lk0 rt 2 60 44 23 [(4, .int 3), (3, .int 6), (2, .int 2), (0, .ref 21), (1, .int 76)] [] h P) : rx_T rx_cds rx_ms rx_lk0 rt 2 60 44 0 [(0, .ref 21), (1, .int 76)] [] h P := rx_T.toF 200 15 23 [(4, .int 3), (3, .int 6), (2, .int 2), (0, .ref 21), (1, .int 76)] [] h rfl K
set_option maxRecDepth 100000 in
set_option maxHeartbeats 4000000 in
theorem rx_ip_26 {rt : rx_R} {h : rx_H} {P : Option Value → rx_H → Prop} (K : rx_T rx_cds rx_ms rx_lk0 rt 2 60 44 23 [(4, .int 4), (3, .int 6), (2, .int 0), (0, .ref 21), (1, .int 81)] [] h P) : rx_T rx_cds rx_ms rx_lk0 rt 2 60 44 0 [(0, .ref 21), (1, .int 81)] [] h P := rx_T.toF 200 15 23 [(4, .int 4), (3, .int 6), (2, .int 0), (0, .ref 21), (1, .int 81)] [] h rfl K
set_option maxRecDepth 100000 in
set_option maxHeartbeats 4000000 in
theorem rx_ip_27 {rt : rx_R} {h : rx_H} {P : Option Value → rx_H → Prop} (K : rx_T rx_cds rx_ms rx_lk0 rt 2 60 44 23 [(4, .int 4), (3, .int 6), (2, .int 1), (0, .ref 21), (1, .int 82)] [] h P) : rx_T rx_cds rx_ms rx_lk0 rt 2 60 44 0 [(0, .ref 21), (1, .int 82)] [] h P := rx_T.toF 200 15 23 [(4, .int 4), (3, .int 6), (2, .int 1), (0, .ref 21), (1, .int 82)] [] h rfl K
set_option maxRecDepth 100000 in
set_option maxHeartbeats 4000000 in
theorem rx_ip_28 {rt : rx_R} {h : rx_H} {P : Option Value → rx_H → Prop} (K : rx_T rx_cds rx_ms rx_lk0 rt 2 60 44 23 [(4, .int 4), (3, .int 6), (2, .int 2), (0, .ref 21), (1, .int 84)] [] h P) : rx_T rx_cds rx_ms rx_lk0 rt 2 60 44 0 [(0, .ref 21), (1, .int 84)] [] h P := rx_T.toF 200 15 23 [(4, .int 4), (3, .int 6), (2, .int 2), (0, .ref 21), (1, .int 84)] [] h rfl K
set_option maxRecDepth 100000 in
set_option maxHeartbeats 4000000 in
theorem rx_ip_29 {rt : rx_R} {h : rx_H} {P : Option Value → rx_H → Prop} (K : rx_T rx_cds rx_ms rx_lk0 rt 2 60 44 23 [(4, .int 4), (3, .int 6), (2, .int 3), (0, .ref 21), (1, .int 88)] [] h P) : rx_T rx_cds rx_ms rx_lk0 rt 2 60 44 0 [(0, .ref 21), (1, .int 88)] [] h P := rx_T.toF 200 15 23 [(4, .int 4), (3, .int 6), (2, .int 3), (0, .ref 21), (1, .int 88)] [] h rfl K
set_option maxRecDepth 100000 in
set_option maxHeartbeats 4000000 in
theorem rx_ip_30 {rt : rx_R} {h : rx_H} {P : Option Value → rx_H → Prop} (K : rx_T rx_cds rx_ms rx_lk0 rt 2 60 44 23 [(4, .int 5), (3, .int 6), (2, .int 0), (0, .ref 21), (1, .int 97)] [] h P) : rx_T rx_cds rx_ms rx_lk0 rt 2 60 44 0 [(0, .ref 21), (1, .int 97)] [] h P := rx_T.toF 200 15 23 [(4, .int 5), (3, .int 6), (2, .int 0), (0, .ref 21), (1, .int 97)] [] h rfl K
set_option maxRecDepth 100000 in
set_option maxHeartbeats 4000000 in
theorem rx_ip_31 {rt : rx_R} {h : rx_H} {P : Option Value → rx_H → Prop} (K : rx_T rx_cds rx_ms rx_lk0 rt 2 60 44 23 [(4, .int 5), (3, .int 6), (2, .int 1), (0, .ref 21), (1, .int 98)] [] h P) : rx_T rx_cds rx_ms rx_lk0 rt 2 60 44 0 [(0, .ref 21), (1, .int 98)] [] h P := rx_T.toF 200 15 23 [(4, .int 5), (3, .int 6), (2, .int 1), (0, .ref 21), (1, .int 98)] [] h rfl K
set_option maxRecDepth 100000 in
set_option maxHeartbeats 4000000 in
theorem rx_ip_32 {rt : rx_R} {h : rx_H} {P : Option Value → rx_H → Prop} (K : rx_T rx_cds rx_ms rx_lk0 rt 2 60 44 23 [(4, .int 5), (3, .int 6), (2, .int 2), (0, .ref 21), (1, .int 100)] [] h P) : rx_T rx_cds rx_ms rx_lk0 rt 2 60 44 0 [(0, .ref 21), (1, .int 100)] [] h P := rx_T.toF 200 15 23 [(4, .int 5), (3, .int 6), (2, .int 2), (0, .ref 21), (1, .int 100)] [] h rfl K
set_option maxRecDepth 100000 in
set_option maxHeartbeats 4000000 in
theorem rx_ip_33 {rt : rx_R} {h : rx_H} {P : Option Value → rx_H → Prop} (K : rx_T rx_cds rx_ms rx_lk0 rt 2 60 44 23 [(4, .int 5), (3, .int 6), (2, .int 3), (0, .ref 21), (1, .int 104)] [] h P) : rx_T rx_cds rx_ms rx_lk0 rt 2 60 44 0 [(0, .ref 21), (1, .int 104)] [] h P := rx_T.toF 200 15 23 [(4, .int 5), (3, .int 6), (2, .int 3), (0, .ref 21), (1, .int 104)] [] h rfl K
set_option maxRecDepth 100000 in
set_option maxHeartbeats 4000000 in
theorem rx_ip_34 {rt : rx_R} {h : rx_H} {P : Option Value → rx_H → Prop} (K : rx_T rx_cds rx_ms rx_lk0 rt 2 60 44 23 [(4, .int 5), (3, .int 6), (2, .int 4), (0, .ref 21), (1, .int 112)] [] h P) : rx_T rx_cds rx_ms rx_lk0 rt 2 60 44 0 [(0, .ref 21), (1, .int 112)] [] h P := rx_T.toF 200 15 23 [(4, .int 5), (3, .int 6), (2, .int 4), (0, .ref 21), (1, .int 112)] [] h rfl K
theorem rx_toIn (a b c x : Int32) (h1 : 0 ≤ a.toInt ∧ a.toInt ≤ 7) (h2 : 0 ≤ b.toInt ∧ b.toInt ≤ 7) (h3 : 0 ≤ c.toInt ∧ c.toInt ≤ 7) : rx_lin [(0, .inr (.inl (21, 21))), (2, .inl (0, 7)), (3, .inl (0, 7)), (4, .inl (0, 7))] [(4, .int b), (3, .int c), (2, .int a), (0, .ref 21), (1, .int x)] := by
  intro j y hy
  rcases rx_ag_c hy with ⟨e1, e2⟩ | ⟨_, hy⟩
  · simp only at e1 e2
    subst e1 e2
    exact ⟨_, rfl, _, rfl, Nat.le_refl _, Nat.le_refl _⟩
  · rcases rx_ag_c hy with ⟨e1, e2⟩ | ⟨_, hy⟩
    · simp only at e1 e2
      subst e1 e2
      exact ⟨_, rfl, _, rfl, h1.1, h1.2⟩
    · rcases rx_ag_c hy with ⟨e1, e2⟩ | ⟨_, hy⟩
      · simp only at e1 e2
        subst e1 e2
        exact ⟨_, rfl, _, rfl, h3.1, h3.2⟩
      · rcases rx_ag_c hy with ⟨e1, e2⟩ | ⟨_, hy⟩
        · simp only at e1 e2
          subst e1 e2
          exact ⟨_, rfl, _, rfl, h2.1, h2.2⟩
        · cases hy
set_option maxRecDepth 100000 in
set_option maxHeartbeats 4000000 in
theorem rx_isp {rt : rx_R} (ht : rx_tok rx_Ex rt) {h : rx_H} (hh : rx_hin rx_I0 h) (i : Nat) (hi : i < 35) : rx_T rx_cds rx_ms rx_lk0 rt 2 60 44 0 [(0, .ref 21), (1, .int (rx_s3v.getD i 0))] [] h (fun v h' => rx_pin (some (.inl (0, 1))) v ∧ rx_hin rx_I0 h' ∧ True ∧ rx_Fx h h') := by
  match i, hi with
  | 0, _ => exact rx_ip_0 (rx_ip_k  ht (Nat.le_refl _) (Nat.le_refl _) (rx_toIn 0 1 2 7 (by decide) (by decide) (by decide)) hh)
  | 1, _ => exact rx_ip_1 (rx_ip_k  ht (Nat.le_refl _) (Nat.le_refl _) (rx_toIn 0 1 3 11 (by decide) (by decide) (by decide)) hh)
  | 2, _ => exact rx_ip_2 (rx_ip_k  ht (Nat.le_refl _) (Nat.le_refl _) (rx_toIn 0 2 3 13 (by decide) (by decide) (by decide)) hh)
  | 3, _ => exact rx_ip_3 (rx_ip_k  ht (Nat.le_refl _) (Nat.le_refl _) (rx_toIn 1 2 3 14 (by decide) (by decide) (by decide)) hh)
  | 4, _ => exact rx_ip_4 (rx_ip_k  ht (Nat.le_refl _) (Nat.le_refl _) (rx_toIn 0 1 4 19 (by decide) (by decide) (by decide)) hh)
  | 5, _ => exact rx_ip_5 (rx_ip_k  ht (Nat.le_refl _) (Nat.le_refl _) (rx_toIn 0 2 4 21 (by decide) (by decide) (by decide)) hh)
  | 6, _ => exact rx_ip_6 (rx_ip_k  ht (Nat.le_refl _) (Nat.le_refl _) (rx_toIn 1 2 4 22 (by decide) (by decide) (by decide)) hh)
  | 7, _ => exact rx_ip_7 (rx_ip_k  ht (Nat.le_refl _) (Nat.le_refl _) (rx_toIn 0 3 4 25 (by decide) (by decide) (by decide)) hh)
  | 8, _ => exact rx_ip_8 (rx_ip_k  ht (Nat.le_refl _) (Nat.le_refl _) (rx_toIn 1 3 4 26 (by decide) (by decide) (by decide)) hh)
  | 9, _ => exact rx_ip_9 (rx_ip_k  ht (Nat.le_refl _) (Nat.le_refl _) (rx_toIn 2 3 4 28 (by decide) (by decide) (by decide)) hh)
  | 10, _ => exact rx_ip_10 (rx_ip_k  ht (Nat.le_refl _) (Nat.le_refl _) (rx_toIn 0 1 5 35 (by decide) (by decide) (by decide)) hh)
  | 11, _ => exact rx_ip_11 (rx_ip_k  ht (Nat.le_refl _) (Nat.le_refl _) (rx_toIn 0 2 5 37 (by decide) (by decide) (by decide)) hh)
  | 12, _ => exact rx_ip_12 (rx_ip_k  ht (Nat.le_refl _) (Nat.le_refl _) (rx_toIn 1 2 5 38 (by decide) (by decide) (by decide)) hh)
  | 13, _ => exact rx_ip_13 (rx_ip_k  ht (Nat.le_refl _) (Nat.le_refl _) (rx_toIn 0 3 5 41 (by decide) (by decide) (by decide)) hh)
  | 14, _ => exact rx_ip_14 (rx_ip_k  ht (Nat.le_refl _) (Nat.le_refl _) (rx_toIn 1 3 5 42 (by decide) (by decide) (by decide)) hh)
  | 15, _ => exact rx_ip_15 (rx_ip_k  ht (Nat.le_refl _) (Nat.le_refl _) (rx_toIn 2 3 5 44 (by decide) (by decide) (by decide)) hh)
  | 16, _ => exact rx_ip_16 (rx_ip_k  ht (Nat.le_refl _) (Nat.le_refl _) (rx_toIn 0 4 5 49 (by decide) (by decide) (by decide)) hh)
  | 17, _ => exact rx_ip_17 (rx_ip_k  ht (Nat.le_refl _) (Nat.le_refl _) (rx_toIn 1 4 5 50 (by decide) (by decide) (by decide)) hh)
  | 18, _ => exact rx_ip_18 (rx_ip_k  ht (Nat.le_refl _) (Nat.le_refl _) (rx_toIn 2 4 5 52 (by decide) (by decide) (by decide)) hh)
  | 19, _ => exact rx_ip_19 (rx_ip_k  ht (Nat.le_refl _) (Nat.le_refl _) (rx_toIn 3 4 5 56 (by decide) (by decide) (by decide)) hh)
  | 20, _ => exact rx_ip_20 (rx_ip_k  ht (Nat.le_refl _) (Nat.le_refl _) (rx_toIn 0 1 6 67 (by decide) (by decide) (by decide)) hh)
  | 21, _ => exact rx_ip_21 (rx_ip_k  ht (Nat.le_refl _) (Nat.le_refl _) (rx_toIn 0 2 6 69 (by decide) (by decide) (by decide)) hh)
  | 22, _ => exact rx_ip_22 (rx_ip_k  ht (Nat.le_refl _) (Nat.le_refl _) (rx_toIn 1 2 6 70 (by decide) (by decide) (by decide)) hh)
  | 23, _ => exact rx_ip_23 (rx_ip_k  ht (Nat.le_refl _) (Nat.le_refl _) (rx_toIn 0 3 6 73 (by decide) (by decide) (by decide)) hh)
  | 24, _ => exact rx_ip_24 (rx_ip_k  ht (Nat.le_refl _) (Nat.le_refl _) (rx_toIn 1 3 6 74 (by decide) (by decide) (by decide)) hh)
  | 25, _ => exact rx_ip_25 (rx_ip_k  ht (Nat.le_refl _) (Nat.le_refl _) (rx_toIn 2 3 6 76 (by decide) (by decide) (by decide)) hh)
  | 26, _ => exact rx_ip_26 (rx_ip_k  ht (Nat.le_refl _) (Nat.le_refl _) (rx_toIn 0 4 6 81 (by decide) (by decide) (by decide)) hh)
  | 27, _ => exact rx_ip_27 (rx_ip_k  ht (Nat.le_refl _) (Nat.le_refl _) (rx_toIn 1 4 6 82 (by decide) (by decide) (by decide)) hh)
  | 28, _ => exact rx_ip_28 (rx_ip_k  ht (Nat.le_refl _) (Nat.le_refl _) (rx_toIn 2 4 6 84 (by decide) (by decide) (by decide)) hh)
  | 29, _ => exact rx_ip_29 (rx_ip_k  ht (Nat.le_refl _) (Nat.le_refl _) (rx_toIn 3 4 6 88 (by decide) (by decide) (by decide)) hh)
  | 30, _ => exact rx_ip_30 (rx_ip_k  ht (Nat.le_refl _) (Nat.le_refl _) (rx_toIn 0 5 6 97 (by decide) (by decide) (by decide)) hh)
  | 31, _ => exact rx_ip_31 (rx_ip_k  ht (Nat.le_refl _) (Nat.le_refl _) (rx_toIn 1 5 6 98 (by decide) (by decide) (by decide)) hh)
  | 32, _ => exact rx_ip_32 (rx_ip_k  ht (Nat.le_refl _) (Nat.le_refl _) (rx_toIn 2 5 6 100 (by decide) (by decide) (by decide)) hh)
  | 33, _ => exact rx_ip_33 (rx_ip_k  ht (Nat.le_refl _) (Nat.le_refl _) (rx_toIn 3 5 6 104 (by decide) (by decide) (by decide)) hh)
  | 34, _ => exact rx_ip_34 (rx_ip_k  ht (Nat.le_refl _) (Nat.le_refl _) (rx_toIn 4 5 6 112 (by decide) (by decide) (by decide)) hh)
  | n + 35, hi => exact absurd hi (by omega)
