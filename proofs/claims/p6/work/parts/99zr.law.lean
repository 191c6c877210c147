section RXLW
variable {L : Nat} {xs : Nat → Int32}
set_option maxRecDepth 1000000 in
set_option maxHeartbeats 8000000 in
theorem rx_lw_point {i : Nat} {h : rx_H} (hL : L ≤ 2048) (hi : i + 4 ≤ L) (hI : rx_Iv h) (K : ∀ h', rx_Iv h' → rx_T rx_cds rx_ms rx_lk0 (rx_rt L xs) 12 468 0 18 [(3, .int (nI (i + 4))), (2, .ref 53), (1, .ref 16), (0, .ref 0)] [] h' (fun v h' => v = some (.int 1) ∧ rx_hin rx_I0 h')) : rx_T rx_cds rx_ms rx_lk0 (rx_rt L xs) 12 468 0 96 [(3, .int (nI i)), (2, .ref 53), (1, .ref 16), (0, .ref 0)] [] h (fun v h' => v = some (.int 1) ∧ rx_hin rx_I0 h') := by
  have hX := rx_l_point (rt := rx_rt L xs) (x := xs (i + 1)) (y := xs (i + 2)) hI
  refine rx_T.to 1 97 [(3, .int (nI i)), (2, .ref 53), (1, .ref 16), (0, .ref 0)] [.ref 16] h rfl ?_
  refine rx_T.to 4 101 [(3, .int (nI i)), (2, .ref 53), (1, .ref 16), (0, .ref 0)] [.int ((nI i) + 1), .ref 0, .ref 16] h rfl ?_
  rw [show nI i + 1 = nI (i + 1) from nI_1 i]
  refine rx_T.iald (M := rxm_0) (n := L) (f := xs) rfl rfl rfl (vp_in_nI (show i + 1 < L by omega) (by omega)) ?_
  rw [nI_clamp (show i + 1 < 2 ^ 31 by omega)]
  refine rx_T.to 4 106 [(3, .int (nI i)), (2, .ref 53), (1, .ref 16), (0, .ref 0)] [.int ((nI i) + 2), .ref 0, .int (xs (i + 1)), .ref 16] h rfl ?_
  rw [show nI i + 2 = nI (i + 2) from nI_add i 2]
  refine rx_T.iald (M := rxm_0) (n := L) (f := xs) rfl rfl rfl (vp_in_nI (show i + 2 < L by omega) (by omega)) ?_
  rw [nI_clamp (show i + 2 < 2 ^ 31 by omega)]
  refine rx_T.callk (d := 11) (w := 468) (M := rxm_0) (N := rxm_6) (j := 6) (nest := 0) (k := 0) (as' := [.int (xs (i + 1)), .int (xs (i + 2))]) (rest := []) rfl rfl rfl rfl rfl rfl rfl rfl rfl (Nat.le_of_ble_eq_true rfl) (Nat.le_of_ble_eq_true rfl) hI.1 (by decide) (hX (468 - (19 + 3)) (by decide)) ?_
  intro v1 h1 hp
  obtain ⟨x1, rfl, hh1, hM⟩ := hp
  refine rx_T.to 1 111 [(3, .int (nI i)), (2, .ref 53), (1, .ref 16), (0, .ref 0)] [] h1 rfl ?_
  refine rx_T.to 5 116 [(3, .int (nI i)), (2, .ref 53), (1, .ref 16), (0, .ref 0)] [.int ((nI i) + 1), .ref 0, .ref 53] h1 rfl ?_
  rw [show nI i + 1 = nI (i + 1) from nI_1 i]
  refine rx_T.iald (M := rxm_0) (n := L) (f := xs) rfl rfl rfl (vp_in_nI (show i + 1 < L by omega) (by omega)) ?_
  rw [nI_clamp (show i + 1 < 2 ^ 31 by omega)]
  refine rx_T.to 4 121 [(3, .int (nI i)), (2, .ref 53), (1, .ref 16), (0, .ref 0)] [.int ((nI i) + 2), .ref 0, .int (xs (i + 1)), .ref 53] h1 rfl ?_
  rw [show nI i + 2 = nI (i + 2) from nI_add i 2]
  refine rx_T.iald (M := rxm_0) (n := L) (f := xs) rfl rfl rfl (vp_in_nI (show i + 2 < L by omega) (by omega)) ?_
  rw [nI_clamp (show i + 2 < 2 ^ 31 by omega)]
  refine rx_T.callk (d := 11) (w := 468) (M := rxm_0) (N := rxm_97) (j := 97) (nest := 0) (k := 37) (as' := [.int (xs (i + 1)), .int (xs (i + 2))]) (rest := []) rfl rfl rfl rfl rfl rfl rfl rfl rfl (Nat.le_of_ble_eq_true rfl) (Nat.le_of_ble_eq_true rfl) hh1 (by decide) (hM (468 - (19 + 4)) (by decide)) ?_
  intro v2 h2 hp
  obtain ⟨y1, rfl, he, hI2⟩ := hp
  refine rx_T.to 4 18 [(3, .int ((nI i) + Int32.ofInt 4)), (2, .ref 53), (1, .ref 16), (0, .ref 0)] [] h2 rfl ?_
  rw [show nI i + Int32.ofInt 4 = nI (i + 4) from nI_add i 4]
  exact K h2 hI2
set_option maxRecDepth 1000000 in
set_option maxHeartbeats 8000000 in
theorem rx_lw_of {i : Nat} {h : rx_H} (hL : L ≤ 2048) (hi : i + 4 ≤ L) (hI : rx_Iv h) (K : ∀ h', rx_Iv h' → rx_T rx_cds rx_ms rx_lk0 (rx_rt L xs) 12 468 0 18 [(3, .int (nI (i + 4))), (2, .ref 53), (1, .ref 16), (0, .ref 0)] [] h' (fun v h' => v = some (.int 1) ∧ rx_hin rx_I0 h')) : rx_T rx_cds rx_ms rx_lk0 (rx_rt L xs) 12 468 0 129 [(3, .int (nI i)), (2, .ref 53), (1, .ref 16), (0, .ref 0)] [] h (fun v h' => v = some (.int 1) ∧ rx_hin rx_I0 h') := by
  have hX := rx_l_of (rt := rx_rt L xs) (q := xs (i + 1)) hI
  refine rx_T.to 1 130 [(3, .int (nI i)), (2, .ref 53), (1, .ref 16), (0, .ref 0)] [.ref 16] h rfl ?_
  refine rx_T.to 4 134 [(3, .int (nI i)), (2, .ref 53), (1, .ref 16), (0, .ref 0)] [.int ((nI i) + 1), .ref 0, .ref 16] h rfl ?_
  rw [show nI i + 1 = nI (i + 1) from nI_1 i]
  refine rx_T.iald (M := rxm_0) (n := L) (f := xs) rfl rfl rfl (vp_in_nI (show i + 1 < L by omega) (by omega)) ?_
  rw [nI_clamp (show i + 1 < 2 ^ 31 by omega)]
  refine rx_T.callk (d := 11) (w := 468) (M := rxm_0) (N := rxm_10) (j := 10) (nest := 0) (k := 0) (as' := [.int (xs (i + 1))]) (rest := []) rfl rfl rfl rfl rfl rfl rfl rfl rfl (Nat.le_of_ble_eq_true rfl) (Nat.le_of_ble_eq_true rfl) hI.1 (by decide) (hX (468 - (19 + 2)) (by decide)) ?_
  intro v1 h1 hp
  obtain ⟨x1, rfl, hh1, hM⟩ := hp
  refine rx_T.to 1 139 [(3, .int (nI i)), (2, .ref 53), (1, .ref 16), (0, .ref 0)] [] h1 rfl ?_
  refine rx_T.to 5 144 [(3, .int (nI i)), (2, .ref 53), (1, .ref 16), (0, .ref 0)] [.int ((nI i) + 1), .ref 0, .ref 53] h1 rfl ?_
  rw [show nI i + 1 = nI (i + 1) from nI_1 i]
  refine rx_T.iald (M := rxm_0) (n := L) (f := xs) rfl rfl rfl (vp_in_nI (show i + 1 < L by omega) (by omega)) ?_
  rw [nI_clamp (show i + 1 < 2 ^ 31 by omega)]
  refine rx_T.callk (d := 11) (w := 468) (M := rxm_0) (N := rxm_98) (j := 98) (nest := 0) (k := 37) (as' := [.int (xs (i + 1))]) (rest := []) rfl rfl rfl rfl rfl rfl rfl rfl rfl (Nat.le_of_ble_eq_true rfl) (Nat.le_of_ble_eq_true rfl) hh1 (by decide) (hM (468 - (19 + 2)) (by decide)) ?_
  intro v2 h2 hp
  obtain ⟨y1, rfl, he, hI2⟩ := hp
  refine rx_T.to 4 18 [(3, .int ((nI i) + Int32.ofInt 4)), (2, .ref 53), (1, .ref 16), (0, .ref 0)] [] h2 rfl ?_
  rw [show nI i + Int32.ofInt 4 = nI (i + 4) from nI_add i 4]
  exact K h2 hI2
set_option maxRecDepth 1000000 in
set_option maxHeartbeats 8000000 in
theorem rx_lw_isTrue {i : Nat} {h : rx_H} (hL : L ≤ 2048) (hi : i + 4 ≤ L) (hI : rx_Iv h) (K : ∀ h', rx_Iv h' → rx_T rx_cds rx_ms rx_lk0 (rx_rt L xs) 12 468 0 18 [(3, .int (nI (i + 4))), (2, .ref 53), (1, .ref 16), (0, .ref 0)] [] h' (fun v h' => v = some (.int 1) ∧ rx_hin rx_I0 h')) : rx_T rx_cds rx_ms rx_lk0 (rx_rt L xs) 12 468 0 152 [(3, .int (nI i)), (2, .ref 53), (1, .ref 16), (0, .ref 0)] [] h (fun v h' => v = some (.int 1) ∧ rx_hin rx_I0 h') := by
  have hX := rx_l_isTrue (rx_tok_m L xs) (k := xs (i + 1)) hI
  refine rx_T.to 1 153 [(3, .int (nI i)), (2, .ref 53), (1, .ref 16), (0, .ref 0)] [.ref 16] h rfl ?_
  refine rx_T.to 4 157 [(3, .int (nI i)), (2, .ref 53), (1, .ref 16), (0, .ref 0)] [.int ((nI i) + 1), .ref 0, .ref 16] h rfl ?_
  rw [show nI i + 1 = nI (i + 1) from nI_1 i]
  refine rx_T.iald (M := rxm_0) (n := L) (f := xs) rfl rfl rfl (vp_in_nI (show i + 1 < L by omega) (by omega)) ?_
  rw [nI_clamp (show i + 1 < 2 ^ 31 by omega)]
  refine rx_T.callk (d := 11) (w := 468) (M := rxm_0) (N := rxm_12) (j := 12) (nest := 0) (k := 0) (as' := [.int (xs (i + 1))]) (rest := []) rfl rfl rfl rfl rfl rfl rfl rfl rfl (Nat.le_of_ble_eq_true rfl) (Nat.le_of_ble_eq_true rfl) hI.1 (by decide) (hX (468 - (19 + 3)) (by decide)) ?_
  intro v1 h1 hp
  obtain ⟨x1, rfl, hh1, hM⟩ := hp
  refine rx_T.to 1 162 [(3, .int (nI i)), (2, .ref 53), (1, .ref 16), (0, .ref 0)] [] h1 rfl ?_
  refine rx_T.to 5 167 [(3, .int (nI i)), (2, .ref 53), (1, .ref 16), (0, .ref 0)] [.int ((nI i) + 1), .ref 0, .ref 53] h1 rfl ?_
  rw [show nI i + 1 = nI (i + 1) from nI_1 i]
  refine rx_T.iald (M := rxm_0) (n := L) (f := xs) rfl rfl rfl (vp_in_nI (show i + 1 < L by omega) (by omega)) ?_
  rw [nI_clamp (show i + 1 < 2 ^ 31 by omega)]
  refine rx_T.callk (d := 11) (w := 468) (M := rxm_0) (N := rxm_99) (j := 99) (nest := 0) (k := 37) (as' := [.int (xs (i + 1))]) (rest := []) rfl rfl rfl rfl rfl rfl rfl rfl rfl (Nat.le_of_ble_eq_true rfl) (Nat.le_of_ble_eq_true rfl) hh1 (by decide) (hM (468 - (19 + 4)) (by decide)) ?_
  intro v2 h2 hp
  obtain ⟨y1, rfl, he, hI2⟩ := hp
  refine rx_T.to 4 18 [(3, .int ((nI i) + Int32.ofInt 4)), (2, .ref 53), (1, .ref 16), (0, .ref 0)] [] h2 rfl ?_
  rw [show nI i + Int32.ofInt 4 = nI (i + 4) from nI_add i 4]
  exact K h2 hI2
set_option maxRecDepth 1000000 in
set_option maxHeartbeats 8000000 in
theorem rx_lw_fact {i : Nat} {h : rx_H} (hL : L ≤ 2048) (hi : i + 4 ≤ L) (hI : rx_Iv h) (K : ∀ h', rx_Iv h' → rx_T rx_cds rx_ms rx_lk0 (rx_rt L xs) 12 468 0 18 [(3, .int (nI (i + 4))), (2, .ref 53), (1, .ref 16), (0, .ref 0)] [] h' (fun v h' => v = some (.int 1) ∧ rx_hin rx_I0 h')) : rx_T rx_cds rx_ms rx_lk0 (rx_rt L xs) 12 468 0 175 [(3, .int (nI i)), (2, .ref 53), (1, .ref 16), (0, .ref 0)] [] h (fun v h' => v = some (.int 1) ∧ rx_hin rx_I0 h') := by
  have hX := rx_l_fact (rx_tok_m L xs) (k := xs (i + 1)) hI
  refine rx_T.to 1 176 [(3, .int (nI i)), (2, .ref 53), (1, .ref 16), (0, .ref 0)] [.ref 16] h rfl ?_
  refine rx_T.to 4 180 [(3, .int (nI i)), (2, .ref 53), (1, .ref 16), (0, .ref 0)] [.int ((nI i) + 1), .ref 0, .ref 16] h rfl ?_
  rw [show nI i + 1 = nI (i + 1) from nI_1 i]
  refine rx_T.iald (M := rxm_0) (n := L) (f := xs) rfl rfl rfl (vp_in_nI (show i + 1 < L by omega) (by omega)) ?_
  rw [nI_clamp (show i + 1 < 2 ^ 31 by omega)]
  refine rx_T.callk (d := 11) (w := 468) (M := rxm_0) (N := rxm_27) (j := 27) (nest := 0) (k := 0) (as' := [.int (xs (i + 1))]) (rest := []) rfl rfl rfl rfl rfl rfl rfl rfl rfl (Nat.le_of_ble_eq_true rfl) (Nat.le_of_ble_eq_true rfl) hI.1 (by decide) (hX (468 - (19 + 4)) (by decide)) ?_
  intro v1 h1 hp
  obtain ⟨x1, rfl, hh1, hM⟩ := hp
  refine rx_T.to 1 185 [(3, .int (nI i)), (2, .ref 53), (1, .ref 16), (0, .ref 0)] [] h1 rfl ?_
  refine rx_T.to 5 190 [(3, .int (nI i)), (2, .ref 53), (1, .ref 16), (0, .ref 0)] [.int ((nI i) + 1), .ref 0, .ref 53] h1 rfl ?_
  rw [show nI i + 1 = nI (i + 1) from nI_1 i]
  refine rx_T.iald (M := rxm_0) (n := L) (f := xs) rfl rfl rfl (vp_in_nI (show i + 1 < L by omega) (by omega)) ?_
  rw [nI_clamp (show i + 1 < 2 ^ 31 by omega)]
  refine rx_T.callk (d := 11) (w := 468) (M := rxm_0) (N := rxm_109) (j := 109) (nest := 0) (k := 37) (as' := [.int (xs (i + 1))]) (rest := []) rfl rfl rfl rfl rfl rfl rfl rfl rfl (Nat.le_of_ble_eq_true rfl) (Nat.le_of_ble_eq_true rfl) hh1 (by decide) (hM (468 - (19 + 6)) (by decide)) ?_
  intro v2 h2 hp
  obtain ⟨y1, rfl, he, hI2⟩ := hp
  refine rx_T.to 4 18 [(3, .int ((nI i) + Int32.ofInt 4)), (2, .ref 53), (1, .ref 16), (0, .ref 0)] [] h2 rfl ?_
  rw [show nI i + Int32.ofInt 4 = nI (i + 4) from nI_add i 4]
  exact K h2 hI2
set_option maxRecDepth 1000000 in
set_option maxHeartbeats 8000000 in
theorem rx_lw_turn {i : Nat} {h : rx_H} (hL : L ≤ 2048) (hi : i + 4 ≤ L) (hI : rx_Iv h) (K : ∀ h', rx_Iv h' → rx_T rx_cds rx_ms rx_lk0 (rx_rt L xs) 12 468 0 18 [(3, .int (nI (i + 4))), (2, .ref 53), (1, .ref 16), (0, .ref 0)] [] h' (fun v h' => v = some (.int 1) ∧ rx_hin rx_I0 h')) : rx_T rx_cds rx_ms rx_lk0 (rx_rt L xs) 12 468 0 198 [(3, .int (nI i)), (2, .ref 53), (1, .ref 16), (0, .ref 0)] [] h (fun v h' => v = some (.int 1) ∧ rx_hin rx_I0 h') := by
  by_cases z0 : xs (i + 2) = 0
  · have hX := rx_l_turn (rt := rx_rt L xs) (k := xs (i + 1)) (o := 0) (Or.inl rfl) hI
    refine rx_T.to 1 199 [(3, .int (nI i)), (2, .ref 53), (1, .ref 16), (0, .ref 0)] [.ref 16] h rfl ?_
    refine rx_T.to 4 203 [(3, .int (nI i)), (2, .ref 53), (1, .ref 16), (0, .ref 0)] [.int ((nI i) + 1), .ref 0, .ref 16] h rfl ?_
    rw [show nI i + 1 = nI (i + 1) from nI_1 i]
    refine rx_T.iald (M := rxm_0) (n := L) (f := xs) rfl rfl rfl (vp_in_nI (show i + 1 < L by omega) (by omega)) ?_
    rw [nI_clamp (show i + 1 < 2 ^ 31 by omega)]
    refine rx_T.to 4 208 [(3, .int (nI i)), (2, .ref 53), (1, .ref 16), (0, .ref 0)] [.int ((nI i) + 2), .ref 0, .int (xs (i + 1)), .ref 16] h rfl ?_
    rw [show nI i + 2 = nI (i + 2) from nI_add i 2]
    refine rx_T.iald (M := rxm_0) (n := L) (f := xs) rfl rfl rfl (vp_in_nI (show i + 2 < L by omega) (by omega)) ?_
    rw [nI_clamp (show i + 2 < 2 ^ 31 by omega)]
    refine rx_T.op (M := rxm_0) (ins := .ifCond .eq 7) rfl rfl rfl rfl (rx_b1_t 216 (decide_eq_true z0) (by decide)) ?_
    refine rx_T.to 1 217 [(3, .int (nI i)), (2, .ref 53), (1, .ref 16), (0, .ref 0)] [.int 0, .int (xs (i + 1)), .ref 16] h rfl ?_
    refine rx_T.callk (d := 11) (w := 468) (M := rxm_0) (N := rxm_28) (j := 28) (nest := 0) (k := 0) (as' := [.int (xs (i + 1)), .int 0]) (rest := []) rfl rfl rfl rfl rfl rfl rfl rfl rfl (Nat.le_of_ble_eq_true rfl) (Nat.le_of_ble_eq_true rfl) hI.1 (by decide) (hX (468 - (19 + 4)) (by decide)) ?_
    intro v1 h1 hp
    obtain ⟨x1, rfl, hh1, hM⟩ := hp
    refine rx_T.to 5 225 [(3, .int (nI i)), (2, .ref 53), (1, .ref 16), (0, .ref 0)] [.int ((nI i) + 1), .ref 0, .ref 53, .int x1] h1 rfl ?_
    rw [show nI i + 1 = nI (i + 1) from nI_1 i]
    refine rx_T.iald (M := rxm_0) (n := L) (f := xs) rfl rfl rfl (vp_in_nI (show i + 1 < L by omega) (by omega)) ?_
    rw [nI_clamp (show i + 1 < 2 ^ 31 by omega)]
    refine rx_T.to 4 230 [(3, .int (nI i)), (2, .ref 53), (1, .ref 16), (0, .ref 0)] [.int ((nI i) + 2), .ref 0, .int (xs (i + 1)), .ref 53, .int x1] h1 rfl ?_
    rw [show nI i + 2 = nI (i + 2) from nI_add i 2]
    refine rx_T.iald (M := rxm_0) (n := L) (f := xs) rfl rfl rfl (vp_in_nI (show i + 2 < L by omega) (by omega)) ?_
    rw [nI_clamp (show i + 2 < 2 ^ 31 by omega)]
    refine rx_T.op (M := rxm_0) (ins := .ifCond .eq 7) rfl rfl rfl rfl (rx_b1_t 238 (decide_eq_true z0) (by decide)) ?_
    refine rx_T.to 1 239 [(3, .int (nI i)), (2, .ref 53), (1, .ref 16), (0, .ref 0)] [.int 0, .int (xs (i + 1)), .ref 53, .int x1] h1 rfl ?_
    refine rx_T.callk (d := 11) (w := 468) (M := rxm_0) (N := rxm_110) (j := 110) (nest := 0) (k := 37) (as' := [.int (xs (i + 1)), .int 0]) (rest := [.int x1]) rfl rfl rfl rfl rfl rfl rfl rfl rfl (Nat.le_of_ble_eq_true rfl) (Nat.le_of_ble_eq_true rfl) hh1 (by decide) (hM (468 - (19 + 3)) (by decide)) ?_
    intro v2 h2 hp
    obtain ⟨y1, rfl, he, hI2⟩ := hp
    refine rx_T.op (M := rxm_0) (ins := .if_icmp .eq 206) rfl rfl rfl rfl (rx_b2_t 448 (decide_eq_true (he rfl).symm) (by decide)) ?_
    refine rx_T.to 2 18 [(3, .int ((nI i) + Int32.ofInt 4)), (2, .ref 53), (1, .ref 16), (0, .ref 0)] [] h2 rfl ?_
    rw [show nI i + Int32.ofInt 4 = nI (i + 4) from nI_add i 4]
    exact K h2 hI2
  · have hX := rx_l_turn (rt := rx_rt L xs) (k := xs (i + 1)) (o := 1) (Or.inr rfl) hI
    refine rx_T.to 1 199 [(3, .int (nI i)), (2, .ref 53), (1, .ref 16), (0, .ref 0)] [.ref 16] h rfl ?_
    refine rx_T.to 4 203 [(3, .int (nI i)), (2, .ref 53), (1, .ref 16), (0, .ref 0)] [.int ((nI i) + 1), .ref 0, .ref 16] h rfl ?_
    rw [show nI i + 1 = nI (i + 1) from nI_1 i]
    refine rx_T.iald (M := rxm_0) (n := L) (f := xs) rfl rfl rfl (vp_in_nI (show i + 1 < L by omega) (by omega)) ?_
    rw [nI_clamp (show i + 1 < 2 ^ 31 by omega)]
    refine rx_T.to 4 208 [(3, .int (nI i)), (2, .ref 53), (1, .ref 16), (0, .ref 0)] [.int ((nI i) + 2), .ref 0, .int (xs (i + 1)), .ref 16] h rfl ?_
    rw [show nI i + 2 = nI (i + 2) from nI_add i 2]
    refine rx_T.iald (M := rxm_0) (n := L) (f := xs) rfl rfl rfl (vp_in_nI (show i + 2 < L by omega) (by omega)) ?_
    rw [nI_clamp (show i + 2 < 2 ^ 31 by omega)]
    refine rx_T.op (M := rxm_0) (ins := .ifCond .eq 7) rfl rfl rfl rfl (rx_b1_f (decide_eq_false z0) (by decide)) ?_
    refine rx_T.to 2 217 [(3, .int (nI i)), (2, .ref 53), (1, .ref 16), (0, .ref 0)] [.int 1, .int (xs (i + 1)), .ref 16] h rfl ?_
    refine rx_T.callk (d := 11) (w := 468) (M := rxm_0) (N := rxm_28) (j := 28) (nest := 0) (k := 0) (as' := [.int (xs (i + 1)), .int 1]) (rest := []) rfl rfl rfl rfl rfl rfl rfl rfl rfl (Nat.le_of_ble_eq_true rfl) (Nat.le_of_ble_eq_true rfl) hI.1 (by decide) (hX (468 - (19 + 4)) (by decide)) ?_
    intro v1 h1 hp
    obtain ⟨x1, rfl, hh1, hM⟩ := hp
    refine rx_T.to 5 225 [(3, .int (nI i)), (2, .ref 53), (1, .ref 16), (0, .ref 0)] [.int ((nI i) + 1), .ref 0, .ref 53, .int x1] h1 rfl ?_
    rw [show nI i + 1 = nI (i + 1) from nI_1 i]
    refine rx_T.iald (M := rxm_0) (n := L) (f := xs) rfl rfl rfl (vp_in_nI (show i + 1 < L by omega) (by omega)) ?_
    rw [nI_clamp (show i + 1 < 2 ^ 31 by omega)]
    refine rx_T.to 4 230 [(3, .int (nI i)), (2, .ref 53), (1, .ref 16), (0, .ref 0)] [.int ((nI i) + 2), .ref 0, .int (xs (i + 1)), .ref 53, .int x1] h1 rfl ?_
    rw [show nI i + 2 = nI (i + 2) from nI_add i 2]
    refine rx_T.iald (M := rxm_0) (n := L) (f := xs) rfl rfl rfl (vp_in_nI (show i + 2 < L by omega) (by omega)) ?_
    rw [nI_clamp (show i + 2 < 2 ^ 31 by omega)]
    refine rx_T.op (M := rxm_0) (ins := .ifCond .eq 7) rfl rfl rfl rfl (rx_b1_f (decide_eq_false z0) (by decide)) ?_
    refine rx_T.to 2 239 [(3, .int (nI i)), (2, .ref 53), (1, .ref 16), (0, .ref 0)] [.int 1, .int (xs (i + 1)), .ref 53, .int x1] h1 rfl ?_
    refine rx_T.callk (d := 11) (w := 468) (M := rxm_0) (N := rxm_110) (j := 110) (nest := 0) (k := 37) (as' := [.int (xs (i + 1)), .int 1]) (rest := [.int x1]) rfl rfl rfl rfl rfl rfl rfl rfl rfl (Nat.le_of_ble_eq_true rfl) (Nat.le_of_ble_eq_true rfl) hh1 (by decide) (hM (468 - (19 + 3)) (by decide)) ?_
    intro v2 h2 hp
    obtain ⟨y1, rfl, he, hI2⟩ := hp
    refine rx_T.op (M := rxm_0) (ins := .if_icmp .eq 206) rfl rfl rfl rfl (rx_b2_t 448 (decide_eq_true (he rfl).symm) (by decide)) ?_
    refine rx_T.to 2 18 [(3, .int ((nI i) + Int32.ofInt 4)), (2, .ref 53), (1, .ref 16), (0, .ref 0)] [] h2 rfl ?_
    rw [show nI i + Int32.ofInt 4 = nI (i + 4) from nI_add i 4]
    exact K h2 hI2
set_option maxRecDepth 1000000 in
set_option maxHeartbeats 8000000 in
theorem rx_lw_follows {i : Nat} {h : rx_H} (hL : L ≤ 2048) (hi : i + 4 ≤ L) (hI : rx_Iv h) (K : ∀ h', rx_Iv h' → rx_T rx_cds rx_ms rx_lk0 (rx_rt L xs) 12 468 0 18 [(3, .int (nI (i + 4))), (2, .ref 53), (1, .ref 16), (0, .ref 0)] [] h' (fun v h' => v = some (.int 1) ∧ rx_hin rx_I0 h')) : rx_T rx_cds rx_ms rx_lk0 (rx_rt L xs) 12 468 0 247 [(3, .int (nI i)), (2, .ref 53), (1, .ref 16), (0, .ref 0)] [] h (fun v h' => v = some (.int 1) ∧ rx_hin rx_I0 h') := by
  have hX := rx_l_follows (rx_tok_m L xs) (k := xs (i + 1)) hI
  refine rx_T.to 1 248 [(3, .int (nI i)), (2, .ref 53), (1, .ref 16), (0, .ref 0)] [.ref 16] h rfl ?_
  refine rx_T.to 4 252 [(3, .int (nI i)), (2, .ref 53), (1, .ref 16), (0, .ref 0)] [.int ((nI i) + 1), .ref 0, .ref 16] h rfl ?_
  rw [show nI i + 1 = nI (i + 1) from nI_1 i]
  refine rx_T.iald (M := rxm_0) (n := L) (f := xs) rfl rfl rfl (vp_in_nI (show i + 1 < L by omega) (by omega)) ?_
  rw [nI_clamp (show i + 1 < 2 ^ 31 by omega)]
  refine rx_T.callk (d := 11) (w := 468) (M := rxm_0) (N := rxm_29) (j := 29) (nest := 0) (k := 0) (as' := [.int (xs (i + 1))]) (rest := []) rfl rfl rfl rfl rfl rfl rfl rfl rfl (Nat.le_of_ble_eq_true rfl) (Nat.le_of_ble_eq_true rfl) hI.1 (by decide) (hX (468 - (19 + 3)) (by decide)) ?_
  intro v1 h1 hp
  obtain ⟨x1, rfl, hh1, hM⟩ := hp
  refine rx_T.to 1 257 [(3, .int (nI i)), (2, .ref 53), (1, .ref 16), (0, .ref 0)] [] h1 rfl ?_
  refine rx_T.to 5 262 [(3, .int (nI i)), (2, .ref 53), (1, .ref 16), (0, .ref 0)] [.int ((nI i) + 1), .ref 0, .ref 53] h1 rfl ?_
  rw [show nI i + 1 = nI (i + 1) from nI_1 i]
  refine rx_T.iald (M := rxm_0) (n := L) (f := xs) rfl rfl rfl (vp_in_nI (show i + 1 < L by omega) (by omega)) ?_
  rw [nI_clamp (show i + 1 < 2 ^ 31 by omega)]
  refine rx_T.callk (d := 11) (w := 468) (M := rxm_0) (N := rxm_111) (j := 111) (nest := 0) (k := 37) (as' := [.int (xs (i + 1))]) (rest := []) rfl rfl rfl rfl rfl rfl rfl rfl rfl (Nat.le_of_ble_eq_true rfl) (Nat.le_of_ble_eq_true rfl) hh1 (by decide) (hM (468 - (19 + 5)) (by decide)) ?_
  intro v2 h2 hp
  obtain ⟨y1, rfl, he, hI2⟩ := hp
  refine rx_T.to 4 18 [(3, .int ((nI i) + Int32.ofInt 4)), (2, .ref 53), (1, .ref 16), (0, .ref 0)] [] h2 rfl ?_
  rw [show nI i + Int32.ofInt 4 = nI (i + 4) from nI_add i 4]
  exact K h2 hI2
set_option maxRecDepth 1000000 in
set_option maxHeartbeats 8000000 in
theorem rx_lw_needs {i : Nat} {h : rx_H} (hL : L ≤ 2048) (hi : i + 4 ≤ L) (hI : rx_Iv h) (K : ∀ h', rx_Iv h' → rx_T rx_cds rx_ms rx_lk0 (rx_rt L xs) 12 468 0 18 [(3, .int (nI (i + 4))), (2, .ref 53), (1, .ref 16), (0, .ref 0)] [] h' (fun v h' => v = some (.int 1) ∧ rx_hin rx_I0 h')) : rx_T rx_cds rx_ms rx_lk0 (rx_rt L xs) 12 468 0 270 [(3, .int (nI i)), (2, .ref 53), (1, .ref 16), (0, .ref 0)] [] h (fun v h' => v = some (.int 1) ∧ rx_hin rx_I0 h') := by
  have hX := rx_l_needs (rx_tok_m L xs) (k := xs (i + 1)) hI
  refine rx_T.to 1 271 [(3, .int (nI i)), (2, .ref 53), (1, .ref 16), (0, .ref 0)] [.ref 16] h rfl ?_
  refine rx_T.to 4 275 [(3, .int (nI i)), (2, .ref 53), (1, .ref 16), (0, .ref 0)] [.int ((nI i) + 1), .ref 0, .ref 16] h rfl ?_
  rw [show nI i + 1 = nI (i + 1) from nI_1 i]
  refine rx_T.iald (M := rxm_0) (n := L) (f := xs) rfl rfl rfl (vp_in_nI (show i + 1 < L by omega) (by omega)) ?_
  rw [nI_clamp (show i + 1 < 2 ^ 31 by omega)]
  refine rx_T.callk (d := 11) (w := 468) (M := rxm_0) (N := rxm_81) (j := 81) (nest := 0) (k := 0) (as' := [.int (xs (i + 1))]) (rest := []) rfl rfl rfl rfl rfl rfl rfl rfl rfl (Nat.le_of_ble_eq_true rfl) (Nat.le_of_ble_eq_true rfl) hI.1 (by decide) (hX (468 - (19 + 8)) (by decide)) ?_
  intro v1 h1 hp
  obtain ⟨x1, rfl, hh1, hM⟩ := hp
  refine rx_T.to 1 280 [(3, .int (nI i)), (2, .ref 53), (1, .ref 16), (0, .ref 0)] [] h1 rfl ?_
  refine rx_T.to 5 285 [(3, .int (nI i)), (2, .ref 53), (1, .ref 16), (0, .ref 0)] [.int ((nI i) + 1), .ref 0, .ref 53] h1 rfl ?_
  rw [show nI i + 1 = nI (i + 1) from nI_1 i]
  refine rx_T.iald (M := rxm_0) (n := L) (f := xs) rfl rfl rfl (vp_in_nI (show i + 1 < L by omega) (by omega)) ?_
  rw [nI_clamp (show i + 1 < 2 ^ 31 by omega)]
  refine rx_T.callk (d := 11) (w := 468) (M := rxm_0) (N := rxm_154) (j := 154) (nest := 0) (k := 37) (as' := [.int (xs (i + 1))]) (rest := []) rfl rfl rfl rfl rfl rfl rfl rfl rfl (Nat.le_of_ble_eq_true rfl) (Nat.le_of_ble_eq_true rfl) hh1 (by decide) (hM (468 - (19 + 6)) (by decide)) ?_
  intro v2 h2 hp
  obtain ⟨y1, rfl, he, hI2⟩ := hp
  refine rx_T.to 4 18 [(3, .int ((nI i) + Int32.ofInt 4)), (2, .ref 53), (1, .ref 16), (0, .ref 0)] [] h2 rfl ?_
  rw [show nI i + Int32.ofInt 4 = nI (i + 4) from nI_add i 4]
  exact K h2 hI2
set_option maxRecDepth 1000000 in
set_option maxHeartbeats 8000000 in
theorem rx_lw_need {i : Nat} {h : rx_H} (hL : L ≤ 2048) (hi : i + 4 ≤ L) (hI : rx_Iv h) (K : ∀ h', rx_Iv h' → rx_T rx_cds rx_ms rx_lk0 (rx_rt L xs) 12 468 0 18 [(3, .int (nI (i + 4))), (2, .ref 53), (1, .ref 16), (0, .ref 0)] [] h' (fun v h' => v = some (.int 1) ∧ rx_hin rx_I0 h')) : rx_T rx_cds rx_ms rx_lk0 (rx_rt L xs) 12 468 0 293 [(3, .int (nI i)), (2, .ref 53), (1, .ref 16), (0, .ref 0)] [] h (fun v h' => v = some (.int 1) ∧ rx_hin rx_I0 h') := by
  have hX := rx_l_need (rx_tok_m L xs) (k := xs (i + 1)) hI
  refine rx_T.to 1 294 [(3, .int (nI i)), (2, .ref 53), (1, .ref 16), (0, .ref 0)] [.ref 16] h rfl ?_
  refine rx_T.to 4 298 [(3, .int (nI i)), (2, .ref 53), (1, .ref 16), (0, .ref 0)] [.int ((nI i) + 1), .ref 0, .ref 16] h rfl ?_
  rw [show nI i + 1 = nI (i + 1) from nI_1 i]
  refine rx_T.iald (M := rxm_0) (n := L) (f := xs) rfl rfl rfl (vp_in_nI (show i + 1 < L by omega) (by omega)) ?_
  rw [nI_clamp (show i + 1 < 2 ^ 31 by omega)]
  refine rx_T.callk (d := 11) (w := 468) (M := rxm_0) (N := rxm_82) (j := 82) (nest := 0) (k := 0) (as' := [.int (xs (i + 1))]) (rest := []) rfl rfl rfl rfl rfl rfl rfl rfl rfl (Nat.le_of_ble_eq_true rfl) (Nat.le_of_ble_eq_true rfl) hI.1 (by decide) (hX (468 - (19 + 4)) (by decide)) ?_
  intro v1 h1 hp
  obtain ⟨x1, rfl, hh1, hM⟩ := hp
  refine rx_T.to 1 303 [(3, .int (nI i)), (2, .ref 53), (1, .ref 16), (0, .ref 0)] [] h1 rfl ?_
  refine rx_T.to 5 308 [(3, .int (nI i)), (2, .ref 53), (1, .ref 16), (0, .ref 0)] [.int ((nI i) + 1), .ref 0, .ref 53] h1 rfl ?_
  rw [show nI i + 1 = nI (i + 1) from nI_1 i]
  refine rx_T.iald (M := rxm_0) (n := L) (f := xs) rfl rfl rfl (vp_in_nI (show i + 1 < L by omega) (by omega)) ?_
  rw [nI_clamp (show i + 1 < 2 ^ 31 by omega)]
  refine rx_T.callk (d := 11) (w := 468) (M := rxm_0) (N := rxm_155) (j := 155) (nest := 0) (k := 37) (as' := [.int (xs (i + 1))]) (rest := []) rfl rfl rfl rfl rfl rfl rfl rfl rfl (Nat.le_of_ble_eq_true rfl) (Nat.le_of_ble_eq_true rfl) hh1 (by decide) (hM (468 - (19 + 2)) (by decide)) ?_
  intro v2 h2 hp
  obtain ⟨y1, rfl, he, hI2⟩ := hp
  refine rx_T.to 4 18 [(3, .int ((nI i) + Int32.ofInt 4)), (2, .ref 53), (1, .ref 16), (0, .ref 0)] [] h2 rfl ?_
  rw [show nI i + Int32.ofInt 4 = nI (i + 4) from nI_add i 4]
  exact K h2 hI2
set_option maxRecDepth 1000000 in
set_option maxHeartbeats 8000000 in
theorem rx_lw_line {i : Nat} {h : rx_H} (hL : L ≤ 2048) (hi : i + 4 ≤ L) (hI : rx_Iv h) (K : ∀ h', rx_Iv h' → rx_T rx_cds rx_ms rx_lk0 (rx_rt L xs) 12 468 0 18 [(3, .int (nI (i + 4))), (2, .ref 53), (1, .ref 16), (0, .ref 0)] [] h' (fun v h' => v = some (.int 1) ∧ rx_hin rx_I0 h')) : rx_T rx_cds rx_ms rx_lk0 (rx_rt L xs) 12 468 0 316 [(3, .int (nI i)), (2, .ref 53), (1, .ref 16), (0, .ref 0)] [] h (fun v h' => v = some (.int 1) ∧ rx_hin rx_I0 h') := by
  have hX := rx_l_line (rx_tok_m L xs) (x := xs (i + 1)) (y := xs (i + 2)) hI
  refine rx_T.to 1 317 [(3, .int (nI i)), (2, .ref 53), (1, .ref 16), (0, .ref 0)] [.ref 16] h rfl ?_
  refine rx_T.to 4 321 [(3, .int (nI i)), (2, .ref 53), (1, .ref 16), (0, .ref 0)] [.int ((nI i) + 1), .ref 0, .ref 16] h rfl ?_
  rw [show nI i + 1 = nI (i + 1) from nI_1 i]
  refine rx_T.iald (M := rxm_0) (n := L) (f := xs) rfl rfl rfl (vp_in_nI (show i + 1 < L by omega) (by omega)) ?_
  rw [nI_clamp (show i + 1 < 2 ^ 31 by omega)]
  refine rx_T.to 4 326 [(3, .int (nI i)), (2, .ref 53), (1, .ref 16), (0, .ref 0)] [.int ((nI i) + 2), .ref 0, .int (xs (i + 1)), .ref 16] h rfl ?_
  rw [show nI i + 2 = nI (i + 2) from nI_add i 2]
  refine rx_T.iald (M := rxm_0) (n := L) (f := xs) rfl rfl rfl (vp_in_nI (show i + 2 < L by omega) (by omega)) ?_
  rw [nI_clamp (show i + 2 < 2 ^ 31 by omega)]
  refine rx_T.callk (d := 11) (w := 468) (M := rxm_0) (N := rxm_83) (j := 83) (nest := 0) (k := 0) (as' := [.int (xs (i + 1)), .int (xs (i + 2))]) (rest := []) rfl rfl rfl rfl rfl rfl rfl rfl rfl (Nat.le_of_ble_eq_true rfl) (Nat.le_of_ble_eq_true rfl) hI.1 (by decide) (hX (468 - (19 + 3)) (by decide)) ?_
  intro v1 h1 hp
  obtain ⟨x1, rfl, hh1, hM⟩ := hp
  refine rx_T.to 1 331 [(3, .int (nI i)), (2, .ref 53), (1, .ref 16), (0, .ref 0)] [] h1 rfl ?_
  refine rx_T.to 5 336 [(3, .int (nI i)), (2, .ref 53), (1, .ref 16), (0, .ref 0)] [.int ((nI i) + 1), .ref 0, .ref 53] h1 rfl ?_
  rw [show nI i + 1 = nI (i + 1) from nI_1 i]
  refine rx_T.iald (M := rxm_0) (n := L) (f := xs) rfl rfl rfl (vp_in_nI (show i + 1 < L by omega) (by omega)) ?_
  rw [nI_clamp (show i + 1 < 2 ^ 31 by omega)]
  refine rx_T.to 4 341 [(3, .int (nI i)), (2, .ref 53), (1, .ref 16), (0, .ref 0)] [.int ((nI i) + 2), .ref 0, .int (xs (i + 1)), .ref 53] h1 rfl ?_
  rw [show nI i + 2 = nI (i + 2) from nI_add i 2]
  refine rx_T.iald (M := rxm_0) (n := L) (f := xs) rfl rfl rfl (vp_in_nI (show i + 2 < L by omega) (by omega)) ?_
  rw [nI_clamp (show i + 2 < 2 ^ 31 by omega)]
  refine rx_T.callk (d := 11) (w := 468) (M := rxm_0) (N := rxm_156) (j := 156) (nest := 0) (k := 37) (as' := [.int (xs (i + 1)), .int (xs (i + 2))]) (rest := []) rfl rfl rfl rfl rfl rfl rfl rfl rfl (Nat.le_of_ble_eq_true rfl) (Nat.le_of_ble_eq_true rfl) hh1 (by decide) (hM (468 - (19 + 3)) (by decide)) ?_
  intro v2 h2 hp
  obtain ⟨y1, rfl, he, hI2⟩ := hp
  refine rx_T.to 4 18 [(3, .int ((nI i) + Int32.ofInt 4)), (2, .ref 53), (1, .ref 16), (0, .ref 0)] [] h2 rfl ?_
  rw [show nI i + Int32.ofInt 4 = nI (i + 4) from nI_add i 4]
  exact K h2 hI2
set_option maxRecDepth 1000000 in
set_option maxHeartbeats 8000000 in
theorem rx_lw_circle {i : Nat} {h : rx_H} (hL : L ≤ 2048) (hi : i + 4 ≤ L) (hI : rx_Iv h) (K : ∀ h', rx_Iv h' → rx_T rx_cds rx_ms rx_lk0 (rx_rt L xs) 12 468 0 18 [(3, .int (nI (i + 4))), (2, .ref 53), (1, .ref 16), (0, .ref 0)] [] h' (fun v h' => v = some (.int 1) ∧ rx_hin rx_I0 h')) : rx_T rx_cds rx_ms rx_lk0 (rx_rt L xs) 12 468 0 349 [(3, .int (nI i)), (2, .ref 53), (1, .ref 16), (0, .ref 0)] [] h (fun v h' => v = some (.int 1) ∧ rx_hin rx_I0 h') := by
  have hX := rx_l_circle (rx_tok_m L xs) (x := xs (i + 1)) (y := xs (i + 2)) (z9 := xs (i + 3)) hI
  refine rx_T.to 1 350 [(3, .int (nI i)), (2, .ref 53), (1, .ref 16), (0, .ref 0)] [.ref 16] h rfl ?_
  refine rx_T.to 4 354 [(3, .int (nI i)), (2, .ref 53), (1, .ref 16), (0, .ref 0)] [.int ((nI i) + 1), .ref 0, .ref 16] h rfl ?_
  rw [show nI i + 1 = nI (i + 1) from nI_1 i]
  refine rx_T.iald (M := rxm_0) (n := L) (f := xs) rfl rfl rfl (vp_in_nI (show i + 1 < L by omega) (by omega)) ?_
  rw [nI_clamp (show i + 1 < 2 ^ 31 by omega)]
  refine rx_T.to 4 359 [(3, .int (nI i)), (2, .ref 53), (1, .ref 16), (0, .ref 0)] [.int ((nI i) + 2), .ref 0, .int (xs (i + 1)), .ref 16] h rfl ?_
  rw [show nI i + 2 = nI (i + 2) from nI_add i 2]
  refine rx_T.iald (M := rxm_0) (n := L) (f := xs) rfl rfl rfl (vp_in_nI (show i + 2 < L by omega) (by omega)) ?_
  rw [nI_clamp (show i + 2 < 2 ^ 31 by omega)]
  refine rx_T.to 4 364 [(3, .int (nI i)), (2, .ref 53), (1, .ref 16), (0, .ref 0)] [.int ((nI i) + 3), .ref 0, .int (xs (i + 2)), .int (xs (i + 1)), .ref 16] h rfl ?_
  rw [show nI i + 3 = nI (i + 3) from nI_add i 3]
  refine rx_T.iald (M := rxm_0) (n := L) (f := xs) rfl rfl rfl (vp_in_nI (show i + 3 < L by omega) (by omega)) ?_
  rw [nI_clamp (show i + 3 < 2 ^ 31 by omega)]
  refine rx_T.callk (d := 11) (w := 468) (M := rxm_0) (N := rxm_85) (j := 85) (nest := 0) (k := 0) (as' := [.int (xs (i + 1)), .int (xs (i + 2)), .int (xs (i + 3))]) (rest := []) rfl rfl rfl rfl rfl rfl rfl rfl rfl (Nat.le_of_ble_eq_true rfl) (Nat.le_of_ble_eq_true rfl) hI.1 (by decide) (hX (468 - (19 + 4)) (by decide)) ?_
  intro v1 h1 hp
  obtain ⟨x1, rfl, hh1, hM⟩ := hp
  refine rx_T.to 1 369 [(3, .int (nI i)), (2, .ref 53), (1, .ref 16), (0, .ref 0)] [] h1 rfl ?_
  refine rx_T.to 5 374 [(3, .int (nI i)), (2, .ref 53), (1, .ref 16), (0, .ref 0)] [.int ((nI i) + 1), .ref 0, .ref 53] h1 rfl ?_
  rw [show nI i + 1 = nI (i + 1) from nI_1 i]
  refine rx_T.iald (M := rxm_0) (n := L) (f := xs) rfl rfl rfl (vp_in_nI (show i + 1 < L by omega) (by omega)) ?_
  rw [nI_clamp (show i + 1 < 2 ^ 31 by omega)]
  refine rx_T.to 4 379 [(3, .int (nI i)), (2, .ref 53), (1, .ref 16), (0, .ref 0)] [.int ((nI i) + 2), .ref 0, .int (xs (i + 1)), .ref 53] h1 rfl ?_
  rw [show nI i + 2 = nI (i + 2) from nI_add i 2]
  refine rx_T.iald (M := rxm_0) (n := L) (f := xs) rfl rfl rfl (vp_in_nI (show i + 2 < L by omega) (by omega)) ?_
  rw [nI_clamp (show i + 2 < 2 ^ 31 by omega)]
  refine rx_T.to 4 384 [(3, .int (nI i)), (2, .ref 53), (1, .ref 16), (0, .ref 0)] [.int ((nI i) + 3), .ref 0, .int (xs (i + 2)), .int (xs (i + 1)), .ref 53] h1 rfl ?_
  rw [show nI i + 3 = nI (i + 3) from nI_add i 3]
  refine rx_T.iald (M := rxm_0) (n := L) (f := xs) rfl rfl rfl (vp_in_nI (show i + 3 < L by omega) (by omega)) ?_
  rw [nI_clamp (show i + 3 < 2 ^ 31 by omega)]
  refine rx_T.callk (d := 11) (w := 468) (M := rxm_0) (N := rxm_158) (j := 158) (nest := 0) (k := 37) (as' := [.int (xs (i + 1)), .int (xs (i + 2)), .int (xs (i + 3))]) (rest := []) rfl rfl rfl rfl rfl rfl rfl rfl rfl (Nat.le_of_ble_eq_true rfl) (Nat.le_of_ble_eq_true rfl) hh1 (by decide) (hM (468 - (19 + 4)) (by decide)) ?_
  intro v2 h2 hp
  obtain ⟨y1, rfl, he, hI2⟩ := hp
  refine rx_T.to 4 18 [(3, .int ((nI i) + Int32.ofInt 4)), (2, .ref 53), (1, .ref 16), (0, .ref 0)] [] h2 rfl ?_
  rw [show nI i + Int32.ofInt 4 = nI (i + 4) from nI_add i 4]
  exact K h2 hI2
set_option maxRecDepth 1000000 in
set_option maxHeartbeats 8000000 in
theorem rx_lw_length {i : Nat} {h : rx_H} (hL : L ≤ 2048) (hi : i + 4 ≤ L) (hI : rx_Iv h) (K : ∀ h', rx_Iv h' → rx_T rx_cds rx_ms rx_lk0 (rx_rt L xs) 12 468 0 18 [(3, .int (nI (i + 4))), (2, .ref 53), (1, .ref 16), (0, .ref 0)] [] h' (fun v h' => v = some (.int 1) ∧ rx_hin rx_I0 h')) : rx_T rx_cds rx_ms rx_lk0 (rx_rt L xs) 12 468 0 392 [(3, .int (nI i)), (2, .ref 53), (1, .ref 16), (0, .ref 0)] [] h (fun v h' => v = some (.int 1) ∧ rx_hin rx_I0 h') := by
  have hX := rx_l_length (rx_tok_m L xs) (x := xs (i + 1)) (y := xs (i + 2)) hI
  refine rx_T.to 1 393 [(3, .int (nI i)), (2, .ref 53), (1, .ref 16), (0, .ref 0)] [.ref 16] h rfl ?_
  refine rx_T.to 4 397 [(3, .int (nI i)), (2, .ref 53), (1, .ref 16), (0, .ref 0)] [.int ((nI i) + 1), .ref 0, .ref 16] h rfl ?_
  rw [show nI i + 1 = nI (i + 1) from nI_1 i]
  refine rx_T.iald (M := rxm_0) (n := L) (f := xs) rfl rfl rfl (vp_in_nI (show i + 1 < L by omega) (by omega)) ?_
  rw [nI_clamp (show i + 1 < 2 ^ 31 by omega)]
  refine rx_T.to 4 402 [(3, .int (nI i)), (2, .ref 53), (1, .ref 16), (0, .ref 0)] [.int ((nI i) + 2), .ref 0, .int (xs (i + 1)), .ref 16] h rfl ?_
  rw [show nI i + 2 = nI (i + 2) from nI_add i 2]
  refine rx_T.iald (M := rxm_0) (n := L) (f := xs) rfl rfl rfl (vp_in_nI (show i + 2 < L by omega) (by omega)) ?_
  rw [nI_clamp (show i + 2 < 2 ^ 31 by omega)]
  refine rx_T.callk (d := 11) (w := 468) (M := rxm_0) (N := rxm_87) (j := 87) (nest := 0) (k := 0) (as' := [.int (xs (i + 1)), .int (xs (i + 2))]) (rest := []) rfl rfl rfl rfl rfl rfl rfl rfl rfl (Nat.le_of_ble_eq_true rfl) (Nat.le_of_ble_eq_true rfl) hI.1 (by decide) (hX (468 - (19 + 3)) (by decide)) ?_
  intro v1 h1 hp
  obtain ⟨x1, rfl, hh1, hM⟩ := hp
  refine rx_T.to 1 407 [(3, .int (nI i)), (2, .ref 53), (1, .ref 16), (0, .ref 0)] [] h1 rfl ?_
  refine rx_T.to 5 412 [(3, .int (nI i)), (2, .ref 53), (1, .ref 16), (0, .ref 0)] [.int ((nI i) + 1), .ref 0, .ref 53] h1 rfl ?_
  rw [show nI i + 1 = nI (i + 1) from nI_1 i]
  refine rx_T.iald (M := rxm_0) (n := L) (f := xs) rfl rfl rfl (vp_in_nI (show i + 1 < L by omega) (by omega)) ?_
  rw [nI_clamp (show i + 1 < 2 ^ 31 by omega)]
  refine rx_T.to 4 417 [(3, .int (nI i)), (2, .ref 53), (1, .ref 16), (0, .ref 0)] [.int ((nI i) + 2), .ref 0, .int (xs (i + 1)), .ref 53] h1 rfl ?_
  rw [show nI i + 2 = nI (i + 2) from nI_add i 2]
  refine rx_T.iald (M := rxm_0) (n := L) (f := xs) rfl rfl rfl (vp_in_nI (show i + 2 < L by omega) (by omega)) ?_
  rw [nI_clamp (show i + 2 < 2 ^ 31 by omega)]
  refine rx_T.callk (d := 11) (w := 468) (M := rxm_0) (N := rxm_159) (j := 159) (nest := 0) (k := 37) (as' := [.int (xs (i + 1)), .int (xs (i + 2))]) (rest := []) rfl rfl rfl rfl rfl rfl rfl rfl rfl (Nat.le_of_ble_eq_true rfl) (Nat.le_of_ble_eq_true rfl) hh1 (by decide) (hM (468 - (19 + 3)) (by decide)) ?_
  intro v2 h2 hp
  obtain ⟨y1, rfl, he, hI2⟩ := hp
  refine rx_T.to 4 18 [(3, .int ((nI i) + Int32.ofInt 4)), (2, .ref 53), (1, .ref 16), (0, .ref 0)] [] h2 rfl ?_
  rw [show nI i + Int32.ofInt 4 = nI (i + 4) from nI_add i 4]
  exact K h2 hI2
set_option maxRecDepth 1000000 in
set_option maxHeartbeats 8000000 in
theorem rx_lw_told {i : Nat} {h : rx_H} (hL : L ≤ 2048) (hi : i + 4 ≤ L) (hI : rx_Iv h) (K : ∀ h', rx_Iv h' → rx_T rx_cds rx_ms rx_lk0 (rx_rt L xs) 12 468 0 18 [(3, .int (nI (i + 4))), (2, .ref 53), (1, .ref 16), (0, .ref 0)] [] h' (fun v h' => v = some (.int 1) ∧ rx_hin rx_I0 h')) : rx_T rx_cds rx_ms rx_lk0 (rx_rt L xs) 12 468 0 425 [(3, .int (nI i)), (2, .ref 53), (1, .ref 16), (0, .ref 0)] [] h (fun v h' => v = some (.int 1) ∧ rx_hin rx_I0 h') := by
  have hX := rx_l_told (rx_tok_m L xs) (k := xs (i + 1)) hI
  refine rx_T.to 1 426 [(3, .int (nI i)), (2, .ref 53), (1, .ref 16), (0, .ref 0)] [.ref 16] h rfl ?_
  refine rx_T.to 4 430 [(3, .int (nI i)), (2, .ref 53), (1, .ref 16), (0, .ref 0)] [.int ((nI i) + 1), .ref 0, .ref 16] h rfl ?_
  rw [show nI i + 1 = nI (i + 1) from nI_1 i]
  refine rx_T.iald (M := rxm_0) (n := L) (f := xs) rfl rfl rfl (vp_in_nI (show i + 1 < L by omega) (by omega)) ?_
  rw [nI_clamp (show i + 1 < 2 ^ 31 by omega)]
  refine rx_T.callk (d := 11) (w := 468) (M := rxm_0) (N := rxm_89) (j := 89) (nest := 0) (k := 0) (as' := [.int (xs (i + 1))]) (rest := []) rfl rfl rfl rfl rfl rfl rfl rfl rfl (Nat.le_of_ble_eq_true rfl) (Nat.le_of_ble_eq_true rfl) hI.1 (by decide) (hX (468 - (19 + 2)) (by decide)) ?_
  intro v1 h1 hp
  obtain ⟨x1, rfl, hh1, hM⟩ := hp
  refine rx_T.to 1 435 [(3, .int (nI i)), (2, .ref 53), (1, .ref 16), (0, .ref 0)] [] h1 rfl ?_
  refine rx_T.to 5 440 [(3, .int (nI i)), (2, .ref 53), (1, .ref 16), (0, .ref 0)] [.int ((nI i) + 1), .ref 0, .ref 53] h1 rfl ?_
  rw [show nI i + 1 = nI (i + 1) from nI_1 i]
  refine rx_T.iald (M := rxm_0) (n := L) (f := xs) rfl rfl rfl (vp_in_nI (show i + 1 < L by omega) (by omega)) ?_
  rw [nI_clamp (show i + 1 < 2 ^ 31 by omega)]
  refine rx_T.callk (d := 11) (w := 468) (M := rxm_0) (N := rxm_160) (j := 160) (nest := 0) (k := 37) (as' := [.int (xs (i + 1))]) (rest := []) rfl rfl rfl rfl rfl rfl rfl rfl rfl (Nat.le_of_ble_eq_true rfl) (Nat.le_of_ble_eq_true rfl) hh1 (by decide) (hM (468 - (19 + 5)) (by decide)) ?_
  intro v2 h2 hp
  obtain ⟨y1, rfl, he, hI2⟩ := hp
  refine rx_T.to 4 18 [(3, .int ((nI i) + Int32.ofInt 4)), (2, .ref 53), (1, .ref 16), (0, .ref 0)] [] h2 rfl ?_
  rw [show nI i + Int32.ofInt 4 = nI (i + 4) from nI_add i 4]
  exact K h2 hI2
set_option maxRecDepth 1000000 in
set_option maxHeartbeats 8000000 in
theorem rx_lw_default {i : Nat} {h : rx_H} (hI : rx_Iv h) (K : ∀ h', rx_Iv h' → rx_T rx_cds rx_ms rx_lk0 (rx_rt L xs) 12 468 0 18 [(3, .int (nI (i + 4))), (2, .ref 53), (1, .ref 16), (0, .ref 0)] [] h' (fun v h' => v = some (.int 1) ∧ rx_hin rx_I0 h')) : rx_T rx_cds rx_ms rx_lk0 (rx_rt L xs) 12 468 0 448 [(3, .int (nI i)), (2, .ref 53), (1, .ref 16), (0, .ref 0)] [] h (fun v h' => v = some (.int 1) ∧ rx_hin rx_I0 h') := by
  refine rx_T.to 2 18 [(3, .int ((nI i) + Int32.ofInt 4)), (2, .ref 53), (1, .ref 16), (0, .ref 0)] [] h rfl ?_
  rw [show nI i + Int32.ofInt 4 = nI (i + 4) from nI_add i 4]
  exact K h hI
set_option maxRecDepth 1000000 in
set_option maxHeartbeats 8000000 in
theorem rx_lw_end {i : Nat} {h : rx_H} (hI : rx_Iv h) : rx_T rx_cds rx_ms rx_lk0 (rx_rt L xs) 12 468 0 454 [(3, .int (nI i)), (2, .ref 53), (1, .ref 16), (0, .ref 0)] [] h (fun v h' => v = some (.int 1) ∧ rx_hin rx_I0 h') := by
  refine rx_T.to 1 455 [(3, .int (nI i)), (2, .ref 53), (1, .ref 16), (0, .ref 0)] [.int 1] h rfl ?_
  exact rx_T.ret (M := rxm_0) (v := some (.int 1)) rfl rfl rfl ⟨rfl, hI.1⟩
theorem rx_subL {L : Nat} (hL : L ≤ 2048) : (Int32.ofNat L - Int32.ofInt 4).toInt = (L : Int) - 4 := by
  have e : (nI L).toInt = (L : Int) := nI_toInt (by omega)
  have h1 := rxi_sub (x := nI L) (y := Int32.ofInt 4) (a := 0) (b := 2048) (c := 4) (d := 4) (by omega) (by omega) (by decide) (by decide) (by decide) (by decide)
  rw [show Int32.ofNat L = nI L from rfl, h1, e]
  rfl
set_option maxRecDepth 1000000 in
set_option maxHeartbeats 8000000 in
theorem rx_lw (hL : L ≤ 2048) : ∀ (q i : Nat) (h : rx_H), i ≤ 4096 → L ≤ i + 4 * q + 3 → rx_Iv h →
    rx_T rx_cds rx_ms rx_lk0 (rx_rt L xs) 12 468 0 18 [(3, .int (nI i)), (2, .ref 53), (1, .ref 16), (0, .ref 0)] [] h (fun v h' => v = some (.int 1) ∧ rx_hin rx_I0 h') := by
  intro q
  induction q with
  | zero =>
    intro i h hi4 hq hI
    refine rx_T.to 5 23 [(3, .int (nI i)), (2, .ref 53), (1, .ref 16), (0, .ref 0)] [.int (Int32.ofNat L - Int32.ofInt 4), .int (nI i)] h rfl ?_
    have hlt : Int32.ofNat L - Int32.ofInt 4 < nI i := by
      rw [Int32.lt_iff_toInt_lt, rx_subL hL, nI_toInt (by omega)]
      omega
    refine rx_T.op (M := rxm_0) (ins := .if_icmp .gt 431) rfl rfl rfl rfl (rx_b2_t 454 (decide_eq_true hlt) (by decide)) ?_
    exact rx_lw_end hI
  | succ q ih =>
    intro i h hi4 hq hI
    refine rx_T.to 5 23 [(3, .int (nI i)), (2, .ref 53), (1, .ref 16), (0, .ref 0)] [.int (Int32.ofNat L - Int32.ofInt 4), .int (nI i)] h rfl ?_
    refine rx_T.br2 (M := rxm_0) 454 rfl rfl (by decide) (fun _ => rx_lw_end hI) (fun q1 => ?_)
    have hge : i + 4 ≤ L := by
      have z : ¬ (Int32.ofNat L - Int32.ofInt 4) < nI i := of_decide_eq_false q1
      rw [Int32.lt_iff_toInt_lt, rx_subL hL, nI_toInt (by omega)] at z
      omega
    have nxt : ∀ h', rx_Iv h' → rx_T rx_cds rx_ms rx_lk0 (rx_rt L xs) 12 468 0 18 [(3, .int (nI (i + 4))), (2, .ref 53), (1, .ref 16), (0, .ref 0)] [] h' (fun v h' => v = some (.int 1) ∧ rx_hin rx_I0 h') := fun h' hI' => ih (i + 4) h' (by omega) (by omega) hI'
    refine rx_T.to 2 28 [(3, .int (nI i)), (2, .ref 53), (1, .ref 16), (0, .ref 0)] [.int (nI i), .ref 0] h rfl ?_
    refine rx_T.iald (M := rxm_0) (n := L) (f := xs) rfl rfl rfl (vp_in_nI (show i < L by omega) (by omega)) ?_
    rw [nI_clamp (show i < 2 ^ 31 by omega)]
    refine rx_T.to 2 32 [(3, .int (nI i)), (2, .ref 53), (1, .ref 16), (0, .ref 0)] [.int (xs i &&& (Int8.ofInt 15).toInt32)] h rfl ?_
    obtain ⟨k, hk, e⟩ := rx_and15 (xs i)
    match k, hk, e with
    | 0, _, e =>
      rw [e]
      refine rx_T.tsw (M := rxm_0) 64 96 rfl rfl (by decide +kernel) (by decide +kernel) (by decide) ?_
      exact rx_lw_point hL (by omega) hI nxt
    | 1, _, e =>
      rw [e]
      refine rx_T.tsw (M := rxm_0) 97 129 rfl rfl (by decide +kernel) (by decide +kernel) (by decide) ?_
      exact rx_lw_of hL (by omega) hI nxt
    | 2, _, e =>
      rw [e]
      refine rx_T.tsw (M := rxm_0) 120 152 rfl rfl (by decide +kernel) (by decide +kernel) (by decide) ?_
      exact rx_lw_isTrue hL (by omega) hI nxt
    | 3, _, e =>
      rw [e]
      refine rx_T.tsw (M := rxm_0) 143 175 rfl rfl (by decide +kernel) (by decide +kernel) (by decide) ?_
      exact rx_lw_fact hL (by omega) hI nxt
    | 4, _, e =>
      rw [e]
      refine rx_T.tsw (M := rxm_0) 166 198 rfl rfl (by decide +kernel) (by decide +kernel) (by decide) ?_
      exact rx_lw_turn hL (by omega) hI nxt
    | 5, _, e =>
      rw [e]
      refine rx_T.tsw (M := rxm_0) 215 247 rfl rfl (by decide +kernel) (by decide +kernel) (by decide) ?_
      exact rx_lw_follows hL (by omega) hI nxt
    | 6, _, e =>
      rw [e]
      refine rx_T.tsw (M := rxm_0) 238 270 rfl rfl (by decide +kernel) (by decide +kernel) (by decide) ?_
      exact rx_lw_needs hL (by omega) hI nxt
    | 7, _, e =>
      rw [e]
      refine rx_T.tsw (M := rxm_0) 261 293 rfl rfl (by decide +kernel) (by decide +kernel) (by decide) ?_
      exact rx_lw_need hL (by omega) hI nxt
    | 8, _, e =>
      rw [e]
      refine rx_T.tsw (M := rxm_0) 284 316 rfl rfl (by decide +kernel) (by decide +kernel) (by decide) ?_
      exact rx_lw_line hL (by omega) hI nxt
    | 9, _, e =>
      rw [e]
      refine rx_T.tsw (M := rxm_0) 317 349 rfl rfl (by decide +kernel) (by decide +kernel) (by decide) ?_
      exact rx_lw_circle hL (by omega) hI nxt
    | 10, _, e =>
      rw [e]
      refine rx_T.tsw (M := rxm_0) 360 392 rfl rfl (by decide +kernel) (by decide +kernel) (by decide) ?_
      exact rx_lw_length hL (by omega) hI nxt
    | 11, _, e =>
      rw [e]
      refine rx_T.tsw (M := rxm_0) 393 425 rfl rfl (by decide +kernel) (by decide +kernel) (by decide) ?_
      exact rx_lw_told hL (by omega) hI nxt
    | 12, _, e =>
      rw [e]
      refine rx_T.tsd2 (M := rxm_0) 448 rfl rfl (Or.inr (by decide +kernel)) (by decide) ?_
      exact rx_lw_default hI nxt
    | 13, _, e =>
      rw [e]
      refine rx_T.tsd2 (M := rxm_0) 448 rfl rfl (Or.inr (by decide +kernel)) (by decide) ?_
      exact rx_lw_default hI nxt
    | 14, _, e =>
      rw [e]
      refine rx_T.tsd2 (M := rxm_0) 448 rfl rfl (Or.inr (by decide +kernel)) (by decide) ?_
      exact rx_lw_default hI nxt
    | 15, _, e =>
      rw [e]
      refine rx_T.tsd2 (M := rxm_0) 448 rfl rfl (Or.inr (by decide +kernel)) (by decide) ?_
      exact rx_lw_default hI nxt
    | n + 16, hk, _ => exact absurd hk (by omega)
set_option maxRecDepth 1000000 in
set_option maxHeartbeats 8000000 in
theorem rx_px_all (L : Nat) (xs : Nat → Int32) (hL : L ≤ 2048) : ∃ (f : Nat) (h' : rx_H), rx_run rx_cds rx_ms rx_lk0 (rx_rt L xs) f 12 468 0 0 [(0, .ref 0)] [] [] = some (some (.int 1), h') ∧ h'.length ≤ 600000 ∧ rx_sz h' ≤ 7302250 := by
  have K : rx_T rx_cds rx_ms rx_lk0 (rx_rt L xs) 12 468 0 0 [(0, .ref 0)] [] [] (fun v h' => v = some (.int 1) ∧ h'.length ≤ 600000 ∧ rx_sz h' ≤ 7302250) := by
    refine rx_T.stretch0 (rx_rt0_in L xs) rx_s0_at ?_
    show rx_T rx_cds rx_ms rx_lk0 (rx_rt L xs) 12 468 0 18 [(3, .int (nI 0)), (2, .ref 53), (1, .ref 16), (0, .ref 0)] [] rx_hp0 _
    rw [rx_hp0_eq]
    obtain ⟨f, v, h', e, hv, hh⟩ := rx_lw (L := L) (xs := xs) hL L 0 rx_lay0 (by decide) (by omega) rx_iv0
    have hl : h'.length = rx_lay0.length := hh.1
    have hs := rx_run_sz f _ _ _ _ _ _ _ _ _ e hl
    have hz := rx_lay0_z
    exact ⟨f, v, h', e, hv, by omega, by omega⟩
  obtain ⟨f, v, h', e, rfl, h1, h2⟩ := K
  exact ⟨f, h', e, h1, h2⟩
end RXLW
