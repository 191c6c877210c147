section RXHM
variable {rt : rx_R} {d w : Nat} {P : Option Value → rx_H → Prop}
set_option maxRecDepth 100000 in
set_option maxHeartbeats 4000000 in
theorem rx_mholds {K : Nat} {h : rx_H} (hK6 : K ≤ 6) (hw : 90 ≤ w) (hh : rx_hin rx_I0 h) : rx_T rx_cds rx_ms rx_lk0 rt (d + 3) w 102 0 [(0, .ref 53), (1, .int (nI K))] [] h (fun v h' => ((v = some (.int 1) ∧ (rx_HV (rx_gI h 38) (rx_gI h 39) K (rx_p h))) ∨ (v = some (.int 0) ∧ ¬ (rx_HV (rx_gI h 38) (rx_gI h 39) K (rx_p h)))) ∧ h' = h) := by
  refine rx_T.to 1 1 [(0, .ref 53), (1, .int (nI K))] [.int (nI K)] h rfl ?_
  match K, hK6 with
  | 0, _ =>
    refine rx_T.tsw (M := rxm_102) 39 40 rfl rfl (by decide +kernel) (by decide +kernel) (by decide) ?_
    refine rx_T.to 3 43 [(0, .ref 53), (1, .int (nI 0))] [.int 0, .ref 53, .ref 53] h rfl ?_
    refine rx_T.callm (M := rxm_102) (N := rxm_103) (j := 103) (nest := 0) (as' := [.int (nI 0)]) (rest := [.ref 53]) rfl rfl rfl rfl rfl rfl rfl rfl (Nat.le_of_ble_eq_true rfl) (Nat.le_of_ble_eq_true rfl) hh (show 19 + 2 ≤ w by omega) (rx_mp (i := 0) (by decide) hh) ?_
    intro v0 h0 hp0
    obtain ⟨rfl, e0⟩ := hp0
    rw [e0]
    refine rx_T.to 2 48 [(0, .ref 53), (1, .int (nI 0))] [.int 1, .ref 53, .int (nI (rx_p h 0)), .ref 53] h rfl ?_
    refine rx_T.callm (M := rxm_102) (N := rxm_103) (j := 103) (nest := 0) (as' := [.int (nI 1)]) (rest := [.int (nI (rx_p h 0)), .ref 53]) rfl rfl rfl rfl rfl rfl rfl rfl (Nat.le_of_ble_eq_true rfl) (Nat.le_of_ble_eq_true rfl) hh (show 19 + 2 ≤ w by omega) (rx_mp (i := 1) (by decide) hh) ?_
    intro v1 h1 hp1
    obtain ⟨rfl, e1⟩ := hp1
    rw [e1]
    refine rx_T.to 2 53 [(0, .ref 53), (1, .int (nI 0))] [.int 2, .ref 53, .int (nI (rx_p h 1)), .int (nI (rx_p h 0)), .ref 53] h rfl ?_
    refine rx_T.callm (M := rxm_102) (N := rxm_103) (j := 103) (nest := 0) (as' := [.int (nI 2)]) (rest := [.int (nI (rx_p h 1)), .int (nI (rx_p h 0)), .ref 53]) rfl rfl rfl rfl rfl rfl rfl rfl (Nat.le_of_ble_eq_true rfl) (Nat.le_of_ble_eq_true rfl) hh (show 19 + 2 ≤ w by omega) (rx_mp (i := 2) (by decide) hh) ?_
    intro v2 h2 hp2
    obtain ⟨rfl, e2⟩ := hp2
    rw [e2]
    refine rx_T.callm (M := rxm_102) (N := rxm_104) (j := 104) (nest := 0) (as' := [.int (nI (rx_p h 0)), .int (nI (rx_p h 1)), .int (nI (rx_p h 2))]) (rest := []) rfl rfl rfl rfl rfl rfl rfl rfl (Nat.le_of_ble_eq_true rfl) (Nat.le_of_ble_eq_true rfl) hh (show 19 + 4 ≤ w by omega) (rx_isProper (by have := (rx_p_of hh (show 0 < 8 by decide)).2; omega) (by have := (rx_p_of hh (show 1 < 8 by decide)).2; omega) (by have := (rx_p_of hh (show 2 < 8 by decide)).2; omega) (show 24 ≤ w - (19 + 4) by omega) hh) ?_
    intro v8 h8 hp8
    obtain ⟨rfl, e8⟩ := hp8
    rw [e8]
    refine rx_T.br1 (M := rxm_102) (x := rx_pv (rx_gI h 38) (rx_gI h 39) (rx_p h 0) (rx_p h 1) (rx_p h 2)) 66 rfl rfl (by decide) (fun q => ?_) (fun q => ?_)
    · have z : ¬ rx_pv (rx_gI h 38) (rx_gI h 39) (rx_p h 0) (rx_p h 1) (rx_p h 2) = 0 := by simpa [rx_c1] using q
      refine rx_T.to 1 67 [(0, .ref 53), (1, .int (nI 0))] [.int 0] h rfl ?_
      exact rx_T.ret (M := rxm_102) (v := some (.int 0)) rfl rfl rfl ⟨Or.inr ⟨rfl, fun y => z (rx_pv0.mpr y)⟩, rfl⟩
    · have z : rx_pv (rx_gI h 38) (rx_gI h 39) (rx_p h 0) (rx_p h 1) (rx_p h 2) = 0 := by simpa [rx_c1] using q
      refine rx_T.to 2 67 [(0, .ref 53), (1, .int (nI 0))] [.int 1] h rfl ?_
      exact rx_T.ret (M := rxm_102) (v := some (.int 1)) rfl rfl rfl ⟨Or.inl ⟨rfl, rx_pv0.mp z⟩, rfl⟩
  | 1, _ =>
    refine rx_T.tsw (M := rxm_102) 67 68 rfl rfl (by decide +kernel) (by decide +kernel) (by decide) ?_
    refine rx_T.to 3 71 [(0, .ref 53), (1, .int (nI 1))] [.int 0, .ref 53, .ref 53] h rfl ?_
    refine rx_T.callm (M := rxm_102) (N := rxm_103) (j := 103) (nest := 0) (as' := [.int (nI 0)]) (rest := [.ref 53]) rfl rfl rfl rfl rfl rfl rfl rfl (Nat.le_of_ble_eq_true rfl) (Nat.le_of_ble_eq_true rfl) hh (show 19 + 2 ≤ w by omega) (rx_mp (i := 0) (by decide) hh) ?_
    intro v0 h0 hp0
    obtain ⟨rfl, e0⟩ := hp0
    rw [e0]
    refine rx_T.to 2 76 [(0, .ref 53), (1, .int (nI 1))] [.int 1, .ref 53, .int (nI (rx_p h 0)), .ref 53] h rfl ?_
    refine rx_T.callm (M := rxm_102) (N := rxm_103) (j := 103) (nest := 0) (as' := [.int (nI 1)]) (rest := [.int (nI (rx_p h 0)), .ref 53]) rfl rfl rfl rfl rfl rfl rfl rfl (Nat.le_of_ble_eq_true rfl) (Nat.le_of_ble_eq_true rfl) hh (show 19 + 2 ≤ w by omega) (rx_mp (i := 1) (by decide) hh) ?_
    intro v1 h1 hp1
    obtain ⟨rfl, e1⟩ := hp1
    rw [e1]
    refine rx_T.to 2 81 [(0, .ref 53), (1, .int (nI 1))] [.int 2, .ref 53, .int (nI (rx_p h 1)), .int (nI (rx_p h 0)), .ref 53] h rfl ?_
    refine rx_T.callm (M := rxm_102) (N := rxm_103) (j := 103) (nest := 0) (as' := [.int (nI 2)]) (rest := [.int (nI (rx_p h 1)), .int (nI (rx_p h 0)), .ref 53]) rfl rfl rfl rfl rfl rfl rfl rfl (Nat.le_of_ble_eq_true rfl) (Nat.le_of_ble_eq_true rfl) hh (show 19 + 2 ≤ w by omega) (rx_mp (i := 2) (by decide) hh) ?_
    intro v2 h2 hp2
    obtain ⟨rfl, e2⟩ := hp2
    rw [e2]
    refine rx_T.to 2 86 [(0, .ref 53), (1, .int (nI 1))] [.int 3, .ref 53, .int (nI (rx_p h 2)), .int (nI (rx_p h 1)), .int (nI (rx_p h 0)), .ref 53] h rfl ?_
    refine rx_T.callm (M := rxm_102) (N := rxm_103) (j := 103) (nest := 0) (as' := [.int (nI 3)]) (rest := [.int (nI (rx_p h 2)), .int (nI (rx_p h 1)), .int (nI (rx_p h 0)), .ref 53]) rfl rfl rfl rfl rfl rfl rfl rfl (Nat.le_of_ble_eq_true rfl) (Nat.le_of_ble_eq_true rfl) hh (show 19 + 2 ≤ w by omega) (rx_mp (i := 3) (by decide) hh) ?_
    intro v3 h3 hp3
    obtain ⟨rfl, e3⟩ := hp3
    rw [e3]
    refine rx_T.callm (M := rxm_102) (N := rxm_105) (j := 105) (nest := 0) (as' := [.int (nI (rx_p h 0)), .int (nI (rx_p h 1)), .int (nI (rx_p h 2)), .int (nI (rx_p h 3))]) (rest := []) rfl rfl rfl rfl rfl rfl rfl rfl (Nat.le_of_ble_eq_true rfl) (Nat.le_of_ble_eq_true rfl) hh (show 19 + 5 ≤ w by omega) (rx_cross (by have := (rx_p_of hh (show 0 < 8 by decide)).2; omega) (by have := (rx_p_of hh (show 1 < 8 by decide)).2; omega) (by have := (rx_p_of hh (show 2 < 8 by decide)).2; omega) (by have := (rx_p_of hh (show 3 < 8 by decide)).2; omega) hh) ?_
    intro v8 h8 hp8
    obtain ⟨rfl, e8⟩ := hp8
    rw [e8]
    refine rx_T.to 2 94 [(0, .ref 53), (1, .int (nI 1))] [.int (lg_cmp (rx_cr (rx_gI h 38) (rx_gI h 39) (rx_p h 0) (rx_p h 1) (rx_p h 2) (rx_p h 3)) ((Int64.ofNat 0)))] h rfl ?_
    refine rx_T.br1 (M := rxm_102) 101 rfl rfl (by decide) (fun q => ?_) (fun q => ?_)
    · refine rx_T.to 1 102 [(0, .ref 53), (1, .int (nI 1))] [.int 0] h rfl ?_
      exact rx_T.ret (M := rxm_102) (v := some (.int 0)) rfl rfl rfl ⟨Or.inr ⟨rfl, rx_ne_t q⟩, rfl⟩
    · refine rx_T.to 2 102 [(0, .ref 53), (1, .int (nI 1))] [.int 1] h rfl ?_
      exact rx_T.ret (M := rxm_102) (v := some (.int 1)) rfl rfl rfl ⟨Or.inl ⟨rfl, rx_ne_f q⟩, rfl⟩
  | 2, _ =>
    refine rx_T.tsw (M := rxm_102) 102 103 rfl rfl (by decide +kernel) (by decide +kernel) (by decide) ?_
    refine rx_T.to 3 106 [(0, .ref 53), (1, .int (nI 2))] [.int 0, .ref 53, .ref 53] h rfl ?_
    refine rx_T.callm (M := rxm_102) (N := rxm_103) (j := 103) (nest := 0) (as' := [.int (nI 0)]) (rest := [.ref 53]) rfl rfl rfl rfl rfl rfl rfl rfl (Nat.le_of_ble_eq_true rfl) (Nat.le_of_ble_eq_true rfl) hh (show 19 + 2 ≤ w by omega) (rx_mp (i := 0) (by decide) hh) ?_
    intro v0 h0 hp0
    obtain ⟨rfl, e0⟩ := hp0
    rw [e0]
    refine rx_T.to 2 111 [(0, .ref 53), (1, .int (nI 2))] [.int 1, .ref 53, .int (nI (rx_p h 0)), .ref 53] h rfl ?_
    refine rx_T.callm (M := rxm_102) (N := rxm_103) (j := 103) (nest := 0) (as' := [.int (nI 1)]) (rest := [.int (nI (rx_p h 0)), .ref 53]) rfl rfl rfl rfl rfl rfl rfl rfl (Nat.le_of_ble_eq_true rfl) (Nat.le_of_ble_eq_true rfl) hh (show 19 + 2 ≤ w by omega) (rx_mp (i := 1) (by decide) hh) ?_
    intro v1 h1 hp1
    obtain ⟨rfl, e1⟩ := hp1
    rw [e1]
    refine rx_T.to 2 116 [(0, .ref 53), (1, .int (nI 2))] [.int 2, .ref 53, .int (nI (rx_p h 1)), .int (nI (rx_p h 0)), .ref 53] h rfl ?_
    refine rx_T.callm (M := rxm_102) (N := rxm_103) (j := 103) (nest := 0) (as' := [.int (nI 2)]) (rest := [.int (nI (rx_p h 1)), .int (nI (rx_p h 0)), .ref 53]) rfl rfl rfl rfl rfl rfl rfl rfl (Nat.le_of_ble_eq_true rfl) (Nat.le_of_ble_eq_true rfl) hh (show 19 + 2 ≤ w by omega) (rx_mp (i := 2) (by decide) hh) ?_
    intro v2 h2 hp2
    obtain ⟨rfl, e2⟩ := hp2
    rw [e2]
    refine rx_T.to 2 121 [(0, .ref 53), (1, .int (nI 2))] [.int 3, .ref 53, .int (nI (rx_p h 2)), .int (nI (rx_p h 1)), .int (nI (rx_p h 0)), .ref 53] h rfl ?_
    refine rx_T.callm (M := rxm_102) (N := rxm_103) (j := 103) (nest := 0) (as' := [.int (nI 3)]) (rest := [.int (nI (rx_p h 2)), .int (nI (rx_p h 1)), .int (nI (rx_p h 0)), .ref 53]) rfl rfl rfl rfl rfl rfl rfl rfl (Nat.le_of_ble_eq_true rfl) (Nat.le_of_ble_eq_true rfl) hh (show 19 + 2 ≤ w by omega) (rx_mp (i := 3) (by decide) hh) ?_
    intro v3 h3 hp3
    obtain ⟨rfl, e3⟩ := hp3
    rw [e3]
    refine rx_T.callm (M := rxm_102) (N := rxm_106) (j := 106) (nest := 0) (as' := [.int (nI (rx_p h 0)), .int (nI (rx_p h 1)), .int (nI (rx_p h 2)), .int (nI (rx_p h 3))]) (rest := []) rfl rfl rfl rfl rfl rfl rfl rfl (Nat.le_of_ble_eq_true rfl) (Nat.le_of_ble_eq_true rfl) hh (show 19 + 5 ≤ w by omega) (rx_mdot (by have := (rx_p_of hh (show 0 < 8 by decide)).2; omega) (by have := (rx_p_of hh (show 1 < 8 by decide)).2; omega) (by have := (rx_p_of hh (show 2 < 8 by decide)).2; omega) (by have := (rx_p_of hh (show 3 < 8 by decide)).2; omega) hh) ?_
    intro v8 h8 hp8
    obtain ⟨rfl, e8⟩ := hp8
    rw [e8]
    refine rx_T.to 2 129 [(0, .ref 53), (1, .int (nI 2))] [.int (lg_cmp (rx_dt (rx_gI h 38) (rx_gI h 39) (rx_p h 0) (rx_p h 1) (rx_p h 2) (rx_p h 3)) ((Int64.ofNat 0)))] h rfl ?_
    refine rx_T.br1 (M := rxm_102) 136 rfl rfl (by decide) (fun q => ?_) (fun q => ?_)
    · refine rx_T.to 1 137 [(0, .ref 53), (1, .int (nI 2))] [.int 0] h rfl ?_
      exact rx_T.ret (M := rxm_102) (v := some (.int 0)) rfl rfl rfl ⟨Or.inr ⟨rfl, rx_ne_t q⟩, rfl⟩
    · refine rx_T.to 2 137 [(0, .ref 53), (1, .int (nI 2))] [.int 1] h rfl ?_
      exact rx_T.ret (M := rxm_102) (v := some (.int 1)) rfl rfl rfl ⟨Or.inl ⟨rfl, rx_ne_f q⟩, rfl⟩
  | 3, _ =>
    refine rx_T.tsw (M := rxm_102) 137 138 rfl rfl (by decide +kernel) (by decide +kernel) (by decide) ?_
    refine rx_T.to 3 141 [(0, .ref 53), (1, .int (nI 3))] [.int 0, .ref 53, .ref 53] h rfl ?_
    refine rx_T.callm (M := rxm_102) (N := rxm_103) (j := 103) (nest := 0) (as' := [.int (nI 0)]) (rest := [.ref 53]) rfl rfl rfl rfl rfl rfl rfl rfl (Nat.le_of_ble_eq_true rfl) (Nat.le_of_ble_eq_true rfl) hh (show 19 + 2 ≤ w by omega) (rx_mp (i := 0) (by decide) hh) ?_
    intro v0 h0 hp0
    obtain ⟨rfl, e0⟩ := hp0
    rw [e0]
    refine rx_T.to 2 146 [(0, .ref 53), (1, .int (nI 3))] [.int 1, .ref 53, .int (nI (rx_p h 0)), .ref 53] h rfl ?_
    refine rx_T.callm (M := rxm_102) (N := rxm_103) (j := 103) (nest := 0) (as' := [.int (nI 1)]) (rest := [.int (nI (rx_p h 0)), .ref 53]) rfl rfl rfl rfl rfl rfl rfl rfl (Nat.le_of_ble_eq_true rfl) (Nat.le_of_ble_eq_true rfl) hh (show 19 + 2 ≤ w by omega) (rx_mp (i := 1) (by decide) hh) ?_
    intro v1 h1 hp1
    obtain ⟨rfl, e1⟩ := hp1
    rw [e1]
    refine rx_T.to 2 151 [(0, .ref 53), (1, .int (nI 3))] [.int 2, .ref 53, .int (nI (rx_p h 1)), .int (nI (rx_p h 0)), .ref 53] h rfl ?_
    refine rx_T.callm (M := rxm_102) (N := rxm_103) (j := 103) (nest := 0) (as' := [.int (nI 2)]) (rest := [.int (nI (rx_p h 1)), .int (nI (rx_p h 0)), .ref 53]) rfl rfl rfl rfl rfl rfl rfl rfl (Nat.le_of_ble_eq_true rfl) (Nat.le_of_ble_eq_true rfl) hh (show 19 + 2 ≤ w by omega) (rx_mp (i := 2) (by decide) hh) ?_
    intro v2 h2 hp2
    obtain ⟨rfl, e2⟩ := hp2
    rw [e2]
    refine rx_T.to 2 156 [(0, .ref 53), (1, .int (nI 3))] [.int 3, .ref 53, .int (nI (rx_p h 2)), .int (nI (rx_p h 1)), .int (nI (rx_p h 0)), .ref 53] h rfl ?_
    refine rx_T.callm (M := rxm_102) (N := rxm_103) (j := 103) (nest := 0) (as' := [.int (nI 3)]) (rest := [.int (nI (rx_p h 2)), .int (nI (rx_p h 1)), .int (nI (rx_p h 0)), .ref 53]) rfl rfl rfl rfl rfl rfl rfl rfl (Nat.le_of_ble_eq_true rfl) (Nat.le_of_ble_eq_true rfl) hh (show 19 + 2 ≤ w by omega) (rx_mp (i := 3) (by decide) hh) ?_
    intro v3 h3 hp3
    obtain ⟨rfl, e3⟩ := hp3
    rw [e3]
    refine rx_T.callm (M := rxm_102) (N := rxm_107) (j := 107) (nest := 0) (as' := [.int (nI (rx_p h 0)), .int (nI (rx_p h 1)), .int (nI (rx_p h 2)), .int (nI (rx_p h 3))]) (rest := []) rfl rfl rfl rfl rfl rfl rfl rfl (Nat.le_of_ble_eq_true rfl) (Nat.le_of_ble_eq_true rfl) hh (show 19 + 11 ≤ w by omega) (rx_mcirc (by have := (rx_p_of hh (show 0 < 8 by decide)).2; omega) (by have := (rx_p_of hh (show 1 < 8 by decide)).2; omega) (by have := (rx_p_of hh (show 2 < 8 by decide)).2; omega) (by have := (rx_p_of hh (show 3 < 8 by decide)).2; omega) (show 50 ≤ w - (19 + 11) by omega) hh) ?_
    intro v99 h99 hp99
    obtain ⟨hp99, e99⟩ := hp99
    rw [e99]
    rcases hp99 with ⟨rfl, hq⟩ | ⟨rfl, hq⟩
    · exact rx_T.ret (M := rxm_102) (v := some (.int 1)) rfl rfl rfl ⟨Or.inl ⟨rfl, hq⟩, rfl⟩
    · exact rx_T.ret (M := rxm_102) (v := some (.int 0)) rfl rfl rfl ⟨Or.inr ⟨rfl, hq⟩, rfl⟩
  | 4, _ =>
    refine rx_T.tsw (M := rxm_102) 162 163 rfl rfl (by decide +kernel) (by decide +kernel) (by decide) ?_
    refine rx_T.to 3 166 [(0, .ref 53), (1, .int (nI 4))] [.int 0, .ref 53, .ref 53] h rfl ?_
    refine rx_T.callm (M := rxm_102) (N := rxm_103) (j := 103) (nest := 0) (as' := [.int (nI 0)]) (rest := [.ref 53]) rfl rfl rfl rfl rfl rfl rfl rfl (Nat.le_of_ble_eq_true rfl) (Nat.le_of_ble_eq_true rfl) hh (show 19 + 2 ≤ w by omega) (rx_mp (i := 0) (by decide) hh) ?_
    intro v0 h0 hp0
    obtain ⟨rfl, e0⟩ := hp0
    rw [e0]
    refine rx_T.to 2 171 [(0, .ref 53), (1, .int (nI 4))] [.int 1, .ref 53, .int (nI (rx_p h 0)), .ref 53] h rfl ?_
    refine rx_T.callm (M := rxm_102) (N := rxm_103) (j := 103) (nest := 0) (as' := [.int (nI 1)]) (rest := [.int (nI (rx_p h 0)), .ref 53]) rfl rfl rfl rfl rfl rfl rfl rfl (Nat.le_of_ble_eq_true rfl) (Nat.le_of_ble_eq_true rfl) hh (show 19 + 2 ≤ w by omega) (rx_mp (i := 1) (by decide) hh) ?_
    intro v1 h1 hp1
    obtain ⟨rfl, e1⟩ := hp1
    rw [e1]
    refine rx_T.to 2 176 [(0, .ref 53), (1, .int (nI 4))] [.int 0, .ref 53, .int (nI (rx_p h 1)), .int (nI (rx_p h 0)), .ref 53] h rfl ?_
    refine rx_T.callm (M := rxm_102) (N := rxm_103) (j := 103) (nest := 0) (as' := [.int (nI 0)]) (rest := [.int (nI (rx_p h 1)), .int (nI (rx_p h 0)), .ref 53]) rfl rfl rfl rfl rfl rfl rfl rfl (Nat.le_of_ble_eq_true rfl) (Nat.le_of_ble_eq_true rfl) hh (show 19 + 2 ≤ w by omega) (rx_mp (i := 0) (by decide) hh) ?_
    intro v2 h2 hp2
    obtain ⟨rfl, e2⟩ := hp2
    rw [e2]
    refine rx_T.to 2 181 [(0, .ref 53), (1, .int (nI 4))] [.int 1, .ref 53, .int (nI (rx_p h 0)), .int (nI (rx_p h 1)), .int (nI (rx_p h 0)), .ref 53] h rfl ?_
    refine rx_T.callm (M := rxm_102) (N := rxm_103) (j := 103) (nest := 0) (as' := [.int (nI 1)]) (rest := [.int (nI (rx_p h 0)), .int (nI (rx_p h 1)), .int (nI (rx_p h 0)), .ref 53]) rfl rfl rfl rfl rfl rfl rfl rfl (Nat.le_of_ble_eq_true rfl) (Nat.le_of_ble_eq_true rfl) hh (show 19 + 2 ≤ w by omega) (rx_mp (i := 1) (by decide) hh) ?_
    intro v3 h3 hp3
    obtain ⟨rfl, e3⟩ := hp3
    rw [e3]
    refine rx_T.callm (M := rxm_102) (N := rxm_106) (j := 106) (nest := 0) (as' := [.int (nI (rx_p h 0)), .int (nI (rx_p h 1)), .int (nI (rx_p h 0)), .int (nI (rx_p h 1))]) (rest := []) rfl rfl rfl rfl rfl rfl rfl rfl (Nat.le_of_ble_eq_true rfl) (Nat.le_of_ble_eq_true rfl) hh (show 19 + 5 ≤ w by omega) (rx_mdot (by have := (rx_p_of hh (show 0 < 8 by decide)).2; omega) (by have := (rx_p_of hh (show 1 < 8 by decide)).2; omega) (by have := (rx_p_of hh (show 0 < 8 by decide)).2; omega) (by have := (rx_p_of hh (show 1 < 8 by decide)).2; omega) hh) ?_
    intro v24 h24 hp24
    obtain ⟨rfl, e24⟩ := hp24
    rw [e24]
    refine rx_T.to 3 190 [(0, .ref 53), (1, .int (nI 4))] [.int 2, .ref 53, .ref 53, .long (rx_dt (rx_gI h 38) (rx_gI h 39) (rx_p h 0) (rx_p h 1) (rx_p h 0) (rx_p h 1))] h rfl ?_
    refine rx_T.callm (M := rxm_102) (N := rxm_103) (j := 103) (nest := 0) (as' := [.int (nI 2)]) (rest := [.ref 53, .long (rx_dt (rx_gI h 38) (rx_gI h 39) (rx_p h 0) (rx_p h 1) (rx_p h 0) (rx_p h 1))]) rfl rfl rfl rfl rfl rfl rfl rfl (Nat.le_of_ble_eq_true rfl) (Nat.le_of_ble_eq_true rfl) hh (show 19 + 2 ≤ w by omega) (rx_mp (i := 2) (by decide) hh) ?_
    intro v4 h4 hp4
    obtain ⟨rfl, e4⟩ := hp4
    rw [e4]
    refine rx_T.to 2 195 [(0, .ref 53), (1, .int (nI 4))] [.int 3, .ref 53, .int (nI (rx_p h 2)), .ref 53, .long (rx_dt (rx_gI h 38) (rx_gI h 39) (rx_p h 0) (rx_p h 1) (rx_p h 0) (rx_p h 1))] h rfl ?_
    refine rx_T.callm (M := rxm_102) (N := rxm_103) (j := 103) (nest := 0) (as' := [.int (nI 3)]) (rest := [.int (nI (rx_p h 2)), .ref 53, .long (rx_dt (rx_gI h 38) (rx_gI h 39) (rx_p h 0) (rx_p h 1) (rx_p h 0) (rx_p h 1))]) rfl rfl rfl rfl rfl rfl rfl rfl (Nat.le_of_ble_eq_true rfl) (Nat.le_of_ble_eq_true rfl) hh (show 19 + 2 ≤ w by omega) (rx_mp (i := 3) (by decide) hh) ?_
    intro v5 h5 hp5
    obtain ⟨rfl, e5⟩ := hp5
    rw [e5]
    refine rx_T.to 2 200 [(0, .ref 53), (1, .int (nI 4))] [.int 2, .ref 53, .int (nI (rx_p h 3)), .int (nI (rx_p h 2)), .ref 53, .long (rx_dt (rx_gI h 38) (rx_gI h 39) (rx_p h 0) (rx_p h 1) (rx_p h 0) (rx_p h 1))] h rfl ?_
    refine rx_T.callm (M := rxm_102) (N := rxm_103) (j := 103) (nest := 0) (as' := [.int (nI 2)]) (rest := [.int (nI (rx_p h 3)), .int (nI (rx_p h 2)), .ref 53, .long (rx_dt (rx_gI h 38) (rx_gI h 39) (rx_p h 0) (rx_p h 1) (rx_p h 0) (rx_p h 1))]) rfl rfl rfl rfl rfl rfl rfl rfl (Nat.le_of_ble_eq_true rfl) (Nat.le_of_ble_eq_true rfl) hh (show 19 + 2 ≤ w by omega) (rx_mp (i := 2) (by decide) hh) ?_
    intro v6 h6 hp6
    obtain ⟨rfl, e6⟩ := hp6
    rw [e6]
    refine rx_T.to 2 205 [(0, .ref 53), (1, .int (nI 4))] [.int 3, .ref 53, .int (nI (rx_p h 2)), .int (nI (rx_p h 3)), .int (nI (rx_p h 2)), .ref 53, .long (rx_dt (rx_gI h 38) (rx_gI h 39) (rx_p h 0) (rx_p h 1) (rx_p h 0) (rx_p h 1))] h rfl ?_
    refine rx_T.callm (M := rxm_102) (N := rxm_103) (j := 103) (nest := 0) (as' := [.int (nI 3)]) (rest := [.int (nI (rx_p h 2)), .int (nI (rx_p h 3)), .int (nI (rx_p h 2)), .ref 53, .long (rx_dt (rx_gI h 38) (rx_gI h 39) (rx_p h 0) (rx_p h 1) (rx_p h 0) (rx_p h 1))]) rfl rfl rfl rfl rfl rfl rfl rfl (Nat.le_of_ble_eq_true rfl) (Nat.le_of_ble_eq_true rfl) hh (show 19 + 2 ≤ w by omega) (rx_mp (i := 3) (by decide) hh) ?_
    intro v7 h7 hp7
    obtain ⟨rfl, e7⟩ := hp7
    rw [e7]
    refine rx_T.callm (M := rxm_102) (N := rxm_106) (j := 106) (nest := 0) (as' := [.int (nI (rx_p h 2)), .int (nI (rx_p h 3)), .int (nI (rx_p h 2)), .int (nI (rx_p h 3))]) (rest := [.long (rx_dt (rx_gI h 38) (rx_gI h 39) (rx_p h 0) (rx_p h 1) (rx_p h 0) (rx_p h 1))]) rfl rfl rfl rfl rfl rfl rfl rfl (Nat.le_of_ble_eq_true rfl) (Nat.le_of_ble_eq_true rfl) hh (show 19 + 5 ≤ w by omega) (rx_mdot (by have := (rx_p_of hh (show 2 < 8 by decide)).2; omega) (by have := (rx_p_of hh (show 3 < 8 by decide)).2; omega) (by have := (rx_p_of hh (show 2 < 8 by decide)).2; omega) (by have := (rx_p_of hh (show 3 < 8 by decide)).2; omega) hh) ?_
    intro v28 h28 hp28
    obtain ⟨rfl, e28⟩ := hp28
    rw [e28]
    refine rx_T.to 1 212 [(0, .ref 53), (1, .int (nI 4))] [.int (lg_cmp (rx_dt (rx_gI h 38) (rx_gI h 39) (rx_p h 0) (rx_p h 1) (rx_p h 0) (rx_p h 1)) ((rx_dt (rx_gI h 38) (rx_gI h 39) (rx_p h 2) (rx_p h 3) (rx_p h 2) (rx_p h 3))))] h rfl ?_
    refine rx_T.br1 (M := rxm_102) 219 rfl rfl (by decide) (fun q => ?_) (fun q => ?_)
    · refine rx_T.to 1 220 [(0, .ref 53), (1, .int (nI 4))] [.int 0] h rfl ?_
      exact rx_T.ret (M := rxm_102) (v := some (.int 0)) rfl rfl rfl ⟨Or.inr ⟨rfl, rx_ne2_t q⟩, rfl⟩
    · refine rx_T.to 2 220 [(0, .ref 53), (1, .int (nI 4))] [.int 1] h rfl ?_
      exact rx_T.ret (M := rxm_102) (v := some (.int 1)) rfl rfl rfl ⟨Or.inl ⟨rfl, rx_ne2_f q⟩, rfl⟩
  | 5, _ =>
    refine rx_T.tsw (M := rxm_102) 220 221 rfl rfl (by decide +kernel) (by decide +kernel) (by decide) ?_
    obtain ⟨fx, x1, x2⟩ := rx_get_a (k := 38) hh rfl
    obtain ⟨fy, y1, y2⟩ := rx_get_a (k := 39) hh rfl
    rw [rx_gI_at x1, rx_gI_at y1]
    refine rx_T.to 2 223 [(0, .ref 53), (1, .int (nI 5))] [.ref 53, .int 2] h rfl ?_
    refine rx_T.gfr (M := rxm_102) (k := 37) rfl rfl rfl hh rfl rfl ?_
    refine rx_T.to 2 228 [(0, .ref 53), (1, .int (nI 5))] [.int 0, .ref 53, .ref 54, .int 2] h rfl ?_
    refine rx_T.callm (M := rxm_102) (N := rxm_103) (j := 103) (nest := 0) (as' := [.int (nI 0)]) (rest := [.ref 54, .int 2]) rfl rfl rfl rfl rfl rfl rfl rfl (Nat.le_of_ble_eq_true rfl) (Nat.le_of_ble_eq_true rfl) hh (show 19 + 2 ≤ w by omega) (rx_mp (i := 0) (by decide) hh) ?_
    intro v0 h0 hp0
    obtain ⟨rfl, e0⟩ := hp0
    rw [e0]
    refine rx_T.iald (M := rxm_102) rfl rfl (rx_ri_i (k := 38) x1) (vp_in_nI (show rx_p h 0 < 12 by have := (rx_p_of hh (show 0 < 8 by decide)).2; omega) (by decide)) ?_
    rw [nI_clamp (show rx_p h 0 < 2 ^ 31 by have := (rx_p_of hh (show 0 < 8 by decide)).2; omega)]
    refine rx_T.to 2 234 [(0, .ref 53), (1, .int (nI 5))] [.ref 53, .int (2 * (fx (rx_p h 0)))] h rfl ?_
    refine rx_T.gfr (M := rxm_102) (k := 37) rfl rfl rfl hh rfl rfl ?_
    refine rx_T.to 2 239 [(0, .ref 53), (1, .int (nI 5))] [.int 1, .ref 53, .ref 54, .int (2 * (fx (rx_p h 0)))] h rfl ?_
    refine rx_T.callm (M := rxm_102) (N := rxm_103) (j := 103) (nest := 0) (as' := [.int (nI 1)]) (rest := [.ref 54, .int (2 * (fx (rx_p h 0)))]) rfl rfl rfl rfl rfl rfl rfl rfl (Nat.le_of_ble_eq_true rfl) (Nat.le_of_ble_eq_true rfl) hh (show 19 + 2 ≤ w by omega) (rx_mp (i := 1) (by decide) hh) ?_
    intro v1 h1 hp1
    obtain ⟨rfl, e1⟩ := hp1
    rw [e1]
    refine rx_T.iald (M := rxm_102) rfl rfl (rx_ri_i (k := 38) x1) (vp_in_nI (show rx_p h 1 < 12 by have := (rx_p_of hh (show 1 < 8 by decide)).2; omega) (by decide)) ?_
    rw [nI_clamp (show rx_p h 1 < 2 ^ 31 by have := (rx_p_of hh (show 1 < 8 by decide)).2; omega)]
    refine rx_T.to 1 244 [(0, .ref 53), (1, .int (nI 5))] [.ref 53, .int (fx (rx_p h 1)), .int (2 * (fx (rx_p h 0)))] h rfl ?_
    refine rx_T.gfr (M := rxm_102) (k := 37) rfl rfl rfl hh rfl rfl ?_
    refine rx_T.to 2 249 [(0, .ref 53), (1, .int (nI 5))] [.int 2, .ref 53, .ref 54, .int (fx (rx_p h 1)), .int (2 * (fx (rx_p h 0)))] h rfl ?_
    refine rx_T.callm (M := rxm_102) (N := rxm_103) (j := 103) (nest := 0) (as' := [.int (nI 2)]) (rest := [.ref 54, .int (fx (rx_p h 1)), .int (2 * (fx (rx_p h 0)))]) rfl rfl rfl rfl rfl rfl rfl rfl (Nat.le_of_ble_eq_true rfl) (Nat.le_of_ble_eq_true rfl) hh (show 19 + 2 ≤ w by omega) (rx_mp (i := 2) (by decide) hh) ?_
    intro v2 h2 hp2
    obtain ⟨rfl, e2⟩ := hp2
    rw [e2]
    refine rx_T.iald (M := rxm_102) rfl rfl (rx_ri_i (k := 38) x1) (vp_in_nI (show rx_p h 2 < 12 by have := (rx_p_of hh (show 2 < 8 by decide)).2; omega) (by decide)) ?_
    rw [nI_clamp (show rx_p h 2 < 2 ^ 31 by have := (rx_p_of hh (show 2 < 8 by decide)).2; omega)]
    refine rx_T.to 1 254 [(0, .ref 53), (1, .int (nI 5))] [.int ((fx (rx_p h 1)) + (fx (rx_p h 2))), .int (2 * (fx (rx_p h 0)))] h rfl ?_
    refine rx_T.br2 (M := rxm_102) 297 rfl rfl (by decide) (fun q => ?_) (fun q => ?_)
    · have z : ¬ 2 * fx (rx_p h 0) = fx (rx_p h 1) + fx (rx_p h 2) := by simpa [rx_c2] using q
      refine rx_T.to 1 298 [(0, .ref 53), (1, .int (nI 5))] [.int 0] h rfl ?_
      exact rx_T.ret (M := rxm_102) (v := some (.int 0)) rfl rfl rfl ⟨Or.inr ⟨rfl, fun y => z y.1⟩, rfl⟩
    · have z : 2 * fx (rx_p h 0) = fx (rx_p h 1) + fx (rx_p h 2) := by simpa [rx_c2] using q
      refine rx_T.to 2 259 [(0, .ref 53), (1, .int (nI 5))] [.ref 53, .int 2] h rfl ?_
      refine rx_T.gfr (M := rxm_102) (k := 37) rfl rfl rfl hh rfl rfl ?_
      refine rx_T.to 2 264 [(0, .ref 53), (1, .int (nI 5))] [.int 0, .ref 53, .ref 55, .int 2] h rfl ?_
      refine rx_T.callm (M := rxm_102) (N := rxm_103) (j := 103) (nest := 0) (as' := [.int (nI 0)]) (rest := [.ref 55, .int 2]) rfl rfl rfl rfl rfl rfl rfl rfl (Nat.le_of_ble_eq_true rfl) (Nat.le_of_ble_eq_true rfl) hh (show 19 + 2 ≤ w by omega) (rx_mp (i := 0) (by decide) hh) ?_
      intro v3 h3 hp3
      obtain ⟨rfl, e3⟩ := hp3
      rw [e3]
      refine rx_T.iald (M := rxm_102) rfl rfl (rx_ri_i (k := 39) y1) (vp_in_nI (show rx_p h 0 < 12 by have := (rx_p_of hh (show 0 < 8 by decide)).2; omega) (by decide)) ?_
      rw [nI_clamp (show rx_p h 0 < 2 ^ 31 by have := (rx_p_of hh (show 0 < 8 by decide)).2; omega)]
      refine rx_T.to 2 270 [(0, .ref 53), (1, .int (nI 5))] [.ref 53, .int (2 * (fy (rx_p h 0)))] h rfl ?_
      refine rx_T.gfr (M := rxm_102) (k := 37) rfl rfl rfl hh rfl rfl ?_
      refine rx_T.to 2 275 [(0, .ref 53), (1, .int (nI 5))] [.int 1, .ref 53, .ref 55, .int (2 * (fy (rx_p h 0)))] h rfl ?_
      refine rx_T.callm (M := rxm_102) (N := rxm_103) (j := 103) (nest := 0) (as' := [.int (nI 1)]) (rest := [.ref 55, .int (2 * (fy (rx_p h 0)))]) rfl rfl rfl rfl rfl rfl rfl rfl (Nat.le_of_ble_eq_true rfl) (Nat.le_of_ble_eq_true rfl) hh (show 19 + 2 ≤ w by omega) (rx_mp (i := 1) (by decide) hh) ?_
      intro v4 h4 hp4
      obtain ⟨rfl, e4⟩ := hp4
      rw [e4]
      refine rx_T.iald (M := rxm_102) rfl rfl (rx_ri_i (k := 39) y1) (vp_in_nI (show rx_p h 1 < 12 by have := (rx_p_of hh (show 1 < 8 by decide)).2; omega) (by decide)) ?_
      rw [nI_clamp (show rx_p h 1 < 2 ^ 31 by have := (rx_p_of hh (show 1 < 8 by decide)).2; omega)]
      refine rx_T.to 1 280 [(0, .ref 53), (1, .int (nI 5))] [.ref 53, .int (fy (rx_p h 1)), .int (2 * (fy (rx_p h 0)))] h rfl ?_
      refine rx_T.gfr (M := rxm_102) (k := 37) rfl rfl rfl hh rfl rfl ?_
      refine rx_T.to 2 285 [(0, .ref 53), (1, .int (nI 5))] [.int 2, .ref 53, .ref 55, .int (fy (rx_p h 1)), .int (2 * (fy (rx_p h 0)))] h rfl ?_
      refine rx_T.callm (M := rxm_102) (N := rxm_103) (j := 103) (nest := 0) (as' := [.int (nI 2)]) (rest := [.ref 55, .int (fy (rx_p h 1)), .int (2 * (fy (rx_p h 0)))]) rfl rfl rfl rfl rfl rfl rfl rfl (Nat.le_of_ble_eq_true rfl) (Nat.le_of_ble_eq_true rfl) hh (show 19 + 2 ≤ w by omega) (rx_mp (i := 2) (by decide) hh) ?_
      intro v5 h5 hp5
      obtain ⟨rfl, e5⟩ := hp5
      rw [e5]
      refine rx_T.iald (M := rxm_102) rfl rfl (rx_ri_i (k := 39) y1) (vp_in_nI (show rx_p h 2 < 12 by have := (rx_p_of hh (show 2 < 8 by decide)).2; omega) (by decide)) ?_
      rw [nI_clamp (show rx_p h 2 < 2 ^ 31 by have := (rx_p_of hh (show 2 < 8 by decide)).2; omega)]
      refine rx_T.to 1 290 [(0, .ref 53), (1, .int (nI 5))] [.int ((fy (rx_p h 1)) + (fy (rx_p h 2))), .int (2 * (fy (rx_p h 0)))] h rfl ?_
      refine rx_T.br2 (M := rxm_102) 297 rfl rfl (by decide) (fun q2 => ?_) (fun q2 => ?_)
      · have z2 : ¬ 2 * fy (rx_p h 0) = fy (rx_p h 1) + fy (rx_p h 2) := by simpa [rx_c2] using q2
        refine rx_T.to 1 298 [(0, .ref 53), (1, .int (nI 5))] [.int 0] h rfl ?_
        exact rx_T.ret (M := rxm_102) (v := some (.int 0)) rfl rfl rfl ⟨Or.inr ⟨rfl, fun y => z2 y.2⟩, rfl⟩
      · have z2 : 2 * fy (rx_p h 0) = fy (rx_p h 1) + fy (rx_p h 2) := by simpa [rx_c2] using q2
        refine rx_T.to 2 298 [(0, .ref 53), (1, .int (nI 5))] [.int 1] h rfl ?_
        exact rx_T.ret (M := rxm_102) (v := some (.int 1)) rfl rfl rfl ⟨Or.inl ⟨rfl, z, z2⟩, rfl⟩
  | 6, _ =>
    refine rx_T.tsd2 (M := rxm_102) 299 rfl rfl (Or.inr (by decide +kernel)) (by decide) ?_
    refine rx_T.to 3 302 [(0, .ref 53), (1, .int (nI 6))] [.int 0, .ref 53, .ref 53] h rfl ?_
    refine rx_T.callm (M := rxm_102) (N := rxm_103) (j := 103) (nest := 0) (as' := [.int (nI 0)]) (rest := [.ref 53]) rfl rfl rfl rfl rfl rfl rfl rfl (Nat.le_of_ble_eq_true rfl) (Nat.le_of_ble_eq_true rfl) hh (show 19 + 2 ≤ w by omega) (rx_mp (i := 0) (by decide) hh) ?_
    intro v0 h0 hp0
    obtain ⟨rfl, e0⟩ := hp0
    rw [e0]
    refine rx_T.to 2 307 [(0, .ref 53), (1, .int (nI 6))] [.int 1, .ref 53, .int (nI (rx_p h 0)), .ref 53] h rfl ?_
    refine rx_T.callm (M := rxm_102) (N := rxm_103) (j := 103) (nest := 0) (as' := [.int (nI 1)]) (rest := [.int (nI (rx_p h 0)), .ref 53]) rfl rfl rfl rfl rfl rfl rfl rfl (Nat.le_of_ble_eq_true rfl) (Nat.le_of_ble_eq_true rfl) hh (show 19 + 2 ≤ w by omega) (rx_mp (i := 1) (by decide) hh) ?_
    intro v1 h1 hp1
    obtain ⟨rfl, e1⟩ := hp1
    rw [e1]
    refine rx_T.to 2 312 [(0, .ref 53), (1, .int (nI 6))] [.int 2, .ref 53, .int (nI (rx_p h 1)), .int (nI (rx_p h 0)), .ref 53] h rfl ?_
    refine rx_T.callm (M := rxm_102) (N := rxm_103) (j := 103) (nest := 0) (as' := [.int (nI 2)]) (rest := [.int (nI (rx_p h 1)), .int (nI (rx_p h 0)), .ref 53]) rfl rfl rfl rfl rfl rfl rfl rfl (Nat.le_of_ble_eq_true rfl) (Nat.le_of_ble_eq_true rfl) hh (show 19 + 2 ≤ w by omega) (rx_mp (i := 2) (by decide) hh) ?_
    intro v2 h2 hp2
    obtain ⟨rfl, e2⟩ := hp2
    rw [e2]
    refine rx_T.to 2 317 [(0, .ref 53), (1, .int (nI 6))] [.int 3, .ref 53, .int (nI (rx_p h 2)), .int (nI (rx_p h 1)), .int (nI (rx_p h 0)), .ref 53] h rfl ?_
    refine rx_T.callm (M := rxm_102) (N := rxm_103) (j := 103) (nest := 0) (as' := [.int (nI 3)]) (rest := [.int (nI (rx_p h 2)), .int (nI (rx_p h 1)), .int (nI (rx_p h 0)), .ref 53]) rfl rfl rfl rfl rfl rfl rfl rfl (Nat.le_of_ble_eq_true rfl) (Nat.le_of_ble_eq_true rfl) hh (show 19 + 2 ≤ w by omega) (rx_mp (i := 3) (by decide) hh) ?_
    intro v3 h3 hp3
    obtain ⟨rfl, e3⟩ := hp3
    rw [e3]
    refine rx_T.to 2 322 [(0, .ref 53), (1, .int (nI 6))] [.int 4, .ref 53, .int (nI (rx_p h 3)), .int (nI (rx_p h 2)), .int (nI (rx_p h 1)), .int (nI (rx_p h 0)), .ref 53] h rfl ?_
    refine rx_T.callm (M := rxm_102) (N := rxm_103) (j := 103) (nest := 0) (as' := [.int (nI 4)]) (rest := [.int (nI (rx_p h 3)), .int (nI (rx_p h 2)), .int (nI (rx_p h 1)), .int (nI (rx_p h 0)), .ref 53]) rfl rfl rfl rfl rfl rfl rfl rfl (Nat.le_of_ble_eq_true rfl) (Nat.le_of_ble_eq_true rfl) hh (show 19 + 2 ≤ w by omega) (rx_mp (i := 4) (by decide) hh) ?_
    intro v4 h4 hp4
    obtain ⟨rfl, e4⟩ := hp4
    rw [e4]
    refine rx_T.to 2 327 [(0, .ref 53), (1, .int (nI 6))] [.int 5, .ref 53, .int (nI (rx_p h 4)), .int (nI (rx_p h 3)), .int (nI (rx_p h 2)), .int (nI (rx_p h 1)), .int (nI (rx_p h 0)), .ref 53] h rfl ?_
    refine rx_T.callm (M := rxm_102) (N := rxm_103) (j := 103) (nest := 0) (as' := [.int (nI 5)]) (rest := [.int (nI (rx_p h 4)), .int (nI (rx_p h 3)), .int (nI (rx_p h 2)), .int (nI (rx_p h 1)), .int (nI (rx_p h 0)), .ref 53]) rfl rfl rfl rfl rfl rfl rfl rfl (Nat.le_of_ble_eq_true rfl) (Nat.le_of_ble_eq_true rfl) hh (show 19 + 2 ≤ w by omega) (rx_mp (i := 5) (by decide) hh) ?_
    intro v5 h5 hp5
    obtain ⟨rfl, e5⟩ := hp5
    rw [e5]
    refine rx_T.to 2 333 [(0, .ref 53), (1, .int (nI 6))] [.int (Int8.ofInt 6).toInt32, .ref 53, .int (nI (rx_p h 5)), .int (nI (rx_p h 4)), .int (nI (rx_p h 3)), .int (nI (rx_p h 2)), .int (nI (rx_p h 1)), .int (nI (rx_p h 0)), .ref 53] h rfl ?_
    rw [show (Int8.ofInt 6).toInt32 = nI 6 by decide +kernel]
    refine rx_T.callm (M := rxm_102) (N := rxm_103) (j := 103) (nest := 0) (as' := [.int (nI 6)]) (rest := [.int (nI (rx_p h 5)), .int (nI (rx_p h 4)), .int (nI (rx_p h 3)), .int (nI (rx_p h 2)), .int (nI (rx_p h 1)), .int (nI (rx_p h 0)), .ref 53]) rfl rfl rfl rfl rfl rfl rfl rfl (Nat.le_of_ble_eq_true rfl) (Nat.le_of_ble_eq_true rfl) hh (show 19 + 2 ≤ w by omega) (rx_mp (i := 6) (by decide) hh) ?_
    intro v6 h6 hp6
    obtain ⟨rfl, e6⟩ := hp6
    rw [e6]
    refine rx_T.to 2 339 [(0, .ref 53), (1, .int (nI 6))] [.int (Int8.ofInt 7).toInt32, .ref 53, .int (nI (rx_p h 6)), .int (nI (rx_p h 5)), .int (nI (rx_p h 4)), .int (nI (rx_p h 3)), .int (nI (rx_p h 2)), .int (nI (rx_p h 1)), .int (nI (rx_p h 0)), .ref 53] h rfl ?_
    rw [show (Int8.ofInt 7).toInt32 = nI 7 by decide +kernel]
    refine rx_T.callm (M := rxm_102) (N := rxm_103) (j := 103) (nest := 0) (as' := [.int (nI 7)]) (rest := [.int (nI (rx_p h 6)), .int (nI (rx_p h 5)), .int (nI (rx_p h 4)), .int (nI (rx_p h 3)), .int (nI (rx_p h 2)), .int (nI (rx_p h 1)), .int (nI (rx_p h 0)), .ref 53]) rfl rfl rfl rfl rfl rfl rfl rfl (Nat.le_of_ble_eq_true rfl) (Nat.le_of_ble_eq_true rfl) hh (show 19 + 2 ≤ w by omega) (rx_mp (i := 7) (by decide) hh) ?_
    intro v7 h7 hp7
    obtain ⟨rfl, e7⟩ := hp7
    rw [e7]
    refine rx_T.callm (M := rxm_102) (N := rxm_108) (j := 108) (nest := 0) (as' := [.int (nI (rx_p h 0)), .int (nI (rx_p h 1)), .int (nI (rx_p h 2)), .int (nI (rx_p h 3)), .int (nI (rx_p h 4)), .int (nI (rx_p h 5)), .int (nI (rx_p h 6)), .int (nI (rx_p h 7))]) (rest := []) rfl rfl rfl rfl rfl rfl rfl rfl (Nat.le_of_ble_eq_true rfl) (Nat.le_of_ble_eq_true rfl) hh (show 19 + 17 ≤ w by omega) (rx_mturn (by have := (rx_p_of hh (show 0 < 8 by decide)).2; omega) (by have := (rx_p_of hh (show 1 < 8 by decide)).2; omega) (by have := (rx_p_of hh (show 2 < 8 by decide)).2; omega) (by have := (rx_p_of hh (show 3 < 8 by decide)).2; omega) (by have := (rx_p_of hh (show 4 < 8 by decide)).2; omega) (by have := (rx_p_of hh (show 5 < 8 by decide)).2; omega) (by have := (rx_p_of hh (show 6 < 8 by decide)).2; omega) (by have := (rx_p_of hh (show 7 < 8 by decide)).2; omega) (show 24 ≤ w - (19 + 17) by omega) hh) ?_
    intro v99 h99 hp99
    obtain ⟨hp99, e99⟩ := hp99
    rw [e99]
    rcases hp99 with ⟨rfl, hq⟩ | ⟨rfl, hq⟩
    · exact rx_T.ret (M := rxm_102) (v := some (.int 1)) rfl rfl rfl ⟨Or.inl ⟨rfl, hq⟩, rfl⟩
    · exact rx_T.ret (M := rxm_102) (v := some (.int 0)) rfl rfl rfl ⟨Or.inr ⟨rfl, hq⟩, rfl⟩
end RXHM
