section RXP3
variable {rt : rx_R} {d w : Nat}
abbrev rx_k1 : Int32 := (Int16.ofInt (-1000)).toInt32
abbrev rx_k2 : Int32 := (Int16.ofInt 1000).toInt32
theorem rx_T.tsd {cds : List (List Value)} {ms : List rx_M} {lk : rx_Lk} {rt : rx_R} {d w mi pc : Nat} {lv : rx_L} {r : List Value} {h : rx_H} {P : Option Value → rx_H → Prop} {M : rx_M} {dflt lo hi : Int} {offs : Array Int} {x : Int32} (g : Nat) (hM : ms[mi]? = some M) (hf : rx_f2 (rx_Mt M) pc = some (.tableswitch dflt lo hi offs)) (h1 : x.toInt < lo ∨ hi < x.toInt) (hg : (pc : Int) + dflt = (g : Int)) (k : rx_T cds ms lk rt d w mi g lv r h P) : rx_T cds ms lk rt d w mi pc lv (.int x :: r) h P := rx_T.op hM hf rfl rfl (rx_tsd_i h1 hg) k
theorem rx_in7 {k : Int32} (h1 : ¬ k < 0) (h2 : ¬ Int32.ofNat 7 ≤ k) : vp_in k 7 := by
  have a1 : ¬ k.toInt < 0 := fun q => h1 (Int32.lt_iff_toInt_lt.mpr q)
  have a2 : ¬ (7 : Int) ≤ k.toInt := fun q => h2 (Int32.le_iff_toInt_le.mpr q)
  intro q
  rcases q with q | q
  · exact h1 q
  · have : k.toNatClampNeg = k.toInt.toNat := rfl
    omega
theorem rx_s1v_ne : ∀ j : Nat, j < 7 → ¬ (0 : Int32) = rx_s1v.getD j 0 := by decide +kernel
theorem rx_vp_lt {k : Int32} {n : Nat} (h : vp_in k n) : k.toNatClampNeg < n := Nat.lt_of_not_le (fun q => h (Or.inr q))
set_option maxRecDepth 1000000 in
set_option maxHeartbeats 8000000 in
theorem rx_p1_take (k : Int32) (hrt : rt 1 = some (7, fun j => rx_s1v.getD j 0)) : rx_T rx_cds rx_ms rx_lk0 rt d w 13 0 [(0, .ref 16), (1, .int k)] [] rx_lay0 (fun v h' => v = some (.int (-1)) ∧ h' = rx_lay0) := by
  refine rx_T.to 13 21 [(3, .int 0), (2, .int 0), (0, .ref 16), (1, .int k)] [.int k] rx_lay0 rfl ?_
  refine rx_T.br1 (M := rxm_13) 41 rfl rfl (by decide) (fun _ => ?_) (fun h1 => ?_)
  · refine rx_T.to 1 42 [(3, .int 0), (2, .int 0), (0, .ref 16), (1, .int k)] [.int (-1)] rx_lay0 rfl ?_
    exact rx_T.ret (M := rxm_13) rfl rfl rfl ⟨rfl, rfl⟩
  · refine rx_T.to 2 28 [(3, .int 0), (2, .int 0), (0, .ref 16), (1, .int k)] [.ref 1, .int k] rx_lay0 rfl ?_
    refine rx_T.op (M := rxm_13) (ins := .arraylength) rfl rfl rfl rfl (show rx_al rt 28 [(3, .int 0), (2, .int 0), (0, .ref 16), (1, .int k)] [.ref 1, .int k] rx_lay0 = some (29, [(3, .int 0), (2, .int 0), (0, .ref 16), (1, .int k)], [.int (Int32.ofNat 7), .int k], rx_lay0) by unfold rx_al rx_aln; simp only [hrt]; rfl) ?_
    refine rx_T.br2 (M := rxm_13) 41 rfl rfl (by decide) (fun _ => ?_) (fun h2 => ?_)
    · refine rx_T.to 1 42 [(3, .int 0), (2, .int 0), (0, .ref 16), (1, .int k)] [.int (-1)] rx_lay0 rfl ?_
      exact rx_T.ret (M := rxm_13) rfl rfl rfl ⟨rfl, rfl⟩
    · refine rx_T.to 3 37 [(3, .int 0), (2, .int 0), (0, .ref 16), (1, .int k)] [.int k, .ref 1, .int 0] rx_lay0 rfl ?_
      have hin := rx_in7 (of_decide_eq_false h1) (of_decide_eq_false h2)
      refine rx_T.iald (M := rxm_13) (n := 7) (f := fun j => rx_s1v.getD j 0) rfl rfl (by unfold rx_ri; rw [if_pos (by decide)]; exact hrt) hin ?_
      refine rx_T.br2 (M := rxm_13) 43 rfl rfl (by decide) (fun h3 => absurd (of_decide_eq_true h3) (rx_s1v_ne _ (rx_vp_lt hin))) (fun _ => ?_)
      refine rx_T.to 1 42 [(3, .int 0), (2, .int 0), (0, .ref 16), (1, .int k)] [.int (-1)] rx_lay0 rfl ?_
      exact rx_T.ret (M := rxm_13) rfl rfl rfl ⟨rfl, rfl⟩
set_option maxRecDepth 1000000 in
set_option maxHeartbeats 8000000 in
theorem rx_p1_isTrue_x (k : Int32) (hrt : rt 1 = some (7, fun j => rx_s1v.getD j 0)) (hw : 60 ≤ w) : rx_T rx_cds rx_ms rx_lk0 rt (d + 1) w 12 0 [(0, .ref 16), (1, .int k)] [] rx_lay0 (fun v h' => v = some (.int (-1)) ∧ h' = rx_lay0) := by
  refine rx_T.to 2 2 [(0, .ref 16), (1, .int k)] [.int k, .ref 16] rx_lay0 rfl ?_
  refine rx_T.call (M := rxm_12) (N := rxm_13) (j := 13) (as := [.ref 16, .int k]) (rest := []) rfl rfl rfl rfl rfl (show 19 + 6 ≤ w by omega) (rx_p1_take k hrt) ?_
  intro v1 h1 hp
  obtain ⟨rfl, rfl⟩ := hp
  refine rx_T.to 5 12 [(2, .int (-1)), (0, .ref 16), (1, .int k)] [.int (-1)] rx_lay0 rfl ?_
  exact rx_T.ret (M := rxm_12) rfl rfl rfl ⟨rfl, rfl⟩
set_option maxRecDepth 1000000 in
set_option maxHeartbeats 8000000 in
theorem rx_p1_fact_x (k : Int32) (hrt : rt 1 = some (7, fun j => rx_s1v.getD j 0)) (hw : 60 ≤ w) : rx_T rx_cds rx_ms rx_lk0 rt (d + 1) w 27 0 [(0, .ref 16), (1, .int k)] [] rx_lay0 (fun v h' => v = some (.int (-1)) ∧ h' = rx_lay0) := by
  refine rx_T.to 2 2 [(0, .ref 16), (1, .int k)] [.int k, .ref 16] rx_lay0 rfl ?_
  refine rx_T.call (M := rxm_27) (N := rxm_13) (j := 13) (as := [.ref 16, .int k]) (rest := []) rfl rfl rfl rfl rfl (show 19 + 6 ≤ w by omega) (rx_p1_take k hrt) ?_
  intro v1 h1 hp
  obtain ⟨rfl, rfl⟩ := hp
  refine rx_T.to 5 21 [(2, .int (-1)), (0, .ref 16), (1, .int k)] [.int (-1)] rx_lay0 rfl ?_
  exact rx_T.ret (M := rxm_27) rfl rfl rfl ⟨rfl, rfl⟩
set_option maxRecDepth 1000000 in
set_option maxHeartbeats 8000000 in
theorem rx_p1_follows_x (k : Int32) (hrt : rt 1 = some (7, fun j => rx_s1v.getD j 0)) (hw : 60 ≤ w) : rx_T rx_cds rx_ms rx_lk0 rt (d + 1) w 29 0 [(0, .ref 16), (1, .int k)] [] rx_lay0 (fun v h' => v = some (.int (-1)) ∧ h' = rx_lay0) := by
  refine rx_T.to 2 2 [(0, .ref 16), (1, .int k)] [.int k, .ref 16] rx_lay0 rfl ?_
  refine rx_T.call (M := rxm_29) (N := rxm_13) (j := 13) (as := [.ref 16, .int k]) (rest := []) rfl rfl rfl rfl rfl (show 19 + 6 ≤ w by omega) (rx_p1_take k hrt) ?_
  intro v1 h1 hp
  obtain ⟨rfl, rfl⟩ := hp
  refine rx_T.to 5 12 [(2, .int (-1)), (0, .ref 16), (1, .int k)] [.int (-1)] rx_lay0 rfl ?_
  exact rx_T.ret (M := rxm_29) rfl rfl rfl ⟨rfl, rfl⟩
set_option maxRecDepth 1000000 in
set_option maxHeartbeats 8000000 in
theorem rx_p1_needs_x (k : Int32) (hrt : rt 1 = some (7, fun j => rx_s1v.getD j 0)) (hw : 60 ≤ w) : rx_T rx_cds rx_ms rx_lk0 rt (d + 1) w 81 0 [(0, .ref 16), (1, .int k)] [] rx_lay0 (fun v h' => v = some (.int (-1)) ∧ h' = rx_lay0) := by
  refine rx_T.to 2 2 [(0, .ref 16), (1, .int k)] [.int k, .ref 16] rx_lay0 rfl ?_
  refine rx_T.call (M := rxm_81) (N := rxm_13) (j := 13) (as := [.ref 16, .int k]) (rest := []) rfl rfl rfl rfl rfl (show 19 + 6 ≤ w by omega) (rx_p1_take k hrt) ?_
  intro v1 h1 hp
  obtain ⟨rfl, rfl⟩ := hp
  refine rx_T.to 5 12 [(2, .int (-1)), (0, .ref 16), (1, .int k)] [.int (-1)] rx_lay0 rfl ?_
  exact rx_T.ret (M := rxm_81) rfl rfl rfl ⟨rfl, rfl⟩
set_option maxRecDepth 1000000 in
set_option maxHeartbeats 8000000 in
theorem rx_p1_turn_x (a b : Int32) : rx_T rx_cds rx_ms rx_lk0 rt d w 28 0 [(0, .ref 16), (1, .int a), (2, .int b)] [] rx_lay0 (fun v h' => v = some (.int (0)) ∧ h' = rx_lay0) := by
  refine rx_T.to 1 1 [(0, .ref 16), (1, .int a), (2, .int b)] [.int a] rx_lay0 rfl ?_
  refine rx_T.br1 (M := rxm_28) 12 rfl rfl (by decide) (fun _ => ?_) (fun h1 => ?_)
  · refine rx_T.to 1 13 [(0, .ref 16), (1, .int a), (2, .int b)] [.int 0] rx_lay0 rfl ?_
    exact rx_T.ret (M := rxm_28) rfl rfl rfl ⟨rfl, rfl⟩
  · refine rx_T.to 3 9 [(0, .ref 16), (1, .int a), (2, .int b)] [.int 0, .int a] rx_lay0 rfl ?_
    refine rx_T.br2 (M := rxm_28) 14 rfl rfl (by decide) (fun h2 => absurd (of_decide_eq_true h2) (of_decide_eq_false h1)) (fun _ => ?_)
    refine rx_T.to 1 13 [(0, .ref 16), (1, .int a), (2, .int b)] [.int 0] rx_lay0 rfl ?_
    exact rx_T.ret (M := rxm_28) rfl rfl rfl ⟨rfl, rfl⟩
set_option maxRecDepth 1000000 in
set_option maxHeartbeats 8000000 in
theorem rx_p1_need_x (k : Int32) : rx_T rx_cds rx_ms rx_lk0 rt d w 82 0 [(0, .ref 16), (1, .int k)] [] rx_lay0 (fun v h' => v = some (.int (-1)) ∧ h' = rx_lay0) := by
  refine rx_T.to 4 4 [(3, .int 0), (2, .int 0), (0, .ref 16), (1, .int k)] [] rx_lay0 rfl ?_
  refine rx_T.to 12 4 [(3, .int 1), (2, .int 0), (0, .ref 16), (1, .int k)] [] rx_lay0 rfl ?_
  refine rx_T.to 12 4 [(3, .int 2), (2, .int 0), (0, .ref 16), (1, .int k)] [] rx_lay0 rfl ?_
  refine rx_T.to 12 4 [(3, .int 3), (2, .int 0), (0, .ref 16), (1, .int k)] [] rx_lay0 rfl ?_
  refine rx_T.to 12 4 [(3, .int 4), (2, .int 0), (0, .ref 16), (1, .int k)] [] rx_lay0 rfl ?_
  refine rx_T.to 12 4 [(3, .int 5), (2, .int 0), (0, .ref 16), (1, .int k)] [] rx_lay0 rfl ?_
  refine rx_T.to 12 4 [(3, .int 6), (2, .int 0), (0, .ref 16), (1, .int k)] [] rx_lay0 rfl ?_
  refine rx_T.to 12 4 [(3, .int 7), (2, .int 0), (0, .ref 16), (1, .int k)] [] rx_lay0 rfl ?_
  refine rx_T.to 12 4 [(3, .int 8), (2, .int 0), (0, .ref 16), (1, .int k)] [] rx_lay0 rfl ?_
  refine rx_T.to 12 4 [(3, .int 9), (2, .int 0), (0, .ref 16), (1, .int k)] [] rx_lay0 rfl ?_
  refine rx_T.to 12 4 [(3, .int 10), (2, .int 0), (0, .ref 16), (1, .int k)] [] rx_lay0 rfl ?_
  refine rx_T.to 12 4 [(3, .int 11), (2, .int 0), (0, .ref 16), (1, .int k)] [] rx_lay0 rfl ?_
  refine rx_T.to 12 4 [(3, .int 12), (2, .int 0), (0, .ref 16), (1, .int k)] [] rx_lay0 rfl ?_
  refine rx_T.to 12 4 [(3, .int 13), (2, .int 0), (0, .ref 16), (1, .int k)] [] rx_lay0 rfl ?_
  refine rx_T.to 12 4 [(3, .int 14), (2, .int 0), (0, .ref 16), (1, .int k)] [] rx_lay0 rfl ?_
  refine rx_T.to 12 4 [(3, .int 15), (2, .int 0), (0, .ref 16), (1, .int k)] [] rx_lay0 rfl ?_
  refine rx_T.to 12 4 [(3, .int 16), (2, .int 0), (0, .ref 16), (1, .int k)] [] rx_lay0 rfl ?_
  refine rx_T.to 12 4 [(3, .int 17), (2, .int 0), (0, .ref 16), (1, .int k)] [] rx_lay0 rfl ?_
  refine rx_T.to 12 4 [(3, .int 18), (2, .int 0), (0, .ref 16), (1, .int k)] [] rx_lay0 rfl ?_
  refine rx_T.to 12 4 [(3, .int 19), (2, .int 0), (0, .ref 16), (1, .int k)] [] rx_lay0 rfl ?_
  refine rx_T.to 12 4 [(3, .int 20), (2, .int 0), (0, .ref 16), (1, .int k)] [] rx_lay0 rfl ?_
  refine rx_T.to 12 4 [(3, .int 21), (2, .int 0), (0, .ref 16), (1, .int k)] [] rx_lay0 rfl ?_
  refine rx_T.to 12 4 [(3, .int 22), (2, .int 0), (0, .ref 16), (1, .int k)] [] rx_lay0 rfl ?_
  refine rx_T.to 12 4 [(3, .int 23), (2, .int 0), (0, .ref 16), (1, .int k)] [] rx_lay0 rfl ?_
  refine rx_T.to 12 4 [(3, .int 24), (2, .int 0), (0, .ref 16), (1, .int k)] [] rx_lay0 rfl ?_
  refine rx_T.to 12 4 [(3, .int 25), (2, .int 0), (0, .ref 16), (1, .int k)] [] rx_lay0 rfl ?_
  refine rx_T.to 12 4 [(3, .int 26), (2, .int 0), (0, .ref 16), (1, .int k)] [] rx_lay0 rfl ?_
  refine rx_T.to 12 4 [(3, .int 27), (2, .int 0), (0, .ref 16), (1, .int k)] [] rx_lay0 rfl ?_
  refine rx_T.to 12 4 [(3, .int 28), (2, .int 0), (0, .ref 16), (1, .int k)] [] rx_lay0 rfl ?_
  refine rx_T.to 12 4 [(3, .int 29), (2, .int 0), (0, .ref 16), (1, .int k)] [] rx_lay0 rfl ?_
  refine rx_T.to 12 4 [(3, .int 30), (2, .int 0), (0, .ref 16), (1, .int k)] [] rx_lay0 rfl ?_
  refine rx_T.to 4 38 [(3, .int 30), (2, .int 0), (0, .ref 16), (1, .int k)] [.int (-1)] rx_lay0 rfl ?_
  exact rx_T.ret (M := rxm_82) rfl rfl rfl ⟨rfl, rfl⟩
set_option maxRecDepth 1000000 in
set_option maxHeartbeats 8000000 in
theorem rx_p1_line_x (a b : Int32) (hw : 60 ≤ w) : rx_T rx_cds rx_ms rx_lk0 rt (d + 1) w 83 0 [(0, .ref 16), (1, .int a), (2, .int b)] [] rx_lay0 (fun v h' => v = some (.int (0)) ∧ h' = rx_lay0) := by
  refine rx_T.to 3 5 [(0, .ref 16), (1, .int a), (2, .int b)] [.int a, .ref 17] rx_lay0 rfl ?_
  refine rx_T.call (M := rxm_83) (N := rxm_11) (j := 11) (as := [.ref 17, .int a]) (rest := []) rfl rfl rfl rfl rfl (show 19 + 2 ≤ w by omega) (rx_p1_has a) ?_
  intro v1 h1 hp
  obtain ⟨rfl, rfl⟩ := hp
  refine rx_T.to 2 28 [(0, .ref 16), (1, .int a), (2, .int b)] [.int (0)] rx_lay0 rfl ?_
  exact rx_T.ret (M := rxm_83) rfl rfl rfl ⟨rfl, rfl⟩
set_option maxRecDepth 1000000 in
set_option maxHeartbeats 8000000 in
theorem rx_p1_circle_x (a b c : Int32) (hw : 60 ≤ w) : rx_T rx_cds rx_ms rx_lk0 rt (d + 1) w 85 0 [(0, .ref 16), (1, .int a), (2, .int b), (3, .int c)] [] rx_lay0 (fun v h' => v = some (.int (0)) ∧ h' = rx_lay0) := by
  refine rx_T.to 3 5 [(0, .ref 16), (1, .int a), (2, .int b), (3, .int c)] [.int a, .ref 17] rx_lay0 rfl ?_
  refine rx_T.call (M := rxm_85) (N := rxm_11) (j := 11) (as := [.ref 17, .int a]) (rest := []) rfl rfl rfl rfl rfl (show 19 + 2 ≤ w by omega) (rx_p1_has a) ?_
  intro v1 h1 hp
  obtain ⟨rfl, rfl⟩ := hp
  refine rx_T.to 2 34 [(0, .ref 16), (1, .int a), (2, .int b), (3, .int c)] [.int (0)] rx_lay0 rfl ?_
  exact rx_T.ret (M := rxm_85) rfl rfl rfl ⟨rfl, rfl⟩
set_option maxRecDepth 1000000 in
set_option maxHeartbeats 8000000 in
theorem rx_p1_length_x (a b : Int32) (hw : 60 ≤ w) : rx_T rx_cds rx_ms rx_lk0 rt (d + 1) w 87 0 [(0, .ref 16), (1, .int a), (2, .int b)] [] rx_lay0 (fun v h' => v = some (.int (-1)) ∧ h' = rx_lay0) := by
  refine rx_T.to 3 5 [(0, .ref 16), (1, .int a), (2, .int b)] [.int a, .ref 17] rx_lay0 rfl ?_
  refine rx_T.call (M := rxm_87) (N := rxm_11) (j := 11) (as := [.ref 17, .int a]) (rest := []) rfl rfl rfl rfl rfl (show 19 + 2 ≤ w by omega) (rx_p1_has a) ?_
  intro v1 h1 hp
  obtain ⟨rfl, rfl⟩ := hp
  refine rx_T.to 2 28 [(0, .ref 16), (1, .int a), (2, .int b)] [.int (-1)] rx_lay0 rfl ?_
  exact rx_T.ret (M := rxm_87) rfl rfl rfl ⟨rfl, rfl⟩
set_option maxRecDepth 1000000 in
set_option maxHeartbeats 8000000 in
theorem rx_p1_co (x : Int32) (h : rx_H) : rx_T rx_cds rx_ms rx_lk0 rt d w 8 0 [(0, .int x)] [] h (fun v h' => (((¬ x < rx_k1 ∧ ¬ rx_k2 < x) ∧ v = some (.int 1)) ∨ (¬ (¬ x < rx_k1 ∧ ¬ rx_k2 < x) ∧ v = some (.int 0))) ∧ h' = h) := by
  refine rx_T.to 2 4 [(0, .int x)] [.int rx_k1, .int x] h rfl ?_
  refine rx_T.br2 (M := rxm_8) 18 rfl rfl (by decide) (fun h1 => ?_) (fun h1 => ?_)
  · refine rx_T.to 1 19 [(0, .int x)] [.int 0] h rfl ?_
    exact rx_T.ret (M := rxm_8) rfl rfl rfl ⟨Or.inr ⟨fun q => q.1 (of_decide_eq_true h1), rfl⟩, rfl⟩
  · refine rx_T.to 2 11 [(0, .int x)] [.int rx_k2, .int x] h rfl ?_
    refine rx_T.br2 (M := rxm_8) 18 rfl rfl (by decide) (fun h2 => ?_) (fun h2 => ?_)
    · refine rx_T.to 1 19 [(0, .int x)] [.int 0] h rfl ?_
      exact rx_T.ret (M := rxm_8) rfl rfl rfl ⟨Or.inr ⟨fun q => q.2 (of_decide_eq_true h2), rfl⟩, rfl⟩
    · refine rx_T.to 2 19 [(0, .int x)] [.int 1] h rfl ?_
      exact rx_T.ret (M := rxm_8) rfl rfl rfl ⟨Or.inl ⟨⟨of_decide_eq_false h1, of_decide_eq_false h2⟩, rfl⟩, rfl⟩
def rx_inr (x y : Int32) : Prop := (¬ x < rx_k1 ∧ ¬ rx_k2 < x) ∧ (¬ y < rx_k1 ∧ ¬ rx_k2 < y)
set_option maxRecDepth 1000000 in
set_option maxHeartbeats 8000000 in
theorem rx_p1_room (x y : Int32) (hw : 30 ≤ w) : rx_T rx_cds rx_ms rx_lk0 rt (d + 1) w 7 0 [(0, .ref 17), (1, .int x), (2, .int y)] [] rx_lay0 (fun v h' => ((rx_inr x y ∧ v = some (.int 1)) ∨ (¬ rx_inr x y ∧ v = some (.int 0))) ∧ h' = rx_lay0) := by
  refine rx_T.to 3 6 [(0, .ref 17), (1, .int x), (2, .int y)] [.int (Int8.ofInt 7).toInt32, .int 0] rx_lay0 rfl ?_
  refine rx_T.op (M := rxm_7) (ins := .if_icmp .ge 17) rfl rfl rfl rfl (rx_b2_f (by decide +kernel) (by decide)) ?_
  refine rx_T.to 1 10 [(0, .ref 17), (1, .int x), (2, .int y)] [.int x] rx_lay0 rfl ?_
  refine rx_T.call (M := rxm_7) (N := rxm_8) (j := 8) (as := [.int x]) (rest := []) rfl rfl rfl rfl rfl (show 19 + 1 ≤ w by omega) (rx_p1_co x rx_lay0) ?_
  intro v1 h1 hp
  obtain ⟨⟨hx, rfl⟩ | ⟨hx, rfl⟩, rfl⟩ := hp
  · refine rx_T.to 2 17 [(0, .ref 17), (1, .int x), (2, .int y)] [.int y] rx_lay0 rfl ?_
    refine rx_T.call (M := rxm_7) (N := rxm_8) (j := 8) (as := [.int y]) (rest := []) rfl rfl rfl rfl rfl (show 19 + 1 ≤ w by omega) (rx_p1_co y rx_lay0) ?_
    intro v2 h2 hp2
    obtain ⟨⟨hy, rfl⟩ | ⟨hy, rfl⟩, rfl⟩ := hp2
    · refine rx_T.to 8 64 _ [.int 1] rx_lay0 rfl ?_
      exact rx_T.ret (M := rxm_7) rfl rfl rfl ⟨Or.inl ⟨⟨hx, hy⟩, rfl⟩, rfl⟩
    · refine rx_T.to 2 24 [(0, .ref 17), (1, .int x), (2, .int y)] [.int 0] rx_lay0 rfl ?_
      exact rx_T.ret (M := rxm_7) rfl rfl rfl ⟨Or.inr ⟨fun q => hy q.2, rfl⟩, rfl⟩
  · refine rx_T.to 2 24 [(0, .ref 17), (1, .int x), (2, .int y)] [.int 0] rx_lay0 rfl ?_
    exact rx_T.ret (M := rxm_7) rfl rfl rfl ⟨Or.inr ⟨fun q => hx q.1, rfl⟩, rfl⟩
def rx_lp1 (x : Int32) : rx_H := rx_lay0.set 2 (.inl (0, 8, .inl (upd (fun _ => 0) (0 : Int32).toNatClampNeg x)))
def rx_lp2 (x y : Int32) : rx_H := (rx_lp1 x).set 3 (.inl (0, 8, .inl (upd (fun _ => 0) (0 : Int32).toNatClampNeg y)))
def rx_layP (x y : Int32) : rx_H := (rx_lp2 x y).set 1 (.inr (1, [.ref 18, .ref 19, .int (0 + Int32.ofInt 1)]))
set_option maxRecDepth 1000000 in
set_option maxHeartbeats 8000000 in
theorem rx_p1_place (x y : Int32) : rx_T rx_cds rx_ms rx_lk0 rt d w 9 0 [(0, .ref 17), (1, .int x), (2, .int y)] [] rx_lay0 (fun v h' => v = some (.int (0)) ∧ h' = rx_layP x y) := by
  refine rx_T.to 20 30 _ [.int 0] (rx_layP x y) rfl ?_
  exact rx_T.ret (M := rxm_9) rfl rfl rfl ⟨rfl, rfl⟩
set_option maxRecDepth 1000000 in
set_option maxHeartbeats 8000000 in
theorem rx_p1_point_x (x y : Int32) (hw : 100 ≤ w) : rx_T rx_cds rx_ms rx_lk0 rt (d + 2) w 6 0 [(0, .ref 16), (1, .int x), (2, .int y)] [] rx_lay0 (fun v h' => (rx_inr x y ∧ v = some (.int 0) ∧ h' = rx_layP x y) ∨ (¬ rx_inr x y ∧ v = some (.int (-1)) ∧ h' = rx_lay0)) := by
  refine rx_T.to 7 13 [(0, .ref 16), (1, .int x), (2, .int y)] [.int y, .int x, .ref 17] rx_lay0 rfl ?_
  refine rx_T.call (M := rxm_6) (N := rxm_7) (j := 7) (as := [.ref 17, .int x, .int y]) (rest := []) rfl rfl rfl rfl rfl (show 19 + 4 ≤ w by omega) (rx_p1_room x y (show 30 ≤ w - (19 + 4) by omega)) ?_
  intro v1 h1 hp
  obtain ⟨⟨hx, rfl⟩ | ⟨hx, rfl⟩, rfl⟩ := hp
  · refine rx_T.to 5 27 [(0, .ref 16), (1, .int x), (2, .int y)] [.int y, .int x, .ref 17] rx_lay0 rfl ?_
    refine rx_T.call (M := rxm_6) (N := rxm_9) (j := 9) (as := [.ref 17, .int x, .int y]) (rest := []) rfl rfl rfl rfl rfl (show 19 + 4 ≤ w by omega) (rx_p1_place x y) ?_
    intro v2 h2 hp2
    obtain ⟨rfl, rfl⟩ := hp2
    exact rx_T.ret (M := rxm_6) rfl rfl rfl (Or.inl ⟨hx, rfl, rfl⟩)
  · refine rx_T.to 2 20 [(0, .ref 16), (1, .int x), (2, .int y)] [.int (-1)] rx_lay0 rfl ?_
    exact rx_T.ret (M := rxm_6) rfl rfl rfl (Or.inr ⟨hx, rfl, rfl⟩)
set_option maxRecDepth 1000000 in
set_option maxHeartbeats 8000000 in
theorem rx_p1_bc0  : rx_T rx_cds rx_ms rx_lk0 rt d w 16 0 [(0, .int 0)] [] rx_lay0 (fun v h' => v = some (.int (0)) ∧ h' = rx_lay0) := by
  refine rx_T.to 41 52 _ [.int 0] rx_lay0 rfl ?_
  exact rx_T.ret (M := rxm_16) rfl rfl rfl ⟨rfl, rfl⟩
set_option maxRecDepth 1000000 in
set_option maxHeartbeats 8000000 in
theorem rx_p1_told0_x (hw : 60 ≤ w) : rx_T rx_cds rx_ms rx_lk0 rt (d + 1) w 89 0 [(0, .ref 16), (1, .int 0)] [] rx_lay0 (fun v h' => v = some (.int (0)) ∧ h' = rx_lay0) := by
  refine rx_T.to 4 23 [(0, .ref 16), (1, .int 0)] [.int 0] rx_lay0 rfl ?_
  refine rx_T.tsw (M := rxm_89) 45 68 rfl rfl (by decide +kernel) (by decide +kernel) (by decide) ?_
  refine rx_T.to 3 75 _ [.int 0] rx_lay0 rfl ?_
  exact rx_T.ret (M := rxm_89) rfl rfl rfl ⟨rfl, rfl⟩
set_option maxRecDepth 1000000 in
set_option maxHeartbeats 8000000 in
theorem rx_p1_told1_x (hw : 60 ≤ w) : rx_T rx_cds rx_ms rx_lk0 rt (d + 1) w 89 0 [(0, .ref 16), (1, .int 1)] [] rx_lay0 (fun v h' => v = some (.int (0)) ∧ h' = rx_lay0) := by
  refine rx_T.to 4 23 [(0, .ref 16), (1, .int 1)] [.int 1] rx_lay0 rfl ?_
  refine rx_T.tsw (M := rxm_89) 53 76 rfl rfl (by decide +kernel) (by decide +kernel) (by decide) ?_
  refine rx_T.to 2 80 _ [.int 0] rx_lay0 rfl ?_
  exact rx_T.ret (M := rxm_89) rfl rfl rfl ⟨rfl, rfl⟩
set_option maxRecDepth 1000000 in
set_option maxHeartbeats 8000000 in
theorem rx_p1_told2_x (hw : 60 ≤ w) : rx_T rx_cds rx_ms rx_lk0 rt (d + 1) w 89 0 [(0, .ref 16), (1, .int 2)] [] rx_lay0 (fun v h' => v = some (.int (0)) ∧ h' = rx_lay0) := by
  refine rx_T.to 4 23 [(0, .ref 16), (1, .int 2)] [.int 2] rx_lay0 rfl ?_
  refine rx_T.tsw (M := rxm_89) 58 81 rfl rfl (by decide +kernel) (by decide +kernel) (by decide) ?_
  refine rx_T.to 2 85 [(0, .ref 16), (1, .int 2)] [.int 0] rx_lay0 rfl ?_
  refine rx_T.call (M := rxm_89) (N := rxm_16) (j := 16) (as := [.int 0]) (rest := []) rfl rfl rfl rfl rfl (show 19 + 1 ≤ w by omega) rx_p1_bc0 ?_
  intro v1 h1 hp
  obtain ⟨rfl, rfl⟩ := hp
  exact rx_T.ret (M := rxm_89) rfl rfl rfl ⟨rfl, rfl⟩
set_option maxRecDepth 1000000 in
set_option maxHeartbeats 8000000 in
theorem rx_p1_told3_x (hw : 60 ≤ w) : rx_T rx_cds rx_ms rx_lk0 rt (d + 1) w 89 0 [(0, .ref 16), (1, .int 3)] [] rx_lay0 (fun v h' => v = some (.int (0)) ∧ h' = rx_lay0) := by
  refine rx_T.to 4 23 [(0, .ref 16), (1, .int 3)] [.int 3] rx_lay0 rfl ?_
  refine rx_T.tsw (M := rxm_89) 66 89 rfl rfl (by decide +kernel) (by decide +kernel) (by decide) ?_
  refine rx_T.to 2 93 _ [.int 0] rx_lay0 rfl ?_
  exact rx_T.ret (M := rxm_89) rfl rfl rfl ⟨rfl, rfl⟩
set_option maxRecDepth 1000000 in
set_option maxHeartbeats 8000000 in
theorem rx_p1_toldn_x (a : Int32) (ha : a.toInt < 0 ∨ 7 < a.toInt) : rx_T rx_cds rx_ms rx_lk0 rt d w 89 0 [(0, .ref 16), (1, .int a)] [] rx_lay0 (fun v h' => v = some (.int (-1)) ∧ h' = rx_lay0) := by
  have K : rx_T rx_cds rx_ms rx_lk0 rt d w 89 22 [(0, .ref 16), (1, .int a)] [] rx_lay0 (fun v h' => v = some (.int (-1)) ∧ h' = rx_lay0) := by
    refine rx_T.to 1 23 [(0, .ref 16), (1, .int a)] [.int a] rx_lay0 rfl ?_
    refine rx_T.tsd (M := rxm_89) 126 rfl rfl ha (by decide) ?_
    refine rx_T.to 1 127 [(0, .ref 16), (1, .int a)] [.int (-1)] rx_lay0 rfl ?_
    exact rx_T.ret (M := rxm_89) rfl rfl rfl ⟨rfl, rfl⟩
  refine rx_T.to 2 2 [(0, .ref 16), (1, .int a)] [.int 4, .int a] rx_lay0 rfl ?_
  refine rx_T.br2 (M := rxm_89) 22 rfl rfl (by decide) (fun _ => K) (fun h1 => ?_)
  refine rx_T.to 2 8 [(0, .ref 16), (1, .int a)] [.int (Int8.ofInt 7).toInt32, .int a] rx_lay0 rfl ?_
  refine rx_T.br2 (M := rxm_89) 22 rfl rfl (by decide) (fun _ => K) (fun h2 => ?_)
  have a1 : ¬ a.toInt < 4 := fun q => of_decide_eq_false h1 (Int32.lt_iff_toInt_lt.mpr q)
  have a2 : ¬ 7 < a.toInt := fun q => of_decide_eq_false h2 (Int32.lt_iff_toInt_lt.mpr q)
  omega
set_option maxRecDepth 1000000 in
set_option maxHeartbeats 8000000 in
theorem rx_p1_pts (k : Int32) (h : rx_H) : rx_T rx_cds rx_ms rx_lk0 rt d w 101 0 [(0, .int k)] [] h (fun v h' => (∃ r : Int32, v = some (.int r) ∧ ¬ (0 : Int32) = r) ∧ h' = h) := by
  refine rx_T.to 1 1 [(0, .int k)] [.int k] h rfl ?_
  refine rx_T.br1 (M := rxm_101) 9 rfl rfl (by decide) (fun _ => ?_) (fun _ => ?_)
  · refine rx_T.to 2 25 [(0, .int k)] [.int 3] h rfl ?_
    exact rx_T.ret (M := rxm_101) rfl rfl rfl ⟨⟨_, rfl, by decide⟩, rfl⟩
  · refine rx_T.to 2 6 [(0, .int k)] [.int 5, .int k] h rfl ?_
    refine rx_T.br2 (M := rxm_101) 13 rfl rfl (by decide) (fun _ => ?_) (fun _ => ?_)
    · refine rx_T.to 2 16 [(0, .int k)] [.int (Int8.ofInt 6).toInt32, .int k] h rfl ?_
      refine rx_T.br2 (M := rxm_101) 24 rfl rfl (by decide) (fun _ => ?_) (fun _ => ?_)
      · refine rx_T.to 1 25 [(0, .int k)] [.int 4] h rfl ?_
        exact rx_T.ret (M := rxm_101) rfl rfl rfl ⟨⟨_, rfl, by decide⟩, rfl⟩
      · refine rx_T.to 2 25 [(0, .int k)] [.int (Int8.ofInt 8).toInt32] h rfl ?_
        exact rx_T.ret (M := rxm_101) rfl rfl rfl ⟨⟨_, rfl, by decide +kernel⟩, rfl⟩
    · refine rx_T.to 2 25 [(0, .int k)] [.int 3] h rfl ?_
      exact rx_T.ret (M := rxm_101) rfl rfl rfl ⟨⟨_, rfl, by decide⟩, rfl⟩
set_option maxRecDepth 1000000 in
set_option maxHeartbeats 8000000 in
theorem rx_p1_isf (k : Int32) (hw : 30 ≤ w) : rx_T rx_cds rx_ms rx_lk0 rt (d + 1) w 100 0 [(0, .ref 53), (1, .int k)] [] rx_lay0 (fun v h' => v = some (.int (0)) ∧ h' = rx_lay0) := by
  refine rx_T.to 1 1 [(0, .ref 53), (1, .int k)] [.int k] rx_lay0 rfl ?_
  refine rx_T.br1 (M := rxm_100) 21 rfl rfl (by decide) (fun _ => ?_) (fun h1 => ?_)
  · refine rx_T.to 1 22 [(0, .ref 53), (1, .int k)] [.int 0] rx_lay0 rfl ?_
    exact rx_T.ret (M := rxm_100) rfl rfl rfl ⟨rfl, rfl⟩
  · refine rx_T.to 2 7 [(0, .ref 53), (1, .int k)] [.int (Int8.ofInt 7).toInt32, .int k] rx_lay0 rfl ?_
    refine rx_T.br2 (M := rxm_100) 21 rfl rfl (by decide) (fun _ => ?_) (fun h2 => ?_)
    · refine rx_T.to 1 22 [(0, .ref 53), (1, .int k)] [.int 0] rx_lay0 rfl ?_
      exact rx_T.ret (M := rxm_100) rfl rfl rfl ⟨rfl, rfl⟩
    · refine rx_T.to 3 15 [(0, .ref 53), (1, .int k)] [.int k, .int 0] rx_lay0 rfl ?_
      refine rx_T.call (M := rxm_100) (N := rxm_101) (j := 101) (as := [.int k]) (rest := [.int 0]) rfl rfl rfl rfl rfl (show 19 + 1 ≤ w by omega) (rx_p1_pts k rx_lay0) ?_
      intro v1 h1 hp
      obtain ⟨⟨r, rfl, hr⟩, rfl⟩ := hp
      refine rx_T.br2 (M := rxm_100) (x := 0) (y := r) 23 rfl rfl (by decide) (fun h3 => absurd (of_decide_eq_true h3) hr) (fun _ => ?_)
      refine rx_T.to 1 22 [(0, .ref 53), (1, .int k)] [.int 0] rx_lay0 rfl ?_
      exact rx_T.ret (M := rxm_100) rfl rfl rfl ⟨rfl, rfl⟩
set_option maxRecDepth 1000000 in
set_option maxHeartbeats 8000000 in
theorem rx_p1_isTrue_m (k : Int32) (hw : 60 ≤ w) : rx_T rx_cds rx_ms rx_lk0 rt (d + 2) w 99 0 [(0, .ref 53), (1, .int k)] [] rx_lay0 (fun v h' => v = some (.int (-1)) ∧ h' = rx_lay0) := by
  refine rx_T.to 5 7 [(0, .ref 53), (1, .int k)] [.int k, .ref 53] rx_lay0 rfl ?_
  refine rx_T.call (M := rxm_99) (N := rxm_100) (j := 100) (as := [.ref 53, .int k]) (rest := []) rfl rfl rfl rfl rfl (show 19 + 6 ≤ w by omega) (rx_p1_isf k (show 30 ≤ w - (19 + 6) by omega)) ?_
  intro v1 h1 hp
  obtain ⟨rfl, rfl⟩ := hp
  refine rx_T.to 12 51 _ [.int (-1)] rx_lay0 rfl ?_
  exact rx_T.ret (M := rxm_99) rfl rfl rfl ⟨rfl, rfl⟩
set_option maxRecDepth 1000000 in
set_option maxHeartbeats 8000000 in
theorem rx_p1_fact_m (k : Int32) (hw : 60 ≤ w) : rx_T rx_cds rx_ms rx_lk0 rt (d + 2) w 109 0 [(0, .ref 53), (1, .int k)] [] rx_lay0 (fun v h' => v = some (.int (-1)) ∧ h' = rx_lay0) := by
  refine rx_T.to 5 7 [(0, .ref 53), (1, .int k)] [.int k, .ref 53] rx_lay0 rfl ?_
  refine rx_T.call (M := rxm_109) (N := rxm_100) (j := 100) (as := [.ref 53, .int k]) (rest := []) rfl rfl rfl rfl rfl (show 19 + 6 ≤ w by omega) (rx_p1_isf k (show 30 ≤ w - (19 + 6) by omega)) ?_
  intro v1 h1 hp
  obtain ⟨rfl, rfl⟩ := hp
  refine rx_T.to 16 62 _ [.int (-1)] rx_lay0 rfl ?_
  exact rx_T.ret (M := rxm_109) rfl rfl rfl ⟨rfl, rfl⟩
set_option maxRecDepth 1000000 in
set_option maxHeartbeats 8000000 in
theorem rx_p1_follows_m (k : Int32) (hw : 60 ≤ w) : rx_T rx_cds rx_ms rx_lk0 rt (d + 2) w 111 0 [(0, .ref 53), (1, .int k)] [] rx_lay0 (fun v h' => v = some (.int (-1)) ∧ h' = rx_lay0) := by
  refine rx_T.to 5 7 [(0, .ref 53), (1, .int k)] [.int k, .ref 53] rx_lay0 rfl ?_
  refine rx_T.call (M := rxm_111) (N := rxm_100) (j := 100) (as := [.ref 53, .int k]) (rest := []) rfl rfl rfl rfl rfl (show 19 + 6 ≤ w by omega) (rx_p1_isf k (show 30 ≤ w - (19 + 6) by omega)) ?_
  intro v1 h1 hp
  obtain ⟨rfl, rfl⟩ := hp
  refine rx_T.to 16 79 _ [.int (-1)] rx_lay0 rfl ?_
  exact rx_T.ret (M := rxm_111) rfl rfl rfl ⟨rfl, rfl⟩
set_option maxRecDepth 1000000 in
set_option maxHeartbeats 8000000 in
theorem rx_p1_needs_m (k : Int32) (hw : 60 ≤ w) : rx_T rx_cds rx_ms rx_lk0 rt (d + 2) w 154 0 [(0, .ref 53), (1, .int k)] [] rx_lay0 (fun v h' => v = some (.int (-1)) ∧ h' = rx_lay0) := by
  refine rx_T.to 5 7 [(0, .ref 53), (1, .int k)] [.int k, .ref 53] rx_lay0 rfl ?_
  refine rx_T.call (M := rxm_154) (N := rxm_100) (j := 100) (as := [.ref 53, .int k]) (rest := []) rfl rfl rfl rfl rfl (show 19 + 6 ≤ w by omega) (rx_p1_isf k (show 30 ≤ w - (19 + 6) by omega)) ?_
  intro v1 h1 hp
  obtain ⟨rfl, rfl⟩ := hp
  refine rx_T.to 13 48 _ [.int (-1)] rx_lay0 rfl ?_
  exact rx_T.ret (M := rxm_154) rfl rfl rfl ⟨rfl, rfl⟩
set_option maxRecDepth 1000000 in
set_option maxHeartbeats 8000000 in
theorem rx_p1_turn_m (a b : Int32) : rx_T rx_cds rx_ms rx_lk0 rt d w 110 0 [(0, .ref 53), (1, .int a), (2, .int b)] [] rx_lay0 (fun v h' => v = some (.int (0)) ∧ h' = rx_lay0) := by
  refine rx_T.to 4 6 [(0, .ref 53), (1, .int a), (2, .int b)] [.int a] rx_lay0 rfl ?_
  refine rx_T.br1 (M := rxm_110) 17 rfl rfl (by decide) (fun _ => ?_) (fun h1 => ?_)
  · refine rx_T.to 1 18 [(0, .ref 53), (1, .int a), (2, .int b)] [.int 0] rx_lay0 rfl ?_
    exact rx_T.ret (M := rxm_110) rfl rfl rfl ⟨rfl, rfl⟩
  · refine rx_T.to 3 14 [(0, .ref 53), (1, .int a), (2, .int b)] [.int 0, .int a] rx_lay0 rfl ?_
    refine rx_T.br2 (M := rxm_110) 19 rfl rfl (by decide) (fun h2 => absurd (of_decide_eq_true h2) (of_decide_eq_false h1)) (fun _ => ?_)
    refine rx_T.to 1 18 [(0, .ref 53), (1, .int a), (2, .int b)] [.int 0] rx_lay0 rfl ?_
    exact rx_T.ret (M := rxm_110) rfl rfl rfl ⟨rfl, rfl⟩
set_option maxRecDepth 1000000 in
set_option maxHeartbeats 8000000 in
theorem rx_p1_need_m (a : Int32) : rx_T rx_cds rx_ms rx_lk0 rt d w 155 0 [(0, .ref 53), (1, .int a)] [] rx_lay0 (fun v h' => v = some (.int (-1)) ∧ h' = rx_lay0) := by
  refine rx_T.to 4 6 [(0, .ref 53), (1, .int a)] [.int a] rx_lay0 rfl ?_
  refine rx_T.br1 (M := rxm_155) 17 rfl rfl (by decide) (fun _ => ?_) (fun h1 => ?_)
  · refine rx_T.to 2 27 [(0, .ref 53), (1, .int a)] [.int (-1)] rx_lay0 rfl ?_
    exact rx_T.ret (M := rxm_155) rfl rfl rfl ⟨rfl, rfl⟩
  · refine rx_T.to 3 14 [(0, .ref 53), (1, .int a)] [.int 0, .int a] rx_lay0 rfl ?_
    refine rx_T.br2 (M := rxm_155) 21 rfl rfl (by decide) (fun h2 => absurd (of_decide_eq_true h2) (of_decide_eq_false h1)) (fun _ => ?_)
    refine rx_T.to 2 27 [(0, .ref 53), (1, .int a)] [.int (-1)] rx_lay0 rfl ?_
    exact rx_T.ret (M := rxm_155) rfl rfl rfl ⟨rfl, rfl⟩
set_option maxRecDepth 1000000 in
set_option maxHeartbeats 8000000 in
theorem rx_p1_nop (a : Int32) : rx_T rx_cds rx_ms rx_lk0 rt d w 157 0 [(0, .ref 53), (1, .int a)] [] rx_lay0 (fun v h' => v = some (.int (1)) ∧ h' = rx_lay0) := by
  refine rx_T.to 1 1 [(0, .ref 53), (1, .int a)] [.int a] rx_lay0 rfl ?_
  refine rx_T.br1 (M := rxm_157) 12 rfl rfl (by decide) (fun _ => ?_) (fun h1 => ?_)
  · refine rx_T.to 2 17 [(0, .ref 53), (1, .int a)] [.int 1] rx_lay0 rfl ?_
    exact rx_T.ret (M := rxm_157) rfl rfl rfl ⟨rfl, rfl⟩
  · refine rx_T.to 3 9 [(0, .ref 53), (1, .int a)] [.int 0, .int a] rx_lay0 rfl ?_
    refine rx_T.br2 (M := rxm_157) 16 rfl rfl (by decide) (fun h2 => absurd (of_decide_eq_true h2) (of_decide_eq_false h1)) (fun _ => ?_)
    refine rx_T.to 2 17 [(0, .ref 53), (1, .int a)] [.int 1] rx_lay0 rfl ?_
    exact rx_T.ret (M := rxm_157) rfl rfl rfl ⟨rfl, rfl⟩
set_option maxRecDepth 1000000 in
set_option maxHeartbeats 8000000 in
theorem rx_p1_line_m (a b : Int32) (hw : 60 ≤ w) : rx_T rx_cds rx_ms rx_lk0 rt (d + 1) w 156 0 [(0, .ref 53), (1, .int a), (2, .int b)] [] rx_lay0 (fun v h' => v = some (.int (0)) ∧ h' = rx_lay0) := by
  refine rx_T.to 5 7 [(0, .ref 53), (1, .int a), (2, .int b)] [.int a, .ref 53] rx_lay0 rfl ?_
  refine rx_T.call (M := rxm_156) (N := rxm_157) (j := 157) (as := [.ref 53, .int a]) (rest := []) rfl rfl rfl rfl rfl (show 19 + 2 ≤ w by omega) (rx_p1_nop a) ?_
  intro v1 h1 hp
  obtain ⟨rfl, rfl⟩ := hp
  refine rx_T.to 2 27 [(0, .ref 53), (1, .int a), (2, .int b)] [.int (0)] rx_lay0 rfl ?_
  exact rx_T.ret (M := rxm_156) rfl rfl rfl ⟨rfl, rfl⟩
set_option maxRecDepth 1000000 in
set_option maxHeartbeats 8000000 in
theorem rx_p1_circle_m (a b c : Int32) (hw : 60 ≤ w) : rx_T rx_cds rx_ms rx_lk0 rt (d + 1) w 158 0 [(0, .ref 53), (1, .int a), (2, .int b), (3, .int c)] [] rx_lay0 (fun v h' => v = some (.int (0)) ∧ h' = rx_lay0) := by
  refine rx_T.to 5 7 [(0, .ref 53), (1, .int a), (2, .int b), (3, .int c)] [.int a, .ref 53] rx_lay0 rfl ?_
  refine rx_T.call (M := rxm_158) (N := rxm_157) (j := 157) (as := [.ref 53, .int a]) (rest := []) rfl rfl rfl rfl rfl (show 19 + 2 ≤ w by omega) (rx_p1_nop a) ?_
  intro v1 h1 hp
  obtain ⟨rfl, rfl⟩ := hp
  refine rx_T.to 2 30 [(0, .ref 53), (1, .int a), (2, .int b), (3, .int c)] [.int (0)] rx_lay0 rfl ?_
  exact rx_T.ret (M := rxm_158) rfl rfl rfl ⟨rfl, rfl⟩
set_option maxRecDepth 1000000 in
set_option maxHeartbeats 8000000 in
theorem rx_p1_length_m (a b : Int32) (hw : 60 ≤ w) : rx_T rx_cds rx_ms rx_lk0 rt (d + 1) w 159 0 [(0, .ref 53), (1, .int a), (2, .int b)] [] rx_lay0 (fun v h' => v = some (.int (-1)) ∧ h' = rx_lay0) := by
  refine rx_T.to 5 7 [(0, .ref 53), (1, .int a), (2, .int b)] [.int a, .ref 53] rx_lay0 rfl ?_
  refine rx_T.call (M := rxm_159) (N := rxm_157) (j := 157) (as := [.ref 53, .int a]) (rest := []) rfl rfl rfl rfl rfl (show 19 + 2 ≤ w by omega) (rx_p1_nop a) ?_
  intro v1 h1 hp
  obtain ⟨rfl, rfl⟩ := hp
  refine rx_T.to 2 27 [(0, .ref 53), (1, .int a), (2, .int b)] [.int (-1)] rx_lay0 rfl ?_
  exact rx_T.ret (M := rxm_159) rfl rfl rfl ⟨rfl, rfl⟩
set_option maxRecDepth 1000000 in
set_option maxHeartbeats 8000000 in
theorem rx_p1_point_m0 (x y : Int32) (hn : ¬ rx_inr x y) : rx_T rx_cds rx_ms rx_lk0 rt d w 97 0 [(0, .ref 53), (1, .int x), (2, .int y)] [] rx_lay0 (fun v h' => v = some (.int (-1)) ∧ h' = rx_lay0) := by
  refine rx_T.to 6 11 [(0, .ref 53), (1, .int x), (2, .int y)] [.int (Int8.ofInt 7).toInt32, .int 0] rx_lay0 rfl ?_
  refine rx_T.op (M := rxm_97) (ins := .if_icmp .eq 38) rfl rfl rfl rfl (rx_b2_f (by decide +kernel) (by decide)) ?_
  refine rx_T.to 2 18 [(0, .ref 53), (1, .int x), (2, .int y)] [.int rx_k1, .int x] rx_lay0 rfl ?_
  refine rx_T.br2 (M := rxm_97) 49 rfl rfl (by decide) (fun _ => ?_) (fun h1 => ?_)
  · refine rx_T.to 1 50 [(0, .ref 53), (1, .int x), (2, .int y)] [.int (-1)] rx_lay0 rfl ?_
    exact rx_T.ret (M := rxm_97) rfl rfl rfl ⟨rfl, rfl⟩
  · refine rx_T.to 2 25 [(0, .ref 53), (1, .int x), (2, .int y)] [.int rx_k2, .int x] rx_lay0 rfl ?_
    refine rx_T.br2 (M := rxm_97) 49 rfl rfl (by decide) (fun _ => ?_) (fun h2 => ?_)
    · refine rx_T.to 1 50 [(0, .ref 53), (1, .int x), (2, .int y)] [.int (-1)] rx_lay0 rfl ?_
      exact rx_T.ret (M := rxm_97) rfl rfl rfl ⟨rfl, rfl⟩
    · refine rx_T.to 2 32 [(0, .ref 53), (1, .int x), (2, .int y)] [.int rx_k1, .int y] rx_lay0 rfl ?_
      refine rx_T.br2 (M := rxm_97) 49 rfl rfl (by decide) (fun _ => ?_) (fun h3 => ?_)
      · refine rx_T.to 1 50 [(0, .ref 53), (1, .int x), (2, .int y)] [.int (-1)] rx_lay0 rfl ?_
        exact rx_T.ret (M := rxm_97) rfl rfl rfl ⟨rfl, rfl⟩
      · refine rx_T.to 2 39 [(0, .ref 53), (1, .int x), (2, .int y)] [.int rx_k2, .int y] rx_lay0 rfl ?_
        refine rx_T.br2 (M := rxm_97) 49 rfl rfl (by decide) (fun _ => ?_) (fun h4 => ?_)
        · refine rx_T.to 1 50 [(0, .ref 53), (1, .int x), (2, .int y)] [.int (-1)] rx_lay0 rfl ?_
          exact rx_T.ret (M := rxm_97) rfl rfl rfl ⟨rfl, rfl⟩
        · exact absurd ⟨⟨of_decide_eq_false h1, of_decide_eq_false h2⟩, of_decide_eq_false h3, of_decide_eq_false h4⟩ hn
def rx_fsM : List Value := match (rx_lay0[37]? : Option rx_C) with | some (.inr q) => q.2 | _ => []
def rx_lq1 (x y : Int32) : rx_H := (rx_layP x y).set 38 (.inl (0, 12, .inl (upd (fun _ => 0) (0 : Int32).toNatClampNeg x)))
def rx_lq2 (x y : Int32) : rx_H := (rx_lq1 x y).set 39 (.inl (0, 12, .inl (upd (fun _ => 0) (0 : Int32).toNatClampNeg y)))
def rx_layQ (x y : Int32) : rx_H := (rx_lq2 x y).set 37 (.inr (5, rx_fsM.set 1 (.int (0 + Int32.ofInt 1))))
theorem rx_lp1_sz (x : Int32) : rx_sz (rx_lp1 x) = rx_sz rx_lay0 := rx_sz_set rx_lay0 2 (.inl (0, 8, .inl (fun _ => 0))) _ rfl rfl
theorem rx_lp1_at (x : Int32) (k : Nat) (h : ¬ k = 2) : (rx_lp1 x)[k]? = rx_lay0[k]? := List.getElem?_set_ne (fun z => h z.symm)
theorem rx_lp2_sz (x y : Int32) : rx_sz (rx_lp2 x y) = rx_sz rx_lay0 := (rx_sz_set (rx_lp1 x) 3 (.inl (0, 8, .inl (fun _ => 0))) _ (rx_lp1_at x 3 (by decide)) rfl).trans (rx_lp1_sz x)
theorem rx_lp2_at (x y : Int32) (k : Nat) (h : ¬ k = 2) (h3 : ¬ k = 3) : (rx_lp2 x y)[k]? = rx_lay0[k]? := (List.getElem?_set_ne (fun z => h3 z.symm)).trans (rx_lp1_at x k h)
theorem rx_layP_sz (x y : Int32) : rx_sz (rx_layP x y) = rx_sz rx_lay0 := (rx_sz_set (rx_lp2 x y) 1 (.inr (1, [.ref 18, .ref 19, .int 0])) _ (rx_lp2_at x y 1 (by decide) (by decide)) rfl).trans (rx_lp2_sz x y)
theorem rx_layP_at (x y : Int32) (k : Nat) (h : 37 ≤ k) : (rx_layP x y)[k]? = rx_lay0[k]? := (List.getElem?_set_ne (by omega)).trans (rx_lp2_at x y k (by omega) (by omega))
theorem rx_lq1_sz (x y : Int32) : rx_sz (rx_lq1 x y) = rx_sz rx_lay0 := (rx_sz_set (rx_layP x y) 38 (.inl (0, 12, .inl (fun _ => 0))) _ (rx_layP_at x y 38 (by decide)) rfl).trans (rx_layP_sz x y)
theorem rx_lq1_at (x y : Int32) (k : Nat) (h : 37 ≤ k) (h2 : ¬ k = 38) : (rx_lq1 x y)[k]? = rx_lay0[k]? := (List.getElem?_set_ne (fun z => h2 z.symm)).trans (rx_layP_at x y k h)
theorem rx_lq2_sz (x y : Int32) : rx_sz (rx_lq2 x y) = rx_sz rx_lay0 := (rx_sz_set (rx_lq1 x y) 39 (.inl (0, 12, .inl (fun _ => 0))) _ (rx_lq1_at x y 39 (by decide) (by decide)) rfl).trans (rx_lq1_sz x y)
theorem rx_lq2_at (x y : Int32) : (rx_lq2 x y)[37]? = rx_lay0[37]? := (List.getElem?_set_ne (by decide)).trans (rx_lq1_at x y 37 (by decide) (by decide))
theorem rx_layQ_sz (x y : Int32) : rx_sz (rx_layQ x y) = rx_sz rx_lay0 := (rx_sz_set (rx_lq2 x y) 37 (.inr (5, rx_fsM)) _ (rx_lq2_at x y) (by simp only [rx_sz1, List.length_set])).trans (rx_lq2_sz x y)
theorem rx_layQ_len (x y : Int32) : (rx_layQ x y).length = 61 := by
  unfold rx_layQ rx_lq2 rx_lq1 rx_layP rx_lp2 rx_lp1
  simp only [List.length_set]
  rfl
set_option maxRecDepth 1000000 in
set_option maxHeartbeats 8000000 in
theorem rx_p1_point_m1 (x y : Int32) (hn : rx_inr x y) : rx_T rx_cds rx_ms rx_lk0 rt d w 97 0 [(0, .ref 53), (1, .int x), (2, .int y)] [] (rx_layP x y) (fun v h' => v = some (.int (0)) ∧ h' = rx_layQ x y) := by
  refine rx_T.to 6 11 [(0, .ref 53), (1, .int x), (2, .int y)] [.int (Int8.ofInt 7).toInt32, .int 0] (rx_layP x y) rfl ?_
  refine rx_T.op (M := rxm_97) (ins := .if_icmp .eq 38) rfl rfl rfl rfl (rx_b2_f (by decide +kernel) (by decide)) ?_
  refine rx_T.to 2 18 [(0, .ref 53), (1, .int x), (2, .int y)] [.int rx_k1, .int x] (rx_layP x y) rfl ?_
  refine rx_T.br2 (M := rxm_97) 49 rfl rfl (by decide) (fun h1 => absurd (of_decide_eq_true h1) (hn.1.1)) (fun _ => ?_)
  refine rx_T.to 2 25 [(0, .ref 53), (1, .int x), (2, .int y)] [.int rx_k2, .int x] (rx_layP x y) rfl ?_
  refine rx_T.br2 (M := rxm_97) 49 rfl rfl (by decide) (fun h1 => absurd (of_decide_eq_true h1) (hn.1.2)) (fun _ => ?_)
  refine rx_T.to 2 32 [(0, .ref 53), (1, .int x), (2, .int y)] [.int rx_k1, .int y] (rx_layP x y) rfl ?_
  refine rx_T.br2 (M := rxm_97) 49 rfl rfl (by decide) (fun h1 => absurd (of_decide_eq_true h1) (hn.2.1)) (fun _ => ?_)
  refine rx_T.to 2 39 [(0, .ref 53), (1, .int x), (2, .int y)] [.int rx_k2, .int y] (rx_layP x y) rfl ?_
  refine rx_T.br2 (M := rxm_97) 49 rfl rfl (by decide) (fun h1 => absurd (of_decide_eq_true h1) (hn.2.2)) (fun _ => ?_)
  refine rx_T.to 34 130 _ [.int (0 + Int32.ofInt 1 - Int32.ofInt 1)] (rx_layQ x y) rfl ?_
  exact rx_T.ret (M := rxm_97) rfl rfl rfl ⟨by rw [show (0 : Int32) + Int32.ofInt 1 - Int32.ofInt 1 = 0 by decide +kernel], rfl⟩
set_option maxRecDepth 1000000 in
set_option maxHeartbeats 8000000 in
theorem rx_p1_told0_m  : rx_T rx_cds rx_ms rx_lk0 rt d w 160 0 [(0, .ref 53), (1, .int 0)] [] rx_lay0 (fun v h' => v = some (.int (0)) ∧ h' = rx_lay0) := by
  refine rx_T.to 10 24 [(3, .int 0), (2, .int 0), (0, .ref 53), (1, .int 0)] [] rx_lay0 rfl ?_
  refine rx_T.to 8 63 [(4, .int 0), (3, .int 0), (2, .int 0), (0, .ref 53), (1, .int 0)] [] rx_lay0 rfl ?_
  refine rx_T.to 14 63 [(4, .int 1), (3, .int 0), (2, .int 0), (0, .ref 53), (1, .int 0)] [] rx_lay0 rfl ?_
  refine rx_T.to 14 63 [(4, .int 2), (3, .int 0), (2, .int 0), (0, .ref 53), (1, .int 0)] [] rx_lay0 rfl ?_
  refine rx_T.to 14 63 [(4, .int 3), (3, .int 0), (2, .int 0), (0, .ref 53), (1, .int 0)] [] rx_lay0 rfl ?_
  refine rx_T.to 14 63 [(4, .int 4), (3, .int 0), (2, .int 0), (0, .ref 53), (1, .int 0)] [] rx_lay0 rfl ?_
  refine rx_T.to 14 63 [(4, .int 5), (3, .int 0), (2, .int 0), (0, .ref 53), (1, .int 0)] [] rx_lay0 rfl ?_
  refine rx_T.to 14 63 [(4, .int 6), (3, .int 0), (2, .int 0), (0, .ref 53), (1, .int 0)] [] rx_lay0 rfl ?_
  refine rx_T.to 14 63 [(4, .int 7), (3, .int 0), (2, .int 0), (0, .ref 53), (1, .int 0)] [] rx_lay0 rfl ?_
  refine rx_T.to 14 63 [(4, .int 8), (3, .int 0), (2, .int 0), (0, .ref 53), (1, .int 0)] [] rx_lay0 rfl ?_
  refine rx_T.to 14 63 [(4, .int 9), (3, .int 0), (2, .int 0), (0, .ref 53), (1, .int 0)] [] rx_lay0 rfl ?_
  refine rx_T.to 14 63 [(4, .int 10), (3, .int 0), (2, .int 0), (0, .ref 53), (1, .int 0)] [] rx_lay0 rfl ?_
  refine rx_T.to 14 63 [(4, .int 11), (3, .int 0), (2, .int 0), (0, .ref 53), (1, .int 0)] [] rx_lay0 rfl ?_
  refine rx_T.to 14 63 [(4, .int 12), (3, .int 0), (2, .int 0), (0, .ref 53), (1, .int 0)] [] rx_lay0 rfl ?_
  refine rx_T.to 14 63 [(4, .int 13), (3, .int 0), (2, .int 0), (0, .ref 53), (1, .int 0)] [] rx_lay0 rfl ?_
  refine rx_T.to 14 63 [(4, .int 14), (3, .int 0), (2, .int 0), (0, .ref 53), (1, .int 0)] [] rx_lay0 rfl ?_
  refine rx_T.to 14 63 [(4, .int 15), (3, .int 0), (2, .int 0), (0, .ref 53), (1, .int 0)] [] rx_lay0 rfl ?_
  refine rx_T.to 14 63 [(4, .int 16), (3, .int 0), (2, .int 0), (0, .ref 53), (1, .int 0)] [] rx_lay0 rfl ?_
  refine rx_T.to 14 63 [(4, .int 17), (3, .int 0), (2, .int 0), (0, .ref 53), (1, .int 0)] [] rx_lay0 rfl ?_
  refine rx_T.to 14 63 [(4, .int 18), (3, .int 0), (2, .int 0), (0, .ref 53), (1, .int 0)] [] rx_lay0 rfl ?_
  refine rx_T.to 14 63 [(4, .int 19), (3, .int 0), (2, .int 0), (0, .ref 53), (1, .int 0)] [] rx_lay0 rfl ?_
  refine rx_T.to 14 63 [(4, .int 20), (3, .int 0), (2, .int 0), (0, .ref 53), (1, .int 0)] [] rx_lay0 rfl ?_
  refine rx_T.to 14 63 [(4, .int 21), (3, .int 0), (2, .int 0), (0, .ref 53), (1, .int 0)] [] rx_lay0 rfl ?_
  refine rx_T.to 4 95 [(4, .int 21), (3, .int 0), (2, .int 0), (0, .ref 53), (1, .int 0)] [.int 0] rx_lay0 rfl ?_
  refine rx_T.tsw (M := rxm_160) 45 140 rfl rfl (by decide +kernel) (by decide +kernel) (by decide) ?_
  refine rx_T.to 2 144 _ [.int 0] rx_lay0 rfl ?_
  exact rx_T.ret (M := rxm_160) rfl rfl rfl ⟨rfl, rfl⟩
set_option maxRecDepth 1000000 in
set_option maxHeartbeats 8000000 in
theorem rx_p1_told1_m  : rx_T rx_cds rx_ms rx_lk0 rt d w 160 0 [(0, .ref 53), (1, .int 1)] [] rx_lay0 (fun v h' => v = some (.int (0)) ∧ h' = rx_lay0) := by
  refine rx_T.to 10 24 [(3, .int 0), (2, .int 0), (0, .ref 53), (1, .int 1)] [] rx_lay0 rfl ?_
  refine rx_T.to 8 63 [(4, .int 0), (3, .int 0), (2, .int 0), (0, .ref 53), (1, .int 1)] [] rx_lay0 rfl ?_
  refine rx_T.to 14 63 [(4, .int 1), (3, .int 0), (2, .int 0), (0, .ref 53), (1, .int 1)] [] rx_lay0 rfl ?_
  refine rx_T.to 14 63 [(4, .int 2), (3, .int 0), (2, .int 0), (0, .ref 53), (1, .int 1)] [] rx_lay0 rfl ?_
  refine rx_T.to 14 63 [(4, .int 3), (3, .int 0), (2, .int 0), (0, .ref 53), (1, .int 1)] [] rx_lay0 rfl ?_
  refine rx_T.to 14 63 [(4, .int 4), (3, .int 0), (2, .int 0), (0, .ref 53), (1, .int 1)] [] rx_lay0 rfl ?_
  refine rx_T.to 14 63 [(4, .int 5), (3, .int 0), (2, .int 0), (0, .ref 53), (1, .int 1)] [] rx_lay0 rfl ?_
  refine rx_T.to 14 63 [(4, .int 6), (3, .int 0), (2, .int 0), (0, .ref 53), (1, .int 1)] [] rx_lay0 rfl ?_
  refine rx_T.to 14 63 [(4, .int 7), (3, .int 0), (2, .int 0), (0, .ref 53), (1, .int 1)] [] rx_lay0 rfl ?_
  refine rx_T.to 14 63 [(4, .int 8), (3, .int 0), (2, .int 0), (0, .ref 53), (1, .int 1)] [] rx_lay0 rfl ?_
  refine rx_T.to 14 63 [(4, .int 9), (3, .int 0), (2, .int 0), (0, .ref 53), (1, .int 1)] [] rx_lay0 rfl ?_
  refine rx_T.to 14 63 [(4, .int 10), (3, .int 0), (2, .int 0), (0, .ref 53), (1, .int 1)] [] rx_lay0 rfl ?_
  refine rx_T.to 14 63 [(4, .int 11), (3, .int 0), (2, .int 0), (0, .ref 53), (1, .int 1)] [] rx_lay0 rfl ?_
  refine rx_T.to 14 63 [(4, .int 12), (3, .int 0), (2, .int 0), (0, .ref 53), (1, .int 1)] [] rx_lay0 rfl ?_
  refine rx_T.to 14 63 [(4, .int 13), (3, .int 0), (2, .int 0), (0, .ref 53), (1, .int 1)] [] rx_lay0 rfl ?_
  refine rx_T.to 14 63 [(4, .int 14), (3, .int 0), (2, .int 0), (0, .ref 53), (1, .int 1)] [] rx_lay0 rfl ?_
  refine rx_T.to 14 63 [(4, .int 15), (3, .int 0), (2, .int 0), (0, .ref 53), (1, .int 1)] [] rx_lay0 rfl ?_
  refine rx_T.to 14 63 [(4, .int 16), (3, .int 0), (2, .int 0), (0, .ref 53), (1, .int 1)] [] rx_lay0 rfl ?_
  refine rx_T.to 14 63 [(4, .int 17), (3, .int 0), (2, .int 0), (0, .ref 53), (1, .int 1)] [] rx_lay0 rfl ?_
  refine rx_T.to 14 63 [(4, .int 18), (3, .int 0), (2, .int 0), (0, .ref 53), (1, .int 1)] [] rx_lay0 rfl ?_
  refine rx_T.to 14 63 [(4, .int 19), (3, .int 0), (2, .int 0), (0, .ref 53), (1, .int 1)] [] rx_lay0 rfl ?_
  refine rx_T.to 14 63 [(4, .int 20), (3, .int 0), (2, .int 0), (0, .ref 53), (1, .int 1)] [] rx_lay0 rfl ?_
  refine rx_T.to 14 63 [(4, .int 21), (3, .int 0), (2, .int 0), (0, .ref 53), (1, .int 1)] [] rx_lay0 rfl ?_
  refine rx_T.to 4 95 [(4, .int 21), (3, .int 0), (2, .int 0), (0, .ref 53), (1, .int 1)] [.int 1] rx_lay0 rfl ?_
  refine rx_T.tsw (M := rxm_160) 50 145 rfl rfl (by decide +kernel) (by decide +kernel) (by decide) ?_
  refine rx_T.to 2 149 _ [.int 0] rx_lay0 rfl ?_
  exact rx_T.ret (M := rxm_160) rfl rfl rfl ⟨rfl, rfl⟩
set_option maxRecDepth 1000000 in
set_option maxHeartbeats 8000000 in
theorem rx_p1_told2_m  : rx_T rx_cds rx_ms rx_lk0 rt d w 160 0 [(0, .ref 53), (1, .int 2)] [] rx_lay0 (fun v h' => v = some (.int (0)) ∧ h' = rx_lay0) := by
  refine rx_T.to 10 24 [(3, .int 0), (2, .int 0), (0, .ref 53), (1, .int 2)] [] rx_lay0 rfl ?_
  refine rx_T.to 8 63 [(4, .int 0), (3, .int 0), (2, .int 0), (0, .ref 53), (1, .int 2)] [] rx_lay0 rfl ?_
  refine rx_T.to 14 63 [(4, .int 1), (3, .int 0), (2, .int 0), (0, .ref 53), (1, .int 2)] [] rx_lay0 rfl ?_
  refine rx_T.to 14 63 [(4, .int 2), (3, .int 0), (2, .int 0), (0, .ref 53), (1, .int 2)] [] rx_lay0 rfl ?_
  refine rx_T.to 14 63 [(4, .int 3), (3, .int 0), (2, .int 0), (0, .ref 53), (1, .int 2)] [] rx_lay0 rfl ?_
  refine rx_T.to 14 63 [(4, .int 4), (3, .int 0), (2, .int 0), (0, .ref 53), (1, .int 2)] [] rx_lay0 rfl ?_
  refine rx_T.to 14 63 [(4, .int 5), (3, .int 0), (2, .int 0), (0, .ref 53), (1, .int 2)] [] rx_lay0 rfl ?_
  refine rx_T.to 14 63 [(4, .int 6), (3, .int 0), (2, .int 0), (0, .ref 53), (1, .int 2)] [] rx_lay0 rfl ?_
  refine rx_T.to 14 63 [(4, .int 7), (3, .int 0), (2, .int 0), (0, .ref 53), (1, .int 2)] [] rx_lay0 rfl ?_
  refine rx_T.to 14 63 [(4, .int 8), (3, .int 0), (2, .int 0), (0, .ref 53), (1, .int 2)] [] rx_lay0 rfl ?_
  refine rx_T.to 14 63 [(4, .int 9), (3, .int 0), (2, .int 0), (0, .ref 53), (1, .int 2)] [] rx_lay0 rfl ?_
  refine rx_T.to 14 63 [(4, .int 10), (3, .int 0), (2, .int 0), (0, .ref 53), (1, .int 2)] [] rx_lay0 rfl ?_
  refine rx_T.to 14 63 [(4, .int 11), (3, .int 0), (2, .int 0), (0, .ref 53), (1, .int 2)] [] rx_lay0 rfl ?_
  refine rx_T.to 14 63 [(4, .int 12), (3, .int 0), (2, .int 0), (0, .ref 53), (1, .int 2)] [] rx_lay0 rfl ?_
  refine rx_T.to 14 63 [(4, .int 13), (3, .int 0), (2, .int 0), (0, .ref 53), (1, .int 2)] [] rx_lay0 rfl ?_
  refine rx_T.to 14 63 [(4, .int 14), (3, .int 0), (2, .int 0), (0, .ref 53), (1, .int 2)] [] rx_lay0 rfl ?_
  refine rx_T.to 14 63 [(4, .int 15), (3, .int 0), (2, .int 0), (0, .ref 53), (1, .int 2)] [] rx_lay0 rfl ?_
  refine rx_T.to 14 63 [(4, .int 16), (3, .int 0), (2, .int 0), (0, .ref 53), (1, .int 2)] [] rx_lay0 rfl ?_
  refine rx_T.to 14 63 [(4, .int 17), (3, .int 0), (2, .int 0), (0, .ref 53), (1, .int 2)] [] rx_lay0 rfl ?_
  refine rx_T.to 14 63 [(4, .int 18), (3, .int 0), (2, .int 0), (0, .ref 53), (1, .int 2)] [] rx_lay0 rfl ?_
  refine rx_T.to 14 63 [(4, .int 19), (3, .int 0), (2, .int 0), (0, .ref 53), (1, .int 2)] [] rx_lay0 rfl ?_
  refine rx_T.to 14 63 [(4, .int 20), (3, .int 0), (2, .int 0), (0, .ref 53), (1, .int 2)] [] rx_lay0 rfl ?_
  refine rx_T.to 14 63 [(4, .int 21), (3, .int 0), (2, .int 0), (0, .ref 53), (1, .int 2)] [] rx_lay0 rfl ?_
  refine rx_T.to 4 95 [(4, .int 21), (3, .int 0), (2, .int 0), (0, .ref 53), (1, .int 2)] [.int 2] rx_lay0 rfl ?_
  refine rx_T.tsw (M := rxm_160) 55 150 rfl rfl (by decide +kernel) (by decide +kernel) (by decide) ?_
  refine rx_T.to 1 151 _ [.int 0] rx_lay0 rfl ?_
  exact rx_T.ret (M := rxm_160) rfl rfl rfl ⟨rfl, rfl⟩
set_option maxRecDepth 1000000 in
set_option maxHeartbeats 8000000 in
theorem rx_p1_told3_m  : rx_T rx_cds rx_ms rx_lk0 rt d w 160 0 [(0, .ref 53), (1, .int 3)] [] rx_lay0 (fun v h' => v = some (.int (0)) ∧ h' = rx_lay0) := by
  refine rx_T.to 10 24 [(3, .int 0), (2, .int 0), (0, .ref 53), (1, .int 3)] [] rx_lay0 rfl ?_
  refine rx_T.to 8 63 [(4, .int 0), (3, .int 0), (2, .int 0), (0, .ref 53), (1, .int 3)] [] rx_lay0 rfl ?_
  refine rx_T.to 14 63 [(4, .int 1), (3, .int 0), (2, .int 0), (0, .ref 53), (1, .int 3)] [] rx_lay0 rfl ?_
  refine rx_T.to 14 63 [(4, .int 2), (3, .int 0), (2, .int 0), (0, .ref 53), (1, .int 3)] [] rx_lay0 rfl ?_
  refine rx_T.to 14 63 [(4, .int 3), (3, .int 0), (2, .int 0), (0, .ref 53), (1, .int 3)] [] rx_lay0 rfl ?_
  refine rx_T.to 14 63 [(4, .int 4), (3, .int 0), (2, .int 0), (0, .ref 53), (1, .int 3)] [] rx_lay0 rfl ?_
  refine rx_T.to 14 63 [(4, .int 5), (3, .int 0), (2, .int 0), (0, .ref 53), (1, .int 3)] [] rx_lay0 rfl ?_
  refine rx_T.to 14 63 [(4, .int 6), (3, .int 0), (2, .int 0), (0, .ref 53), (1, .int 3)] [] rx_lay0 rfl ?_
  refine rx_T.to 14 63 [(4, .int 7), (3, .int 0), (2, .int 0), (0, .ref 53), (1, .int 3)] [] rx_lay0 rfl ?_
  refine rx_T.to 14 63 [(4, .int 8), (3, .int 0), (2, .int 0), (0, .ref 53), (1, .int 3)] [] rx_lay0 rfl ?_
  refine rx_T.to 14 63 [(4, .int 9), (3, .int 0), (2, .int 0), (0, .ref 53), (1, .int 3)] [] rx_lay0 rfl ?_
  refine rx_T.to 14 63 [(4, .int 10), (3, .int 0), (2, .int 0), (0, .ref 53), (1, .int 3)] [] rx_lay0 rfl ?_
  refine rx_T.to 14 63 [(4, .int 11), (3, .int 0), (2, .int 0), (0, .ref 53), (1, .int 3)] [] rx_lay0 rfl ?_
  refine rx_T.to 14 63 [(4, .int 12), (3, .int 0), (2, .int 0), (0, .ref 53), (1, .int 3)] [] rx_lay0 rfl ?_
  refine rx_T.to 14 63 [(4, .int 13), (3, .int 0), (2, .int 0), (0, .ref 53), (1, .int 3)] [] rx_lay0 rfl ?_
  refine rx_T.to 14 63 [(4, .int 14), (3, .int 0), (2, .int 0), (0, .ref 53), (1, .int 3)] [] rx_lay0 rfl ?_
  refine rx_T.to 14 63 [(4, .int 15), (3, .int 0), (2, .int 0), (0, .ref 53), (1, .int 3)] [] rx_lay0 rfl ?_
  refine rx_T.to 14 63 [(4, .int 16), (3, .int 0), (2, .int 0), (0, .ref 53), (1, .int 3)] [] rx_lay0 rfl ?_
  refine rx_T.to 14 63 [(4, .int 17), (3, .int 0), (2, .int 0), (0, .ref 53), (1, .int 3)] [] rx_lay0 rfl ?_
  refine rx_T.to 14 63 [(4, .int 18), (3, .int 0), (2, .int 0), (0, .ref 53), (1, .int 3)] [] rx_lay0 rfl ?_
  refine rx_T.to 14 63 [(4, .int 19), (3, .int 0), (2, .int 0), (0, .ref 53), (1, .int 3)] [] rx_lay0 rfl ?_
  refine rx_T.to 14 63 [(4, .int 20), (3, .int 0), (2, .int 0), (0, .ref 53), (1, .int 3)] [] rx_lay0 rfl ?_
  refine rx_T.to 14 63 [(4, .int 21), (3, .int 0), (2, .int 0), (0, .ref 53), (1, .int 3)] [] rx_lay0 rfl ?_
  refine rx_T.to 4 95 [(4, .int 21), (3, .int 0), (2, .int 0), (0, .ref 53), (1, .int 3)] [.int 3] rx_lay0 rfl ?_
  refine rx_T.tsw (M := rxm_160) 57 152 rfl rfl (by decide +kernel) (by decide +kernel) (by decide) ?_
  refine rx_T.to 2 156 _ [.int 0] rx_lay0 rfl ?_
  exact rx_T.ret (M := rxm_160) rfl rfl rfl ⟨rfl, rfl⟩
set_option maxRecDepth 1000000 in
set_option maxHeartbeats 8000000 in
theorem rx_p1_toldn_m (a : Int32) (ha : a.toInt < 0 ∨ 7 < a.toInt) : rx_T rx_cds rx_ms rx_lk0 rt d w 160 0 [(0, .ref 53), (1, .int a)] [] rx_lay0 (fun v h' => v = some (.int (-1)) ∧ h' = rx_lay0) := by
  have K : rx_T rx_cds rx_ms rx_lk0 rt d w 160 24 [(3, .int 0), (2, .int 0), (0, .ref 53), (1, .int a)] [] rx_lay0 (fun v h' => v = some (.int (-1)) ∧ h' = rx_lay0) := by
    refine rx_T.to 8 63 [(4, .int 0), (3, .int 0), (2, .int 0), (0, .ref 53), (1, .int a)] [] rx_lay0 rfl ?_
    refine rx_T.to 14 63 [(4, .int 1), (3, .int 0), (2, .int 0), (0, .ref 53), (1, .int a)] [] rx_lay0 rfl ?_
    refine rx_T.to 14 63 [(4, .int 2), (3, .int 0), (2, .int 0), (0, .ref 53), (1, .int a)] [] rx_lay0 rfl ?_
    refine rx_T.to 14 63 [(4, .int 3), (3, .int 0), (2, .int 0), (0, .ref 53), (1, .int a)] [] rx_lay0 rfl ?_
    refine rx_T.to 14 63 [(4, .int 4), (3, .int 0), (2, .int 0), (0, .ref 53), (1, .int a)] [] rx_lay0 rfl ?_
    refine rx_T.to 14 63 [(4, .int 5), (3, .int 0), (2, .int 0), (0, .ref 53), (1, .int a)] [] rx_lay0 rfl ?_
    refine rx_T.to 14 63 [(4, .int 6), (3, .int 0), (2, .int 0), (0, .ref 53), (1, .int a)] [] rx_lay0 rfl ?_
    refine rx_T.to 14 63 [(4, .int 7), (3, .int 0), (2, .int 0), (0, .ref 53), (1, .int a)] [] rx_lay0 rfl ?_
    refine rx_T.to 14 63 [(4, .int 8), (3, .int 0), (2, .int 0), (0, .ref 53), (1, .int a)] [] rx_lay0 rfl ?_
    refine rx_T.to 14 63 [(4, .int 9), (3, .int 0), (2, .int 0), (0, .ref 53), (1, .int a)] [] rx_lay0 rfl ?_
    refine rx_T.to 14 63 [(4, .int 10), (3, .int 0), (2, .int 0), (0, .ref 53), (1, .int a)] [] rx_lay0 rfl ?_
    refine rx_T.to 14 63 [(4, .int 11), (3, .int 0), (2, .int 0), (0, .ref 53), (1, .int a)] [] rx_lay0 rfl ?_
    refine rx_T.to 14 63 [(4, .int 12), (3, .int 0), (2, .int 0), (0, .ref 53), (1, .int a)] [] rx_lay0 rfl ?_
    refine rx_T.to 14 63 [(4, .int 13), (3, .int 0), (2, .int 0), (0, .ref 53), (1, .int a)] [] rx_lay0 rfl ?_
    refine rx_T.to 14 63 [(4, .int 14), (3, .int 0), (2, .int 0), (0, .ref 53), (1, .int a)] [] rx_lay0 rfl ?_
    refine rx_T.to 14 63 [(4, .int 15), (3, .int 0), (2, .int 0), (0, .ref 53), (1, .int a)] [] rx_lay0 rfl ?_
    refine rx_T.to 14 63 [(4, .int 16), (3, .int 0), (2, .int 0), (0, .ref 53), (1, .int a)] [] rx_lay0 rfl ?_
    refine rx_T.to 14 63 [(4, .int 17), (3, .int 0), (2, .int 0), (0, .ref 53), (1, .int a)] [] rx_lay0 rfl ?_
    refine rx_T.to 14 63 [(4, .int 18), (3, .int 0), (2, .int 0), (0, .ref 53), (1, .int a)] [] rx_lay0 rfl ?_
    refine rx_T.to 14 63 [(4, .int 19), (3, .int 0), (2, .int 0), (0, .ref 53), (1, .int a)] [] rx_lay0 rfl ?_
    refine rx_T.to 14 63 [(4, .int 20), (3, .int 0), (2, .int 0), (0, .ref 53), (1, .int a)] [] rx_lay0 rfl ?_
    refine rx_T.to 14 63 [(4, .int 21), (3, .int 0), (2, .int 0), (0, .ref 53), (1, .int a)] [] rx_lay0 rfl ?_
    refine rx_T.to 4 95 [(4, .int 21), (3, .int 0), (2, .int 0), (0, .ref 53), (1, .int a)] [.int a] rx_lay0 rfl ?_
    refine rx_T.tsd (M := rxm_160) 174 rfl rfl ha (by decide) ?_
    refine rx_T.to 1 175 _ [.int (-1)] rx_lay0 rfl ?_
    exact rx_T.ret (M := rxm_160) rfl rfl rfl ⟨rfl, rfl⟩
  refine rx_T.to 9 11 [(3, .int 0), (2, .int 0), (0, .ref 53), (1, .int a)] [.int 3, .int a] rx_lay0 rfl ?_
  refine rx_T.br2 (M := rxm_160) 24 rfl rfl (by decide) (fun _ => K) (fun h1 => ?_)
  refine rx_T.to 2 17 [(3, .int 0), (2, .int 0), (0, .ref 53), (1, .int a)] [.int (Int8.ofInt 8).toInt32, .int a] rx_lay0 rfl ?_
  refine rx_T.br2 (M := rxm_160) 24 rfl rfl (by decide) (fun _ => K) (fun h2 => ?_)
  have a1 : ¬ a.toInt ≤ 3 := fun q => of_decide_eq_false h1 (Int32.le_iff_toInt_le.mpr q)
  have a2 : ¬ 8 ≤ a.toInt := fun q => of_decide_eq_false h2 (Int32.le_iff_toInt_le.mpr q)
  omega
end RXP3
