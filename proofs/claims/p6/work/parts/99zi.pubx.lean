section RXPX
variable {rt : rx_R} {d w : Nat} {P : Option Value → rx_H → Prop}
set_option maxRecDepth 100000 in
set_option maxHeartbeats 4000000 in
theorem rx_xhas {p : Int32} {n : Nat} {h : rx_H} (hn : n ≤ 7) (hh : rx_hin rx_I0 h) (en : rx_gF h 1 2 = nI n) : rx_T rx_cds rx_ms rx_lk0 rt d w 11 0 [(0, .ref 17), (1, .int p)] [] h (fun v h' => ((v = some (.int 1) ∧ (∃ a, a < n ∧ p = nI a)) ∨ (v = some (.int 0) ∧ ¬ (∃ a, a < n ∧ p = nI a))) ∧ h' = h) := by
  refine rx_T.to 1 1 [(0, .ref 17), (1, .int p)] [.int p] h rfl ?_
  refine rx_T.br1 (M := rxm_11) 16 rfl rfl (by decide) (fun q => ?_) (fun q1 => ?_)
  · have z : p.toInt < 0 := Int32.lt_iff_toInt_lt.mp (of_decide_eq_true q)
    refine rx_T.to 1 17 [(0, .ref 17), (1, .int p)] [.int 0] h rfl ?_
    refine rx_T.ret (M := rxm_11) (v := some (.int 0)) rfl rfl rfl ⟨Or.inr ⟨rfl, fun y => ?_⟩, rfl⟩
    obtain ⟨a, ha, rfl⟩ := y
    rw [nI_toInt (by omega)] at z
    omega
  · have z1 : ¬ p.toInt < 0 := fun z => of_decide_eq_false q1 (Int32.lt_iff_toInt_lt.mpr z)
    refine rx_T.to 2 6 [(0, .ref 17), (1, .int p)] [.ref 17, .int p] h rfl ?_
    refine rx_T.gfF (M := rxm_11) (k := 1) rfl rfl rfl hh rfl rfl ?_
    rw [en]
    refine rx_T.br2 (M := rxm_11) 16 rfl rfl (by decide) (fun q => ?_) (fun q2 => ?_)
    · have z : (nI n).toInt ≤ p.toInt := Int32.le_iff_toInt_le.mp (of_decide_eq_true q)
      rw [nI_toInt (by omega)] at z
      refine rx_T.to 1 17 [(0, .ref 17), (1, .int p)] [.int 0] h rfl ?_
      refine rx_T.ret (M := rxm_11) (v := some (.int 0)) rfl rfl rfl ⟨Or.inr ⟨rfl, fun y => ?_⟩, rfl⟩
      obtain ⟨a, ha, rfl⟩ := y
      rw [nI_toInt (by omega)] at z
      omega
    · have z : ¬ (nI n).toInt ≤ p.toInt := fun z => of_decide_eq_false q2 (Int32.le_iff_toInt_le.mpr z)
      rw [nI_toInt (by omega)] at z
      refine rx_T.to 2 17 [(0, .ref 17), (1, .int p)] [.int 1] h rfl ?_
      obtain ⟨a, rfl, ha⟩ := rx_nIof (n := 6) (x := p) (by omega) (by omega)
      rw [nI_toInt (by omega)] at z
      exact rx_T.ret (M := rxm_11) (v := some (.int 1)) rfl rfl rfl ⟨Or.inl ⟨rfl, a, by omega, rfl⟩, rfl⟩
set_option maxRecDepth 100000 in
set_option maxHeartbeats 4000000 in
theorem rx_xco {x : Int32} {h : rx_H} : rx_T rx_cds rx_ms rx_lk0 rt d w 8 0 [(0, .int x)] [] h (fun v h' => ((v = some (.int 1) ∧ (-1000 ≤ x.toInt ∧ x.toInt ≤ 1000)) ∨ (v = some (.int 0) ∧ ¬ (-1000 ≤ x.toInt ∧ x.toInt ≤ 1000))) ∧ h' = h) := by
  have k1 : ((Int16.ofInt (-1000)).toInt32).toInt = -1000 := by decide +kernel
  have k2 : ((Int16.ofInt 1000).toInt32).toInt = 1000 := by decide +kernel
  refine rx_T.to 2 4 [(0, .int x)] [.int (Int16.ofInt (-1000)).toInt32, .int x] h rfl ?_
  refine rx_T.br2 (M := rxm_8) 18 rfl rfl (by decide) (fun q => ?_) (fun q1 => ?_)
  · have z := Int32.lt_iff_toInt_lt.mp (of_decide_eq_true q)
    rw [k1] at z
    refine rx_T.to 1 19 [(0, .int x)] [.int 0] h rfl ?_
    exact rx_T.ret (M := rxm_8) (v := some (.int 0)) rfl rfl rfl ⟨Or.inr ⟨rfl, fun y => by omega⟩, rfl⟩
  · have z1 : ¬ x.toInt < -1000 := fun z => of_decide_eq_false q1 (Int32.lt_iff_toInt_lt.mpr (by rw [k1]; exact z))
    refine rx_T.to 2 11 [(0, .int x)] [.int (Int16.ofInt 1000).toInt32, .int x] h rfl ?_
    refine rx_T.br2 (M := rxm_8) 18 rfl rfl (by decide) (fun q => ?_) (fun q2 => ?_)
    · have z := Int32.lt_iff_toInt_lt.mp (of_decide_eq_true q)
      rw [k2] at z
      refine rx_T.to 1 19 [(0, .int x)] [.int 0] h rfl ?_
      exact rx_T.ret (M := rxm_8) (v := some (.int 0)) rfl rfl rfl ⟨Or.inr ⟨rfl, fun y => by omega⟩, rfl⟩
    · have z2 : ¬ 1000 < x.toInt := fun z => of_decide_eq_false q2 (Int32.lt_iff_toInt_lt.mpr (by rw [k2]; exact z))
      refine rx_T.to 2 19 [(0, .int x)] [.int 1] h rfl ?_
      exact rx_T.ret (M := rxm_8) (v := some (.int 1)) rfl rfl rfl ⟨Or.inl ⟨rfl, by omega, by omega⟩, rfl⟩
/-- there is room for a POINT -/
def rx_rm7 (X Y : Nat → Int32) (n : Nat) (x y : Int32) : Prop := n < 7 ∧ (-1000 ≤ x.toInt ∧ x.toInt ≤ 1000) ∧ (-1000 ≤ y.toInt ∧ y.toInt ≤ 1000) ∧ ∀ j, j < n → ¬ (X j = x ∧ Y j = y)
set_option maxRecDepth 100000 in
set_option maxHeartbeats 4000000 in
theorem rx_hr_l {n : Nat} {x y : Int32} {h : rx_H} (hn : n < 7) (hx : -1000 ≤ x.toInt ∧ x.toInt ≤ 1000) (hy : -1000 ≤ y.toInt ∧ y.toInt ≤ 1000) (hh : rx_hin rx_I0 h) (en : rx_gF h 1 2 = nI n) : ∀ (q j : Nat), j + q = n → (∀ i, i < j → ¬ (rx_gI h 2 i = x ∧ rx_gI h 3 i = y)) →
    rx_T rx_cds rx_ms rx_lk0 rt d w 7 27 [(3, .int (nI j)), (0, .ref 17), (1, .int x), (2, .int y)] [] h (fun v h' => ((v = some (.int 1) ∧ (rx_rm7 (rx_gI h 2) (rx_gI h 3) n x y)) ∨ (v = some (.int 0) ∧ ¬ (rx_rm7 (rx_gI h 2) (rx_gI h 3) n x y))) ∧ h' = h) := by
  intro q
  induction q with
  | zero =>
    intro j hj ha
    have ej : j = n := by omega
    subst ej
    refine rx_T.to 2 29 [(3, .int (nI j)), (0, .ref 17), (1, .int x), (2, .int y)] [.ref 17, .int (nI j)] h rfl ?_
    refine rx_T.gfF (M := rxm_7) (k := 1) rfl rfl rfl hh rfl rfl ?_
    rw [en]
    refine rx_T.op (M := rxm_7) (ins := .if_icmp .ge 31) rfl rfl rfl rfl (rx_b2_t 63 (decide_eq_true (nI_le (Nat.le_refl j) (by omega))) (by decide)) ?_
    refine rx_T.to 1 64 [(3, .int (nI j)), (0, .ref 17), (1, .int x), (2, .int y)] [.int 1] h rfl ?_
    exact rx_T.ret (M := rxm_7) (v := some (.int 1)) rfl rfl rfl ⟨Or.inl ⟨rfl, hn, hx, hy, ha⟩, rfl⟩
  | succ q ih =>
    intro j hj ha
    have hjn : j < n := by omega
    have nxt : ¬ (rx_gI h 2 j = x ∧ rx_gI h 3 j = y) → ∀ i, i < j + 1 → ¬ (rx_gI h 2 i = x ∧ rx_gI h 3 i = y) := fun z i hi => by
      by_cases e : i = j
      · rw [e]
        exact z
      · exact ha i (by omega)
    refine rx_T.to 2 29 [(3, .int (nI j)), (0, .ref 17), (1, .int x), (2, .int y)] [.ref 17, .int (nI j)] h rfl ?_
    refine rx_T.gfF (M := rxm_7) (k := 1) rfl rfl rfl hh rfl rfl ?_
    rw [en]
    refine rx_T.op (M := rxm_7) (ins := .if_icmp .ge 31) rfl rfl rfl rfl (rx_b2_f (decide_eq_false (nI_ge hjn (by omega))) (by decide)) ?_
    refine rx_T.to 1 36 [(3, .int (nI j)), (0, .ref 17), (1, .int x), (2, .int y)] [.ref 17] h rfl ?_
    refine rx_T.gfr (M := rxm_7) (k := 1) rfl rfl rfl hh rfl rfl ?_
    refine rx_T.to 1 40 [(3, .int (nI j)), (0, .ref 17), (1, .int x), (2, .int y)] [.int (nI j), .ref 18] h rfl ?_
    refine rx_T.iaR (M := rxm_7) (k := 2) rfl rfl hh rfl (show j < 8 by omega) (by decide) ?_
    refine rx_T.to 1 42 [(3, .int (nI j)), (0, .ref 17), (1, .int x), (2, .int y)] [.int x, .int (rx_gI h 2 (j))] h rfl ?_
    refine rx_T.br2 (M := rxm_7) 57 rfl rfl (by decide) (fun q => ?_) (fun q1 => ?_)
    · have z : ¬ rx_gI h 2 j = x := by simpa [rx_c2] using q
      refine rx_T.to 2 27 [(3, .int ((nI j) + Int32.ofInt 1)), (0, .ref 17), (1, .int x), (2, .int y)] [] h rfl ?_
      rw [show nI j + Int32.ofInt 1 = nI (j + 1) from nI_1 j]
      exact ih (j + 1) (by omega) (nxt (fun y => z y.1))
    · have z : rx_gI h 2 j = x := by simpa [rx_c2] using q1
      refine rx_T.to 1 46 [(3, .int (nI j)), (0, .ref 17), (1, .int x), (2, .int y)] [.ref 17] h rfl ?_
      refine rx_T.gfr (M := rxm_7) (k := 1) rfl rfl rfl hh rfl rfl ?_
      refine rx_T.to 1 50 [(3, .int (nI j)), (0, .ref 17), (1, .int x), (2, .int y)] [.int (nI j), .ref 19] h rfl ?_
      refine rx_T.iaR (M := rxm_7) (k := 3) rfl rfl hh rfl (show j < 8 by omega) (by decide) ?_
      refine rx_T.to 1 52 [(3, .int (nI j)), (0, .ref 17), (1, .int x), (2, .int y)] [.int y, .int (rx_gI h 3 (j))] h rfl ?_
      refine rx_T.br2 (M := rxm_7) 57 rfl rfl (by decide) (fun q => ?_) (fun q2 => ?_)
      · have z2 : ¬ rx_gI h 3 j = y := by simpa [rx_c2] using q
        refine rx_T.to 2 27 [(3, .int ((nI j) + Int32.ofInt 1)), (0, .ref 17), (1, .int x), (2, .int y)] [] h rfl ?_
        rw [show nI j + Int32.ofInt 1 = nI (j + 1) from nI_1 j]
        exact ih (j + 1) (by omega) (nxt (fun y => z2 y.2))
      · have z2 : rx_gI h 3 j = y := by simpa [rx_c2] using q2
        refine rx_T.to 1 56 [(3, .int (nI j)), (0, .ref 17), (1, .int x), (2, .int y)] [.int 0] h rfl ?_
        exact rx_T.ret (M := rxm_7) (v := some (.int 0)) rfl rfl rfl ⟨Or.inr ⟨rfl, fun r => r.2.2.2 j hjn ⟨z, z2⟩⟩, rfl⟩
set_option maxRecDepth 100000 in
set_option maxHeartbeats 4000000 in
theorem rx_xroom {n : Nat} {x y : Int32} {h : rx_H} (hn : n ≤ 7) (hw : 20 ≤ w) (hh : rx_hin rx_I0 h) (en : rx_gF h 1 2 = nI n) : rx_T rx_cds rx_ms rx_lk0 rt (d + 1) w 7 0 [(0, .ref 17), (1, .int x), (2, .int y)] [] h (fun v h' => ((v = some (.int 1) ∧ (rx_rm7 (rx_gI h 2) (rx_gI h 3) n x y)) ∨ (v = some (.int 0) ∧ ¬ (rx_rm7 (rx_gI h 2) (rx_gI h 3) n x y))) ∧ h' = h) := by
  refine rx_T.to 1 1 [(0, .ref 17), (1, .int x), (2, .int y)] [.ref 17] h rfl ?_
  refine rx_T.gfF (M := rxm_7) (k := 1) rfl rfl rfl hh rfl rfl ?_
  rw [en]
  refine rx_T.to 1 6 [(0, .ref 17), (1, .int x), (2, .int y)] [.int (Int8.ofInt 7).toInt32, .int (nI n)] h rfl ?_
  refine rx_T.br2 (M := rxm_7) 23 rfl rfl (by decide) (fun q => ?_) (fun q1 => ?_)
  · have z : ((Int8.ofInt 7).toInt32).toInt ≤ (nI n).toInt := Int32.le_iff_toInt_le.mp (of_decide_eq_true q)
    rw [show ((Int8.ofInt 7).toInt32).toInt = 7 by decide +kernel, nI_toInt (by omega)] at z
    refine rx_T.to 1 24 [(0, .ref 17), (1, .int x), (2, .int y)] [.int 0] h rfl ?_
    exact rx_T.ret (M := rxm_7) (v := some (.int 0)) rfl rfl rfl ⟨Or.inr ⟨rfl, fun r => by have := r.1; omega⟩, rfl⟩
  · have z : ¬ ((Int8.ofInt 7).toInt32).toInt ≤ (nI n).toInt := fun z => of_decide_eq_false q1 (Int32.le_iff_toInt_le.mpr z)
    rw [show ((Int8.ofInt 7).toInt32).toInt = 7 by decide +kernel, nI_toInt (by omega)] at z
    refine rx_T.to 1 10 [(0, .ref 17), (1, .int x), (2, .int y)] [.int x] h rfl ?_
    refine rx_T.call (M := rxm_7) (N := rxm_8) (j := 8) (as := [.int x]) (rest := []) rfl rfl rfl rfl rfl (show 19 + 1 ≤ w by omega) rx_xco ?_
    intro v1 h1 hp
    obtain ⟨hp, e1⟩ := hp
    rw [e1]
    rcases hp with ⟨rfl, hx⟩ | ⟨rfl, hx⟩
    · refine rx_T.op (M := rxm_7) (ins := .ifCond .eq 10) rfl rfl rfl rfl (rx_b1_f (by decide) (by decide)) ?_
      refine rx_T.to 1 17 [(0, .ref 17), (1, .int x), (2, .int y)] [.int y] h rfl ?_
      refine rx_T.call (M := rxm_7) (N := rxm_8) (j := 8) (as := [.int y]) (rest := []) rfl rfl rfl rfl rfl (show 19 + 1 ≤ w by omega) rx_xco ?_
      intro v2 h2 hp
      obtain ⟨hp, e2⟩ := hp
      rw [e2]
      rcases hp with ⟨rfl, hy⟩ | ⟨rfl, hy⟩
      · refine rx_T.op (M := rxm_7) (ins := .ifCond .ne 5) rfl rfl rfl rfl (rx_b1_t 25 (by decide) (by decide)) ?_
        refine rx_T.to 2 27 [(3, .int (nI 0)), (0, .ref 17), (1, .int x), (2, .int y)] [] h rfl ?_
        exact rx_hr_l (by omega) hx hy hh en n 0 (by omega) (fun i hi => absurd hi (by omega))
      · refine rx_T.op (M := rxm_7) (ins := .ifCond .ne 5) rfl rfl rfl rfl (rx_b1_f (by decide) (by decide)) ?_
        refine rx_T.to 1 24 [(0, .ref 17), (1, .int x), (2, .int y)] [.int 0] h rfl ?_
        exact rx_T.ret (M := rxm_7) (v := some (.int 0)) rfl rfl rfl ⟨Or.inr ⟨rfl, fun r => hy r.2.2.1⟩, rfl⟩
    · refine rx_T.op (M := rxm_7) (ins := .ifCond .eq 10) rfl rfl rfl rfl (rx_b1_t 23 (by decide) (by decide)) ?_
      refine rx_T.to 1 24 [(0, .ref 17), (1, .int x), (2, .int y)] [.int 0] h rfl ?_
      exact rx_T.ret (M := rxm_7) (v := some (.int 0)) rfl rfl rfl ⟨Or.inr ⟨rfl, fun r => hx r.2.1⟩, rfl⟩
/-- a POINT is placed -/
def rx_PX (h h' : rx_H) (n : Nat) (x y : Int32) : Prop := (∀ z, ¬ (z = 1 ∨ z = 2 ∨ z = 3) → h'[z]? = h[z]?) ∧ rx_gF h' 1 2 = nI (n + 1) ∧ rx_gI h' 2 = upd (rx_gI h 2) n x ∧ rx_gI h' 3 = upd (rx_gI h 3) n y
set_option maxRecDepth 100000 in
set_option maxHeartbeats 4000000 in
theorem rx_xplace {n : Nat} {x y : Int32} {h : rx_H} (hn : n < 7) (hx : -1000 ≤ x.toInt ∧ x.toInt ≤ 1000) (hy : -1000 ≤ y.toInt ∧ y.toInt ≤ 1000) (hh : rx_hin rx_I0 h) (en : rx_gF h 1 2 = nI n) : rx_T rx_cds rx_ms rx_lk0 rt d w 9 0 [(0, .ref 17), (1, .int x), (2, .int y)] [] h (fun v h' => v = some (.int (nI n)) ∧ rx_hin rx_I0 h' ∧ rx_PX h h' n x y) := by
  refine rx_T.to 1 1 [(0, .ref 17), (1, .int x), (2, .int y)] [.ref 17] h rfl ?_
  refine rx_T.gfF (M := rxm_9) (k := 1) rfl rfl rfl hh rfl rfl ?_
  rw [en]
  refine rx_T.to 2 6 [(3, .int (nI n)), (0, .ref 17), (1, .int x), (2, .int y)] [.ref 17] h rfl ?_
  refine rx_T.gfr (M := rxm_9) (k := 1) rfl rfl rfl hh rfl rfl ?_
  refine rx_T.to 2 11 [(3, .int (nI n)), (0, .ref 17), (1, .int x), (2, .int y)] [.int x, .int (nI n), .ref 18] h rfl ?_
  refine rx_T.iaW (M := rxm_9) (k := 2) rfl rfl hh rfl (show n < 8 by omega) (by decide) hx.1 hx.2 (fun h2 hh2 v2 z2 => ?_)
  have en2 : rx_gF h2 1 2 = nI n := (rx_gF_of (z2 1 (by decide))).trans en
  refine rx_T.to 1 13 [(3, .int (nI n)), (0, .ref 17), (1, .int x), (2, .int y)] [.ref 17] h2 rfl ?_
  refine rx_T.gfr (M := rxm_9) (k := 1) rfl rfl rfl hh2 rfl rfl ?_
  refine rx_T.to 2 18 [(3, .int (nI n)), (0, .ref 17), (1, .int x), (2, .int y)] [.int y, .int (nI n), .ref 19] h2 rfl ?_
  refine rx_T.iaW (M := rxm_9) (k := 3) rfl rfl hh2 rfl (show n < 8 by omega) (by decide) hy.1 hy.2 (fun h3 hh3 v3 z3 => ?_)
  have en3 : rx_gF h3 1 2 = nI n := (rx_gF_of (z3 1 (by decide))).trans en2
  refine rx_T.to 2 21 [(3, .int (nI n)), (0, .ref 17), (1, .int x), (2, .int y)] [.ref 17, .ref 17] h3 rfl ?_
  refine rx_T.gfF (M := rxm_9) (k := 1) rfl rfl rfl hh3 rfl rfl ?_
  rw [en3]
  refine rx_T.to 2 26 [(3, .int (nI n)), (0, .ref 17), (1, .int x), (2, .int y)] [.int ((nI n) + 1), .ref 17] h3 rfl ?_
  rw [show nI n + 1 = nI (n + 1) from nI_1 n]
  refine rx_T.pfF (M := rxm_9) (k := 1) rfl rfl rfl hh3 rfl rfl rfl (by rw [nI_toInt (by omega)]; omega) (by rw [nI_toInt (by omega)]; omega) (fun h4 hh4 v4 f4 z4 => ?_)
  refine rx_T.to 1 30 [(3, .int (nI n)), (0, .ref 17), (1, .int x), (2, .int y)] [.int (nI n)] h4 rfl ?_
  refine rx_T.ret (M := rxm_9) (v := some (.int (nI n))) rfl rfl rfl ⟨rfl, hh4, fun z hz => by rw [z4 z (by omega), z3 z (by omega), z2 z (by omega)], v4, ?_, ?_⟩
  · rw [rx_gI_of (z4 2 (by decide)), rx_gI_of (z3 2 (by decide)), v2]
  · rw [rx_gI_of (z4 3 (by decide)), v3, rx_gI_of (z2 3 (by decide))]
set_option maxRecDepth 100000 in
set_option maxHeartbeats 4000000 in
theorem rx_xpoint {n f : Nat} {x y : Int32} {h : rx_H} (hn : n ≤ 7) (hf : f ≤ 30) (hw : 50 ≤ w) (hh : rx_hin rx_I0 h) (en : rx_gF h 1 2 = nI n) (ef : rx_gF h 0 3 = nI f) : rx_T rx_cds rx_ms rx_lk0 rt (d + 2) w 6 0 [(0, .ref 16), (1, .int x), (2, .int y)] [] h (fun v h' => ((f = 0 ∧ rx_rm7 (rx_gI h 2) (rx_gI h 3) n x y) ∧ v = some (.int (nI n)) ∧ rx_hin rx_I0 h' ∧ rx_PX h h' n x y) ∨ (¬ (f = 0 ∧ rx_rm7 (rx_gI h 2) (rx_gI h 3) n x y) ∧ v = some (.int (-1)) ∧ h' = h)) := by
  refine rx_T.to 1 1 [(0, .ref 16), (1, .int x), (2, .int y)] [.ref 16] h rfl ?_
  refine rx_T.gfF (M := rxm_6) (k := 0) rfl rfl rfl hh rfl rfl ?_
  rw [ef]
  refine rx_T.br1 (M := rxm_6) 19 rfl rfl (by decide) (fun q => ?_) (fun q1 => ?_)
  · have z : (0 : Int) < (nI f).toInt := Int32.lt_iff_toInt_lt.mp (of_decide_eq_true q)
    rw [nI_toInt (by omega)] at z
    refine rx_T.to 1 20 [(0, .ref 16), (1, .int x), (2, .int y)] [.int (-1)] h rfl ?_
    exact rx_T.ret (M := rxm_6) (v := some (.int (-1))) rfl rfl rfl (Or.inr ⟨fun r => by have := r.1; omega, rfl, rfl⟩)
  · have z : ¬ (0 : Int) < (nI f).toInt := fun z => of_decide_eq_false q1 (Int32.lt_iff_toInt_lt.mpr z)
    rw [nI_toInt (by omega)] at z
    refine rx_T.to 1 8 [(0, .ref 16), (1, .int x), (2, .int y)] [.ref 16] h rfl ?_
    refine rx_T.gfr (M := rxm_6) (k := 0) rfl rfl rfl hh rfl rfl ?_
    refine rx_T.to 2 13 [(0, .ref 16), (1, .int x), (2, .int y)] [.int y, .int x, .ref 17] h rfl ?_
    refine rx_T.callk (M := rxm_6) (N := rxm_7) (j := 7) (nest := 0) (k := 1) (as' := [.int x, .int y]) (rest := []) rfl rfl rfl rfl rfl rfl rfl rfl rfl (Nat.le_of_ble_eq_true rfl) (Nat.le_of_ble_eq_true rfl) hh (show 19 + 4 ≤ w by omega) (rx_xroom hn (show 20 ≤ w - (19 + 4) by omega) hh en) ?_
    intro v1 h1 hp
    obtain ⟨hp, e1⟩ := hp
    rw [e1]
    rcases hp with ⟨rfl, hq⟩ | ⟨rfl, hq⟩
    · refine rx_T.op (M := rxm_6) (ins := .ifCond .ne 5) rfl rfl rfl rfl (rx_b1_t 21 (by decide) (by decide)) ?_
      refine rx_T.to 1 22 [(0, .ref 16), (1, .int x), (2, .int y)] [.ref 16] h rfl ?_
      refine rx_T.gfr (M := rxm_6) (k := 0) rfl rfl rfl hh rfl rfl ?_
      refine rx_T.to 2 27 [(0, .ref 16), (1, .int x), (2, .int y)] [.int y, .int x, .ref 17] h rfl ?_
      refine rx_T.callk (M := rxm_6) (N := rxm_9) (j := 9) (nest := 0) (k := 1) (as' := [.int x, .int y]) (rest := []) rfl rfl rfl rfl rfl rfl rfl rfl rfl (Nat.le_of_ble_eq_true rfl) (Nat.le_of_ble_eq_true rfl) hh (show 19 + 4 ≤ w by omega) (rx_xplace hq.1 hq.2.1 hq.2.2.1 hh en) ?_
      intro v2 h2 hp
      obtain ⟨rfl, hh2, hP⟩ := hp
      exact rx_T.ret (M := rxm_6) (v := some (.int (nI n))) rfl rfl rfl (Or.inl ⟨⟨by omega, hq⟩, rfl, hh2, hP⟩)
    · refine rx_T.op (M := rxm_6) (ins := .ifCond .ne 5) rfl rfl rfl rfl (rx_b1_f (by decide) (by decide)) ?_
      refine rx_T.to 1 20 [(0, .ref 16), (1, .int x), (2, .int y)] [.int (-1)] h rfl ?_
      exact rx_T.ret (M := rxm_6) (v := some (.int (-1))) rfl rfl rfl (Or.inr ⟨fun r => hq r.2, rfl, rfl⟩)
end RXPX
