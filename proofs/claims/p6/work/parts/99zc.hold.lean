section RXHO
variable {rt : rx_R} {d w : Nat} {P : Option Value → rx_H → Prop}
theorem rx_T.tsd2 {cds : List (List Value)} {ms : List rx_M} {lk : rx_Lk} {rt : rx_R} {d w mi pc : Nat} {lv : rx_L} {r : List Value} {h : rx_H} {P : Option Value → rx_H → Prop} {M : rx_M} {dflt lo hi : Int} {offs : Array Int} {x : Int32} (g : Nat) (hM : ms[mi]? = some M) (hf : rx_f2 (rx_Mt M) pc = some (.tableswitch dflt lo hi offs)) (h1 : x.toInt < lo ∨ hi < x.toInt) (hg : (pc : Int) + dflt = (g : Int)) (k : rx_T cds ms lk rt d w mi g lv r h P) : rx_T cds ms lk rt d w mi pc lv (.int x :: r) h P := rx_T.op hM hf rfl rfl (rx_tsd_i h1 hg) k
/-- what is TRUE of a FACT of a kind -/
def rx_HV (X Y : Nat → Int32) (k : Nat) (p : Nat → Nat) : Prop := match k with
  | 0 => rx_cr X Y (p 0) (p 1) (p 0) (p 2) = 0
  | 1 => rx_cr X Y (p 0) (p 1) (p 2) (p 3) = 0
  | 2 => rx_dt X Y (p 0) (p 1) (p 2) (p 3) = 0
  | 3 => ¬ rx_cr X Y (p 0) (p 1) (p 0) (p 2) = 0 ∧ rx_dt X Y (p 3) (p 0) (p 3) (p 0) * rx_cr X Y (p 3) (p 1) (p 3) (p 2) + rx_dt X Y (p 3) (p 1) (p 3) (p 1) * rx_cr X Y (p 3) (p 2) (p 3) (p 0) + rx_dt X Y (p 3) (p 2) (p 3) (p 2) * rx_cr X Y (p 3) (p 0) (p 3) (p 1) = 0
  | 4 => rx_dt X Y (p 0) (p 1) (p 0) (p 1) = rx_dt X Y (p 2) (p 3) (p 2) (p 3)
  | 5 => 2 * X (p 0) = X (p 1) + X (p 2) ∧ 2 * Y (p 0) = Y (p 1) + Y (p 2)
  | _ => rx_cr X Y (p 0) (p 1) (p 2) (p 3) * rx_dt X Y (p 4) (p 5) (p 6) (p 7) - rx_dt X Y (p 0) (p 1) (p 2) (p 3) * rx_cr X Y (p 4) (p 5) (p 6) (p 7) = 0
/-- so many POINTS has a FACT of a kind -/
def rx_po (k : Nat) : Nat := [3, 4, 4, 4, 4, 3, 8].getD k 0
theorem rx_HV_c {X Y X' Y' : Nat → Int32} (h1 : rx_same X X') (h2 : rx_same Y Y') {p q : Nat → Nat} {k : Nat} (hk : k ≤ 6) (hq : ∀ i, i < rx_po k → p i = q i ∧ q i < 7) : rx_HV X Y k p ↔ rx_HV X' Y' k q := by
  match k, hk, hq with
  | 0, _, hq =>
    obtain ⟨e0, b0⟩ := hq 0 (by decide)
    obtain ⟨e1, b1⟩ := hq 1 (by decide)
    obtain ⟨e2, b2⟩ := hq 2 (by decide)
    show (rx_cr X Y (p 0) (p 1) (p 0) (p 2) = 0) ↔ (rx_cr X' Y' (q 0) (q 1) (q 0) (q 2) = 0)
    rw [e0, e1, e2]
    rw [rx_cr_c h1 h2 b0 b1 b0 b2]
  | 1, _, hq =>
    obtain ⟨e0, b0⟩ := hq 0 (by decide)
    obtain ⟨e1, b1⟩ := hq 1 (by decide)
    obtain ⟨e2, b2⟩ := hq 2 (by decide)
    obtain ⟨e3, b3⟩ := hq 3 (by decide)
    show (rx_cr X Y (p 0) (p 1) (p 2) (p 3) = 0) ↔ (rx_cr X' Y' (q 0) (q 1) (q 2) (q 3) = 0)
    rw [e0, e1, e2, e3]
    rw [rx_cr_c h1 h2 b0 b1 b2 b3]
  | 2, _, hq =>
    obtain ⟨e0, b0⟩ := hq 0 (by decide)
    obtain ⟨e1, b1⟩ := hq 1 (by decide)
    obtain ⟨e2, b2⟩ := hq 2 (by decide)
    obtain ⟨e3, b3⟩ := hq 3 (by decide)
    show (rx_dt X Y (p 0) (p 1) (p 2) (p 3) = 0) ↔ (rx_dt X' Y' (q 0) (q 1) (q 2) (q 3) = 0)
    rw [e0, e1, e2, e3]
    rw [rx_dt_c h1 h2 b0 b1 b2 b3]
  | 3, _, hq =>
    obtain ⟨e0, b0⟩ := hq 0 (by decide)
    obtain ⟨e1, b1⟩ := hq 1 (by decide)
    obtain ⟨e2, b2⟩ := hq 2 (by decide)
    obtain ⟨e3, b3⟩ := hq 3 (by decide)
    show (¬ rx_cr X Y (p 0) (p 1) (p 0) (p 2) = 0 ∧ rx_dt X Y (p 3) (p 0) (p 3) (p 0) * rx_cr X Y (p 3) (p 1) (p 3) (p 2) + rx_dt X Y (p 3) (p 1) (p 3) (p 1) * rx_cr X Y (p 3) (p 2) (p 3) (p 0) + rx_dt X Y (p 3) (p 2) (p 3) (p 2) * rx_cr X Y (p 3) (p 0) (p 3) (p 1) = 0) ↔ (¬ rx_cr X' Y' (q 0) (q 1) (q 0) (q 2) = 0 ∧ rx_dt X' Y' (q 3) (q 0) (q 3) (q 0) * rx_cr X' Y' (q 3) (q 1) (q 3) (q 2) + rx_dt X' Y' (q 3) (q 1) (q 3) (q 1) * rx_cr X' Y' (q 3) (q 2) (q 3) (q 0) + rx_dt X' Y' (q 3) (q 2) (q 3) (q 2) * rx_cr X' Y' (q 3) (q 0) (q 3) (q 1) = 0)
    rw [e0, e1, e2, e3]
    rw [rx_cr_c h1 h2 b0 b1 b0 b2, rx_cr_c h1 h2 b3 b1 b3 b2, rx_cr_c h1 h2 b3 b2 b3 b0, rx_cr_c h1 h2 b3 b0 b3 b1, rx_dt_c h1 h2 b3 b0 b3 b0, rx_dt_c h1 h2 b3 b1 b3 b1, rx_dt_c h1 h2 b3 b2 b3 b2]
  | 4, _, hq =>
    obtain ⟨e0, b0⟩ := hq 0 (by decide)
    obtain ⟨e1, b1⟩ := hq 1 (by decide)
    obtain ⟨e2, b2⟩ := hq 2 (by decide)
    obtain ⟨e3, b3⟩ := hq 3 (by decide)
    show (rx_dt X Y (p 0) (p 1) (p 0) (p 1) = rx_dt X Y (p 2) (p 3) (p 2) (p 3)) ↔ (rx_dt X' Y' (q 0) (q 1) (q 0) (q 1) = rx_dt X' Y' (q 2) (q 3) (q 2) (q 3))
    rw [e0, e1, e2, e3]
    rw [rx_dt_c h1 h2 b0 b1 b0 b1, rx_dt_c h1 h2 b2 b3 b2 b3]
  | 5, _, hq =>
    obtain ⟨e0, b0⟩ := hq 0 (by decide)
    obtain ⟨e1, b1⟩ := hq 1 (by decide)
    obtain ⟨e2, b2⟩ := hq 2 (by decide)
    show (2 * X (p 0) = X (p 1) + X (p 2) ∧ 2 * Y (p 0) = Y (p 1) + Y (p 2)) ↔ (2 * X' (q 0) = X' (q 1) + X' (q 2) ∧ 2 * Y' (q 0) = Y' (q 1) + Y' (q 2))
    rw [e0, e1, e2]
    rw [h1 _ b0, h1 _ b1, h1 _ b2, h2 _ b0, h2 _ b1, h2 _ b2]
  | 6, _, hq =>
    obtain ⟨e0, b0⟩ := hq 0 (by decide)
    obtain ⟨e1, b1⟩ := hq 1 (by decide)
    obtain ⟨e2, b2⟩ := hq 2 (by decide)
    obtain ⟨e3, b3⟩ := hq 3 (by decide)
    obtain ⟨e4, b4⟩ := hq 4 (by decide)
    obtain ⟨e5, b5⟩ := hq 5 (by decide)
    obtain ⟨e6, b6⟩ := hq 6 (by decide)
    obtain ⟨e7, b7⟩ := hq 7 (by decide)
    show (rx_cr X Y (p 0) (p 1) (p 2) (p 3) * rx_dt X Y (p 4) (p 5) (p 6) (p 7) - rx_dt X Y (p 0) (p 1) (p 2) (p 3) * rx_cr X Y (p 4) (p 5) (p 6) (p 7) = 0) ↔ (rx_cr X' Y' (q 0) (q 1) (q 2) (q 3) * rx_dt X' Y' (q 4) (q 5) (q 6) (q 7) - rx_dt X' Y' (q 0) (q 1) (q 2) (q 3) * rx_cr X' Y' (q 4) (q 5) (q 6) (q 7) = 0)
    rw [e0, e1, e2, e3, e4, e5, e6, e7]
    rw [rx_cr_c h1 h2 b0 b1 b2 b3, rx_cr_c h1 h2 b4 b5 b6 b7, rx_dt_c h1 h2 b4 b5 b6 b7, rx_dt_c h1 h2 b0 b1 b2 b3]
set_option maxRecDepth 100000 in
set_option maxHeartbeats 4000000 in
theorem rx_xholds {F K : Nat} {h : rx_H} (hF : F < 2147483648) (hK : F / 16777216 = K) (hK6 : K ≤ 6) (hw : 80 ≤ w) (hh : rx_hin rx_I0 h) : rx_T rx_cds rx_ms rx_lk0 rt (d + 3) w 18 0 [(0, .ref 17), (1, .int (nI F))] [] h (fun v h' => ((v = some (.int 1) ∧ (rx_HV (rx_gI h 2) (rx_gI h 3) K (fun i => F / 8 ^ i % 8))) ∨ (v = some (.int 0) ∧ ¬ (rx_HV (rx_gI h 2) (rx_gI h 3) K (fun i => F / 8 ^ i % 8)))) ∧ h' = h) := by
  refine rx_T.to 2 2 [(0, .ref 17), (1, .int (nI F))] [.int 0, .int (nI F)] h rfl ?_
  refine rx_T.call (M := rxm_18) (N := rxm_15) (j := 15) (as := [.int (nI F), .int (nI 0)]) (rest := []) rfl rfl rfl rfl rfl (show 19 + 2 ≤ w by omega) (rx_at (i := 0) hF (by decide)) ?_
  intro v0 h0 hp0
  obtain ⟨rfl, e0⟩ := hp0
  rw [e0]
  refine rx_T.to 3 8 [(2, .int (nI (F / 8 ^ 0 % 8))), (0, .ref 17), (1, .int (nI F))] [.int 1, .int (nI F)] h rfl ?_
  refine rx_T.call (M := rxm_18) (N := rxm_15) (j := 15) (as := [.int (nI F), .int (nI 1)]) (rest := []) rfl rfl rfl rfl rfl (show 19 + 2 ≤ w by omega) (rx_at (i := 1) hF (by decide)) ?_
  intro v1 h1 hp1
  obtain ⟨rfl, e1⟩ := hp1
  rw [e1]
  refine rx_T.to 3 14 [(3, .int (nI (F / 8 ^ 1 % 8))), (2, .int (nI (F / 8 ^ 0 % 8))), (0, .ref 17), (1, .int (nI F))] [.int 2, .int (nI F)] h rfl ?_
  refine rx_T.call (M := rxm_18) (N := rxm_15) (j := 15) (as := [.int (nI F), .int (nI 2)]) (rest := []) rfl rfl rfl rfl rfl (show 19 + 2 ≤ w by omega) (rx_at (i := 2) hF (by decide)) ?_
  intro v2 h2 hp2
  obtain ⟨rfl, e2⟩ := hp2
  rw [e2]
  refine rx_T.to 3 21 [(4, .int (nI (F / 8 ^ 2 % 8))), (3, .int (nI (F / 8 ^ 1 % 8))), (2, .int (nI (F / 8 ^ 0 % 8))), (0, .ref 17), (1, .int (nI F))] [.int 3, .int (nI F)] h rfl ?_
  refine rx_T.call (M := rxm_18) (N := rxm_15) (j := 15) (as := [.int (nI F), .int (nI 3)]) (rest := []) rfl rfl rfl rfl rfl (show 19 + 2 ≤ w by omega) (rx_at (i := 3) hF (by decide)) ?_
  intro v3 h3 hp3
  obtain ⟨rfl, e3⟩ := hp3
  rw [e3]
  refine rx_T.to 2 27 [(5, .int (nI (F / 8 ^ 3 % 8))), (4, .int (nI (F / 8 ^ 2 % 8))), (3, .int (nI (F / 8 ^ 1 % 8))), (2, .int (nI (F / 8 ^ 0 % 8))), (0, .ref 17), (1, .int (nI F))] [.int (nI F)] h rfl ?_
  refine rx_T.call (M := rxm_18) (N := rxm_19) (j := 19) (as := [.int (nI F)]) (rest := []) rfl rfl rfl rfl rfl (show 19 + 1 ≤ w by omega) (rx_kindOf hF) ?_
  intro v4 h4 hp4
  obtain ⟨rfl, e4⟩ := hp4
  rw [e4]
  rw [hK]
  clear hK
  match K, hK6 with
  | 0, _ =>
    refine rx_T.tsw (M := rxm_18) 42 72 rfl rfl (by decide +kernel) (by decide +kernel) (by decide) ?_
    refine rx_T.to 4 77 [(5, .int (nI (F / 8 ^ 3 % 8))), (4, .int (nI (F / 8 ^ 2 % 8))), (3, .int (nI (F / 8 ^ 1 % 8))), (2, .int (nI (F / 8 ^ 0 % 8))), (0, .ref 17), (1, .int (nI F))] [.int (nI (F / 8 ^ 2 % 8)), .int (nI (F / 8 ^ 1 % 8)), .int (nI (F / 8 ^ 0 % 8)), .ref 17] h rfl ?_
    refine rx_T.callk (M := rxm_18) (N := rxm_20) (j := 20) (nest := 0) (k := 1) (as' := [.int (nI (F / 8 ^ 0 % 8)), .int (nI (F / 8 ^ 1 % 8)), .int (nI (F / 8 ^ 2 % 8))]) (rest := []) rfl rfl rfl rfl rfl rfl rfl rfl rfl (Nat.le_of_ble_eq_true rfl) (Nat.le_of_ble_eq_true rfl) hh (show 19 + 4 ≤ w by omega) (rx_xcol (Nat.mod_lt _ (by decide)) (Nat.mod_lt _ (by decide)) (Nat.mod_lt _ (by decide)) (show 24 ≤ w - (19 + 4) by omega) hh) ?_
    intro v9 h9 hp9
    obtain ⟨hp9, e9⟩ := hp9
    rw [e9]
    rcases hp9 with ⟨rfl, hq⟩ | ⟨rfl, hq⟩
    · exact rx_T.ret (M := rxm_18) (v := some (.int 1)) rfl rfl rfl ⟨Or.inl ⟨rfl, hq⟩, rfl⟩
    · exact rx_T.ret (M := rxm_18) (v := some (.int 0)) rfl rfl rfl ⟨Or.inr ⟨rfl, hq⟩, rfl⟩
  | 1, _ =>
    refine rx_T.tsw (M := rxm_18) 51 81 rfl rfl (by decide +kernel) (by decide +kernel) (by decide) ?_
    refine rx_T.to 5 88 [(5, .int (nI (F / 8 ^ 3 % 8))), (4, .int (nI (F / 8 ^ 2 % 8))), (3, .int (nI (F / 8 ^ 1 % 8))), (2, .int (nI (F / 8 ^ 0 % 8))), (0, .ref 17), (1, .int (nI F))] [.int (nI (F / 8 ^ 3 % 8)), .int (nI (F / 8 ^ 2 % 8)), .int (nI (F / 8 ^ 1 % 8)), .int (nI (F / 8 ^ 0 % 8)), .ref 17] h rfl ?_
    refine rx_T.callk (M := rxm_18) (N := rxm_21) (j := 21) (nest := 0) (k := 1) (as' := [.int (nI (F / 8 ^ 0 % 8)), .int (nI (F / 8 ^ 1 % 8)), .int (nI (F / 8 ^ 2 % 8)), .int (nI (F / 8 ^ 3 % 8))]) (rest := []) rfl rfl rfl rfl rfl rfl rfl rfl rfl (Nat.le_of_ble_eq_true rfl) (Nat.le_of_ble_eq_true rfl) hh (show 19 + 5 ≤ w by omega) (rx_xcross (Nat.mod_lt _ (by decide)) (Nat.mod_lt _ (by decide)) (Nat.mod_lt _ (by decide)) (Nat.mod_lt _ (by decide)) hh) ?_
    intro v9 h9 hp9
    obtain ⟨rfl, e9⟩ := hp9
    rw [e9]
    refine rx_T.to 2 93 [(5, .int (nI (F / 8 ^ 3 % 8))), (4, .int (nI (F / 8 ^ 2 % 8))), (3, .int (nI (F / 8 ^ 1 % 8))), (2, .int (nI (F / 8 ^ 0 % 8))), (0, .ref 17), (1, .int (nI F))] [.int (lg_cmp (rx_cr (rx_gI h 2) (rx_gI h 3) (F / 8 ^ 0 % 8) (F / 8 ^ 1 % 8) (F / 8 ^ 2 % 8) (F / 8 ^ 3 % 8)) ((Int64.ofNat 0)))] h rfl ?_
    refine rx_T.br1 (M := rxm_18) 100 rfl rfl (by decide) (fun q => ?_) (fun q => ?_)
    · refine rx_T.to 1 101 [(5, .int (nI (F / 8 ^ 3 % 8))), (4, .int (nI (F / 8 ^ 2 % 8))), (3, .int (nI (F / 8 ^ 1 % 8))), (2, .int (nI (F / 8 ^ 0 % 8))), (0, .ref 17), (1, .int (nI F))] [.int 0] h rfl ?_
      exact rx_T.ret (M := rxm_18) (v := some (.int 0)) rfl rfl rfl ⟨Or.inr ⟨rfl, rx_ne_t q⟩, rfl⟩
    · refine rx_T.to 2 101 [(5, .int (nI (F / 8 ^ 3 % 8))), (4, .int (nI (F / 8 ^ 2 % 8))), (3, .int (nI (F / 8 ^ 1 % 8))), (2, .int (nI (F / 8 ^ 0 % 8))), (0, .ref 17), (1, .int (nI F))] [.int 1] h rfl ?_
      exact rx_T.ret (M := rxm_18) (v := some (.int 1)) rfl rfl rfl ⟨Or.inl ⟨rfl, rx_ne_f q⟩, rfl⟩
  | 2, _ =>
    refine rx_T.tsw (M := rxm_18) 72 102 rfl rfl (by decide +kernel) (by decide +kernel) (by decide) ?_
    refine rx_T.to 5 109 [(5, .int (nI (F / 8 ^ 3 % 8))), (4, .int (nI (F / 8 ^ 2 % 8))), (3, .int (nI (F / 8 ^ 1 % 8))), (2, .int (nI (F / 8 ^ 0 % 8))), (0, .ref 17), (1, .int (nI F))] [.int (nI (F / 8 ^ 3 % 8)), .int (nI (F / 8 ^ 2 % 8)), .int (nI (F / 8 ^ 1 % 8)), .int (nI (F / 8 ^ 0 % 8)), .ref 17] h rfl ?_
    refine rx_T.callk (M := rxm_18) (N := rxm_22) (j := 22) (nest := 0) (k := 1) (as' := [.int (nI (F / 8 ^ 0 % 8)), .int (nI (F / 8 ^ 1 % 8)), .int (nI (F / 8 ^ 2 % 8)), .int (nI (F / 8 ^ 3 % 8))]) (rest := []) rfl rfl rfl rfl rfl rfl rfl rfl rfl (Nat.le_of_ble_eq_true rfl) (Nat.le_of_ble_eq_true rfl) hh (show 19 + 5 ≤ w by omega) (rx_xdot (Nat.mod_lt _ (by decide)) (Nat.mod_lt _ (by decide)) (Nat.mod_lt _ (by decide)) (Nat.mod_lt _ (by decide)) hh) ?_
    intro v9 h9 hp9
    obtain ⟨rfl, e9⟩ := hp9
    rw [e9]
    refine rx_T.to 2 114 [(5, .int (nI (F / 8 ^ 3 % 8))), (4, .int (nI (F / 8 ^ 2 % 8))), (3, .int (nI (F / 8 ^ 1 % 8))), (2, .int (nI (F / 8 ^ 0 % 8))), (0, .ref 17), (1, .int (nI F))] [.int (lg_cmp (rx_dt (rx_gI h 2) (rx_gI h 3) (F / 8 ^ 0 % 8) (F / 8 ^ 1 % 8) (F / 8 ^ 2 % 8) (F / 8 ^ 3 % 8)) ((Int64.ofNat 0)))] h rfl ?_
    refine rx_T.br1 (M := rxm_18) 121 rfl rfl (by decide) (fun q => ?_) (fun q => ?_)
    · refine rx_T.to 1 122 [(5, .int (nI (F / 8 ^ 3 % 8))), (4, .int (nI (F / 8 ^ 2 % 8))), (3, .int (nI (F / 8 ^ 1 % 8))), (2, .int (nI (F / 8 ^ 0 % 8))), (0, .ref 17), (1, .int (nI F))] [.int 0] h rfl ?_
      exact rx_T.ret (M := rxm_18) (v := some (.int 0)) rfl rfl rfl ⟨Or.inr ⟨rfl, rx_ne_t q⟩, rfl⟩
    · refine rx_T.to 2 122 [(5, .int (nI (F / 8 ^ 3 % 8))), (4, .int (nI (F / 8 ^ 2 % 8))), (3, .int (nI (F / 8 ^ 1 % 8))), (2, .int (nI (F / 8 ^ 0 % 8))), (0, .ref 17), (1, .int (nI F))] [.int 1] h rfl ?_
      exact rx_T.ret (M := rxm_18) (v := some (.int 1)) rfl rfl rfl ⟨Or.inl ⟨rfl, rx_ne_f q⟩, rfl⟩
  | 3, _ =>
    refine rx_T.tsw (M := rxm_18) 93 123 rfl rfl (by decide +kernel) (by decide +kernel) (by decide) ?_
    refine rx_T.to 5 130 [(5, .int (nI (F / 8 ^ 3 % 8))), (4, .int (nI (F / 8 ^ 2 % 8))), (3, .int (nI (F / 8 ^ 1 % 8))), (2, .int (nI (F / 8 ^ 0 % 8))), (0, .ref 17), (1, .int (nI F))] [.int (nI (F / 8 ^ 3 % 8)), .int (nI (F / 8 ^ 2 % 8)), .int (nI (F / 8 ^ 1 % 8)), .int (nI (F / 8 ^ 0 % 8)), .ref 17] h rfl ?_
    refine rx_T.callk (M := rxm_18) (N := rxm_23) (j := 23) (nest := 0) (k := 1) (as' := [.int (nI (F / 8 ^ 0 % 8)), .int (nI (F / 8 ^ 1 % 8)), .int (nI (F / 8 ^ 2 % 8)), .int (nI (F / 8 ^ 3 % 8))]) (rest := []) rfl rfl rfl rfl rfl rfl rfl rfl rfl (Nat.le_of_ble_eq_true rfl) (Nat.le_of_ble_eq_true rfl) hh (show 19 + 7 ≤ w by omega) (rx_xcirc (Nat.mod_lt _ (by decide)) (Nat.mod_lt _ (by decide)) (Nat.mod_lt _ (by decide)) (Nat.mod_lt _ (by decide)) (show 50 ≤ w - (19 + 7) by omega) hh) ?_
    intro v9 h9 hp9
    obtain ⟨hp9, e9⟩ := hp9
    rw [e9]
    rcases hp9 with ⟨rfl, hq⟩ | ⟨rfl, hq⟩
    · exact rx_T.ret (M := rxm_18) (v := some (.int 1)) rfl rfl rfl ⟨Or.inl ⟨rfl, hq⟩, rfl⟩
    · exact rx_T.ret (M := rxm_18) (v := some (.int 0)) rfl rfl rfl ⟨Or.inr ⟨rfl, hq⟩, rfl⟩
  | 4, _ =>
    refine rx_T.tsw (M := rxm_18) 104 134 rfl rfl (by decide +kernel) (by decide +kernel) (by decide) ?_
    refine rx_T.to 5 141 [(5, .int (nI (F / 8 ^ 3 % 8))), (4, .int (nI (F / 8 ^ 2 % 8))), (3, .int (nI (F / 8 ^ 1 % 8))), (2, .int (nI (F / 8 ^ 0 % 8))), (0, .ref 17), (1, .int (nI F))] [.int (nI (F / 8 ^ 3 % 8)), .int (nI (F / 8 ^ 2 % 8)), .int (nI (F / 8 ^ 1 % 8)), .int (nI (F / 8 ^ 0 % 8)), .ref 17] h rfl ?_
    refine rx_T.callk (M := rxm_18) (N := rxm_24) (j := 24) (nest := 0) (k := 1) (as' := [.int (nI (F / 8 ^ 0 % 8)), .int (nI (F / 8 ^ 1 % 8)), .int (nI (F / 8 ^ 2 % 8)), .int (nI (F / 8 ^ 3 % 8))]) (rest := []) rfl rfl rfl rfl rfl rfl rfl rfl rfl (Nat.le_of_ble_eq_true rfl) (Nat.le_of_ble_eq_true rfl) hh (show 19 + 5 ≤ w by omega) (rx_xeql (Nat.mod_lt _ (by decide)) (Nat.mod_lt _ (by decide)) (Nat.mod_lt _ (by decide)) (Nat.mod_lt _ (by decide)) (show 24 ≤ w - (19 + 5) by omega) hh) ?_
    intro v9 h9 hp9
    obtain ⟨hp9, e9⟩ := hp9
    rw [e9]
    rcases hp9 with ⟨rfl, hq⟩ | ⟨rfl, hq⟩
    · exact rx_T.ret (M := rxm_18) (v := some (.int 1)) rfl rfl rfl ⟨Or.inl ⟨rfl, hq⟩, rfl⟩
    · exact rx_T.ret (M := rxm_18) (v := some (.int 0)) rfl rfl rfl ⟨Or.inr ⟨rfl, hq⟩, rfl⟩
  | 5, _ =>
    refine rx_T.tsw (M := rxm_18) 115 145 rfl rfl (by decide +kernel) (by decide +kernel) (by decide) ?_
    refine rx_T.to 4 150 [(5, .int (nI (F / 8 ^ 3 % 8))), (4, .int (nI (F / 8 ^ 2 % 8))), (3, .int (nI (F / 8 ^ 1 % 8))), (2, .int (nI (F / 8 ^ 0 % 8))), (0, .ref 17), (1, .int (nI F))] [.int (nI (F / 8 ^ 2 % 8)), .int (nI (F / 8 ^ 1 % 8)), .int (nI (F / 8 ^ 0 % 8)), .ref 17] h rfl ?_
    refine rx_T.callk (M := rxm_18) (N := rxm_25) (j := 25) (nest := 0) (k := 1) (as' := [.int (nI (F / 8 ^ 0 % 8)), .int (nI (F / 8 ^ 1 % 8)), .int (nI (F / 8 ^ 2 % 8))]) (rest := []) rfl rfl rfl rfl rfl rfl rfl rfl rfl (Nat.le_of_ble_eq_true rfl) (Nat.le_of_ble_eq_true rfl) hh (show 19 + 4 ≤ w by omega) (rx_xmid (Nat.mod_lt _ (by decide)) (Nat.mod_lt _ (by decide)) (Nat.mod_lt _ (by decide)) hh) ?_
    intro v9 h9 hp9
    obtain ⟨hp9, e9⟩ := hp9
    rw [e9]
    rcases hp9 with ⟨rfl, hq⟩ | ⟨rfl, hq⟩
    · exact rx_T.ret (M := rxm_18) (v := some (.int 1)) rfl rfl rfl ⟨Or.inl ⟨rfl, hq⟩, rfl⟩
    · exact rx_T.ret (M := rxm_18) (v := some (.int 0)) rfl rfl rfl ⟨Or.inr ⟨rfl, hq⟩, rfl⟩
  | 6, _ =>
    refine rx_T.tsw (M := rxm_18) 124 154 rfl rfl (by decide +kernel) (by decide +kernel) (by decide) ?_
    refine rx_T.to 2 156 [(5, .int (nI (F / 8 ^ 3 % 8))), (4, .int (nI (F / 8 ^ 2 % 8))), (3, .int (nI (F / 8 ^ 1 % 8))), (2, .int (nI (F / 8 ^ 0 % 8))), (0, .ref 17), (1, .int (nI F))] [.int (nI F), .ref 17] h rfl ?_
    refine rx_T.callk (M := rxm_18) (N := rxm_26) (j := 26) (nest := 0) (k := 1) (as' := [.int (nI F)]) (rest := []) rfl rfl rfl rfl rfl rfl rfl rfl rfl (Nat.le_of_ble_eq_true rfl) (Nat.le_of_ble_eq_true rfl) hh (show 19 + 10 ≤ w by omega) (rx_xturn hF (show 24 ≤ w - (19 + 10) by omega) hh) ?_
    intro v9 h9 hp9
    obtain ⟨hp9, e9⟩ := hp9
    rw [e9]
    rcases hp9 with ⟨rfl, hq⟩ | ⟨rfl, hq⟩
    · exact rx_T.ret (M := rxm_18) (v := some (.int 1)) rfl rfl rfl ⟨Or.inl ⟨rfl, hq⟩, rfl⟩
    · exact rx_T.ret (M := rxm_18) (v := some (.int 0)) rfl rfl rfl ⟨Or.inr ⟨rfl, hq⟩, rfl⟩
def rx_p (h : rx_H) (i : Nat) : Nat := (rx_gI h 40 i).toInt.toNat
theorem rx_p_of {h : rx_H} (hh : rx_hin rx_I0 h) {i : Nat} (hi : i < 8) : rx_gI h 40 i = nI (rx_p h i) ∧ rx_p h i < 7 := by
  obtain ⟨f, e1, e2⟩ := rx_get_a (k := 40) hh rfl
  unfold rx_p
  rw [rx_gI_at e1]
  obtain ⟨a, b⟩ := e2 i hi
  refine ⟨?_, by omega⟩
  apply Int32.toInt_inj.mp
  rw [nI_toInt (by omega)]
  omega
set_option maxRecDepth 100000 in
set_option maxHeartbeats 4000000 in
theorem rx_mp {i : Nat} {h : rx_H} (hi : i < 8) (hh : rx_hin rx_I0 h) : rx_T rx_cds rx_ms rx_lk0 rt d w 103 0 [(0, .ref 53), (1, .int (nI i))] [] h (fun v h' => v = some (.int (nI (rx_p h i))) ∧ h' = h) := by
  obtain ⟨f, e1, e2⟩ := rx_get_a (k := 40) hh rfl
  have e3 := (rx_p_of hh hi).1
  rw [rx_gI_at e1] at e3
  refine rx_T.to 1 1 [(0, .ref 53), (1, .int (nI i))] [.ref 53] h rfl ?_
  refine rx_T.gfr (M := rxm_103) (k := 37) rfl rfl rfl hh rfl rfl ?_
  refine rx_T.to 1 5 [(0, .ref 53), (1, .int (nI i))] [.int (nI i), .ref 56] h rfl ?_
  refine rx_T.iald (M := rxm_103) rfl rfl (rx_ri_i (k := 40) e1) (vp_in_nI hi (by decide)) ?_
  rw [nI_clamp (show i < 2 ^ 31 by omega)]
  rw [e3]
  exact rx_T.ret (M := rxm_103) (v := some (.int (nI (rx_p h i)))) rfl rfl rfl ⟨rfl, rfl⟩
theorem rx_pv0 {X Y : Nat → Int32} {a b c : Nat} : rx_pv X Y a b c = 0 ↔ rx_cr X Y a b a c = 0 := by
  unfold rx_pv
  by_cases q : rx_cr X Y a b a c = 0
  · rw [if_pos q]
    exact ⟨fun _ => q, fun _ => rfl⟩
  · rw [if_neg q]
    exact ⟨fun z => absurd z (by decide), fun z => absurd z q⟩
set_option maxRecDepth 100000 in
set_option maxHeartbeats 4000000 in
theorem rx_mcirc {a b c e : Nat} {h : rx_H} (ha : a < 12) (hb : b < 12) (hc : c < 12) (he : e < 12) (hw : 50 ≤ w) (hh : rx_hin rx_I0 h) : rx_T rx_cds rx_ms rx_lk0 rt (d + 2) w 107 0 [(0, .ref 53), (1, .int (nI a)), (2, .int (nI b)), (3, .int (nI c)), (4, .int (nI e))] [] h (fun v h' => ((v = some (.int 1) ∧ (¬ rx_cr (rx_gI h 38) (rx_gI h 39) a b a c = 0 ∧ rx_dt (rx_gI h 38) (rx_gI h 39) e a e a * rx_cr (rx_gI h 38) (rx_gI h 39) e b e c + rx_dt (rx_gI h 38) (rx_gI h 39) e b e b * rx_cr (rx_gI h 38) (rx_gI h 39) e c e a + rx_dt (rx_gI h 38) (rx_gI h 39) e c e c * rx_cr (rx_gI h 38) (rx_gI h 39) e a e b = 0)) ∨ (v = some (.int 0) ∧ ¬ (¬ rx_cr (rx_gI h 38) (rx_gI h 39) a b a c = 0 ∧ rx_dt (rx_gI h 38) (rx_gI h 39) e a e a * rx_cr (rx_gI h 38) (rx_gI h 39) e b e c + rx_dt (rx_gI h 38) (rx_gI h 39) e b e b * rx_cr (rx_gI h 38) (rx_gI h 39) e c e a + rx_dt (rx_gI h 38) (rx_gI h 39) e c e c * rx_cr (rx_gI h 38) (rx_gI h 39) e a e b = 0))) ∧ h' = h) := by
  refine rx_T.to 5 7 [(0, .ref 53), (1, .int (nI a)), (2, .int (nI b)), (3, .int (nI c)), (4, .int (nI e))] [.int (nI b), .int (nI e), .int (nI a), .int (nI e), .ref 53] h rfl ?_
  refine rx_T.callm (M := rxm_107) (N := rxm_105) (j := 105) (nest := 0) (as' := [.int (nI e), .int (nI a), .int (nI e), .int (nI b)]) (rest := []) rfl rfl rfl rfl rfl rfl rfl rfl (Nat.le_of_ble_eq_true rfl) (Nat.le_of_ble_eq_true rfl) hh (show 19 + 5 ≤ w by omega) (rx_cross (by omega) (by omega) (by omega) (by omega) hh) ?_
  intro v0 h0 hp0
  obtain ⟨rfl, e0⟩ := hp0
  rw [e0]
  refine rx_T.to 6 19 [(5, .long (rx_cr (rx_gI h 38) (rx_gI h 39) e a e b)), (0, .ref 53), (1, .int (nI a)), (2, .int (nI b)), (3, .int (nI c)), (4, .int (nI e))] [.int (nI c), .int (nI e), .int (nI b), .int (nI e), .ref 53] h rfl ?_
  refine rx_T.callm (M := rxm_107) (N := rxm_105) (j := 105) (nest := 0) (as' := [.int (nI e), .int (nI b), .int (nI e), .int (nI c)]) (rest := []) rfl rfl rfl rfl rfl rfl rfl rfl (Nat.le_of_ble_eq_true rfl) (Nat.le_of_ble_eq_true rfl) hh (show 19 + 5 ≤ w by omega) (rx_cross (by omega) (by omega) (by omega) (by omega) hh) ?_
  intro v1 h1 hp1
  obtain ⟨rfl, e1⟩ := hp1
  rw [e1]
  refine rx_T.to 6 31 [(7, .long (rx_cr (rx_gI h 38) (rx_gI h 39) e b e c)), (5, .long (rx_cr (rx_gI h 38) (rx_gI h 39) e a e b)), (0, .ref 53), (1, .int (nI a)), (2, .int (nI b)), (3, .int (nI c)), (4, .int (nI e))] [.int (nI a), .int (nI e), .int (nI c), .int (nI e), .ref 53] h rfl ?_
  refine rx_T.callm (M := rxm_107) (N := rxm_105) (j := 105) (nest := 0) (as' := [.int (nI e), .int (nI c), .int (nI e), .int (nI a)]) (rest := []) rfl rfl rfl rfl rfl rfl rfl rfl (Nat.le_of_ble_eq_true rfl) (Nat.le_of_ble_eq_true rfl) hh (show 19 + 5 ≤ w by omega) (rx_cross (by omega) (by omega) (by omega) (by omega) hh) ?_
  intro v2 h2 hp2
  obtain ⟨rfl, e2⟩ := hp2
  rw [e2]
  refine rx_T.to 5 40 [(9, .long (rx_cr (rx_gI h 38) (rx_gI h 39) e c e a)), (7, .long (rx_cr (rx_gI h 38) (rx_gI h 39) e b e c)), (5, .long (rx_cr (rx_gI h 38) (rx_gI h 39) e a e b)), (0, .ref 53), (1, .int (nI a)), (2, .int (nI b)), (3, .int (nI c)), (4, .int (nI e))] [.int (nI c), .int (nI b), .int (nI a), .ref 53] h rfl ?_
  refine rx_T.callm (M := rxm_107) (N := rxm_104) (j := 104) (nest := 0) (as' := [.int (nI a), .int (nI b), .int (nI c)]) (rest := []) rfl rfl rfl rfl rfl rfl rfl rfl (Nat.le_of_ble_eq_true rfl) (Nat.le_of_ble_eq_true rfl) hh (show 19 + 4 ≤ w by omega) (rx_isProper (by omega) (by omega) (by omega) (show 24 ≤ w - (19 + 4) by omega) hh) ?_
  intro v4 h4 hp4
  obtain ⟨rfl, e4⟩ := hp4
  rw [e4]
  refine rx_T.br1 (M := rxm_107) (x := rx_pv (rx_gI h 38) (rx_gI h 39) a b c) 96 rfl rfl (by decide) (fun q => ?_) (fun q => ?_)
  · have z := rx_pv0.mp (of_decide_eq_true q)
    refine rx_T.to 1 97 [(9, .long (rx_cr (rx_gI h 38) (rx_gI h 39) e c e a)), (7, .long (rx_cr (rx_gI h 38) (rx_gI h 39) e b e c)), (5, .long (rx_cr (rx_gI h 38) (rx_gI h 39) e a e b)), (0, .ref 53), (1, .int (nI a)), (2, .int (nI b)), (3, .int (nI c)), (4, .int (nI e))] [.int 0] h rfl ?_
    exact rx_T.ret (M := rxm_107) (v := some (.int 0)) rfl rfl rfl ⟨Or.inr ⟨rfl, fun y => y.1 z⟩, rfl⟩
  · have z : ¬ rx_cr (rx_gI h 38) (rx_gI h 39) a b a c = 0 := fun y => of_decide_eq_false q (rx_pv0.mpr y)
    refine rx_T.to 5 53 [(9, .long (rx_cr (rx_gI h 38) (rx_gI h 39) e c e a)), (7, .long (rx_cr (rx_gI h 38) (rx_gI h 39) e b e c)), (5, .long (rx_cr (rx_gI h 38) (rx_gI h 39) e a e b)), (0, .ref 53), (1, .int (nI a)), (2, .int (nI b)), (3, .int (nI c)), (4, .int (nI e))] [.int (nI a), .int (nI e), .int (nI a), .int (nI e), .ref 53] h rfl ?_
    refine rx_T.callm (M := rxm_107) (N := rxm_106) (j := 106) (nest := 0) (as' := [.int (nI e), .int (nI a), .int (nI e), .int (nI a)]) (rest := []) rfl rfl rfl rfl rfl rfl rfl rfl (Nat.le_of_ble_eq_true rfl) (Nat.le_of_ble_eq_true rfl) hh (show 19 + 5 ≤ w by omega) (rx_mdot (by omega) (by omega) (by omega) (by omega) hh) ?_
    intro v5 h5 hp5
    obtain ⟨rfl, e5⟩ := hp5
    rw [e5]
    refine rx_T.to 7 66 [(9, .long (rx_cr (rx_gI h 38) (rx_gI h 39) e c e a)), (7, .long (rx_cr (rx_gI h 38) (rx_gI h 39) e b e c)), (5, .long (rx_cr (rx_gI h 38) (rx_gI h 39) e a e b)), (0, .ref 53), (1, .int (nI a)), (2, .int (nI b)), (3, .int (nI c)), (4, .int (nI e))] [.int (nI b), .int (nI e), .int (nI b), .int (nI e), .ref 53, .long ((rx_dt (rx_gI h 38) (rx_gI h 39) e a e a) * (rx_cr (rx_gI h 38) (rx_gI h 39) e b e c))] h rfl ?_
    refine rx_T.callm (M := rxm_107) (N := rxm_106) (j := 106) (nest := 0) (as' := [.int (nI e), .int (nI b), .int (nI e), .int (nI b)]) (rest := [.long ((rx_dt (rx_gI h 38) (rx_gI h 39) e a e a) * (rx_cr (rx_gI h 38) (rx_gI h 39) e b e c))]) rfl rfl rfl rfl rfl rfl rfl rfl (Nat.le_of_ble_eq_true rfl) (Nat.le_of_ble_eq_true rfl) hh (show 19 + 5 ≤ w by omega) (rx_mdot (by omega) (by omega) (by omega) (by omega) hh) ?_
    intro v6 h6 hp6
    obtain ⟨rfl, e6⟩ := hp6
    rw [e6]
    refine rx_T.to 8 80 [(9, .long (rx_cr (rx_gI h 38) (rx_gI h 39) e c e a)), (7, .long (rx_cr (rx_gI h 38) (rx_gI h 39) e b e c)), (5, .long (rx_cr (rx_gI h 38) (rx_gI h 39) e a e b)), (0, .ref 53), (1, .int (nI a)), (2, .int (nI b)), (3, .int (nI c)), (4, .int (nI e))] [.int (nI c), .int (nI e), .int (nI c), .int (nI e), .ref 53, .long (((rx_dt (rx_gI h 38) (rx_gI h 39) e a e a) * (rx_cr (rx_gI h 38) (rx_gI h 39) e b e c)) + ((rx_dt (rx_gI h 38) (rx_gI h 39) e b e b) * (rx_cr (rx_gI h 38) (rx_gI h 39) e c e a)))] h rfl ?_
    refine rx_T.callm (M := rxm_107) (N := rxm_106) (j := 106) (nest := 0) (as' := [.int (nI e), .int (nI c), .int (nI e), .int (nI c)]) (rest := [.long (((rx_dt (rx_gI h 38) (rx_gI h 39) e a e a) * (rx_cr (rx_gI h 38) (rx_gI h 39) e b e c)) + ((rx_dt (rx_gI h 38) (rx_gI h 39) e b e b) * (rx_cr (rx_gI h 38) (rx_gI h 39) e c e a)))]) rfl rfl rfl rfl rfl rfl rfl rfl (Nat.le_of_ble_eq_true rfl) (Nat.le_of_ble_eq_true rfl) hh (show 19 + 5 ≤ w by omega) (rx_mdot (by omega) (by omega) (by omega) (by omega) hh) ?_
    intro v7 h7 hp7
    obtain ⟨rfl, e7⟩ := hp7
    rw [e7]
    refine rx_T.to 5 89 [(9, .long (rx_cr (rx_gI h 38) (rx_gI h 39) e c e a)), (7, .long (rx_cr (rx_gI h 38) (rx_gI h 39) e b e c)), (5, .long (rx_cr (rx_gI h 38) (rx_gI h 39) e a e b)), (0, .ref 53), (1, .int (nI a)), (2, .int (nI b)), (3, .int (nI c)), (4, .int (nI e))] [.int (lg_cmp ((((rx_dt (rx_gI h 38) (rx_gI h 39) e a e a) * (rx_cr (rx_gI h 38) (rx_gI h 39) e b e c)) + ((rx_dt (rx_gI h 38) (rx_gI h 39) e b e b) * (rx_cr (rx_gI h 38) (rx_gI h 39) e c e a))) + ((rx_dt (rx_gI h 38) (rx_gI h 39) e c e c) * (rx_cr (rx_gI h 38) (rx_gI h 39) e a e b))) ((Int64.ofNat 0)))] h rfl ?_
    refine rx_T.br1 (M := rxm_107) 96 rfl rfl (by decide) (fun q2 => ?_) (fun q2 => ?_)
    · refine rx_T.to 1 97 [(9, .long (rx_cr (rx_gI h 38) (rx_gI h 39) e c e a)), (7, .long (rx_cr (rx_gI h 38) (rx_gI h 39) e b e c)), (5, .long (rx_cr (rx_gI h 38) (rx_gI h 39) e a e b)), (0, .ref 53), (1, .int (nI a)), (2, .int (nI b)), (3, .int (nI c)), (4, .int (nI e))] [.int 0] h rfl ?_
      exact rx_T.ret (M := rxm_107) (v := some (.int 0)) rfl rfl rfl ⟨Or.inr ⟨rfl, fun y => rx_ne_t q2 y.2⟩, rfl⟩
    · refine rx_T.to 2 97 [(9, .long (rx_cr (rx_gI h 38) (rx_gI h 39) e c e a)), (7, .long (rx_cr (rx_gI h 38) (rx_gI h 39) e b e c)), (5, .long (rx_cr (rx_gI h 38) (rx_gI h 39) e a e b)), (0, .ref 53), (1, .int (nI a)), (2, .int (nI b)), (3, .int (nI c)), (4, .int (nI e))] [.int 1] h rfl ?_
      exact rx_T.ret (M := rxm_107) (v := some (.int 1)) rfl rfl rfl ⟨Or.inl ⟨rfl, z, rx_ne_f q2⟩, rfl⟩
set_option maxRecDepth 100000 in
set_option maxHeartbeats 4000000 in
theorem rx_mturn {a b c e f g i j : Nat} {h : rx_H} (ha : a < 12) (hb : b < 12) (hc : c < 12) (he : e < 12) (hf : f < 12) (hg : g < 12) (hi : i < 12) (hj : j < 12) (hw : 24 ≤ w) (hh : rx_hin rx_I0 h) : rx_T rx_cds rx_ms rx_lk0 rt (d + 1) w 108 0 [(0, .ref 53), (1, .int (nI a)), (2, .int (nI b)), (3, .int (nI c)), (4, .int (nI e)), (5, .int (nI f)), (6, .int (nI g)), (7, .int (nI i)), (8, .int (nI j))] [] h (fun v h' => ((v = some (.int 1) ∧ (rx_cr (rx_gI h 38) (rx_gI h 39) a b c e * rx_dt (rx_gI h 38) (rx_gI h 39) f g i j - rx_dt (rx_gI h 38) (rx_gI h 39) a b c e * rx_cr (rx_gI h 38) (rx_gI h 39) f g i j = 0)) ∨ (v = some (.int 0) ∧ ¬ (rx_cr (rx_gI h 38) (rx_gI h 39) a b c e * rx_dt (rx_gI h 38) (rx_gI h 39) f g i j - rx_dt (rx_gI h 38) (rx_gI h 39) a b c e * rx_cr (rx_gI h 38) (rx_gI h 39) f g i j = 0))) ∧ h' = h) := by
  refine rx_T.to 5 6 [(0, .ref 53), (1, .int (nI a)), (2, .int (nI b)), (3, .int (nI c)), (4, .int (nI e)), (5, .int (nI f)), (6, .int (nI g)), (7, .int (nI i)), (8, .int (nI j))] [.int (nI e), .int (nI c), .int (nI b), .int (nI a), .ref 53] h rfl ?_
  refine rx_T.callm (M := rxm_108) (N := rxm_106) (j := 106) (nest := 0) (as' := [.int (nI a), .int (nI b), .int (nI c), .int (nI e)]) (rest := []) rfl rfl rfl rfl rfl rfl rfl rfl (Nat.le_of_ble_eq_true rfl) (Nat.le_of_ble_eq_true rfl) hh (show 19 + 5 ≤ w by omega) (rx_mdot (by omega) (by omega) (by omega) (by omega) hh) ?_
  intro v0 h0 hp0
  obtain ⟨rfl, e0⟩ := hp0
  rw [e0]
  refine rx_T.to 6 17 [(9, .long (rx_dt (rx_gI h 38) (rx_gI h 39) a b c e)), (0, .ref 53), (1, .int (nI a)), (2, .int (nI b)), (3, .int (nI c)), (4, .int (nI e)), (5, .int (nI f)), (6, .int (nI g)), (7, .int (nI i)), (8, .int (nI j))] [.int (nI e), .int (nI c), .int (nI b), .int (nI a), .ref 53] h rfl ?_
  refine rx_T.callm (M := rxm_108) (N := rxm_105) (j := 105) (nest := 0) (as' := [.int (nI a), .int (nI b), .int (nI c), .int (nI e)]) (rest := []) rfl rfl rfl rfl rfl rfl rfl rfl (Nat.le_of_ble_eq_true rfl) (Nat.le_of_ble_eq_true rfl) hh (show 19 + 5 ≤ w by omega) (rx_cross (by omega) (by omega) (by omega) (by omega) hh) ?_
  intro v1 h1 hp1
  obtain ⟨rfl, e1⟩ := hp1
  rw [e1]
  refine rx_T.to 6 31 [(11, .long (rx_cr (rx_gI h 38) (rx_gI h 39) a b c e)), (9, .long (rx_dt (rx_gI h 38) (rx_gI h 39) a b c e)), (0, .ref 53), (1, .int (nI a)), (2, .int (nI b)), (3, .int (nI c)), (4, .int (nI e)), (5, .int (nI f)), (6, .int (nI g)), (7, .int (nI i)), (8, .int (nI j))] [.int (nI j), .int (nI i), .int (nI g), .int (nI f), .ref 53] h rfl ?_
  refine rx_T.callm (M := rxm_108) (N := rxm_106) (j := 106) (nest := 0) (as' := [.int (nI f), .int (nI g), .int (nI i), .int (nI j)]) (rest := []) rfl rfl rfl rfl rfl rfl rfl rfl (Nat.le_of_ble_eq_true rfl) (Nat.le_of_ble_eq_true rfl) hh (show 19 + 5 ≤ w by omega) (rx_mdot (by omega) (by omega) (by omega) (by omega) hh) ?_
  intro v2 h2 hp2
  obtain ⟨rfl, e2⟩ := hp2
  rw [e2]
  refine rx_T.to 6 45 [(13, .long (rx_dt (rx_gI h 38) (rx_gI h 39) f g i j)), (11, .long (rx_cr (rx_gI h 38) (rx_gI h 39) a b c e)), (9, .long (rx_dt (rx_gI h 38) (rx_gI h 39) a b c e)), (0, .ref 53), (1, .int (nI a)), (2, .int (nI b)), (3, .int (nI c)), (4, .int (nI e)), (5, .int (nI f)), (6, .int (nI g)), (7, .int (nI i)), (8, .int (nI j))] [.int (nI j), .int (nI i), .int (nI g), .int (nI f), .ref 53] h rfl ?_
  refine rx_T.callm (M := rxm_108) (N := rxm_105) (j := 105) (nest := 0) (as' := [.int (nI f), .int (nI g), .int (nI i), .int (nI j)]) (rest := []) rfl rfl rfl rfl rfl rfl rfl rfl (Nat.le_of_ble_eq_true rfl) (Nat.le_of_ble_eq_true rfl) hh (show 19 + 5 ≤ w by omega) (rx_cross (by omega) (by omega) (by omega) (by omega) hh) ?_
  intro v3 h3 hp3
  obtain ⟨rfl, e3⟩ := hp3
  rw [e3]
  refine rx_T.to 10 63 [(15, .long (rx_cr (rx_gI h 38) (rx_gI h 39) f g i j)), (13, .long (rx_dt (rx_gI h 38) (rx_gI h 39) f g i j)), (11, .long (rx_cr (rx_gI h 38) (rx_gI h 39) a b c e)), (9, .long (rx_dt (rx_gI h 38) (rx_gI h 39) a b c e)), (0, .ref 53), (1, .int (nI a)), (2, .int (nI b)), (3, .int (nI c)), (4, .int (nI e)), (5, .int (nI f)), (6, .int (nI g)), (7, .int (nI i)), (8, .int (nI j))] [.int (lg_cmp (((rx_cr (rx_gI h 38) (rx_gI h 39) a b c e) * (rx_dt (rx_gI h 38) (rx_gI h 39) f g i j)) - ((rx_dt (rx_gI h 38) (rx_gI h 39) a b c e) * (rx_cr (rx_gI h 38) (rx_gI h 39) f g i j))) ((Int64.ofNat 0)))] h rfl ?_
  refine rx_T.br1 (M := rxm_108) 70 rfl rfl (by decide) (fun q => ?_) (fun q => ?_)
  · refine rx_T.to 1 71 [(15, .long (rx_cr (rx_gI h 38) (rx_gI h 39) f g i j)), (13, .long (rx_dt (rx_gI h 38) (rx_gI h 39) f g i j)), (11, .long (rx_cr (rx_gI h 38) (rx_gI h 39) a b c e)), (9, .long (rx_dt (rx_gI h 38) (rx_gI h 39) a b c e)), (0, .ref 53), (1, .int (nI a)), (2, .int (nI b)), (3, .int (nI c)), (4, .int (nI e)), (5, .int (nI f)), (6, .int (nI g)), (7, .int (nI i)), (8, .int (nI j))] [.int 0] h rfl ?_
    exact rx_T.ret (M := rxm_108) (v := some (.int 0)) rfl rfl rfl ⟨Or.inr ⟨rfl, rx_ne_t q⟩, rfl⟩
  · refine rx_T.to 2 71 [(15, .long (rx_cr (rx_gI h 38) (rx_gI h 39) f g i j)), (13, .long (rx_dt (rx_gI h 38) (rx_gI h 39) f g i j)), (11, .long (rx_cr (rx_gI h 38) (rx_gI h 39) a b c e)), (9, .long (rx_dt (rx_gI h 38) (rx_gI h 39) a b c e)), (0, .ref 53), (1, .int (nI a)), (2, .int (nI b)), (3, .int (nI c)), (4, .int (nI e)), (5, .int (nI f)), (6, .int (nI g)), (7, .int (nI i)), (8, .int (nI j))] [.int 1] h rfl ?_
    exact rx_T.ret (M := rxm_108) (v := some (.int 1)) rfl rfl rfl ⟨Or.inl ⟨rfl, rx_ne_f q⟩, rfl⟩
end RXHO
