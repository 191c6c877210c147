section RXLY
variable {rt : rx_R} {d w : Nat} {P : Option Value → rx_H → Prop}
theorem rx_T.callm {mi pc : Nat} {lv : rx_L} {st : List Value} {h : rx_H} {M N : rx_M} {j nest ix : Nat} {as' rest : List Value} {P1 : Option Value → rx_H → Prop} (hM : rx_ms[mi]? = some M) (hf : rx_f2 (rx_Mt M) pc = some (.invokevirtual ix)) (hl : rx_luv rx_lk0.2.2.1 (rx_Mo M) ix = some (j, nest)) (hN : rx_ms[j]? = some N) (hk : rx_Mk N = 1) (hc : rx_Mc N = 5) (hs : st = (.ref 53 :: as').reverse ++ rest) (hal : (.ref 53 :: as' : List Value).length = rx_an N 1) (hr : (rest.map (fun v => v.category)).sum ≤ 8) (hsl : (lg_sl (.ref 53 :: as')).length ≤ rx_Ml N) (hh : rx_hin rx_I0 h) (hw : 19 + rx_Ml N ≤ w)
    (k1 : rx_T rx_cds rx_ms rx_lk0 rt d (w - (19 + rx_Ml N)) j 0 (lv_args 0 (.ref 53 :: as')) [] h P1) (k : ∀ (v1 : Option Value) (h1 : rx_H), P1 v1 h1 → rx_T rx_cds rx_ms rx_lk0 rt (d + 1) w mi (pc + 3) lv (v1.toList ++ rest) h1 P) : rx_T rx_cds rx_ms rx_lk0 rt (d + 1) w mi pc lv st h P := by
  obtain ⟨vs, c1, c2, c3⟩ := rx_get_o hh (k := 37) rfl
  exact rx_T.call hM hf rfl (rx_callv (k := 37) hl hN hk hs hal hr hsl rfl c1 hc.symm) hN hw k1 k
theorem rx_lat.stp {h : rx_H} {fs fs' : Nat → Int64} {fb : Nat → Int32} {fr : Nat → Int64} (hl : rx_lat h fs fb fr) : rx_lat (h.set 50 (.inl (1, 484, .inr (.inl fs')))) fs' fb fr := by
  obtain ⟨h1, h2, h3⟩ := hl
  exact ⟨List.getElem?_set_self (List.getElem?_eq_some_iff.mp h1).1, (List.getElem?_set_ne (by decide)).trans h2, (List.getElem?_set_ne (by decide)).trans h3⟩
theorem rx_lat.hst {h : rx_H} {fs : Nat → Int64} {fb fb' : Nat → Int32} {fr : Nat → Int64} (hl : rx_lat h fs fb fr) : rx_lat (h.set 51 (.inl (2, 22, .inl fb'))) fs fb' fr := by
  obtain ⟨h1, h2, h3⟩ := hl
  exact ⟨(List.getElem?_set_ne (by decide)).trans h1, List.getElem?_set_self (List.getElem?_eq_some_iff.mp h2).1, (List.getElem?_set_ne (by decide)).trans h3⟩
theorem rx_hin_stp {h : rx_H} {fs : Nat → Int64} (hh : rx_hin rx_I0 h) : rx_hin rx_I0 (h.set 50 (.inl (1, 484, .inr (.inl fs)))) := rx_hin_set hh (k := 50) rfl ⟨_, rfl⟩
/-- all cells but the lattice's stay -/
def rx_FL (h h' : rx_H) : Prop := ∀ z, ¬ (z = 50 ∨ z = 51 ∨ z = 52) → h'[z]? = h[z]?
theorem rx_FL.refl (h : rx_H) : rx_FL h h := fun _ _ => rfl
theorem rx_FL.trans {a b c : rx_H} (h1 : rx_FL a b) (h2 : rx_FL b c) : rx_FL a c := fun z hz => (h2 z hz).trans (h1 z hz)
theorem rx_FL.set {h : rx_H} {k : Nat} {c : rx_C} (hk : k = 50 ∨ k = 51 ∨ k = 52) : rx_FL h (h.set k c) := fun z hz => List.getElem?_set_ne (by omega)
theorem rx_FL.row {h h' : rx_H} (a : ∀ z, ¬ z = 52 → h'[z]? = h[z]?) : rx_FL h h' := fun z hz => a z (fun e => hz (Or.inr (Or.inr e)))
set_option maxRecDepth 100000 in
set_option maxHeartbeats 4000000 in
theorem rx_lay_1 {s : Int64} {c : Nat} {fs : Nat → Int64} {fb : Nat → Int32} : ∀ (m k : Nat) (h : rx_H) (fr : Nat → Int64), k + m = 22 → rx_hin rx_I0 h → rx_lat h fs fb fr →
    (∀ (h' : rx_H) (fr' : Nat → Int64), rx_hin rx_I0 h' → rx_lat h' fs fb fr' → rx_FL h h' → (∀ j, j < k → fr' j = fr j) → (∀ j, k ≤ j → j < 22 → fr' j = fr j * s) → rx_T rx_cds rx_ms rx_lk0 rt d w 132 46 [(4, .int (nI 22)), (2, .long s), (0, .ref 53), (1, .int (nI c))] [] h' P) →
    rx_T rx_cds rx_ms rx_lk0 rt d w 132 22 [(4, .int (nI k)), (2, .long s), (0, .ref 53), (1, .int (nI c))] [] h P := by
  intro m
  induction m with
  | zero =>
    intro k h fr hk hh hl K
    have ek : k = 22 := by omega
    subst ek
    refine rx_T.to 2 26 [(4, .int (nI 22)), (2, .long s), (0, .ref 53), (1, .int (nI c))] [.int (Int8.ofInt 22).toInt32, .int (nI 22)] h rfl ?_
    refine rx_T.op (M := rxm_132) (ins := .if_icmp .ge 20) rfl rfl rfl rfl (rx_b2_t 46 (by decide +kernel) (by decide)) ?_
    exact K h fr hh hl (rx_FL.refl h) (fun _ _ => rfl) (fun j j1 j2 => absurd j2 (by omega))
  | succ m ih =>
    intro k h fr hk hh hl K
    have hk22 : k < 22 := by omega
    have ek : (nI k).toNatClampNeg = k := nI_clamp (by omega)
    refine rx_T.to 2 26 [(4, .int (nI k)), (2, .long s), (0, .ref 53), (1, .int (nI c))] [.int (Int8.ofInt 22).toInt32, .int (nI k)] h rfl ?_
    refine rx_T.op (M := rxm_132) (ins := .if_icmp .ge 20) rfl rfl rfl rfl (rx_b2_f (decide_eq_false (show ¬ (Int8.ofInt 22).toInt32 ≤ nI k by rw [show (Int8.ofInt 22).toInt32 = nI 22 by decide +kernel]; exact nI_ge hk22 (by decide))) (by decide)) ?_
    refine rx_T.to 1 30 [(4, .int (nI k)), (2, .long s), (0, .ref 53), (1, .int (nI c))] [.ref 53] h rfl ?_
    refine rx_T.gfr (M := rxm_132) (k := 37) rfl rfl rfl hh rfl rfl ?_
    refine rx_T.to 2 36 [(4, .int (nI k)), (2, .long s), (0, .ref 53), (1, .int (nI c))] [.int (nI k), .ref 68, .int (nI k), .ref 68] h rfl ?_
    refine rx_T.lald (M := rxm_132) rfl rfl (rx_rl_i (k := 52) hl.2.2) (vp_in_nI hk22 (by decide)) ?_
    rw [ek]
    refine rx_T.to 2 39 [(4, .int (nI k)), (2, .long s), (0, .ref 53), (1, .int (nI c))] [.long (fr k * s), .int (nI k), .ref 68] h rfl ?_
    refine rx_T.last (M := rxm_132) (a := 52) rfl rfl hl.2.2 (vp_in_nI hk22 (by decide)) ?_
    rw [ek]
    refine rx_T.to 2 22 [(4, .int (nI k + Int32.ofInt 1)), (2, .long s), (0, .ref 53), (1, .int (nI c))] [] _ rfl ?_
    rw [show nI k + Int32.ofInt 1 = nI (k + 1) from nI_1 k]
    refine ih (k + 1) _ _ (by omega) (rx_hin_row hh) hl.row (fun h' fr' a1 a2 a3 a4 a5 => ?_)
    refine K h' fr' a1 a2 ((rx_FL.set (by decide)).trans a3) (fun j hj => ?_) (fun j j1 j2 => ?_)
    · rw [a4 j (by omega)]
      exact if_neg (by omega)
    · by_cases ej : j = k
      · subst ej
        rw [a4 j (by omega)]
        exact if_pos rfl
      · rw [a5 j (by omega) j2]
        exact congrArg (fun z => z * s) (if_neg ej)
set_option maxRecDepth 100000 in
set_option maxHeartbeats 4000000 in
theorem rx_lay_2 {s : Int64} {c : Nat} (hc : c < 22) {fb : Nat → Int32} {fr : Nat → Int64} : ∀ (m k : Nat) (h : rx_H) (fs : Nat → Int64), k + m = 22 → rx_hin rx_I0 h → rx_lat h fs fb fr →
    (∀ (h' : rx_H) (fs' : Nat → Int64), rx_hin rx_I0 h' → rx_lat h' fs' fb fr → rx_FL h h' → (∀ j, k ≤ j → j < 22 → fs' (22 * c + j) = fr j) → (∀ i, ¬ (22 * c + k ≤ i ∧ i < 22 * c + 22) → fs' i = fs i) → rx_T rx_cds rx_ms rx_lk0 rt d w 132 88 [(4, .int (nI 22)), (2, .long s), (0, .ref 53), (1, .int (nI c))] [] h' P) →
    rx_T rx_cds rx_ms rx_lk0 rt d w 132 56 [(4, .int (nI k)), (2, .long s), (0, .ref 53), (1, .int (nI c))] [] h P := by
  intro m
  induction m with
  | zero =>
    intro k h fs hk hh hl K
    have ek : k = 22 := by omega
    subst ek
    refine rx_T.to 2 60 [(4, .int (nI 22)), (2, .long s), (0, .ref 53), (1, .int (nI c))] [.int (Int8.ofInt 22).toInt32, .int (nI 22)] h rfl ?_
    refine rx_T.op (M := rxm_132) (ins := .if_icmp .ge 28) rfl rfl rfl rfl (rx_b2_t 88 (by decide +kernel) (by decide)) ?_
    exact K h fs hh hl (rx_FL.refl h) (fun j j1 j2 => absurd j2 (by omega)) (fun _ _ => rfl)
  | succ m ih =>
    intro k h fs hk hh hl K
    have hk22 : k < 22 := by omega
    have ek : (nI k).toNatClampNeg = k := nI_clamp (by omega)
    refine rx_T.to 2 60 [(4, .int (nI k)), (2, .long s), (0, .ref 53), (1, .int (nI c))] [.int (Int8.ofInt 22).toInt32, .int (nI k)] h rfl ?_
    refine rx_T.op (M := rxm_132) (ins := .if_icmp .ge 28) rfl rfl rfl rfl (rx_b2_f (decide_eq_false (show ¬ (Int8.ofInt 22).toInt32 ≤ nI k by rw [show (Int8.ofInt 22).toInt32 = nI 22 by decide +kernel]; exact nI_ge hk22 (by decide))) (by decide)) ?_
    refine rx_T.to 1 64 [(4, .int (nI k)), (2, .long s), (0, .ref 53), (1, .int (nI c))] [.ref 53] h rfl ?_
    refine rx_T.gfr (M := rxm_132) (k := 37) rfl rfl rfl hh rfl rfl ?_
    refine rx_T.to 6 75 [(4, .int (nI k)), (2, .long s), (0, .ref 53), (1, .int (nI c))] [.ref 53, .int ((Int8.ofInt 22).toInt32 * nI c + nI k), .ref 66] h rfl ?_
    refine rx_T.gfr (M := rxm_132) (k := 37) rfl rfl rfl hh rfl rfl ?_
    refine rx_T.to 1 80 [(4, .int (nI k)), (2, .long s), (0, .ref 53), (1, .int (nI c))] [.int (nI k), .ref 68, .int ((Int8.ofInt 22).toInt32 * nI c + nI k), .ref 66] h rfl ?_
    refine rx_T.lald (M := rxm_132) rfl rfl (rx_rl_i (k := 52) hl.2.2) (vp_in_nI hk22 (by decide)) ?_
    rw [ek, rx_ix22 c k hc hk22]
    refine rx_T.last (M := rxm_132) (a := 50) rfl rfl hl.1 (vp_in_nI (show 22 * c + k < 484 by omega) (by decide)) ?_
    rw [nI_clamp (show 22 * c + k < 2 ^ 31 by omega)]
    refine rx_T.to 2 56 [(4, .int (nI k + Int32.ofInt 1)), (2, .long s), (0, .ref 53), (1, .int (nI c))] [] _ rfl ?_
    rw [show nI k + Int32.ofInt 1 = nI (k + 1) from nI_1 k]
    refine ih (k + 1) _ _ (by omega) (rx_hin_stp hh) hl.stp (fun h' fs' a1 a2 a3 a4 a5 => ?_)
    refine K h' fs' a1 a2 ((rx_FL.set (by decide)).trans a3) (fun j j1 j2 => ?_) (fun i hi => ?_)
    · by_cases ej : j = k
      · subst ej
        rw [a5 _ (by omega)]
        exact if_pos rfl
      · exact a4 j (by omega) j2
    · rw [a5 i (by omega)]
      exact if_neg (by omega)
theorem rx_gd_neg {x : Int64} (h : x.toInt < 0) : rx_gd (x * -1) := by
  have h1 := rxl_lo x
  have e : (x * -1).toInt = (-x.toInt).bmod (2 ^ 64) := by
    rw [Int64.toInt_mul, show (-1 : Int64).toInt = -1 from rfl, Int.mul_neg, Int.mul_one]
  by_cases hm : x.toInt = -9223372036854775808
  · right
    rw [e, hm]
    decide
  · left
    rw [e, rxl_bm (by omega) (by omega)]
    omega
theorem rx_gd_pos {x : Int64} (h : ¬ x.toInt < 0) (h0 : ¬ x = 0) : rx_gd (x * 1) := by
  left
  have e : (x * 1).toInt = x.toInt := by
    rw [Int64.toInt_mul, show (1 : Int64).toInt = 1 from rfl, Int.mul_one, rxl_bm (rxl_lo x) (rxl_hi x)]
  rw [e]
  have : ¬ x.toInt = 0 := fun z => h0 (Int64.toInt_inj.mp z)
  omega
theorem rx_cmpge (x : Int64) : (0 ≤ lg_cmp x (Int64.ofNat 0)) ↔ ¬ x.toInt < 0 := by
  have h5 : (Int64.ofNat 0).toInt = 0 := rfl
  unfold lg_cmp
  by_cases y : x > Int64.ofNat 0
  · have y2 : (Int64.ofNat 0).toInt < x.toInt := Int64.lt_iff_toInt_lt.mp y
    rw [if_pos y]
    exact ⟨fun _ => by omega, fun _ => by decide⟩
  · have y3 : ¬ (Int64.ofNat 0).toInt < x.toInt := fun q => y (Int64.lt_iff_toInt_lt.mpr q)
    rw [if_neg y]
    by_cases y2 : x = Int64.ofNat 0
    · rw [if_pos y2, y2]
      exact ⟨fun _ => by omega, fun _ => by decide⟩
    · have y4 : ¬ x.toInt = (Int64.ofNat 0).toInt := fun q => y2 (Int64.toInt_inj.mp q)
      rw [if_neg y2]
      exact ⟨fun z => absurd z (by decide), fun z => by omega⟩
set_option maxRecDepth 100000 in
set_option maxHeartbeats 4000000 in
theorem rx_layStep {c : Nat} (hc : c < 22) {fs : Nat → Int64} {fb : Nat → Int32} {fr : Nat → Int64} {h : rx_H} (hg : rx_gds fs fb) (hw : 100 ≤ w) (hh : rx_hin rx_I0 h) (hl : rx_lat h fs fb fr) (h0 : ¬ fr c = 0) : rx_T rx_cds rx_ms rx_lk0 rt (d + 2) w 132 0 [(0, .ref 53), (1, .int (nI c))] [] h (fun v h' => v = none ∧ rx_hin rx_I0 h' ∧ rx_FL h h' ∧ ∃ fs' fb' fr', rx_lat h' fs' fb' fr' ∧ rx_gds fs' fb' ∧ ¬ fb' c = 0 ∧ (∀ i, ¬ (22 * c ≤ i ∧ i < 22 * c + 22) → fs' i = fs i) ∧ (∀ j, ¬ j = c → fb' j = fb j)) := by
  have ec : (nI c).toNatClampNeg = c := nI_clamp (by omega)
  have rest : ∀ s : Int64, rx_gd (fr c * s) → rx_T rx_cds rx_ms rx_lk0 rt (d + 2) w 132 18 [(0, .ref 53), (1, .int (nI c))] [.long s] h (fun v h' => v = none ∧ rx_hin rx_I0 h' ∧ rx_FL h h' ∧ ∃ fs' fb' fr', rx_lat h' fs' fb' fr' ∧ rx_gds fs' fb' ∧ ¬ fb' c = 0 ∧ (∀ i, ¬ (22 * c ≤ i ∧ i < 22 * c + 22) → fs' i = fs i) ∧ (∀ j, ¬ j = c → fb' j = fb j)) := by
    intro s hs
    refine rx_T.to 3 22 [(4, .int (nI 0)), (2, .long s), (0, .ref 53), (1, .int (nI c))] [] h rfl ?_
    refine rx_lay_1 22 0 h fr rfl hh hl (fun h1 fr1 a1 a2 a3 _ a5 => ?_)
    refine rx_T.to 4 50 [(4, .int (nI 22)), (2, .long s), (0, .ref 53), (1, .int (nI c))] [.int (nI c + Int32.ofInt 1), .ref 53] h1 rfl ?_
    rw [show nI c + Int32.ofInt 1 = nI (c + 1) from nI_1 c]
    refine rx_T.callm (M := rxm_132) (N := rxm_130) (j := 130) (nest := 0) (as' := [.int (nI (c + 1))]) (rest := []) rfl rfl rfl rfl rfl rfl rfl rfl (Nat.le_of_ble_eq_true rfl) (Nat.le_of_ble_eq_true rfl) a1 (show 19 + 6 ≤ w by omega) (rx_reduce (n0 := c + 1) hg (show 60 ≤ w - (19 + 6) by omega) (by omega) a1 a2) ?_
    intro v1 h2 hp
    obtain ⟨rfl, b1, b2, fr2, b3, b4⟩ := hp
    refine rx_T.to 2 56 [(4, .int (nI 0)), (2, .long s), (0, .ref 53), (1, .int (nI c))] [] h2 rfl ?_
    refine rx_lay_2 hc 22 0 h2 fs rfl b1 b3 (fun h3 fs3 d1 d2 d3 d4 d5 => ?_)
    refine rx_T.to 1 89 [(4, .int (nI 22)), (2, .long s), (0, .ref 53), (1, .int (nI c))] [.ref 53] h3 rfl ?_
    refine rx_T.gfr (M := rxm_132) (k := 37) rfl rfl rfl d1 rfl rfl ?_
    refine rx_T.to 2 94 [(4, .int (nI 22)), (2, .long s), (0, .ref 53), (1, .int (nI c))] [.int 1, .int (nI c), .ref 67] h3 rfl ?_
    refine rx_T.zast (M := rxm_132) (a := 51) rfl rfl d2.2.1 (vp_in_nI hc (by decide)) ?_
    rw [ec]
    have e1 : vp_nar .boolean 1 = 1 := by decide +kernel
    refine rx_T.ret (M := rxm_132) (v := none) rfl rfl rfl ⟨rfl, rx_hin_set d1 (k := 51) rfl ⟨_, rfl, fun j hj => ?_⟩, ((a3.trans (rx_FL.row b2)).trans d3).trans (rx_FL.set (by decide)), fs3, _, fr2, d2.hst, fun c' hc' hb' => ?_, ?_, fun i hi => d5 i (by omega), fun j hj => if_neg hj⟩
    · unfold upd
      by_cases ej : j = c
      · rw [if_pos ej, e1]
        decide
      · rw [if_neg ej]
        obtain ⟨cd, r1, f8, r2, r3⟩ := rx_hin_get d1 (k := 51) rfl
        rw [d2.2.1] at r1
        have r4 := Option.some.inj r1
        rw [← r4] at r2
        cases r2
        exact r3 j hj
    · by_cases ej : c' = c
      · subst ej
        have e2 := d4 c' (by omega) hc'
        rw [show 22 * c' + c' = 23 * c' by omega] at e2
        rw [e2, b4.1 c' (by omega), a5 c' (by omega) hc']
        exact hs
      · rw [d5 (23 * c') (by omega)]
        refine hg c' hc' (fun z => hb' ?_)
        unfold upd
        rw [if_neg ej]
        exact z
    · unfold upd
      rw [if_pos rfl, e1]
      decide
  refine rx_T.to 1 1 [(0, .ref 53), (1, .int (nI c))] [.ref 53] h rfl ?_
  refine rx_T.gfr (M := rxm_132) (k := 37) rfl rfl rfl hh rfl rfl ?_
  refine rx_T.to 1 5 [(0, .ref 53), (1, .int (nI c))] [.int (nI c), .ref 68] h rfl ?_
  refine rx_T.lald (M := rxm_132) rfl rfl (rx_rl_i (k := 52) hl.2.2) (vp_in_nI hc (by decide)) ?_
  rw [ec]
  refine rx_T.to 2 8 [(0, .ref 53), (1, .int (nI c))] [.int (lg_cmp (fr c) (Int64.ofNat 0))] h rfl ?_
  have hcmp : (0 ≤ lg_cmp (fr c) (Int64.ofNat 0)) ↔ ¬ (fr c).toInt < 0 := rx_cmpge _
  refine rx_T.br1 (M := rxm_132) 17 rfl rfl (by decide) (fun h1 => ?_) (fun h1 => ?_)
  · refine rx_T.to 1 18 [(0, .ref 53), (1, .int (nI c))] [.long 1] h rfl ?_
    exact rest 1 (rx_gd_pos (hcmp.mp (of_decide_eq_true h1)) h0)
  · refine rx_T.to 2 18 [(0, .ref 53), (1, .int (nI c))] [.long (-1)] h rfl ?_
    exact rest (-1) (rx_gd_neg (Decidable.not_not.mp (fun z => of_decide_eq_false h1 (hcmp.mpr z))))
end RXLY
