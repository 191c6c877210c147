section RXSL
variable {rt : rx_R} {d w : Nat} {P : Option Value → rx_H → Prop}
theorem rx_hin_hst {h : rx_H} {fb : Nat → Int32} (hh : rx_hin rx_I0 h) (hb : ∀ j, j < 22 → 0 ≤ (fb j).toInt ∧ (fb j).toInt ≤ 1) : rx_hin rx_I0 (h.set 51 (.inl (2, 22, .inl fb))) := rx_hin_set hh (k := 51) rfl ⟨_, rfl, hb⟩
theorem rx_lat.b01 {h : rx_H} {fs : Nat → Int64} {fb : Nat → Int32} {fr : Nat → Int64} (hh : rx_hin rx_I0 h) (hl : rx_lat h fs fb fr) : ∀ j, j < 22 → 0 ≤ (fb j).toInt ∧ (fb j).toInt ≤ 1 := by
  obtain ⟨c, r1, f, r2, r3⟩ := rx_hin_get hh (k := 51) rfl
  rw [hl.2.1] at r1
  have r4 := Option.some.inj r1
  rw [← r4] at r2
  cases r2
  exact r3
theorem rx_hst_up {fb : Nat → Int32} {k : Nat} {x : Int32} (hb : ∀ j, j < 22 → 0 ≤ (fb j).toInt ∧ (fb j).toInt ≤ 1) (hx : 0 ≤ x.toInt ∧ x.toInt ≤ 1) : ∀ j, j < 22 → 0 ≤ (upd fb k x j).toInt ∧ (upd fb k x j).toInt ≤ 1 := by
  intro j hj
  unfold upd
  by_cases e : j = k
  · rw [if_pos e]
    exact hx
  · rw [if_neg e]
    exact hb j hj
set_option maxRecDepth 100000 in
set_option maxHeartbeats 4000000 in
theorem rx_sl_in {c : Nat} (hc : c < 22) {fb : Nat → Int32} {fr : Nat → Int64} : ∀ (m k : Nat) (h : rx_H) (fs : Nat → Int64), k + m = 22 → rx_hin rx_I0 h → rx_lat h fs fb fr →
    (∀ (h' : rx_H) (fs' : Nat → Int64), rx_hin rx_I0 h' → rx_lat h' fs' fb fr → rx_FL h h' → rx_T rx_cds rx_ms rx_lk0 rt d w 117 41 [(1, .int (nI c)), (0, .ref 53)] [] h' P) →
    rx_T rx_cds rx_ms rx_lk0 rt d w 117 17 [(2, .int (nI k)), (1, .int (nI c)), (0, .ref 53)] [] h P := by
  intro m
  induction m with
  | zero =>
    intro k h fs hk hh hl K
    have ek : k = 22 := by omega
    subst ek
    refine rx_T.to 2 20 [(2, .int (nI 22)), (1, .int (nI c)), (0, .ref 53)] [.int (Int8.ofInt 22).toInt32, .int (nI 22)] h rfl ?_
    refine rx_T.op (M := rxm_117) (ins := .if_icmp .ge 21) rfl rfl rfl rfl (rx_b2_t 41 (by decide +kernel) (by decide)) ?_
    exact rx_T.lv [(1, .int (nI c)), (0, .ref 53)] (((rx_lvl.nil _).cons rfl rfl).cons rfl rfl) (K h fs hh hl (rx_FL.refl h))
  | succ m ih =>
    intro k h fs hk hh hl K
    have hk22 : k < 22 := by omega
    refine rx_T.to 2 20 [(2, .int (nI k)), (1, .int (nI c)), (0, .ref 53)] [.int (Int8.ofInt 22).toInt32, .int (nI k)] h rfl ?_
    refine rx_T.op (M := rxm_117) (ins := .if_icmp .ge 21) rfl rfl rfl rfl (rx_b2_f (decide_eq_false (show ¬ (Int8.ofInt 22).toInt32 ≤ nI k by rw [show (Int8.ofInt 22).toInt32 = nI 22 by decide +kernel]; exact nI_ge hk22 (by decide))) (by decide)) ?_
    refine rx_T.to 1 24 [(2, .int (nI k)), (1, .int (nI c)), (0, .ref 53)] [.ref 53] h rfl ?_
    refine rx_T.gfr (M := rxm_117) (k := 37) rfl rfl rfl hh rfl rfl ?_
    refine rx_T.to 6 34 [(2, .int (nI k)), (1, .int (nI c)), (0, .ref 53)] [.long 0, .int ((Int8.ofInt 22).toInt32 * nI c + nI k), .ref 66] h rfl ?_
    rw [rx_ix22 c k hc hk22]
    refine rx_T.last (M := rxm_117) (a := 50) rfl rfl hl.1 (vp_in_nI (show 22 * c + k < 484 by omega) (by decide)) ?_
    refine rx_T.to 2 17 [(2, .int (nI k + Int32.ofInt 1)), (1, .int (nI c)), (0, .ref 53)] [] _ rfl ?_
    rw [show nI k + Int32.ofInt 1 = nI (k + 1) from nI_1 k]
    exact ih (k + 1) _ _ (by omega) (rx_hin_stp hh) hl.stp (fun h' fs' a1 a2 a3 => K h' fs' a1 a2 ((rx_FL.set (by decide)).trans a3))
set_option maxRecDepth 100000 in
set_option maxHeartbeats 4000000 in
theorem rx_sl_out {h0 : rx_H} {fr : Nat → Int64} : ∀ (m c : Nat) (h : rx_H) (fs : Nat → Int64) (fb : Nat → Int32), c + m = 22 → rx_hin rx_I0 h → rx_lat h fs fb fr → rx_FL h0 h → (∀ j, j < c → fb j = 0) →
    rx_T rx_cds rx_ms rx_lk0 rt d w 117 2 [(1, .int (nI c)), (0, .ref 53)] [] h (fun v h' => v = none ∧ rx_hin rx_I0 h' ∧ rx_FL h0 h' ∧ ∃ fs' fb' fr', rx_lat h' fs' fb' fr' ∧ rx_gds fs' fb') := by
  intro m
  induction m with
  | zero =>
    intro c h fs fb hc hh hl hF hz
    have ec : c = 22 := by omega
    subst ec
    refine rx_T.to 2 5 [(1, .int (nI 22)), (0, .ref 53)] [.int (Int8.ofInt 22).toInt32, .int (nI 22)] h rfl ?_
    refine rx_T.op (M := rxm_117) (ins := .if_icmp .ge 42) rfl rfl rfl rfl (rx_b2_t 47 (by decide +kernel) (by decide)) ?_
    refine rx_T.to 1 48 [(1, .int (nI 22)), (0, .ref 53)] [.ref 53] h rfl ?_
    refine rx_T.gfr (M := rxm_117) (k := 37) rfl rfl rfl hh rfl rfl ?_
    refine rx_T.to 2 57 [(1, .int (nI 22)), (0, .ref 53)] [.long 2, .int (Int16.ofInt 483).toInt32, .ref 66] h rfl ?_
    rw [show (Int16.ofInt 483).toInt32 = nI 483 by decide +kernel]
    refine rx_T.last (M := rxm_117) (a := 50) rfl rfl hl.1 (vp_in_nI (by decide) (by decide)) ?_
    rw [nI_clamp (show 483 < 2 ^ 31 by decide)]
    have hh2 := rx_hin_stp (fs := vp_updL fs 483 2) hh
    have hl2 := hl.stp (fs' := vp_updL fs 483 2)
    have hF2 : rx_FL h (h.set 50 (.inl (1, 484, .inr (.inl (vp_updL fs 483 2))))) := rx_FL.set (by decide)
    generalize h.set 50 (.inl (1, 484, .inr (.inl (vp_updL fs 483 2)))) = h2 at hh2 hl2 hF2 ⊢
    refine rx_T.to 1 59 [(1, .int (nI 22)), (0, .ref 53)] [.ref 53] h2 rfl ?_
    refine rx_T.gfr (M := rxm_117) (k := 37) rfl rfl rfl hh2 rfl rfl ?_
    refine rx_T.to 2 65 [(1, .int (nI 22)), (0, .ref 53)] [.int 1, .int (Int8.ofInt 21).toInt32, .ref 67] h2 rfl ?_
    rw [show (Int8.ofInt 21).toInt32 = nI 21 by decide +kernel]
    refine rx_T.zast (M := rxm_117) (a := 51) rfl rfl hl2.2.1 (vp_in_nI (by decide) (by decide)) ?_
    rw [nI_clamp (show 21 < 2 ^ 31 by decide), show vp_nar .boolean 1 = 1 by decide +kernel]
    refine rx_T.ret (M := rxm_117) (v := none) rfl rfl rfl ⟨rfl, rx_hin_hst hh2 (rx_hst_up (hl2.b01 hh2) (by decide)), (hF.trans hF2).trans (rx_FL.set (by decide)), _, _, _, hl2.hst, fun c hc hb => ?_⟩
    by_cases e : c = 21
    · subst e
      have e2 : vp_updL fs 483 2 (23 * 21) = 2 := if_pos rfl
      rw [e2]
      exact Or.inl (by decide)
    · refine absurd ?_ hb
      unfold upd
      rw [if_neg e]
      exact hz c (by omega)
  | succ m ih =>
    intro c h fs fb hc hh hl hF hz
    have hc22 : c < 22 := by omega
    refine rx_T.to 2 5 [(1, .int (nI c)), (0, .ref 53)] [.int (Int8.ofInt 22).toInt32, .int (nI c)] h rfl ?_
    refine rx_T.op (M := rxm_117) (ins := .if_icmp .ge 42) rfl rfl rfl rfl (rx_b2_f (decide_eq_false (show ¬ (Int8.ofInt 22).toInt32 ≤ nI c by rw [show (Int8.ofInt 22).toInt32 = nI 22 by decide +kernel]; exact nI_ge hc22 (by decide))) (by decide)) ?_
    refine rx_T.to 1 9 [(1, .int (nI c)), (0, .ref 53)] [.ref 53] h rfl ?_
    refine rx_T.gfr (M := rxm_117) (k := 37) rfl rfl rfl hh rfl rfl ?_
    refine rx_T.to 2 14 [(1, .int (nI c)), (0, .ref 53)] [.int 0, .int (nI c), .ref 67] h rfl ?_
    refine rx_T.zast (M := rxm_117) (a := 51) rfl rfl hl.2.1 (vp_in_nI hc22 (by decide)) ?_
    rw [nI_clamp (show c < 2 ^ 31 by omega), show vp_nar .boolean 0 = 0 by decide +kernel]
    refine rx_T.to 2 17 [(2, .int (nI 0)), (1, .int (nI c)), (0, .ref 53)] [] _ rfl ?_
    refine rx_sl_in hc22 22 0 _ fs rfl (rx_hin_hst hh (rx_hst_up (hl.b01 hh) (by decide))) hl.hst (fun h' fs' a1 a2 a3 => ?_)
    refine rx_T.to 2 2 [(1, .int (nI c + Int32.ofInt 1)), (0, .ref 53)] [] h' rfl ?_
    rw [show nI c + Int32.ofInt 1 = nI (c + 1) from nI_1 c]
    refine ih (c + 1) h' fs' _ (by omega) a1 a2 ((hF.trans (rx_FL.set (by decide))).trans a3) (fun j hj => ?_)
    unfold upd
    by_cases e : j = c
    · rw [if_pos e]
    · rw [if_neg e]
      exact hz j (by omega)
set_option maxRecDepth 100000 in
set_option maxHeartbeats 4000000 in
theorem rx_startLattice {h0 : rx_H} (hh : rx_hin rx_I0 h0) : rx_T rx_cds rx_ms rx_lk0 rt d w 117 0 [(0, .ref 53)] [] h0 (fun v h' => v = none ∧ rx_hin rx_I0 h' ∧ rx_FL h0 h' ∧ ∃ fs' fb' fr', rx_lat h' fs' fb' fr' ∧ rx_gds fs' fb') := by
  obtain ⟨fs, fb, fr, hl⟩ := rx_lat_of hh
  refine rx_T.to 2 2 [(1, .int (nI 0)), (0, .ref 53)] [] h0 rfl ?_
  exact rx_sl_out 22 0 h0 fs fb rfl hh hl (rx_FL.refl h0) (fun j hj => absurd hj (by omega))
end RXSL
