section RXCM
variable {rt : rx_R} {d w : Nat} {P : Option Value → rx_H → Prop}
/-- the lattice's measure -/
def rx_tm (fs : Nat → Int64) (fb : Nat → Int32) (c : Nat) : Nat := if fb c = 0 then 18446744073709551616 else (fs (23 * c)).toInt.natAbs
def rx_mu (fs : Nat → Int64) (fb : Nat → Int32) : Nat → Nat
  | 0 => 0
  | n + 1 => rx_mu fs fb n + rx_tm fs fb n
theorem rx_mu_eq {fs fs' : Nat → Int64} {fb fb' : Nat → Int32} : ∀ n : Nat, (∀ j, j < n → rx_tm fs' fb' j = rx_tm fs fb j) → rx_mu fs' fb' n = rx_mu fs fb n
  | 0, _ => rfl
  | n + 1, h => by
    unfold rx_mu
    rw [rx_mu_eq n (fun j hj => h j (by omega)), h n (by omega)]
theorem rx_mu_lt {fs fs' : Nat → Int64} {fb fb' : Nat → Int32} {c : Nat} : ∀ n : Nat, c < n → (∀ j, j < n → ¬ j = c → rx_tm fs' fb' j = rx_tm fs fb j) → rx_tm fs' fb' c < rx_tm fs fb c → rx_mu fs' fb' n < rx_mu fs fb n
  | 0, hc, _, _ => absurd hc (by omega)
  | n + 1, hc, h, hl => by
    unfold rx_mu
    by_cases e : c = n
    · subst e
      rw [rx_mu_eq c (fun j hj => h j (by omega) (by omega))]
      omega
    · have h1 := rx_mu_lt n (by omega) (fun j hj hn => h j (by omega) hn) hl
      have h2 := h n (by omega) (fun z => e z.symm)
      omega
def rx_cmP (h : rx_H) (fs : Nat → Int64) (fb : Nat → Int32) (v : Option Value) (h' : rx_H) : Prop := ∃ b : Int32, v = some (.int b) ∧ (b = 0 ∨ b = 1) ∧ rx_hin rx_I0 h' ∧ rx_FO h h' ∧ ∃ fs' fb' fr', rx_lat h' fs' fb' fr' ∧ rx_gds fs' fb' ∧ rx_mu fs' fb' 22 ≤ rx_mu fs fb 22 ∧ (b = 1 → rx_mu fs' fb' 22 < rx_mu fs fb 22)
set_option maxRecDepth 100000 in
set_option maxHeartbeats 4000000 in
theorem rx_cm_lp {h0 : rx_H} {fs0 : Nat → Int64} {fb0 : Nat → Int32} (hw : 150 ≤ w) : ∀ (m c : Nat) (b : Int32) (h : rx_H) (fs : Nat → Int64) (fb : Nat → Int32) (fr : Nat → Int64), c + m = 22 → (b = 0 ∨ b = 1) → rx_hin rx_I0 h → rx_lat h fs fb fr → rx_gds fs fb → rx_FO h0 h → (∀ j, c ≤ j → j < 22 → ¬ fb j = 0 → 0 ≤ (fr j).toInt ∧ (fr j).toInt < (fs (23 * j)).toInt.natAbs) → rx_mu fs fb 22 ≤ rx_mu fs0 fb0 22 → (b = 1 → rx_mu fs fb 22 < rx_mu fs0 fb0 22) →
    rx_T rx_cds rx_ms rx_lk0 rt (d + 3) w 129 9 [(2, .int (nI c)), (1, .int b), (0, .ref 53)] [] h (rx_cmP h0 fs0 fb0) := by
  intro m
  induction m with
  | zero =>
    intro c b h fs fb fr hc hb hh hl hg hF hz hm hm1
    have ec : c = 22 := by omega
    subst ec
    refine rx_T.to 2 12 [(2, .int (nI 22)), (1, .int b), (0, .ref 53)] [.int (Int8.ofInt 22).toInt32, .int (nI 22)] h rfl ?_
    refine rx_T.op (M := rxm_129) (ins := .if_icmp .ge 50) rfl rfl rfl rfl (rx_b2_t 62 (by decide +kernel) (by decide)) ?_
    refine rx_T.to 1 63 [(2, .int (nI 22)), (1, .int b), (0, .ref 53)] [.int b] h rfl ?_
    exact rx_T.ret (M := rxm_129) (v := some (.int b)) rfl rfl (show (if b = 0 ∨ b = 1 then some (some (Value.int b)) else none) = _ from if_pos hb) ⟨b, rfl, hb, hh, hF, fs, fb, fr, hl, hg, hm, hm1⟩
  | succ m ih =>
    intro c b h fs fb fr hc hb hh hl hg hF hz hm hm1
    have hc22 : c < 22 := by omega
    have ec : (nI c).toNatClampNeg = c := nI_clamp (by omega)
    refine rx_T.to 2 12 [(2, .int (nI c)), (1, .int b), (0, .ref 53)] [.int (Int8.ofInt 22).toInt32, .int (nI c)] h rfl ?_
    refine rx_T.op (M := rxm_129) (ins := .if_icmp .ge 50) rfl rfl rfl rfl (rx_b2_f (decide_eq_false (show ¬ (Int8.ofInt 22).toInt32 ≤ nI c by rw [show (Int8.ofInt 22).toInt32 = nI 22 by decide +kernel]; exact nI_ge hc22 (by decide))) (by decide)) ?_
    refine rx_T.to 1 16 [(2, .int (nI c)), (1, .int b), (0, .ref 53)] [.ref 53] h rfl ?_
    refine rx_T.gfr (M := rxm_129) (k := 37) rfl rfl rfl hh rfl rfl ?_
    refine rx_T.to 1 20 [(2, .int (nI c)), (1, .int b), (0, .ref 53)] [.int (nI c), .ref 68] h rfl ?_
    refine rx_T.lald (M := rxm_129) rfl rfl (rx_rl_i (k := 52) hl.2.2) (vp_in_nI hc22 (by decide)) ?_
    rw [ec]
    refine rx_T.to 2 23 [(2, .int (nI c)), (1, .int b), (0, .ref 53)] [.int (lg_cmp (fr c) (Int64.ofNat 0))] h rfl ?_
    refine rx_T.br1 (M := rxm_129) 56 rfl rfl (by decide) (fun h1 => ?_) (fun h1 => ?_)
    · refine rx_T.to 2 9 [(2, .int (nI c + Int32.ofInt 1)), (1, .int b), (0, .ref 53)] [] h rfl ?_
      rw [show nI c + Int32.ofInt 1 = nI (c + 1) from nI_1 c]
      exact ih (c + 1) b h fs fb fr (by omega) hb hh hl hg hF (fun j j1 j2 j3 => hz j (by omega) j2 j3) hm hm1
    · have e0 : ¬ fr c = 0 := fun z => of_decide_eq_false h1 ((rx_cmp0 _).mpr z)
      refine rx_T.to 3 29 [(1, .int 1), (2, .int (nI c)), (0, .ref 53)] [.ref 53] h rfl ?_
      refine rx_T.gfr (M := rxm_129) (k := 37) rfl rfl rfl hh rfl rfl ?_
      refine rx_T.to 1 33 [(1, .int 1), (2, .int (nI c)), (0, .ref 53)] [.int (nI c), .ref 67] h rfl ?_
      refine rx_T.zald (M := rxm_129) rfl rfl (rx_rz_i (k := 51) hl.2.1) (vp_in_nI hc22 (by decide)) ?_
      rw [ec]
      refine rx_T.br1 (M := rxm_129) 44 rfl rfl (by decide) (fun h2 => ?_) (fun h2 => ?_)
      · have hbc : ¬ fb c = 0 := of_decide_eq_true h2
        obtain ⟨z1, z2⟩ := hz c (Nat.le_refl c) hc22 hbc
        refine rx_T.to 2 46 [(1, .int 1), (2, .int (nI c)), (0, .ref 53)] [.int (nI c), .ref 53] h rfl ?_
        refine rx_T.callm (M := rxm_129) (N := rxm_133) (j := 133) (nest := 0) (as' := [.int (nI c)]) (rest := []) rfl rfl rfl rfl rfl rfl rfl rfl (Nat.le_of_ble_eq_true rfl) (Nat.le_of_ble_eq_true rfl) hh (show 19 + 7 ≤ w by omega) (rx_meet hc22 hg hbc (show 100 ≤ w - (19 + 7) by omega) hh hl z1) ?_
        intro v1 h3 hp
        obtain ⟨rfl, a1, a2, fs3, fr3, a3, a4, a5, a6⟩ := hp
        have a7 := a5 e0
        refine rx_T.to 4 53 [(1, .int 1), (2, .int (nI c)), (0, .ref 53)] [.int (nI c + Int32.ofInt 1), .ref 53] h3 rfl ?_
        rw [show nI c + Int32.ofInt 1 = nI (c + 1) from nI_1 c]
        refine rx_T.callm (M := rxm_129) (N := rxm_130) (j := 130) (nest := 0) (as' := [.int (nI (c + 1))]) (rest := []) rfl rfl rfl rfl rfl rfl rfl rfl (Nat.le_of_ble_eq_true rfl) (Nat.le_of_ble_eq_true rfl) a1 (show 19 + 6 ≤ w by omega) (rx_reduce (n0 := c + 1) a4 (show 60 ≤ w - (19 + 6) by omega) (by omega) a1 a3) ?_
        intro v2 h4 hp
        obtain ⟨rfl, b1, b2, fr4, b3, b4⟩ := hp
        refine rx_T.to 2 9 [(2, .int (nI c + Int32.ofInt 1)), (1, .int 1), (0, .ref 53)] [] h4 rfl ?_
        rw [show nI c + Int32.ofInt 1 = nI (c + 1) from nI_1 c]
        have hlt : rx_mu fs3 fb 22 < rx_mu fs fb 22 := rx_mu_lt (c := c) 22 hc22 (fun j j1 j2 => by unfold rx_tm; rw [a6 (23 * j) (by omega)]) (by
          unfold rx_tm
          rw [if_neg hbc, if_neg hbc]
          omega)
        exact ih (c + 1) 1 h4 fs3 fb fr4 (by omega) (Or.inr rfl) b1 b3 a4 ((hF.trans a2).trans (rx_FL.row b2).fo) (fun j j1 j2 j3 => b4.2 j j1 j2 j3) (by omega) (fun _ => by omega)
      · have hbc : fb c = 0 := Decidable.not_not.mp (of_decide_eq_false h2)
        refine rx_T.to 2 39 [(1, .int 1), (2, .int (nI c)), (0, .ref 53)] [.int (nI c), .ref 53] h rfl ?_
        refine rx_T.callm (M := rxm_129) (N := rxm_132) (j := 132) (nest := 0) (as' := [.int (nI c)]) (rest := []) rfl rfl rfl rfl rfl rfl rfl rfl (Nat.le_of_ble_eq_true rfl) (Nat.le_of_ble_eq_true rfl) hh (show 19 + 5 ≤ w by omega) (rx_layStep hc22 hg (show 100 ≤ w - (19 + 5) by omega) hh hl e0) ?_
        intro v1 h3 hp
        obtain ⟨rfl, a1, a2, fs3, fb3, fr3, a3, a4, a5, a6, a7⟩ := hp
        have hlt : rx_mu fs3 fb3 22 < rx_mu fs fb 22 := rx_mu_lt (c := c) 22 hc22 (fun j j1 j2 => by unfold rx_tm; rw [a6 (23 * j) (by omega), a7 j j2]) (by
          unfold rx_tm
          rw [if_pos hbc, if_neg a5]
          have := rxl_lo (fs3 (23 * c))
          have := rxl_hi (fs3 (23 * c))
          omega)
        refine rx_T.to 1 43 [(1, .int 1), (2, .int (nI c)), (0, .ref 53)] [.int 1] h3 rfl ?_
        exact rx_T.ret (M := rxm_129) (v := some (.int 1)) rfl rfl rfl ⟨1, rfl, Or.inr rfl, a1, hF.trans a2.fo, fs3, fb3, fr3, a3, a4, by omega, fun _ => by omega⟩
set_option maxRecDepth 100000 in
set_option maxHeartbeats 4000000 in
theorem rx_comes {fs : Nat → Int64} {fb : Nat → Int32} {fr : Nat → Int64} {h : rx_H} (hg : rx_gds fs fb) (hw : 150 ≤ w) (hh : rx_hin rx_I0 h) (hl : rx_lat h fs fb fr) : rx_T rx_cds rx_ms rx_lk0 rt (d + 3) w 129 0 [(0, .ref 53)] [] h (rx_cmP h fs fb) := by
  refine rx_T.to 4 4 [(1, .int 0), (0, .ref 53)] [.int (nI 0), .ref 53] h rfl ?_
  refine rx_T.callm (M := rxm_129) (N := rxm_130) (j := 130) (nest := 0) (as' := [.int (nI 0)]) (rest := []) rfl rfl rfl rfl rfl rfl rfl rfl (Nat.le_of_ble_eq_true rfl) (Nat.le_of_ble_eq_true rfl) hh (show 19 + 6 ≤ w by omega) (rx_reduce (n0 := 0) hg (show 60 ≤ w - (19 + 6) by omega) (by omega) hh hl) ?_
  intro v1 h1 hp
  obtain ⟨rfl, a1, a2, fr1, a3, a4⟩ := hp
  refine rx_T.to 2 9 [(2, .int (nI 0)), (1, .int 0), (0, .ref 53)] [] h1 rfl ?_
  exact rx_cm_lp hw 22 0 0 h1 fs fb fr1 rfl (Or.inl rfl) a1 a3 hg (rx_FL.row a2).fo (fun j j1 j2 j3 => a4.2 j j1 j2 j3) (Nat.le_refl _) (fun z => absurd z (by decide))
end RXCM
