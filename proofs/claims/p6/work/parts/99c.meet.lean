section RXMT
variable {rt : rx_R} {d w : Nat} {P : Option Value → rx_H → Prop}
/-- all cells but the lattice's and other stay -/
def rx_FO (h h' : rx_H) : Prop := ∀ z, ¬ (z = 50 ∨ z = 51 ∨ z = 52 ∨ z = 53) → h'[z]? = h[z]?
theorem rx_FO.refl (h : rx_H) : rx_FO h h := fun _ _ => rfl
theorem rx_FO.trans {a b c : rx_H} (h1 : rx_FO a b) (h2 : rx_FO b c) : rx_FO a c := fun z hz => (h2 z hz).trans (h1 z hz)
theorem rx_FO.set {h : rx_H} {k : Nat} {c : rx_C} (hk : k = 50 ∨ k = 51 ∨ k = 52 ∨ k = 53) : rx_FO h (h.set k c) := fun z hz => List.getElem?_set_ne (by omega)
theorem rx_FL.fo {h h' : rx_H} (a : rx_FL h h') : rx_FO h h' := fun z hz => a z (fun e => hz (by omega))
theorem rx_lat.oth {h : rx_H} {fs : Nat → Int64} {fb : Nat → Int32} {fr : Nat → Int64} {c : rx_C} (hl : rx_lat h fs fb fr) : rx_lat (h.set 53 c) fs fb fr := ⟨(List.getElem?_set_ne (by decide)).trans hl.1, (List.getElem?_set_ne (by decide)).trans hl.2.1, (List.getElem?_set_ne (by decide)).trans hl.2.2⟩
theorem rx_hin_oth {h : rx_H} {fo : Nat → Int64} (hh : rx_hin rx_I0 h) : rx_hin rx_I0 (h.set 53 (.inl (1, 22, .inr (.inl fo)))) := rx_hin_set hh (k := 53) rfl ⟨_, rfl⟩
set_option maxRecDepth 100000 in
set_option maxHeartbeats 4000000 in
theorem rx_mt_in {q : Int64} {c : Nat} (hc : c < 22) {fb : Nat → Int32} : ∀ (m k : Nat) (h : rx_H) (fs fr : Nat → Int64), k + m = 22 → rx_hin rx_I0 h → rx_lat h fs fb fr →
    (∀ (h' : rx_H) (fs' fr' : Nat → Int64), rx_hin rx_I0 h' → rx_lat h' fs' fb fr' → rx_FO h h' → (∀ j, j < k → fr' j = fr j) → (k < 22 → fr' k = fs (22 * c + k) - q * fr k ∧ fs' (22 * c + k) = fr k) → (∀ i, ¬ (22 * c + k ≤ i ∧ i < 22 * c + 22) → fs' i = fs i) → rx_T rx_cds rx_ms rx_lk0 rt d w 133 0 [(0, .ref 53), (1, .int (nI c))] [] h' P) →
    rx_T rx_cds rx_ms rx_lk0 rt d w 133 35 [(4, .int (nI k)), (2, .long q), (0, .ref 53), (1, .int (nI c))] [] h P := by
  intro m
  induction m with
  | zero =>
    intro k h fs fr hk hh hl K
    have ek : k = 22 := by omega
    subst ek
    refine rx_T.to 2 39 [(4, .int (nI 22)), (2, .long q), (0, .ref 53), (1, .int (nI c))] [.int (Int8.ofInt 22).toInt32, .int (nI 22)] h rfl ?_
    refine rx_T.op (M := rxm_133) (ins := .if_icmp .ge 61) rfl rfl rfl rfl (rx_b2_t 100 (by decide +kernel) (by decide)) ?_
    refine rx_T.to 1 0 [(4, .int (nI 22)), (2, .long q), (0, .ref 53), (1, .int (nI c))] [] h rfl ?_
    exact rx_T.lv [(0, .ref 53), (1, .int (nI c))] (((rx_lvl.nil _).cons rfl rfl).cons rfl rfl) (K h fs fr hh hl (rx_FO.refl h) (fun _ _ => rfl) (fun z => absurd z (by decide)) (fun _ _ => rfl))
  | succ m ih =>
    intro k h fs fr hk hh hl K
    have hk22 : k < 22 := by omega
    have ek : (nI k).toNatClampNeg = k := nI_clamp (by omega)
    have ex : (nI (22 * c + k)).toNatClampNeg = 22 * c + k := nI_clamp (show 22 * c + k < 2 ^ 31 by omega)
    have hx : vp_in (nI (22 * c + k)) 484 := vp_in_nI (show 22 * c + k < 484 by omega) (by decide)
    refine rx_T.to 2 39 [(4, .int (nI k)), (2, .long q), (0, .ref 53), (1, .int (nI c))] [.int (Int8.ofInt 22).toInt32, .int (nI k)] h rfl ?_
    refine rx_T.op (M := rxm_133) (ins := .if_icmp .ge 61) rfl rfl rfl rfl (rx_b2_f (decide_eq_false (show ¬ (Int8.ofInt 22).toInt32 ≤ nI k by rw [show (Int8.ofInt 22).toInt32 = nI 22 by decide +kernel]; exact nI_ge hk22 (by decide))) (by decide)) ?_
    refine rx_T.to 1 43 [(4, .int (nI k)), (2, .long q), (0, .ref 53), (1, .int (nI c))] [.ref 53] h rfl ?_
    refine rx_T.gfr (M := rxm_133) (k := 37) rfl rfl rfl hh rfl rfl ?_
    refine rx_T.to 5 53 [(4, .int (nI k)), (2, .long q), (0, .ref 53), (1, .int (nI c))] [.int ((Int8.ofInt 22).toInt32 * nI c + nI k), .ref 66] h rfl ?_
    rw [rx_ix22 c k hc hk22]
    refine rx_T.lald (M := rxm_133) rfl rfl (rx_rl_i (k := 50) hl.1) hx ?_
    rw [ex]
    refine rx_T.to 2 56 [(4, .int (nI k)), (2, .long q), (0, .ref 53), (1, .int (nI c))] [.ref 53, .long q, .long (fs (22 * c + k))] h rfl ?_
    refine rx_T.gfr (M := rxm_133) (k := 37) rfl rfl rfl hh rfl rfl ?_
    refine rx_T.to 1 61 [(4, .int (nI k)), (2, .long q), (0, .ref 53), (1, .int (nI c))] [.int (nI k), .ref 68, .long q, .long (fs (22 * c + k))] h rfl ?_
    refine rx_T.lald (M := rxm_133) rfl rfl (rx_rl_i (k := 52) hl.2.2) (vp_in_nI hk22 (by decide)) ?_
    rw [ek]
    refine rx_T.to 4 67 [(5, .long (fs (22 * c + k) - q * fr k)), (4, .int (nI k)), (2, .long q), (0, .ref 53), (1, .int (nI c))] [.ref 53] h rfl ?_
    refine rx_T.gfr (M := rxm_133) (k := 37) rfl rfl rfl hh rfl rfl ?_
    refine rx_T.to 6 78 [(5, .long (fs (22 * c + k) - q * fr k)), (4, .int (nI k)), (2, .long q), (0, .ref 53), (1, .int (nI c))] [.ref 53, .int ((Int8.ofInt 22).toInt32 * nI c + nI k), .ref 66] h rfl ?_
    rw [rx_ix22 c k hc hk22]
    refine rx_T.gfr (M := rxm_133) (k := 37) rfl rfl rfl hh rfl rfl ?_
    refine rx_T.to 1 83 [(5, .long (fs (22 * c + k) - q * fr k)), (4, .int (nI k)), (2, .long q), (0, .ref 53), (1, .int (nI c))] [.int (nI k), .ref 68, .int (nI (22 * c + k)), .ref 66] h rfl ?_
    refine rx_T.lald (M := rxm_133) rfl rfl (rx_rl_i (k := 52) hl.2.2) (vp_in_nI hk22 (by decide)) ?_
    rw [ek]
    refine rx_T.last (M := rxm_133) (a := 50) rfl rfl hl.1 hx ?_
    rw [ex]
    have hh2 := rx_hin_stp (fs := vp_updL fs (22 * c + k) (fr k)) hh
    have hl2 := hl.stp (fs' := vp_updL fs (22 * c + k) (fr k))
    refine rx_T.to 1 86 [(5, .long (fs (22 * c + k) - q * fr k)), (4, .int (nI k)), (2, .long q), (0, .ref 53), (1, .int (nI c))] [.ref 53] _ rfl ?_
    refine rx_T.gfr (M := rxm_133) (k := 37) rfl rfl rfl hh2 rfl rfl ?_
    refine rx_T.to 2 93 [(5, .long (fs (22 * c + k) - q * fr k)), (4, .int (nI k)), (2, .long q), (0, .ref 53), (1, .int (nI c))] [.long (fs (22 * c + k) - q * fr k), .int (nI k), .ref 68] _ rfl ?_
    refine rx_T.last (M := rxm_133) (a := 52) rfl rfl hl2.2.2 (vp_in_nI hk22 (by decide)) ?_
    rw [ek]
    refine rx_T.to 2 35 [(4, .int (nI k + Int32.ofInt 1)), (5, .long (fs (22 * c + k) - q * fr k)), (2, .long q), (0, .ref 53), (1, .int (nI c))] [] _ rfl ?_
    rw [show nI k + Int32.ofInt 1 = nI (k + 1) from nI_1 k]
    refine rx_T.lv [(4, .int (nI (k + 1))), (2, .long q), (0, .ref 53), (1, .int (nI c))] (((((rx_lvl.nil _).cons rfl rfl).cons rfl rfl).cons rfl rfl).cons rfl rfl) ?_
    refine ih (k + 1) _ _ _ (by omega) (rx_hin_row hh2) hl2.row (fun h' fs' fr' a1 a2 a3 a4 a5 a6 => ?_)
    refine K h' fs' fr' a1 a2 (((rx_FO.set (by decide)).trans (rx_FO.set (by decide))).trans a3) (fun j hj => ?_) (fun _ => ⟨?_, ?_⟩) (fun i hi => ?_)
    · rw [a4 j (by omega)]
      exact if_neg (by omega)
    · rw [a4 k (by omega)]
      exact if_pos rfl
    · rw [a6 _ (by omega)]
      exact if_pos rfl
    · rw [a6 i (by omega)]
      exact if_neg (by omega)
set_option maxRecDepth 100000 in
set_option maxHeartbeats 4000000 in
theorem rx_mt_eu {c : Nat} (hc : c < 22) {fb : Nat → Int32} (hw : 60 ≤ w) : ∀ (n : Nat) (h : rx_H) (fs fr : Nat → Int64), rx_hin rx_I0 h → rx_lat h fs fb fr → rx_gd (fs (23 * c)) → 0 ≤ (fr c).toInt → (fr c).toInt < (n : Int) →
    (∀ (h' : rx_H) (fs' fr' : Nat → Int64), rx_hin rx_I0 h' → rx_lat h' fs' fb fr' → rx_FO h h' → rx_gd (fs' (23 * c)) → ((fr c = 0 → fs' (23 * c) = fs (23 * c)) ∧ (¬ fr c = 0 → ((fs' (23 * c)).toInt.natAbs : Int) ≤ (fr c).toInt)) → (∀ i, ¬ (22 * c ≤ i ∧ i < 22 * c + 22) → fs' i = fs i) → rx_T rx_cds rx_ms rx_lk0 rt (d + 1) w 133 103 [(0, .ref 53), (1, .int (nI c))] [] h' P) →
    rx_T rx_cds rx_ms rx_lk0 rt (d + 1) w 133 0 [(0, .ref 53), (1, .int (nI c))] [] h P := by
  intro n
  induction n with
  | zero =>
    intro h fs fr hh hl hg h0 hn K
    exact absurd hn (by omega)
  | succ n ih =>
    intro h fs fr hh hl hg h0 hn K
    have ec : (nI c).toNatClampNeg = c := nI_clamp (by omega)
    have ex : (nI (23 * c)).toNatClampNeg = 23 * c := nI_clamp (show 23 * c < 2 ^ 31 by omega)
    have hx : vp_in (nI (23 * c)) 484 := vp_in_nI (show 23 * c < 484 by omega) (by decide)
    refine rx_T.to 1 1 [(0, .ref 53), (1, .int (nI c))] [.ref 53] h rfl ?_
    refine rx_T.gfr (M := rxm_133) (k := 37) rfl rfl rfl hh rfl rfl ?_
    refine rx_T.to 1 5 [(0, .ref 53), (1, .int (nI c))] [.int (nI c), .ref 68] h rfl ?_
    refine rx_T.lald (M := rxm_133) rfl rfl (rx_rl_i (k := 52) hl.2.2) (vp_in_nI hc (by decide)) ?_
    rw [ec]
    refine rx_T.to 2 8 [(0, .ref 53), (1, .int (nI c))] [.int (lg_cmp (fr c) (Int64.ofNat 0))] h rfl ?_
    refine rx_T.br1 (M := rxm_133) 103 rfl rfl (by decide) (fun h1 => ?_) (fun h1 => ?_)
    · have e0 : fr c = 0 := (rx_cmp0 _).mp (of_decide_eq_true h1)
      exact K h fs fr hh hl (rx_FO.refl h) hg ⟨fun _ => rfl, fun z => absurd e0 z⟩ (fun _ _ => rfl)
    · have e0 : ¬ fr c = 0 := fun z => of_decide_eq_false h1 ((rx_cmp0 _).mpr z)
      have e1 : 0 < (fr c).toInt := by
        have : ¬ (fr c).toInt = 0 := fun z => e0 (Int64.toInt_inj.mp z)
        omega
      have hgr : rx_gd (fr c) := Or.inl e1
      refine rx_T.to 1 12 [(0, .ref 53), (1, .int (nI c))] [.ref 53] h rfl ?_
      refine rx_T.gfr (M := rxm_133) (k := 37) rfl rfl rfl hh rfl rfl ?_
      refine rx_T.to 5 21 [(0, .ref 53), (1, .int (nI c))] [.int ((Int8.ofInt 22).toInt32 * nI c + nI c), .ref 66] h rfl ?_
      rw [rx_ix22 c c hc hc, show 22 * c + c = 23 * c by omega]
      refine rx_T.lald (M := rxm_133) rfl rfl (rx_rl_i (k := 50) hl.1) hx ?_
      rw [ex]
      refine rx_T.to 1 23 [(0, .ref 53), (1, .int (nI c))] [.ref 53, .long (fs (23 * c))] h rfl ?_
      refine rx_T.gfr (M := rxm_133) (k := 37) rfl rfl rfl hh rfl rfl ?_
      refine rx_T.to 1 27 [(0, .ref 53), (1, .int (nI c))] [.int (nI c), .ref 68, .long (fs (23 * c))] h rfl ?_
      refine rx_T.lald (M := rxm_133) rfl rfl (rx_rl_i (k := 52) hl.2.2) (vp_in_nI hc (by decide)) ?_
      rw [ec]
      refine rx_T.call (M := rxm_133) (N := rxm_131) (j := 131) (as := [.long (fs (23 * c)), .long (fr c)]) (rest := []) rfl rfl rfl rfl rfl (show 19 + 6 ≤ w by omega) (rx_down_t hgr) ?_
      intro v1 h9 hp
      obtain ⟨rfl, rfl⟩ := hp
      refine rx_T.to 3 35 [(4, .int (nI c)), (2, .long (rx_dn (fs (23 * c)) (fr c))), (0, .ref 53), (1, .int (nI c))] [] h9 rfl ?_
      refine rx_mt_in hc (22 - c) c h9 fs fr (by omega) hh hl (fun h' fs' fr' a1 a2 a3 a4 a5 a6 => ?_)
      obtain ⟨b1, b2⟩ := a5 hc
      rw [show 22 * c + c = 23 * c by omega] at b1 b2
      have hd := rxl_down (a := fs (23 * c)) hgr
      rw [← b1] at hd
      refine ih h' fs' fr' a1 a2 (by rw [b2]; exact hgr) hd.1 (by omega) (fun h2 fs2 fr2 c1 c2 c3 c4 c5 c6 => K h2 fs2 fr2 c1 c2 (a3.trans c3) c4 ⟨fun z => absurd z e0, fun _ => ?_⟩ (fun i hi => (c6 i hi).trans (a6 i (by omega))))
      by_cases z : fr' c = 0
      · rw [c5.1 z, b2]
        omega
      · have := c5.2 z
        omega
set_option maxRecDepth 100000 in
set_option maxHeartbeats 4000000 in
theorem rx_mt_ng {c : Nat} (hc : c < 22) {fb : Nat → Int32} {fr : Nat → Int64} : ∀ (m k : Nat) (h : rx_H) (fs : Nat → Int64), k + m = 22 → rx_hin rx_I0 h → rx_lat h fs fb fr →
    (∀ (h' : rx_H) (fs' : Nat → Int64), rx_hin rx_I0 h' → rx_lat h' fs' fb fr → rx_FO h h' → (k < 22 → fs' (22 * c + k) = - fs (22 * c + k)) → (∀ i, ¬ (22 * c + k ≤ i ∧ i < 22 * c + 22) → fs' i = fs i) → rx_T rx_cds rx_ms rx_lk0 rt d w 133 156 [(0, .ref 53), (1, .int (nI c))] [] h' P) →
    rx_T rx_cds rx_ms rx_lk0 rt d w 133 121 [(2, .int (nI k)), (0, .ref 53), (1, .int (nI c))] [] h P := by
  intro m
  induction m with
  | zero =>
    intro k h fs hk hh hl K
    have ek : k = 22 := by omega
    subst ek
    refine rx_T.to 2 124 [(2, .int (nI 22)), (0, .ref 53), (1, .int (nI c))] [.int (Int8.ofInt 22).toInt32, .int (nI 22)] h rfl ?_
    refine rx_T.op (M := rxm_133) (ins := .if_icmp .ge 32) rfl rfl rfl rfl (rx_b2_t 156 (by decide +kernel) (by decide)) ?_
    exact rx_T.lv [(0, .ref 53), (1, .int (nI c))] (((rx_lvl.nil _).cons rfl rfl).cons rfl rfl) (K h fs hh hl (rx_FO.refl h) (fun z => absurd z (by decide)) (fun _ _ => rfl))
  | succ m ih =>
    intro k h fs hk hh hl K
    have hk22 : k < 22 := by omega
    have ex : (nI (22 * c + k)).toNatClampNeg = 22 * c + k := nI_clamp (show 22 * c + k < 2 ^ 31 by omega)
    have hx : vp_in (nI (22 * c + k)) 484 := vp_in_nI (show 22 * c + k < 484 by omega) (by decide)
    refine rx_T.to 2 124 [(2, .int (nI k)), (0, .ref 53), (1, .int (nI c))] [.int (Int8.ofInt 22).toInt32, .int (nI k)] h rfl ?_
    refine rx_T.op (M := rxm_133) (ins := .if_icmp .ge 32) rfl rfl rfl rfl (rx_b2_f (decide_eq_false (show ¬ (Int8.ofInt 22).toInt32 ≤ nI k by rw [show (Int8.ofInt 22).toInt32 = nI 22 by decide +kernel]; exact nI_ge hk22 (by decide))) (by decide)) ?_
    refine rx_T.to 1 128 [(2, .int (nI k)), (0, .ref 53), (1, .int (nI c))] [.ref 53] h rfl ?_
    refine rx_T.gfr (M := rxm_133) (k := 37) rfl rfl rfl hh rfl rfl ?_
    refine rx_T.to 6 138 [(2, .int (nI k)), (0, .ref 53), (1, .int (nI c))] [.ref 53, .int ((Int8.ofInt 22).toInt32 * nI c + nI k), .ref 66] h rfl ?_
    refine rx_T.gfr (M := rxm_133) (k := 37) rfl rfl rfl hh rfl rfl ?_
    refine rx_T.to 5 147 [(2, .int (nI k)), (0, .ref 53), (1, .int (nI c))] [.int ((Int8.ofInt 22).toInt32 * nI c + nI k), .ref 66, .int ((Int8.ofInt 22).toInt32 * nI c + nI k), .ref 66] h rfl ?_
    rw [rx_ix22 c k hc hk22]
    refine rx_T.lald (M := rxm_133) rfl rfl (rx_rl_i (k := 50) hl.1) hx ?_
    rw [ex]
    refine rx_T.to 1 149 [(2, .int (nI k)), (0, .ref 53), (1, .int (nI c))] [.long (- fs (22 * c + k)), .int (nI (22 * c + k)), .ref 66] h rfl ?_
    refine rx_T.last (M := rxm_133) (a := 50) rfl rfl hl.1 hx ?_
    rw [ex]
    refine rx_T.to 2 121 [(2, .int (nI k + Int32.ofInt 1)), (0, .ref 53), (1, .int (nI c))] [] _ rfl ?_
    rw [show nI k + Int32.ofInt 1 = nI (k + 1) from nI_1 k]
    refine ih (k + 1) _ _ (by omega) (rx_hin_stp hh) hl.stp (fun h' fs' a1 a2 a3 _ a5 => ?_)
    refine K h' fs' a1 a2 ((rx_FO.set (by decide)).trans a3) (fun _ => ?_) (fun i hi => ?_)
    · rw [a5 _ (by omega)]
      exact if_pos rfl
    · rw [a5 i (by omega)]
      exact if_neg (by omega)
set_option maxRecDepth 100000 in
set_option maxHeartbeats 4000000 in
theorem rx_mt_ro {c : Nat} (hc : c < 22) {fs : Nat → Int64} {fb : Nat → Int32} : ∀ (m k : Nat) (h : rx_H) (fr : Nat → Int64), k + m = 22 → rx_hin rx_I0 h → rx_lat h fs fb fr →
    (∀ (h' : rx_H) (fr' : Nat → Int64), rx_hin rx_I0 h' → rx_lat h' fs fb fr' → rx_FO h h' → (∀ j, j < k → fr' j = fr j) → (k ≤ c → fr' c = fs (23 * c)) → rx_T rx_cds rx_ms rx_lk0 rt d w 133 208 [(0, .ref 53), (1, .int (nI c))] [] h' P) →
    rx_T rx_cds rx_ms rx_lk0 rt d w 133 158 [(2, .int (nI k)), (0, .ref 53), (1, .int (nI c))] [] h P := by
  intro m
  induction m with
  | zero =>
    intro k h fr hk hh hl K
    have ek : k = 22 := by omega
    subst ek
    refine rx_T.to 2 161 [(2, .int (nI 22)), (0, .ref 53), (1, .int (nI c))] [.int (Int8.ofInt 22).toInt32, .int (nI 22)] h rfl ?_
    refine rx_T.op (M := rxm_133) (ins := .if_icmp .ge 47) rfl rfl rfl rfl (rx_b2_t 208 (by decide +kernel) (by decide)) ?_
    exact rx_T.lv [(0, .ref 53), (1, .int (nI c))] (((rx_lvl.nil _).cons rfl rfl).cons rfl rfl) (K h fr hh hl (rx_FO.refl h) (fun _ _ => rfl) (fun z => absurd z (by omega)))
  | succ m ih =>
    intro k h fr hk hh hl K
    have hk22 : k < 22 := by omega
    have ek : (nI k).toNatClampNeg = k := nI_clamp (by omega)
    have ex : (nI (22 * c + k)).toNatClampNeg = 22 * c + k := nI_clamp (show 22 * c + k < 2 ^ 31 by omega)
    have hx : vp_in (nI (22 * c + k)) 484 := vp_in_nI (show 22 * c + k < 484 by omega) (by decide)
    obtain ⟨cc, o1, fo, rfl⟩ := rx_hin_get hh (k := 53) rfl
    refine rx_T.to 2 161 [(2, .int (nI k)), (0, .ref 53), (1, .int (nI c))] [.int (Int8.ofInt 22).toInt32, .int (nI k)] h rfl ?_
    refine rx_T.op (M := rxm_133) (ins := .if_icmp .ge 47) rfl rfl rfl rfl (rx_b2_f (decide_eq_false (show ¬ (Int8.ofInt 22).toInt32 ≤ nI k by rw [show (Int8.ofInt 22).toInt32 = nI 22 by decide +kernel]; exact nI_ge hk22 (by decide))) (by decide)) ?_
    refine rx_T.to 1 165 [(2, .int (nI k)), (0, .ref 53), (1, .int (nI c))] [.ref 53] h rfl ?_
    refine rx_T.gfr (M := rxm_133) (k := 37) rfl rfl rfl hh rfl rfl ?_
    refine rx_T.to 2 170 [(2, .int (nI k)), (0, .ref 53), (1, .int (nI c))] [.ref 53, .int (nI k), .ref 69] h rfl ?_
    refine rx_T.gfr (M := rxm_133) (k := 37) rfl rfl rfl hh rfl rfl ?_
    refine rx_T.to 1 174 [(2, .int (nI k)), (0, .ref 53), (1, .int (nI c))] [.int (nI k), .ref 68, .int (nI k), .ref 69] h rfl ?_
    refine rx_T.lald (M := rxm_133) rfl rfl (rx_rl_i (k := 52) hl.2.2) (vp_in_nI hk22 (by decide)) ?_
    rw [ek]
    refine rx_T.last (M := rxm_133) (a := 53) rfl rfl o1 (vp_in_nI hk22 (by decide)) ?_
    rw [ek]
    have hh2 := rx_hin_oth (fo := vp_updL fo k (fr k)) hh
    have hl2 := hl.oth (c := .inl (1, 22, .inr (.inl (vp_updL fo k (fr k)))))
    have hF : rx_FO h (h.set 53 (.inl (1, 22, .inr (.inl (vp_updL fo k (fr k)))))) := rx_FO.set (by decide)
    generalize h.set 53 (.inl (1, 22, .inr (.inl (vp_updL fo k (fr k))))) = h2 at hh2 hl2 hF ⊢
    have fin : ∀ x : Int64, (k = c → x = fs (23 * c)) → rx_T rx_cds rx_ms rx_lk0 rt d w 133 201 [(2, .int (nI k)), (0, .ref 53), (1, .int (nI c))] [.long x, .int (nI k), .ref 68] h2 P := by
      intro x hx2
      refine rx_T.last (M := rxm_133) (a := 52) rfl rfl hl2.2.2 (vp_in_nI hk22 (by decide)) ?_
      rw [ek]
      refine rx_T.to 2 158 [(2, .int (nI k + Int32.ofInt 1)), (0, .ref 53), (1, .int (nI c))] [] _ rfl ?_
      rw [show nI k + Int32.ofInt 1 = nI (k + 1) from nI_1 k]
      refine ih (k + 1) _ _ (by omega) (rx_hin_row hh2) hl2.row (fun h' fr' a1 a2 a3 a4 a5 => ?_)
      refine K h' fr' a1 a2 ((hF.trans (rx_FO.set (by decide))).trans a3) (fun j hj => ?_) (fun hkc => ?_)
      · rw [a4 j (by omega)]
        exact if_neg (by omega)
      · by_cases e : k = c
        · rw [← e, a4 k (by omega)]
          rw [e] at hx2 ⊢
          rw [← hx2 rfl]
          exact if_pos rfl
        · exact a5 (by omega)
    refine rx_T.to 1 177 [(2, .int (nI k)), (0, .ref 53), (1, .int (nI c))] [.ref 53] h2 rfl ?_
    refine rx_T.gfr (M := rxm_133) (k := 37) rfl rfl rfl hh2 rfl rfl ?_
    refine rx_T.to 3 183 [(2, .int (nI k)), (0, .ref 53), (1, .int (nI c))] [.int (nI c), .int (nI k), .int (nI k), .ref 68] h2 rfl ?_
    refine rx_T.br2 (M := rxm_133) 190 rfl rfl (by decide) (fun _ => ?_) (fun h1 => ?_)
    · refine rx_T.to 1 191 [(2, .int (nI k)), (0, .ref 53), (1, .int (nI c))] [.ref 53, .int (nI k), .ref 68] h2 rfl ?_
      refine rx_T.gfr (M := rxm_133) (k := 37) rfl rfl rfl hh2 rfl rfl ?_
      refine rx_T.to 5 200 [(2, .int (nI k)), (0, .ref 53), (1, .int (nI c))] [.int ((Int8.ofInt 22).toInt32 * nI c + nI k), .ref 66, .int (nI k), .ref 68] h2 rfl ?_
      rw [rx_ix22 c k hc hk22]
      refine rx_T.lald (M := rxm_133) rfl rfl (rx_rl_i (k := 50) hl2.1) hx ?_
      rw [ex]
      exact fin _ (fun e => by rw [e, show 22 * c + c = 23 * c by omega])
    · refine rx_T.to 2 201 [(2, .int (nI k)), (0, .ref 53), (1, .int (nI c))] [.long 0, .int (nI k), .ref 68] h2 rfl ?_
      refine fin 0 (fun e => ?_)
      subst e
      exact absurd (nI_le (Nat.le_refl k) (by omega)) (of_decide_eq_false h1)
set_option maxRecDepth 100000 in
set_option maxHeartbeats 4000000 in
theorem rx_mt_bk {c : Nat} (hc : c < 22) {fb : Nat → Int32} : ∀ (m k : Nat) (h : rx_H) (fs fr : Nat → Int64), k + m = 22 → rx_hin rx_I0 h → rx_lat h fs fb fr →
    (∀ (h' : rx_H) (fs' fr' : Nat → Int64), rx_hin rx_I0 h' → rx_lat h' fs' fb fr' → rx_FO h h' → (k ≤ c → fs' (23 * c) = fr c) → (∀ i, ¬ (22 * c + k ≤ i ∧ i < 22 * c + 22) → fs' i = fs i) → P none h') →
    rx_T rx_cds rx_ms rx_lk0 rt d w 133 217 [(2, .int (nI k)), (0, .ref 53), (1, .int (nI c))] [] h P := by
  intro m
  induction m with
  | zero =>
    intro k h fs fr hk hh hl K
    have ek : k = 22 := by omega
    subst ek
    refine rx_T.to 2 220 [(2, .int (nI 22)), (0, .ref 53), (1, .int (nI c))] [.int (Int8.ofInt 22).toInt32, .int (nI 22)] h rfl ?_
    refine rx_T.op (M := rxm_133) (ins := .if_icmp .ge 38) rfl rfl rfl rfl (rx_b2_t 258 (by decide +kernel) (by decide)) ?_
    exact rx_T.ret (M := rxm_133) (v := none) rfl rfl rfl (K h fs fr hh hl (rx_FO.refl h) (fun z => absurd z (by omega)) (fun _ _ => rfl))
  | succ m ih =>
    intro k h fs fr hk hh hl K
    have hk22 : k < 22 := by omega
    have ek : (nI k).toNatClampNeg = k := nI_clamp (by omega)
    have ex : (nI (22 * c + k)).toNatClampNeg = 22 * c + k := nI_clamp (show 22 * c + k < 2 ^ 31 by omega)
    have hx : vp_in (nI (22 * c + k)) 484 := vp_in_nI (show 22 * c + k < 484 by omega) (by decide)
    refine rx_T.to 2 220 [(2, .int (nI k)), (0, .ref 53), (1, .int (nI c))] [.int (Int8.ofInt 22).toInt32, .int (nI k)] h rfl ?_
    refine rx_T.op (M := rxm_133) (ins := .if_icmp .ge 38) rfl rfl rfl rfl (rx_b2_f (decide_eq_false (show ¬ (Int8.ofInt 22).toInt32 ≤ nI k by rw [show (Int8.ofInt 22).toInt32 = nI 22 by decide +kernel]; exact nI_ge hk22 (by decide))) (by decide)) ?_
    refine rx_T.to 1 224 [(2, .int (nI k)), (0, .ref 53), (1, .int (nI c))] [.ref 53] h rfl ?_
    refine rx_T.gfr (M := rxm_133) (k := 37) rfl rfl rfl hh rfl rfl ?_
    refine rx_T.to 6 234 [(2, .int (nI k)), (0, .ref 53), (1, .int (nI c))] [.ref 53, .int ((Int8.ofInt 22).toInt32 * nI c + nI k), .ref 66] h rfl ?_
    refine rx_T.gfr (M := rxm_133) (k := 37) rfl rfl rfl hh rfl rfl ?_
    refine rx_T.to 1 238 [(2, .int (nI k)), (0, .ref 53), (1, .int (nI c))] [.int (nI k), .ref 68, .int ((Int8.ofInt 22).toInt32 * nI c + nI k), .ref 66] h rfl ?_
    rw [rx_ix22 c k hc hk22]
    refine rx_T.lald (M := rxm_133) rfl rfl (rx_rl_i (k := 52) hl.2.2) (vp_in_nI hk22 (by decide)) ?_
    rw [ek]
    refine rx_T.last (M := rxm_133) (a := 50) rfl rfl hl.1 hx ?_
    rw [ex]
    have hh2 := rx_hin_stp (fs := vp_updL fs (22 * c + k) (fr k)) hh
    have hl2 := hl.stp (fs' := vp_updL fs (22 * c + k) (fr k))
    have hF : rx_FO h (h.set 50 (.inl (1, 484, .inr (.inl (vp_updL fs (22 * c + k) (fr k)))))) := rx_FO.set (by decide)
    generalize h.set 50 (.inl (1, 484, .inr (.inl (vp_updL fs (22 * c + k) (fr k))))) = h2 at hh2 hl2 hF ⊢
    obtain ⟨cc, o1, fo, rfl⟩ := rx_hin_get hh2 (k := 53) rfl
    refine rx_T.to 1 241 [(2, .int (nI k)), (0, .ref 53), (1, .int (nI c))] [.ref 53] h2 rfl ?_
    refine rx_T.gfr (M := rxm_133) (k := 37) rfl rfl rfl hh2 rfl rfl ?_
    refine rx_T.to 2 246 [(2, .int (nI k)), (0, .ref 53), (1, .int (nI c))] [.ref 53, .int (nI k), .ref 68] h2 rfl ?_
    refine rx_T.gfr (M := rxm_133) (k := 37) rfl rfl rfl hh2 rfl rfl ?_
    refine rx_T.to 1 250 [(2, .int (nI k)), (0, .ref 53), (1, .int (nI c))] [.int (nI k), .ref 69, .int (nI k), .ref 68] h2 rfl ?_
    refine rx_T.lald (M := rxm_133) rfl rfl (rx_rl_i (k := 53) o1) (vp_in_nI hk22 (by decide)) ?_
    rw [ek]
    refine rx_T.last (M := rxm_133) (a := 52) rfl rfl hl2.2.2 (vp_in_nI hk22 (by decide)) ?_
    rw [ek]
    refine rx_T.to 2 217 [(2, .int (nI k + Int32.ofInt 1)), (0, .ref 53), (1, .int (nI c))] [] _ rfl ?_
    rw [show nI k + Int32.ofInt 1 = nI (k + 1) from nI_1 k]
    refine ih (k + 1) _ _ _ (by omega) (rx_hin_row hh2) hl2.row (fun h' fs' fr' a1 a2 a3 a4 a5 => ?_)
    refine K h' fs' fr' a1 a2 ((hF.trans (rx_FO.set (by decide))).trans a3) (fun hkc => ?_) (fun i hi => ?_)
    · by_cases e : k = c
      · rw [a5 (23 * c) (by omega), ← e]
        exact if_pos (by omega)
      · rw [a4 (by omega)]
        exact if_neg (by omega)
    · rw [a5 i (by omega)]
      exact if_neg (by omega)
set_option maxRecDepth 100000 in
set_option maxHeartbeats 4000000 in
theorem rx_meet {c : Nat} (hc : c < 22) {fs : Nat → Int64} {fb : Nat → Int32} {fr : Nat → Int64} {h : rx_H} (hg : rx_gds fs fb) (hb : ¬ fb c = 0) (hw : 100 ≤ w) (hh : rx_hin rx_I0 h) (hl : rx_lat h fs fb fr) (h0 : 0 ≤ (fr c).toInt) : rx_T rx_cds rx_ms rx_lk0 rt (d + 2) w 133 0 [(0, .ref 53), (1, .int (nI c))] [] h (fun v h' => v = none ∧ rx_hin rx_I0 h' ∧ rx_FO h h' ∧ ∃ fs' fr', rx_lat h' fs' fb fr' ∧ rx_gds fs' fb ∧ (¬ fr c = 0 → ((fs' (23 * c)).toInt.natAbs : Int) ≤ (fr c).toInt) ∧ (∀ i, ¬ (22 * c ≤ i ∧ i < 22 * c + 22) → fs' i = fs i)) := by
  have ec : (nI c).toNatClampNeg = c := nI_clamp (by omega)
  have ex : (nI (23 * c)).toNatClampNeg = 23 * c := nI_clamp (show 23 * c < 2 ^ 31 by omega)
  have hx : vp_in (nI (23 * c)) 484 := vp_in_nI (show 23 * c < 484 by omega) (by decide)
  refine rx_mt_eu hc (by omega) ((fr c).toInt.toNat + 1) h fs fr hh hl (hg c hc hb) h0 (by omega) (fun h1 fs1 fr1 a1 a2 a3 a4 a5 a6 => ?_)
  have gds : ∀ fs' : Nat → Int64, rx_gd (fs' (23 * c)) → (∀ i, ¬ (22 * c ≤ i ∧ i < 22 * c + 22) → fs' i = fs i) → rx_gds fs' fb := by
    intro fs' g1 g2 c' hc' hb'
    by_cases e : c' = c
    · subst e
      exact g1
    · rw [g2 (23 * c') (by omega)]
      exact hg c' hc' hb'
  have rest : ∀ (h2 : rx_H) (fs2 : Nat → Int64), rx_hin rx_I0 h2 → rx_lat h2 fs2 fb fr1 → rx_FO h h2 → rx_gd (fs2 (23 * c)) → (fs2 (23 * c)).toInt.natAbs = (fs1 (23 * c)).toInt.natAbs → (∀ i, ¬ (22 * c ≤ i ∧ i < 22 * c + 22) → fs2 i = fs i) → rx_T rx_cds rx_ms rx_lk0 rt (d + 2) w 133 156 [(0, .ref 53), (1, .int (nI c))] [] h2 (fun v h' => v = none ∧ rx_hin rx_I0 h' ∧ rx_FO h h' ∧ ∃ fs' fr', rx_lat h' fs' fb fr' ∧ rx_gds fs' fb ∧ (¬ fr c = 0 → ((fs' (23 * c)).toInt.natAbs : Int) ≤ (fr c).toInt) ∧ (∀ i, ¬ (22 * c ≤ i ∧ i < 22 * c + 22) → fs' i = fs i)) := by
    intro h2 fs2 b1 b2 b3 b4 b5 b6
    refine rx_T.to 2 158 [(2, .int (nI 0)), (0, .ref 53), (1, .int (nI c))] [] h2 rfl ?_
    refine rx_mt_ro hc 22 0 h2 fr1 rfl b1 b2 (fun h3 fr3 d1 d2 d3 _ d5 => ?_)
    refine rx_T.to 4 212 [(0, .ref 53), (1, .int (nI c))] [.int (nI c + Int32.ofInt 1), .ref 53] h3 rfl ?_
    rw [show nI c + Int32.ofInt 1 = nI (c + 1) from nI_1 c]
    refine rx_T.callm (M := rxm_133) (N := rxm_130) (j := 130) (nest := 0) (as' := [.int (nI (c + 1))]) (rest := []) rfl rfl rfl rfl rfl rfl rfl rfl (Nat.le_of_ble_eq_true rfl) (Nat.le_of_ble_eq_true rfl) d1 (show 19 + 6 ≤ w by omega) (rx_reduce (n0 := c + 1) (gds fs2 b4 b6) (show 60 ≤ w - (19 + 6) by omega) (by omega) d1 d2) ?_
    intro v1 h4 hp
    obtain ⟨rfl, e1, e2, fr4, e3, e4⟩ := hp
    refine rx_T.to 2 217 [(2, .int (nI 0)), (0, .ref 53), (1, .int (nI c))] [] h4 rfl ?_
    refine rx_mt_bk hc 22 0 h4 fs2 fr4 rfl e1 e3 (fun h5 fs5 fr5 g1 g2 g3 g4 g5 => ?_)
    have k1 : fs5 (23 * c) = fs2 (23 * c) := by rw [g4 (by omega), e4.1 c (by omega), d5 (by omega)]
    have k2 : ∀ i, ¬ (22 * c ≤ i ∧ i < 22 * c + 22) → fs5 i = fs i := fun i hi => (g5 i (by omega)).trans (b6 i hi)
    refine ⟨rfl, g1, ((b3.trans d3).trans (rx_FL.row e2).fo).trans g3, fs5, fr5, g2, gds fs5 (by rw [k1]; exact b4) k2, fun z => ?_, k2⟩
    rw [k1, b5]
    exact a5.2 z
  refine rx_T.to 1 104 [(0, .ref 53), (1, .int (nI c))] [.ref 53] h1 rfl ?_
  refine rx_T.gfr (M := rxm_133) (k := 37) rfl rfl rfl a1 rfl rfl ?_
  refine rx_T.to 5 113 [(0, .ref 53), (1, .int (nI c))] [.int ((Int8.ofInt 22).toInt32 * nI c + nI c), .ref 66] h1 rfl ?_
  rw [rx_ix22 c c hc hc, show 22 * c + c = 23 * c by omega]
  refine rx_T.lald (M := rxm_133) rfl rfl (rx_rl_i (k := 50) a2.1) hx ?_
  rw [ex]
  refine rx_T.to 2 116 [(0, .ref 53), (1, .int (nI c))] [.int (lg_cmp (fs1 (23 * c)) (Int64.ofNat 0))] h1 rfl ?_
  refine rx_T.br1 (M := rxm_133) 156 rfl rfl (by decide) (fun z1 => ?_) (fun z1 => ?_)
  · exact rest h1 fs1 a1 a2 a3 a4 rfl a6
  · have hneg : (fs1 (23 * c)).toInt < 0 := Decidable.not_not.mp (fun z => of_decide_eq_false z1 ((rx_cmpge _).mpr z))
    have hmin : (fs1 (23 * c)).toInt = -9223372036854775808 := a4.resolve_left (fun z => by omega)
    refine rx_T.to 2 121 [(2, .int (nI c)), (0, .ref 53), (1, .int (nI c))] [] h1 rfl ?_
    refine rx_mt_ng hc (22 - c) c h1 fs1 (by omega) a1 a2 (fun h2 fs2 b1 b2 b3 b4 b5 => ?_)
    have e1 := b4 hc
    rw [show 22 * c + c = 23 * c by omega] at e1
    have e2 : (fs2 (23 * c)).toInt = -9223372036854775808 := by
      rw [e1, Int64.toInt_neg, hmin]
      decide
    exact rest h2 fs2 b1 b2 (a3.trans b3) (Or.inr e2) (by rw [e2, hmin]) (fun i hi => (b5 i (by omega)).trans (a6 i hi))
end RXMT
