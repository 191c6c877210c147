section RXRD
variable {rt : rx_R} {d w : Nat}
set_option maxRecDepth 100000 in
set_option maxHeartbeats 4000000 in
theorem rx_down_t {a b : Int64} {h : rx_H} (hb : rx_gd b) : rx_T rx_cds rx_ms rx_lk0 rt d w 131 0 [(0, .long a), (2, .long b)] [] h (fun v h' => v = some (.long (rx_dn a b)) ∧ h' = h) := by
  refine rx_T.to 2 2 [(0, .long a), (2, .long b)] [.long b, .long a] h rfl ?_
  refine rx_T.op (M := rxm_131) (ins := .ldiv) rfl rfl rfl rfl (if_neg hb.ne) ?_
  refine rx_T.to 3 7 [(4, .long (a / b)), (0, .long a), (2, .long b)] [.long b, .long a] h rfl ?_
  refine rx_T.op (M := rxm_131) (ins := .lrem) rfl rfl rfl rfl (if_neg hb.ne) ?_
  refine rx_T.to 2 10 [(4, .long (a / b)), (0, .long a), (2, .long b)] [.int (lg_cmp (a - a / b * b) (Int64.ofNat 0))] h rfl ?_
  refine rx_T.br1 (M := rxm_131) 20 rfl rfl (by decide) (fun h1 => ?_) (fun h1 => ?_)
  · refine rx_T.to 1 22 [(4, .long (a / b)), (0, .long a), (2, .long b)] [.long (a / b)] h rfl ?_
    refine rx_T.ret (M := rxm_131) rfl rfl rfl ⟨?_, rfl⟩
    unfold rx_dn
    rw [if_neg]
    intro z
    have h2 := of_decide_eq_true h1
    unfold lg_cmp at h2
    have z2 : (a - a / b * b).toInt < (0 : Int64).toInt := Int64.lt_iff_toInt_lt.mp z
    have h5 : (Int64.ofNat 0).toInt = 0 := rfl
    have h6 : (0 : Int64).toInt = 0 := rfl
    by_cases y : a - a / b * b > Int64.ofNat 0
    · have y2 : (Int64.ofNat 0).toInt < (a - a / b * b).toInt := Int64.lt_iff_toInt_lt.mp y
      omega
    · rw [if_neg y] at h2
      by_cases y2 : a - a / b * b = Int64.ofNat 0
      · rw [y2] at z2
        omega
      · rw [if_neg y2] at h2
        exact absurd h2 (by decide)
  · refine rx_T.to 4 22 [(4, .long (a / b)), (0, .long a), (2, .long b)] [.long (a / b - 1)] h rfl ?_
    refine rx_T.ret (M := rxm_131) rfl rfl rfl ⟨?_, rfl⟩
    unfold rx_dn
    rw [if_pos]
    have h2 := of_decide_eq_false h1
    unfold lg_cmp at h2
    by_cases y : a - a / b * b > Int64.ofNat 0
    · rw [if_pos y] at h2
      exact absurd (by decide) h2
    · rw [if_neg y] at h2
      by_cases y2 : a - a / b * b = Int64.ofNat 0
      · rw [if_pos y2] at h2
        exact absurd (by decide) h2
      · have h3 : ¬ (Int64.ofNat 0).toInt < (a - a / b * b).toInt := fun q => y (Int64.lt_iff_toInt_lt.mpr q)
        have h4 : ¬ (a - a / b * b).toInt = (Int64.ofNat 0).toInt := fun q => y2 (Int64.toInt_inj.mp q)
        apply Int64.lt_iff_toInt_lt.mpr
        have h5 : (Int64.ofNat 0).toInt = 0 := rfl
        have h6 : (0 : Int64).toInt = 0 := rfl
        omega
set_option maxRecDepth 100000 in
set_option maxHeartbeats 4000000 in
theorem rx_red_in {P : Option Value → rx_H → Prop} {q : Int64} {c : Nat} (hc : c < 22) {fs : Nat → Int64} {fb : Nat → Int32} : ∀ (m k : Nat) (h : rx_H) (fr : Nat → Int64), k + m = 22 → rx_hin rx_I0 h → rx_lat h fs fb fr →
    (∀ (h' : rx_H) (fr' : Nat → Int64), rx_hin rx_I0 h' → rx_lat h' fs fb fr' → (∀ z, ¬ z = 52 → h'[z]? = h[z]?) → (∀ j, j < k → fr' j = fr j) → (k < 22 → fr' k = if q = 0 then fr k else fr k - q * fs (22 * c + k)) → rx_T rx_cds rx_ms rx_lk0 rt d w 130 95 [(2, .int (nI c)), (0, .ref 53)] [] h' P) →
    rx_T rx_cds rx_ms rx_lk0 rt d w 130 52 [(5, .int (nI k)), (3, .long q), (2, .int (nI c)), (0, .ref 53)] [] h P := by
  intro m
  induction m with
  | zero =>
    intro k h fr hk hh hl K
    have ek : k = 22 := by omega
    subst ek
    refine rx_T.to 2 56 [(5, .int (nI 22)), (3, .long q), (2, .int (nI c)), (0, .ref 53)] [.int (Int8.ofInt 22).toInt32, .int (nI 22)] h rfl ?_
    refine rx_T.op (M := rxm_130) (ins := .if_icmp .ge 39) rfl rfl rfl rfl (rx_b2_t 95 (by decide +kernel) (by decide)) ?_
    exact rx_T.lv [(2, .int (nI c)), (0, .ref 53)] (((rx_lvl.nil _).cons rfl rfl).cons rfl rfl) (K h fr hh hl (fun _ _ => rfl) (fun _ _ => rfl) (fun z => absurd z (by decide)))
  | succ m ih =>
    intro k h fr hk hh hl K
    have hk22 : k < 22 := by omega
    have ek : (nI k).toNatClampNeg = k := nI_clamp (by omega)
    refine rx_T.to 2 56 [(5, .int (nI k)), (3, .long q), (2, .int (nI c)), (0, .ref 53)] [.int (Int8.ofInt 22).toInt32, .int (nI k)] h rfl ?_
    refine rx_T.op (M := rxm_130) (ins := .if_icmp .ge 39) rfl rfl rfl rfl (rx_b2_f (decide_eq_false (show ¬ (Int8.ofInt 22).toInt32 ≤ nI k by rw [show (Int8.ofInt 22).toInt32 = nI 22 by decide +kernel]; exact nI_ge hk22 (by decide))) (by decide)) ?_
    refine rx_T.to 3 62 [(5, .int (nI k)), (3, .long q), (2, .int (nI c)), (0, .ref 53)] [.int (lg_cmp q (Int64.ofNat 0))] h rfl ?_
    refine rx_T.br1 (M := rxm_130) 95 rfl rfl (by decide) (fun h1 => ?_) (fun h1 => ?_)
    · have hq : q = 0 := (rx_cmp0 q).mp (of_decide_eq_true h1)
      exact rx_T.lv [(2, .int (nI c)), (0, .ref 53)] (((rx_lvl.nil _).cons rfl rfl).cons rfl rfl) (K h fr hh hl (fun _ _ => rfl) (fun _ _ => rfl) (fun _ => (if_pos hq).symm))
    · have hq : ¬ q = 0 := fun z => of_decide_eq_false h1 ((rx_cmp0 q).mpr z)
      refine rx_T.to 1 66 [(5, .int (nI k)), (3, .long q), (2, .int (nI c)), (0, .ref 53)] [.ref 53] h rfl ?_
      refine rx_T.gfr (M := rxm_130) (k := 37) rfl rfl rfl hh rfl rfl ?_
      refine rx_T.to 2 72 [(5, .int (nI k)), (3, .long q), (2, .int (nI c)), (0, .ref 53)] [.int (nI k), .ref 68, .int (nI k), .ref 68] h rfl ?_
      refine rx_T.lald (M := rxm_130) rfl rfl (rx_rl_i (k := 52) hl.2.2) (vp_in_nI hk22 (by decide)) ?_
      rw [ek]
      refine rx_T.to 2 75 [(5, .int (nI k)), (3, .long q), (2, .int (nI c)), (0, .ref 53)] [.ref 53, .long q, .long (fr k), .int (nI k), .ref 68] h rfl ?_
      refine rx_T.gfr (M := rxm_130) (k := 37) rfl rfl rfl hh rfl rfl ?_
      refine rx_T.to 5 85 [(5, .int (nI k)), (3, .long q), (2, .int (nI c)), (0, .ref 53)] [.int ((Int8.ofInt 22).toInt32 * nI c + nI k), .ref 66, .long q, .long (fr k), .int (nI k), .ref 68] h rfl ?_
      rw [rx_ix22 c k hc hk22]
      refine rx_T.lald (M := rxm_130) rfl rfl (rx_rl_i (k := 50) hl.1) (vp_in_nI (show 22 * c + k < 484 by omega) (by decide)) ?_
      rw [nI_clamp (show 22 * c + k < 2 ^ 31 by omega)]
      refine rx_T.to 2 88 [(5, .int (nI k)), (3, .long q), (2, .int (nI c)), (0, .ref 53)] [.long (fr k - q * fs (22 * c + k)), .int (nI k), .ref 68] h rfl ?_
      refine rx_T.last (M := rxm_130) (a := 52) rfl rfl hl.2.2 (vp_in_nI hk22 (by decide)) ?_
      rw [ek]
      refine rx_T.to 2 52 [(5, .int (nI k + Int32.ofInt 1)), (3, .long q), (2, .int (nI c)), (0, .ref 53)] [] _ rfl ?_
      rw [show nI k + Int32.ofInt 1 = nI (k + 1) from nI_1 k]
      refine ih (k + 1) _ _ (by omega) (rx_hin_row hh) hl.row (fun h' fr' a1 a2 a3 a4 _ => ?_)
      refine K h' fr' a1 a2 (fun z hz => (a3 z hz).trans (List.getElem?_set_ne (fun y => hz y.symm))) (fun j hj => ?_) (fun _ => ?_)
      · rw [a4 j (by omega)]
        exact if_neg (by omega)
      · rw [a4 k (by omega), if_neg hq]
        exact if_pos rfl
def rx_pz (n0 c : Nat) (fs : Nat → Int64) (fb : Nat → Int32) (fr0 fr : Nat → Int64) : Prop := (∀ j, j < n0 → fr j = fr0 j) ∧ (∀ j, n0 ≤ j → j < c → ¬ fb j = 0 → 0 ≤ (fr j).toInt ∧ (fr j).toInt < (fs (23 * j)).toInt.natAbs)
set_option maxRecDepth 100000 in
set_option maxHeartbeats 4000000 in
theorem rx_red_out {P : Option Value → rx_H → Prop} {n0 : Nat} {fs : Nat → Int64} {fb : Nat → Int32} {fr0 : Nat → Int64} (hg : rx_gds fs fb) (hw : 60 ≤ w) : ∀ (m c : Nat) (h : rx_H) (fr : Nat → Int64), c + m = 22 → n0 ≤ c → rx_hin rx_I0 h → rx_lat h fs fb fr → rx_pz n0 c fs fb fr0 fr →
    (∀ (h' : rx_H) (fr' : Nat → Int64), rx_hin rx_I0 h' → rx_lat h' fs fb fr' → (∀ z, ¬ z = 52 → h'[z]? = h[z]?) → rx_pz n0 22 fs fb fr0 fr' → P none h') →
    rx_T rx_cds rx_ms rx_lk0 rt (d + 1) w 130 2 [(2, .int (nI c)), (0, .ref 53)] [] h P := by
  intro m
  induction m with
  | zero =>
    intro c h fr hc hn hh hl hz K
    have ec : c = 22 := by omega
    subst ec
    refine rx_T.to 2 5 [(2, .int (nI 22)), (0, .ref 53)] [.int (Int8.ofInt 22).toInt32, .int (nI 22)] h rfl ?_
    refine rx_T.op (M := rxm_130) (ins := .if_icmp .ge 96) rfl rfl rfl rfl (rx_b2_t 101 (by decide +kernel) (by decide)) ?_
    exact rx_T.ret (M := rxm_130) (v := none) rfl rfl rfl (K h fr hh hl (fun _ _ => rfl) hz)
  | succ m ih =>
    intro c h fr hc hn hh hl hz K
    have hc22 : c < 22 := by omega
    have ec : (nI c).toNatClampNeg = c := nI_clamp (by omega)
    have next : ∀ (h' : rx_H) (fr' : Nat → Int64), rx_hin rx_I0 h' → rx_lat h' fs fb fr' → (∀ z, ¬ z = 52 → h'[z]? = h[z]?) → (∀ j, j < c → fr' j = fr j) → (¬ fb c = 0 → 0 ≤ (fr' c).toInt ∧ (fr' c).toInt < (fs (23 * c)).toInt.natAbs) → rx_T rx_cds rx_ms rx_lk0 rt (d + 1) w 130 95 [(2, .int (nI c)), (0, .ref 53)] [] h' P := by
      intro h' fr' a1 a2 a3 a4 a5
      refine rx_T.to 2 2 [(2, .int (nI c + Int32.ofInt 1)), (0, .ref 53)] [] h' rfl ?_
      rw [show nI c + Int32.ofInt 1 = nI (c + 1) from nI_1 c]
      refine ih (c + 1) h' fr' (by omega) (by omega) a1 a2 ⟨fun j hj => (a4 j (by omega)).trans (hz.1 j hj), fun j j1 j2 j3 => ?_⟩ (fun h2 fr2 b1 b2 b3 b4 => K h2 fr2 b1 b2 (fun z hz2 => (b3 z hz2).trans (a3 z hz2)) b4)
      by_cases ej : j = c
      · subst ej
        exact a5 j3
      · rw [a4 j (by omega)]
        exact hz.2 j j1 (by omega) j3
    refine rx_T.to 2 5 [(2, .int (nI c)), (0, .ref 53)] [.int (Int8.ofInt 22).toInt32, .int (nI c)] h rfl ?_
    refine rx_T.op (M := rxm_130) (ins := .if_icmp .ge 96) rfl rfl rfl rfl (rx_b2_f (decide_eq_false (show ¬ (Int8.ofInt 22).toInt32 ≤ nI c by rw [show (Int8.ofInt 22).toInt32 = nI 22 by decide +kernel]; exact nI_ge hc22 (by decide))) (by decide)) ?_
    refine rx_T.to 1 9 [(2, .int (nI c)), (0, .ref 53)] [.ref 53] h rfl ?_
    refine rx_T.gfr (M := rxm_130) (k := 37) rfl rfl rfl hh rfl rfl ?_
    refine rx_T.to 1 13 [(2, .int (nI c)), (0, .ref 53)] [.int (nI c), .ref 67] h rfl ?_
    refine rx_T.zald (M := rxm_130) rfl rfl (rx_rz_i (k := 51) hl.2.1) (vp_in_nI hc22 (by decide)) ?_
    rw [ec]
    refine rx_T.br1 (M := rxm_130) 95 rfl rfl (by decide) (fun h1 => ?_) (fun h1 => ?_)
    · exact next h fr hh hl (fun _ _ => rfl) (fun _ _ => rfl) (fun z => absurd (of_decide_eq_true h1) z)
    · have hb : ¬ fb c = 0 := of_decide_eq_false h1
      have hgc := hg c hc22 hb
      refine rx_T.to 1 18 [(2, .int (nI c)), (0, .ref 53)] [.ref 53] h rfl ?_
      refine rx_T.gfr (M := rxm_130) (k := 37) rfl rfl rfl hh rfl rfl ?_
      refine rx_T.to 1 22 [(2, .int (nI c)), (0, .ref 53)] [.int (nI c), .ref 68] h rfl ?_
      refine rx_T.lald (M := rxm_130) rfl rfl (rx_rl_i (k := 52) hl.2.2) (vp_in_nI hc22 (by decide)) ?_
      rw [ec]
      refine rx_T.to 2 25 [(2, .int (nI c)), (0, .ref 53)] [.int (lg_cmp (fr c) (Int64.ofNat 0))] h rfl ?_
      refine rx_T.br1 (M := rxm_130) 95 rfl rfl (by decide) (fun h2 => ?_) (fun h2 => ?_)
      · have e0 : fr c = 0 := (rx_cmp0 _).mp (of_decide_eq_true h2)
        refine next h fr hh hl (fun _ _ => rfl) (fun _ _ => rfl) (fun _ => ?_)
        rw [e0]
        have h5 : (0 : Int64).toInt = 0 := rfl
        rcases hgc with h6 | h6 <;> omega
      · refine rx_T.to 1 29 [(2, .int (nI c)), (0, .ref 53)] [.ref 53] h rfl ?_
        refine rx_T.gfr (M := rxm_130) (k := 37) rfl rfl rfl hh rfl rfl ?_
        refine rx_T.to 1 33 [(2, .int (nI c)), (0, .ref 53)] [.int (nI c), .ref 68] h rfl ?_
        refine rx_T.lald (M := rxm_130) rfl rfl (rx_rl_i (k := 52) hl.2.2) (vp_in_nI hc22 (by decide)) ?_
        rw [ec]
        refine rx_T.to 1 35 [(2, .int (nI c)), (0, .ref 53)] [.ref 53, .long (fr c)] h rfl ?_
        refine rx_T.gfr (M := rxm_130) (k := 37) rfl rfl rfl hh rfl rfl ?_
        refine rx_T.to 5 44 [(2, .int (nI c)), (0, .ref 53)] [.int ((Int8.ofInt 22).toInt32 * nI c + nI c), .ref 66, .long (fr c)] h rfl ?_
        rw [rx_ix22 c c hc22 hc22]
        refine rx_T.lald (M := rxm_130) rfl rfl (rx_rl_i (k := 50) hl.1) (vp_in_nI (show 22 * c + c < 484 by omega) (by decide)) ?_
        rw [nI_clamp (show 22 * c + c < 2 ^ 31 by omega), show 22 * c + c = 23 * c by omega]
        refine rx_T.call (M := rxm_130) (N := rxm_131) (j := 131) (as := [.long (fr c), .long (fs (23 * c))]) (rest := []) rfl rfl rfl rfl rfl (show 19 + 6 ≤ w by omega) (rx_down_t hgc) ?_
        intro v1 h9 hp
        obtain ⟨rfl, rfl⟩ := hp
        refine rx_T.to 3 52 [(5, .int (nI c)), (3, .long (rx_dn (fr c) (fs (23 * c)))), (2, .int (nI c)), (0, .ref 53)] [] h9 rfl ?_
        refine rx_red_in hc22 (22 - c) c h9 fr (by omega) hh hl (fun h' fr' a1 a2 a3 a4 a5 => next h' fr' a1 a2 a3 a4 (fun _ => ?_))
        have h7 := rxl_down (a := fr c) hgc
        rw [a5 hc22, show 22 * c + c = 23 * c by omega]
        by_cases hq : rx_dn (fr c) (fs (23 * c)) = 0
        · rw [if_pos hq]
          rw [hq] at h7
          simpa using h7
        · rw [if_neg hq]
          exact h7
set_option maxRecDepth 100000 in
set_option maxHeartbeats 4000000 in
theorem rx_reduce {n0 : Nat} {fs : Nat → Int64} {fb : Nat → Int32} {fr : Nat → Int64} {h : rx_H} (hg : rx_gds fs fb) (hw : 60 ≤ w) (hn : n0 ≤ 22) (hh : rx_hin rx_I0 h) (hl : rx_lat h fs fb fr) : rx_T rx_cds rx_ms rx_lk0 rt (d + 1) w 130 0 [(0, .ref 53), (1, .int (nI n0))] [] h (fun v h' => v = none ∧ rx_hin rx_I0 h' ∧ (∀ z, ¬ z = 52 → h'[z]? = h[z]?) ∧ ∃ fr', rx_lat h' fs fb fr' ∧ rx_pz n0 22 fs fb fr fr') := by
  refine rx_T.to 2 2 [(2, .int (nI n0)), (0, .ref 53), (1, .int (nI n0))] [] h rfl ?_
  refine rx_T.lv [(2, .int (nI n0)), (0, .ref 53)] (((rx_lvl.nil _).cons rfl rfl).cons rfl rfl) ?_
  exact rx_red_out (n0 := n0) (fr0 := fr) hg hw (22 - n0) n0 h fr (by omega) (Nat.le_refl _) hh hl ⟨fun _ _ => rfl, fun j j1 j2 _ => absurd j2 (by omega)⟩ (fun h' fr' a1 a2 a3 a4 => ⟨rfl, a1, a3, fr', a2, a4⟩)
end RXRD
