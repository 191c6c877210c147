section RXTD
variable {rt : rx_R} {d w : Nat} {P : Option Value → rx_H → Prop}
theorem rx_kd24 {K D : Nat} (hK : K ≤ 6) (hD : D < 16777216) : (nI K <<< ((Int8.ofInt 24).toInt32 &&& 31)) ||| nI D = nI (K * 16777216 + D) := by
  have e : nI K <<< ((Int8.ofInt 24).toInt32 &&& 31) = nI (K * 2 ^ 24) := by
    match K, hK with
    | 0, _ => decide +kernel
    | 1, _ => decide +kernel
    | 2, _ => decide +kernel
    | 3, _ => decide +kernel
    | 4, _ => decide +kernel
    | 5, _ => decide +kernel
    | 6, _ => decide +kernel
  rw [e]
  exact rx_or_add (s := 24) hD (by omega)
/-- what is compared of the class stays, but for THE DRAFT -/
def rx_KX (h h' : rx_H) : Prop := (∀ z, 37 ≤ z ∨ z = 1 ∨ z = 2 ∨ z = 3 → h'[z]? = h[z]?) ∧ rx_gF h' 0 3 = rx_gF h 0 3
def rx_DXs (h h' : rx_H) : Prop := rx_gF h' 0 6 = rx_gF h 0 6 ∧ rx_gF h' 0 7 = rx_gF h 0 7
def rx_DX0 (h' : rx_H) : Prop := rx_gF h' 0 6 = 0 ∧ rx_gF h' 0 7 = 0
/-- the class's own state: HYPOTHESES f, THE DRAFT p of c places -/
def rx_CX (h : rx_H) (f c : Nat) (p : Nat → Nat) : Prop := rx_hin rx_I0 h ∧ f ≤ 30 ∧ c ≤ 8 ∧ (∀ i, i < c → p i < 7) ∧ rx_gF h 0 3 = nI f ∧ rx_gF h 0 6 = nI (rx_pk p c) ∧ rx_gF h 0 7 = nI c
theorem rx_pk_24 {p : Nat → Nat} {c : Nat} (hc8 : c ≤ 8) (hp : ∀ i, i < c → p i < 7) : rx_pk p c < 16777216 := by
  have h1 := rx_pk_lt c (fun i hi => Nat.lt_trans (hp i hi) (by decide))
  have h3 : 8 ^ c ≤ 8 ^ 8 := Nat.pow_le_pow_right (by decide) hc8
  omega
theorem rx_rt1 {rt : rx_R} (ht : rx_tok rx_Em rt) : rt 1 = some (7, fun j => rx_s1v.getD j 0) := ht.1 1 _ rfl
theorem rx_s1_po : ∀ K : Nat, K < 7 → rx_s1v.getD K 0 = nI (rx_po K) := by decide +kernel
theorem rx_nI_inj {a b : Nat} (ha : a < 2147483648) (hb : b < 2147483648) (e : nI a = nI b) : a = b := by
  have h2 := congrArg Int32.toInt e
  rw [nI_toInt (by omega), nI_toInt (by omega)] at h2
  omega
set_option maxRecDepth 100000 in
set_option maxHeartbeats 4000000 in
theorem rx_take2 {h : rx_H} {k : Int32} {f c : Nat} {p : Nat → Nat} (ht : rx_tok rx_Em rt) (hw : 50 ≤ w) (H : rx_CX h f c p) : rx_T rx_cds rx_ms rx_lk0 rt (d + 2) w 13 0 [(0, .ref 16), (1, .int k)] [] h (fun v h' => rx_hin rx_I0 h' ∧ rx_KX h h' ∧ rx_DX0 h' ∧ ((∃ K, K ≤ 6 ∧ k = nI K ∧ rx_OK K c p ∧ v = some (.int (nI (K * 16777216 + rx_pk p c)))) ∨ ((∀ K, K ≤ 6 → k = nI K → ¬ rx_OK K c p) ∧ v = some (.int (-1))))) := by
  have hrt := rx_rt1 ht
  have hh := H.1
  have hc8 := H.2.2.1
  have hp := H.2.2.2.1
  have hD := rx_pk_24 hc8 hp
  refine rx_T.to 1 1 [(0, .ref 16), (1, .int k)] [.ref 16] h rfl ?_
  refine rx_T.gfF (M := rxm_13) (k := 0) rfl rfl rfl hh rfl rfl ?_
  rw [H.2.2.2.2.2.1]
  refine rx_T.to 2 6 [(2, .int (nI (rx_pk p c))), (0, .ref 16), (1, .int k)] [.ref 16] h rfl ?_
  refine rx_T.gfF (M := rxm_13) (k := 0) rfl rfl rfl hh rfl rfl ?_
  rw [H.2.2.2.2.2.2]
  refine rx_T.to 3 12 [(3, .int (nI c)), (2, .int (nI (rx_pk p c))), (0, .ref 16), (1, .int k)] [.int 0, .ref 16] h rfl ?_
  refine rx_T.pfF (M := rxm_13) (k := 0) rfl rfl rfl hh rfl rfl rfl (by decide) (by decide) (fun h1 hh1 v1 f1 z1 => ?_)
  refine rx_T.to 2 17 [(3, .int (nI c)), (2, .int (nI (rx_pk p c))), (0, .ref 16), (1, .int k)] [.int 0, .ref 16] h1 rfl ?_
  refine rx_T.pfF (M := rxm_13) (k := 0) rfl rfl rfl hh1 rfl rfl rfl (by decide) (by decide) (fun h2 hh2 v2 f2 z2 => ?_)
  have hK2' : rx_KX h h2 := ⟨fun z hz => by rw [z2 z (by omega), z1 z (by omega)], by rw [f2 3 (by decide), f1 3 (by decide)]⟩
  have hD2 : rx_DX0 h2 := ⟨by rw [f2 6 (by decide)]; exact v1, v2⟩
  have no : (∀ K, K ≤ 6 → k = nI K → ¬ rx_OK K c p) → rx_T rx_cds rx_ms rx_lk0 rt (d + 2) w 13 41 [(3, .int (nI c)), (2, .int (nI (rx_pk p c))), (0, .ref 16), (1, .int k)] [] h2 (fun v h' => rx_hin rx_I0 h' ∧ rx_KX h h' ∧ rx_DX0 h' ∧ ((∃ K, K ≤ 6 ∧ k = nI K ∧ rx_OK K c p ∧ v = some (.int (nI (K * 16777216 + rx_pk p c)))) ∨ ((∀ K, K ≤ 6 → k = nI K → ¬ rx_OK K c p) ∧ v = some (.int (-1))))) := by
    intro hno
    refine rx_T.to 1 42 [(3, .int (nI c)), (2, .int (nI (rx_pk p c))), (0, .ref 16), (1, .int k)] [.int (-1)] h2 rfl ?_
    exact rx_T.ret (M := rxm_13) (v := some (.int (-1))) rfl rfl rfl ⟨hh2, hK2', hD2, Or.inr ⟨hno, rfl⟩⟩
  refine rx_T.to 1 21 [(3, .int (nI c)), (2, .int (nI (rx_pk p c))), (0, .ref 16), (1, .int k)] [.int k] h2 rfl ?_
  refine rx_T.br1 (M := rxm_13) 41 rfl rfl (by decide) (fun q => no (fun K hK e => ?_)) (fun q1 => ?_)
  · have z : k.toInt < 0 := Int32.lt_iff_toInt_lt.mp (of_decide_eq_true q)
    rw [e, nI_toInt (by omega)] at z
    omega
  · have z1 : ¬ k.toInt < 0 := fun z => of_decide_eq_false q1 (Int32.lt_iff_toInt_lt.mpr z)
    refine rx_T.to 2 28 [(3, .int (nI c)), (2, .int (nI (rx_pk p c))), (0, .ref 16), (1, .int k)] [.ref 1, .int k] h2 rfl ?_
    refine rx_T.op (M := rxm_13) (ins := .arraylength) rfl rfl rfl rfl (show rx_al rt 28 [(3, .int (nI c)), (2, .int (nI (rx_pk p c))), (0, .ref 16), (1, .int k)] [.ref 1, .int k] h2 = some (29, [(3, .int (nI c)), (2, .int (nI (rx_pk p c))), (0, .ref 16), (1, .int k)], [.int (Int32.ofNat 7), .int k], h2) by unfold rx_al rx_aln; simp only [hrt]; rfl) ?_
    refine rx_T.br2 (M := rxm_13) 41 rfl rfl (by decide) (fun q => no (fun K hK e => ?_)) (fun q2 => ?_)
    · have z : (7 : Int) ≤ k.toInt := Int32.le_iff_toInt_le.mp (of_decide_eq_true q)
      rw [e, nI_toInt (by omega)] at z
      omega
    have z2 : ¬ (7 : Int) ≤ k.toInt := fun z => of_decide_eq_false q2 (Int32.le_iff_toInt_le.mpr z)
    obtain ⟨K, rfl, hK6⟩ := rx_nIof (n := 6) (x := k) (by omega) (by omega)
    refine rx_T.to 3 37 [(3, .int (nI c)), (2, .int (nI (rx_pk p c))), (0, .ref 16), (1, .int (nI K))] [.int (nI K), .ref 1, .int (nI c)] h2 rfl ?_
    refine rx_T.iald (M := rxm_13) (n := 7) (f := fun j => rx_s1v.getD j 0) rfl rfl (by unfold rx_ri; rw [if_pos (by decide)]; exact hrt) (vp_in_nI (show K < 7 by omega) (by decide)) ?_
    rw [nI_clamp (show K < 2 ^ 31 by omega), rx_s1_po K (by omega)]
    refine rx_T.br2 (M := rxm_13) 43 rfl rfl (by decide) (fun q => ?_) (fun q => no (fun K2 hK2 e ok => ?_))
    · have hc : c = rx_po K := by
        have hpo : rx_po K < 10 := by
          match K, hK6 with
          | 0, _ => decide
          | 1, _ => decide
          | 2, _ => decide
          | 3, _ => decide
          | 4, _ => decide
          | 5, _ => decide
          | 6, _ => decide
        exact rx_nI_inj (by omega) (by omega) (of_decide_eq_true q)
      refine rx_T.to 6 51 [(4, .int (((nI K) <<< ((Int8.ofInt 24).toInt32 &&& 31)) ||| (nI (rx_pk p c)))), (3, .int (nI c)), (2, .int (nI (rx_pk p c))), (0, .ref 16), (1, .int (nI K))] [] h2 rfl ?_
      rw [rx_kd24 hK6 hD]
      clear no z1 z2 q q1 q2 H
      match K, hK6, hc, hD with
      | 0, _, hc, _ =>
        have hc : c = 3 := hc
        subst hc
        have hF : 0 * 16777216 + rx_pk p 3 < 2147483648 := by have := rx_pk_lt 3 (fun i hi => Nat.lt_trans (hp i hi) (by decide)); omega
        have hq := rx_pk3 (p := p) (K := 0) hp
        have eb3 : rx_bo (fun i => (0 * 16777216 + rx_pk p 3) / 8 ^ i % 8) 3 = ((((0 : Int32) ||| ((1 : Int32) <<< (nI (p 0) &&& 31))) ||| ((1 : Int32) <<< (nI (p 1) &&& 31))) ||| ((1 : Int32) <<< (nI (p 2) &&& 31))) := by
          show ((((0 : Int32) ||| ((1 : Int32) <<< (nI ((0 * 16777216 + rx_pk p 3) / 8 ^ 0 % 8) &&& 31))) ||| ((1 : Int32) <<< (nI ((0 * 16777216 + rx_pk p 3) / 8 ^ 1 % 8) &&& 31))) ||| ((1 : Int32) <<< (nI ((0 * 16777216 + rx_pk p 3) / 8 ^ 2 % 8) &&& 31))) = _
          rw [hq 0 (by decide), hq 1 (by decide), hq 2 (by decide)]
        refine rx_T.to 1 52 [(4, .int (nI (0 * 16777216 + rx_pk p 3))), (3, .int (nI 3)), (2, .int (nI (rx_pk p 3))), (0, .ref 16), (1, .int (nI 0))] [.int (nI 0)] h2 rfl ?_
        refine rx_T.op (M := rxm_13) (ins := .ifCond .eq 13) rfl rfl rfl rfl (rx_b1_t 65 (by decide +kernel) (by decide)) ?_
        refine rx_T.to 2 68 [(4, .int (nI (0 * 16777216 + rx_pk p 3))), (3, .int (nI 3)), (2, .int (nI (rx_pk p 3))), (0, .ref 16), (1, .int (nI 0))] [.int (nI 3), .int (nI (0 * 16777216 + rx_pk p 3))] h2 rfl ?_
        refine rx_T.call (M := rxm_13) (N := rxm_14) (j := 14) (as := [.int (nI (0 * 16777216 + rx_pk p 3)), .int (nI 3)]) (rest := []) rfl rfl rfl rfl rfl (show 19 + 4 ≤ w by omega) (rx_bitsOf (F := 0 * 16777216 + rx_pk p 3) (c := 3) hF (by decide) (show 21 ≤ w - (19 + 4) by omega)) ?_
        intro v1 h1 hp1
        obtain ⟨rfl, e1⟩ := hp1
        rw [e1]
        rw [eb3]
        refine rx_T.call (M := rxm_13) (N := rxm_16) (j := 16) (as := [.int ((((0 : Int32) ||| ((1 : Int32) <<< (nI (p 0) &&& 31))) ||| ((1 : Int32) <<< (nI (p 1) &&& 31))) ||| ((1 : Int32) <<< (nI (p 2) &&& 31)))]) (rest := []) rfl rfl rfl rfl rfl (show 19 + 1 ≤ w by omega) rx_bitCount ?_
        intro v7 h7 hp7
        obtain ⟨rfl, e7⟩ := hp7
        rw [e7]
        refine rx_T.to 1 75 [(4, .int (nI (0 * 16777216 + rx_pk p 3))), (3, .int (nI 3)), (2, .int (nI (rx_pk p 3))), (0, .ref 16), (1, .int (nI 0))] [.int (nI 3), .int (rx_bcf ((((0 : Int32) ||| ((1 : Int32) <<< (nI (p 0) &&& 31))) ||| ((1 : Int32) <<< (nI (p 1) &&& 31))) ||| ((1 : Int32) <<< (nI (p 2) &&& 31))))] h2 rfl ?_
        refine rx_T.br2 (M := rxm_13) 82 rfl rfl (by decide) (fun q3 => ?_) (fun q3 => ?_)
        · have z1 : ¬ rx_bcf ((((0 : Int32) ||| ((1 : Int32) <<< (nI (p 0) &&& 31))) ||| ((1 : Int32) <<< (nI (p 1) &&& 31))) ||| ((1 : Int32) <<< (nI (p 2) &&& 31))) = nI 3 := by simpa [rx_c2] using q3
          refine rx_T.to 4 96 [(5, .int 0), (4, .int (nI (0 * 16777216 + rx_pk p 3))), (3, .int (nI 3)), (2, .int (nI (rx_pk p 3))), (0, .ref 16), (1, .int (nI 0))] [.int 0] h2 rfl ?_
          refine rx_T.op (M := rxm_13) (ins := .ifCond .eq 8) rfl rfl rfl rfl (rx_b1_t 104 (by decide) (by decide)) ?_
          refine rx_T.to 1 105 [(5, .int 0), (4, .int (nI (0 * 16777216 + rx_pk p 3))), (3, .int (nI 3)), (2, .int (nI (rx_pk p 3))), (0, .ref 16), (1, .int (nI 0))] [.int (-1)] h2 rfl ?_
          refine rx_T.ret (M := rxm_13) (v := some (.int (-1))) rfl rfl rfl ⟨hh2, hK2', hD2, Or.inr ⟨fun K2 hK2 e z => z1 ((rx_bc3 (p 0) (hp 0 (by decide)) (p 1) (hp 1 (by decide)) (p 2) (hp 2 (by decide))).mpr ?_), rfl⟩⟩
          have e2 := rx_nI_inj (by omega) (by omega) e
          subst e2
          exact ⟨z.2 0 1 (by decide) (by decide) (Or.inl rfl), z.2 0 2 (by decide) (by decide) (Or.inl rfl), z.2 1 2 (by decide) (by decide) (Or.inl rfl)⟩
        · have z1 : rx_bcf ((((0 : Int32) ||| ((1 : Int32) <<< (nI (p 0) &&& 31))) ||| ((1 : Int32) <<< (nI (p 1) &&& 31))) ||| ((1 : Int32) <<< (nI (p 2) &&& 31))) = nI 3 := by simpa [rx_c2] using q3
          have z2 := (rx_bc3 (p 0) (hp 0 (by decide)) (p 1) (hp 1 (by decide)) (p 2) (hp 2 (by decide))).mp z1
          refine rx_T.to 4 96 [(5, .int 1), (4, .int (nI (0 * 16777216 + rx_pk p 3))), (3, .int (nI 3)), (2, .int (nI (rx_pk p 3))), (0, .ref 16), (1, .int (nI 0))] [.int 1] h2 rfl ?_
          refine rx_T.op (M := rxm_13) (ins := .ifCond .eq 8) rfl rfl rfl rfl (rx_b1_f (by decide) (by decide)) ?_
          refine rx_T.to 2 105 [(5, .int 1), (4, .int (nI (0 * 16777216 + rx_pk p 3))), (3, .int (nI 3)), (2, .int (nI (rx_pk p 3))), (0, .ref 16), (1, .int (nI 0))] [.int (nI (0 * 16777216 + rx_pk p 3))] h2 rfl ?_
          refine rx_T.ret (M := rxm_13) (v := some (.int (nI (0 * 16777216 + rx_pk p 3)))) rfl rfl rfl ⟨hh2, hK2', hD2, Or.inl ⟨0, by decide, rfl, ⟨rfl, fun i j hij hj _ => ?_⟩, rfl⟩⟩
          have hs : (i = 0 ∧ j = 1) ∨ (i = 0 ∧ j = 2) ∨ (i = 1 ∧ j = 2) := by omega
          rcases hs with ⟨rfl, rfl⟩ | ⟨rfl, rfl⟩ | ⟨rfl, rfl⟩
          · exact z2.1
          · exact z2.2.1
          · exact z2.2.2
      | 1, _, hc, _ =>
        have hc : c = 4 := hc
        subst hc
        have hF : 1 * 16777216 + rx_pk p 4 < 2147483648 := by have := rx_pk_lt 4 (fun i hi => Nat.lt_trans (hp i hi) (by decide)); omega
        have hq := rx_pk4 (p := p) (K := 1) hp
        refine rx_T.to 1 52 [(4, .int (nI (1 * 16777216 + rx_pk p 4))), (3, .int (nI 4)), (2, .int (nI (rx_pk p 4))), (0, .ref 16), (1, .int (nI 1))] [.int (nI 1)] h2 rfl ?_
        refine rx_T.op (M := rxm_13) (ins := .ifCond .eq 13) rfl rfl rfl rfl (rx_b1_f (by decide +kernel) (by decide)) ?_
        refine rx_T.to 2 57 [(4, .int (nI (1 * 16777216 + rx_pk p 4))), (3, .int (nI 4)), (2, .int (nI (rx_pk p 4))), (0, .ref 16), (1, .int (nI 1))] [.int 3, .int (nI 1)] h2 rfl ?_
        refine rx_T.op (M := rxm_13) (ins := .if_icmp .eq 8) rfl rfl rfl rfl (rx_b2_f (by decide +kernel) (by decide)) ?_
        refine rx_T.to 2 62 [(4, .int (nI (1 * 16777216 + rx_pk p 4))), (3, .int (nI 4)), (2, .int (nI (rx_pk p 4))), (0, .ref 16), (1, .int (nI 1))] [.int 5, .int (nI 1)] h2 rfl ?_
        refine rx_T.op (M := rxm_13) (ins := .if_icmp .ne 24) rfl rfl rfl rfl (rx_b2_t 86 (by decide +kernel) (by decide)) ?_
        refine rx_T.to 2 89 [(4, .int (nI (1 * 16777216 + rx_pk p 4))), (3, .int (nI 4)), (2, .int (nI (rx_pk p 4))), (0, .ref 16), (1, .int (nI 1))] [.int (nI 4), .int (nI (1 * 16777216 + rx_pk p 4))] h2 rfl ?_
        refine rx_T.call (M := rxm_13) (N := rxm_17) (j := 17) (as := [.int (nI (1 * 16777216 + rx_pk p 4)), .int (nI 4)]) (rest := []) rfl rfl rfl rfl rfl (show 19 + 3 ≤ w by omega) (rx_hpt (F := 1 * 16777216 + rx_pk p 4) (c := 4) hF (by decide) (by decide) (show 21 ≤ w - (19 + 3) by omega)) ?_
        intro v1 h1 hp1
        obtain ⟨hp1, e1⟩ := hp1
        rw [e1]
        rcases hp1 with ⟨rfl, z1⟩ | ⟨rfl, z1⟩
        · refine rx_T.to 2 96 [(5, .int 1), (4, .int (nI (1 * 16777216 + rx_pk p 4))), (3, .int (nI 4)), (2, .int (nI (rx_pk p 4))), (0, .ref 16), (1, .int (nI 1))] [.int 1] h2 rfl ?_
          refine rx_T.op (M := rxm_13) (ins := .ifCond .eq 8) rfl rfl rfl rfl (rx_b1_f (by decide) (by decide)) ?_
          refine rx_T.to 2 105 [(5, .int 1), (4, .int (nI (1 * 16777216 + rx_pk p 4))), (3, .int (nI 4)), (2, .int (nI (rx_pk p 4))), (0, .ref 16), (1, .int (nI 1))] [.int (nI (1 * 16777216 + rx_pk p 4))] h2 rfl ?_
          refine rx_T.ret (M := rxm_13) (v := some (.int (nI (1 * 16777216 + rx_pk p 4)))) rfl rfl rfl ⟨hh2, hK2', hD2, Or.inl ⟨1, by decide, rfl, ⟨rfl, fun i j hij hj ha => ?_⟩, rfl⟩⟩
          obtain ⟨a1, a2⟩ : i % 2 = 0 ∧ j = i + 1 := by
            unfold rx_ap at ha
            omega
          have z2 := z1 (i / 2) (by omega)
          rw [show 2 * (i / 2) = i by omega, hq i (by omega), hq (i + 1) (by omega)] at z2
          rw [a2]
          exact z2
        · refine rx_T.to 2 96 [(5, .int 0), (4, .int (nI (1 * 16777216 + rx_pk p 4))), (3, .int (nI 4)), (2, .int (nI (rx_pk p 4))), (0, .ref 16), (1, .int (nI 1))] [.int 0] h2 rfl ?_
          refine rx_T.op (M := rxm_13) (ins := .ifCond .eq 8) rfl rfl rfl rfl (rx_b1_t 104 (by decide) (by decide)) ?_
          refine rx_T.to 1 105 [(5, .int 0), (4, .int (nI (1 * 16777216 + rx_pk p 4))), (3, .int (nI 4)), (2, .int (nI (rx_pk p 4))), (0, .ref 16), (1, .int (nI 1))] [.int (-1)] h2 rfl ?_
          refine rx_T.ret (M := rxm_13) (v := some (.int (-1))) rfl rfl rfl ⟨hh2, hK2', hD2, Or.inr ⟨fun K2 hK2 e z => z1 (fun j hj => ?_), rfl⟩⟩
          have e2 := rx_nI_inj (by omega) (by omega) e
          subst e2
          rw [hq (2 * j) (by omega), hq (2 * j + 1) (by omega)]
          exact z.2 (2 * j) (2 * j + 1) (by omega) (by omega) (Or.inr (Or.inr (Or.inr ⟨by omega, rfl⟩)))
      | 2, _, hc, _ =>
        have hc : c = 4 := hc
        subst hc
        have hF : 2 * 16777216 + rx_pk p 4 < 2147483648 := by have := rx_pk_lt 4 (fun i hi => Nat.lt_trans (hp i hi) (by decide)); omega
        have hq := rx_pk4 (p := p) (K := 2) hp
        refine rx_T.to 1 52 [(4, .int (nI (2 * 16777216 + rx_pk p 4))), (3, .int (nI 4)), (2, .int (nI (rx_pk p 4))), (0, .ref 16), (1, .int (nI 2))] [.int (nI 2)] h2 rfl ?_
        refine rx_T.op (M := rxm_13) (ins := .ifCond .eq 13) rfl rfl rfl rfl (rx_b1_f (by decide +kernel) (by decide)) ?_
        refine rx_T.to 2 57 [(4, .int (nI (2 * 16777216 + rx_pk p 4))), (3, .int (nI 4)), (2, .int (nI (rx_pk p 4))), (0, .ref 16), (1, .int (nI 2))] [.int 3, .int (nI 2)] h2 rfl ?_
        refine rx_T.op (M := rxm_13) (ins := .if_icmp .eq 8) rfl rfl rfl rfl (rx_b2_f (by decide +kernel) (by decide)) ?_
        refine rx_T.to 2 62 [(4, .int (nI (2 * 16777216 + rx_pk p 4))), (3, .int (nI 4)), (2, .int (nI (rx_pk p 4))), (0, .ref 16), (1, .int (nI 2))] [.int 5, .int (nI 2)] h2 rfl ?_
        refine rx_T.op (M := rxm_13) (ins := .if_icmp .ne 24) rfl rfl rfl rfl (rx_b2_t 86 (by decide +kernel) (by decide)) ?_
        refine rx_T.to 2 89 [(4, .int (nI (2 * 16777216 + rx_pk p 4))), (3, .int (nI 4)), (2, .int (nI (rx_pk p 4))), (0, .ref 16), (1, .int (nI 2))] [.int (nI 4), .int (nI (2 * 16777216 + rx_pk p 4))] h2 rfl ?_
        refine rx_T.call (M := rxm_13) (N := rxm_17) (j := 17) (as := [.int (nI (2 * 16777216 + rx_pk p 4)), .int (nI 4)]) (rest := []) rfl rfl rfl rfl rfl (show 19 + 3 ≤ w by omega) (rx_hpt (F := 2 * 16777216 + rx_pk p 4) (c := 4) hF (by decide) (by decide) (show 21 ≤ w - (19 + 3) by omega)) ?_
        intro v1 h1 hp1
        obtain ⟨hp1, e1⟩ := hp1
        rw [e1]
        rcases hp1 with ⟨rfl, z1⟩ | ⟨rfl, z1⟩
        · refine rx_T.to 2 96 [(5, .int 1), (4, .int (nI (2 * 16777216 + rx_pk p 4))), (3, .int (nI 4)), (2, .int (nI (rx_pk p 4))), (0, .ref 16), (1, .int (nI 2))] [.int 1] h2 rfl ?_
          refine rx_T.op (M := rxm_13) (ins := .ifCond .eq 8) rfl rfl rfl rfl (rx_b1_f (by decide) (by decide)) ?_
          refine rx_T.to 2 105 [(5, .int 1), (4, .int (nI (2 * 16777216 + rx_pk p 4))), (3, .int (nI 4)), (2, .int (nI (rx_pk p 4))), (0, .ref 16), (1, .int (nI 2))] [.int (nI (2 * 16777216 + rx_pk p 4))] h2 rfl ?_
          refine rx_T.ret (M := rxm_13) (v := some (.int (nI (2 * 16777216 + rx_pk p 4)))) rfl rfl rfl ⟨hh2, hK2', hD2, Or.inl ⟨2, by decide, rfl, ⟨rfl, fun i j hij hj ha => ?_⟩, rfl⟩⟩
          obtain ⟨a1, a2⟩ : i % 2 = 0 ∧ j = i + 1 := by
            unfold rx_ap at ha
            omega
          have z2 := z1 (i / 2) (by omega)
          rw [show 2 * (i / 2) = i by omega, hq i (by omega), hq (i + 1) (by omega)] at z2
          rw [a2]
          exact z2
        · refine rx_T.to 2 96 [(5, .int 0), (4, .int (nI (2 * 16777216 + rx_pk p 4))), (3, .int (nI 4)), (2, .int (nI (rx_pk p 4))), (0, .ref 16), (1, .int (nI 2))] [.int 0] h2 rfl ?_
          refine rx_T.op (M := rxm_13) (ins := .ifCond .eq 8) rfl rfl rfl rfl (rx_b1_t 104 (by decide) (by decide)) ?_
          refine rx_T.to 1 105 [(5, .int 0), (4, .int (nI (2 * 16777216 + rx_pk p 4))), (3, .int (nI 4)), (2, .int (nI (rx_pk p 4))), (0, .ref 16), (1, .int (nI 2))] [.int (-1)] h2 rfl ?_
          refine rx_T.ret (M := rxm_13) (v := some (.int (-1))) rfl rfl rfl ⟨hh2, hK2', hD2, Or.inr ⟨fun K2 hK2 e z => z1 (fun j hj => ?_), rfl⟩⟩
          have e2 := rx_nI_inj (by omega) (by omega) e
          subst e2
          rw [hq (2 * j) (by omega), hq (2 * j + 1) (by omega)]
          exact z.2 (2 * j) (2 * j + 1) (by omega) (by omega) (Or.inr (Or.inr (Or.inr ⟨by omega, rfl⟩)))
      | 3, _, hc, _ =>
        have hc : c = 4 := hc
        subst hc
        have hF : 3 * 16777216 + rx_pk p 4 < 2147483648 := by have := rx_pk_lt 4 (fun i hi => Nat.lt_trans (hp i hi) (by decide)); omega
        have hq := rx_pk4 (p := p) (K := 3) hp
        have eb4 : rx_bo (fun i => (3 * 16777216 + rx_pk p 4) / 8 ^ i % 8) 4 = (((((0 : Int32) ||| ((1 : Int32) <<< (nI (p 0) &&& 31))) ||| ((1 : Int32) <<< (nI (p 1) &&& 31))) ||| ((1 : Int32) <<< (nI (p 2) &&& 31))) ||| ((1 : Int32) <<< (nI (p 3) &&& 31))) := by
          show (((((0 : Int32) ||| ((1 : Int32) <<< (nI ((3 * 16777216 + rx_pk p 4) / 8 ^ 0 % 8) &&& 31))) ||| ((1 : Int32) <<< (nI ((3 * 16777216 + rx_pk p 4) / 8 ^ 1 % 8) &&& 31))) ||| ((1 : Int32) <<< (nI ((3 * 16777216 + rx_pk p 4) / 8 ^ 2 % 8) &&& 31))) ||| ((1 : Int32) <<< (nI ((3 * 16777216 + rx_pk p 4) / 8 ^ 3 % 8) &&& 31))) = _
          rw [hq 0 (by decide), hq 1 (by decide), hq 2 (by decide), hq 3 (by decide)]
        refine rx_T.to 1 52 [(4, .int (nI (3 * 16777216 + rx_pk p 4))), (3, .int (nI 4)), (2, .int (nI (rx_pk p 4))), (0, .ref 16), (1, .int (nI 3))] [.int (nI 3)] h2 rfl ?_
        refine rx_T.op (M := rxm_13) (ins := .ifCond .eq 13) rfl rfl rfl rfl (rx_b1_f (by decide +kernel) (by decide)) ?_
        refine rx_T.to 2 57 [(4, .int (nI (3 * 16777216 + rx_pk p 4))), (3, .int (nI 4)), (2, .int (nI (rx_pk p 4))), (0, .ref 16), (1, .int (nI 3))] [.int 3, .int (nI 3)] h2 rfl ?_
        refine rx_T.op (M := rxm_13) (ins := .if_icmp .eq 8) rfl rfl rfl rfl (rx_b2_t 65 (by decide +kernel) (by decide)) ?_
        refine rx_T.to 2 68 [(4, .int (nI (3 * 16777216 + rx_pk p 4))), (3, .int (nI 4)), (2, .int (nI (rx_pk p 4))), (0, .ref 16), (1, .int (nI 3))] [.int (nI 4), .int (nI (3 * 16777216 + rx_pk p 4))] h2 rfl ?_
        refine rx_T.call (M := rxm_13) (N := rxm_14) (j := 14) (as := [.int (nI (3 * 16777216 + rx_pk p 4)), .int (nI 4)]) (rest := []) rfl rfl rfl rfl rfl (show 19 + 4 ≤ w by omega) (rx_bitsOf (F := 3 * 16777216 + rx_pk p 4) (c := 4) hF (by decide) (show 21 ≤ w - (19 + 4) by omega)) ?_
        intro v1 h1 hp1
        obtain ⟨rfl, e1⟩ := hp1
        rw [e1]
        rw [eb4]
        refine rx_T.call (M := rxm_13) (N := rxm_16) (j := 16) (as := [.int (((((0 : Int32) ||| ((1 : Int32) <<< (nI (p 0) &&& 31))) ||| ((1 : Int32) <<< (nI (p 1) &&& 31))) ||| ((1 : Int32) <<< (nI (p 2) &&& 31))) ||| ((1 : Int32) <<< (nI (p 3) &&& 31)))]) (rest := []) rfl rfl rfl rfl rfl (show 19 + 1 ≤ w by omega) rx_bitCount ?_
        intro v7 h7 hp7
        obtain ⟨rfl, e7⟩ := hp7
        rw [e7]
        refine rx_T.to 1 75 [(4, .int (nI (3 * 16777216 + rx_pk p 4))), (3, .int (nI 4)), (2, .int (nI (rx_pk p 4))), (0, .ref 16), (1, .int (nI 3))] [.int (nI 4), .int (rx_bcf (((((0 : Int32) ||| ((1 : Int32) <<< (nI (p 0) &&& 31))) ||| ((1 : Int32) <<< (nI (p 1) &&& 31))) ||| ((1 : Int32) <<< (nI (p 2) &&& 31))) ||| ((1 : Int32) <<< (nI (p 3) &&& 31))))] h2 rfl ?_
        refine rx_T.br2 (M := rxm_13) 82 rfl rfl (by decide) (fun q3 => ?_) (fun q3 => ?_)
        · have z1 : ¬ rx_bcf (((((0 : Int32) ||| ((1 : Int32) <<< (nI (p 0) &&& 31))) ||| ((1 : Int32) <<< (nI (p 1) &&& 31))) ||| ((1 : Int32) <<< (nI (p 2) &&& 31))) ||| ((1 : Int32) <<< (nI (p 3) &&& 31))) = nI 4 := by simpa [rx_c2] using q3
          refine rx_T.to 4 96 [(5, .int 0), (4, .int (nI (3 * 16777216 + rx_pk p 4))), (3, .int (nI 4)), (2, .int (nI (rx_pk p 4))), (0, .ref 16), (1, .int (nI 3))] [.int 0] h2 rfl ?_
          refine rx_T.op (M := rxm_13) (ins := .ifCond .eq 8) rfl rfl rfl rfl (rx_b1_t 104 (by decide) (by decide)) ?_
          refine rx_T.to 1 105 [(5, .int 0), (4, .int (nI (3 * 16777216 + rx_pk p 4))), (3, .int (nI 4)), (2, .int (nI (rx_pk p 4))), (0, .ref 16), (1, .int (nI 3))] [.int (-1)] h2 rfl ?_
          refine rx_T.ret (M := rxm_13) (v := some (.int (-1))) rfl rfl rfl ⟨hh2, hK2', hD2, Or.inr ⟨fun K2 hK2 e z => z1 ((rx_bc4 (p 0) (hp 0 (by decide)) (p 1) (hp 1 (by decide)) (p 2) (hp 2 (by decide)) (p 3) (hp 3 (by decide))).mpr ?_), rfl⟩⟩
          have e2 := rx_nI_inj (by omega) (by omega) e
          subst e2
          exact ⟨z.2 0 1 (by decide) (by decide) (Or.inr (Or.inl rfl)), z.2 0 2 (by decide) (by decide) (Or.inr (Or.inl rfl)), z.2 0 3 (by decide) (by decide) (Or.inr (Or.inl rfl)), z.2 1 2 (by decide) (by decide) (Or.inr (Or.inl rfl)), z.2 1 3 (by decide) (by decide) (Or.inr (Or.inl rfl)), z.2 2 3 (by decide) (by decide) (Or.inr (Or.inl rfl))⟩
        · have z1 : rx_bcf (((((0 : Int32) ||| ((1 : Int32) <<< (nI (p 0) &&& 31))) ||| ((1 : Int32) <<< (nI (p 1) &&& 31))) ||| ((1 : Int32) <<< (nI (p 2) &&& 31))) ||| ((1 : Int32) <<< (nI (p 3) &&& 31))) = nI 4 := by simpa [rx_c2] using q3
          have z2 := (rx_bc4 (p 0) (hp 0 (by decide)) (p 1) (hp 1 (by decide)) (p 2) (hp 2 (by decide)) (p 3) (hp 3 (by decide))).mp z1
          refine rx_T.to 4 96 [(5, .int 1), (4, .int (nI (3 * 16777216 + rx_pk p 4))), (3, .int (nI 4)), (2, .int (nI (rx_pk p 4))), (0, .ref 16), (1, .int (nI 3))] [.int 1] h2 rfl ?_
          refine rx_T.op (M := rxm_13) (ins := .ifCond .eq 8) rfl rfl rfl rfl (rx_b1_f (by decide) (by decide)) ?_
          refine rx_T.to 2 105 [(5, .int 1), (4, .int (nI (3 * 16777216 + rx_pk p 4))), (3, .int (nI 4)), (2, .int (nI (rx_pk p 4))), (0, .ref 16), (1, .int (nI 3))] [.int (nI (3 * 16777216 + rx_pk p 4))] h2 rfl ?_
          refine rx_T.ret (M := rxm_13) (v := some (.int (nI (3 * 16777216 + rx_pk p 4)))) rfl rfl rfl ⟨hh2, hK2', hD2, Or.inl ⟨3, by decide, rfl, ⟨rfl, fun i j hij hj _ => ?_⟩, rfl⟩⟩
          have hs : (i = 0 ∧ j = 1) ∨ (i = 0 ∧ j = 2) ∨ (i = 0 ∧ j = 3) ∨ (i = 1 ∧ j = 2) ∨ (i = 1 ∧ j = 3) ∨ (i = 2 ∧ j = 3) := by omega
          rcases hs with ⟨rfl, rfl⟩ | ⟨rfl, rfl⟩ | ⟨rfl, rfl⟩ | ⟨rfl, rfl⟩ | ⟨rfl, rfl⟩ | ⟨rfl, rfl⟩
          · exact z2.1
          · exact z2.2.1
          · exact z2.2.2.1
          · exact z2.2.2.2.1
          · exact z2.2.2.2.2.1
          · exact z2.2.2.2.2.2
      | 4, _, hc, _ =>
        have hc : c = 4 := hc
        subst hc
        have hF : 4 * 16777216 + rx_pk p 4 < 2147483648 := by have := rx_pk_lt 4 (fun i hi => Nat.lt_trans (hp i hi) (by decide)); omega
        have hq := rx_pk4 (p := p) (K := 4) hp
        refine rx_T.to 1 52 [(4, .int (nI (4 * 16777216 + rx_pk p 4))), (3, .int (nI 4)), (2, .int (nI (rx_pk p 4))), (0, .ref 16), (1, .int (nI 4))] [.int (nI 4)] h2 rfl ?_
        refine rx_T.op (M := rxm_13) (ins := .ifCond .eq 13) rfl rfl rfl rfl (rx_b1_f (by decide +kernel) (by decide)) ?_
        refine rx_T.to 2 57 [(4, .int (nI (4 * 16777216 + rx_pk p 4))), (3, .int (nI 4)), (2, .int (nI (rx_pk p 4))), (0, .ref 16), (1, .int (nI 4))] [.int 3, .int (nI 4)] h2 rfl ?_
        refine rx_T.op (M := rxm_13) (ins := .if_icmp .eq 8) rfl rfl rfl rfl (rx_b2_f (by decide +kernel) (by decide)) ?_
        refine rx_T.to 2 62 [(4, .int (nI (4 * 16777216 + rx_pk p 4))), (3, .int (nI 4)), (2, .int (nI (rx_pk p 4))), (0, .ref 16), (1, .int (nI 4))] [.int 5, .int (nI 4)] h2 rfl ?_
        refine rx_T.op (M := rxm_13) (ins := .if_icmp .ne 24) rfl rfl rfl rfl (rx_b2_t 86 (by decide +kernel) (by decide)) ?_
        refine rx_T.to 2 89 [(4, .int (nI (4 * 16777216 + rx_pk p 4))), (3, .int (nI 4)), (2, .int (nI (rx_pk p 4))), (0, .ref 16), (1, .int (nI 4))] [.int (nI 4), .int (nI (4 * 16777216 + rx_pk p 4))] h2 rfl ?_
        refine rx_T.call (M := rxm_13) (N := rxm_17) (j := 17) (as := [.int (nI (4 * 16777216 + rx_pk p 4)), .int (nI 4)]) (rest := []) rfl rfl rfl rfl rfl (show 19 + 3 ≤ w by omega) (rx_hpt (F := 4 * 16777216 + rx_pk p 4) (c := 4) hF (by decide) (by decide) (show 21 ≤ w - (19 + 3) by omega)) ?_
        intro v1 h1 hp1
        obtain ⟨hp1, e1⟩ := hp1
        rw [e1]
        rcases hp1 with ⟨rfl, z1⟩ | ⟨rfl, z1⟩
        · refine rx_T.to 2 96 [(5, .int 1), (4, .int (nI (4 * 16777216 + rx_pk p 4))), (3, .int (nI 4)), (2, .int (nI (rx_pk p 4))), (0, .ref 16), (1, .int (nI 4))] [.int 1] h2 rfl ?_
          refine rx_T.op (M := rxm_13) (ins := .ifCond .eq 8) rfl rfl rfl rfl (rx_b1_f (by decide) (by decide)) ?_
          refine rx_T.to 2 105 [(5, .int 1), (4, .int (nI (4 * 16777216 + rx_pk p 4))), (3, .int (nI 4)), (2, .int (nI (rx_pk p 4))), (0, .ref 16), (1, .int (nI 4))] [.int (nI (4 * 16777216 + rx_pk p 4))] h2 rfl ?_
          refine rx_T.ret (M := rxm_13) (v := some (.int (nI (4 * 16777216 + rx_pk p 4)))) rfl rfl rfl ⟨hh2, hK2', hD2, Or.inl ⟨4, by decide, rfl, ⟨rfl, fun i j hij hj ha => ?_⟩, rfl⟩⟩
          obtain ⟨a1, a2⟩ : i % 2 = 0 ∧ j = i + 1 := by
            unfold rx_ap at ha
            omega
          have z2 := z1 (i / 2) (by omega)
          rw [show 2 * (i / 2) = i by omega, hq i (by omega), hq (i + 1) (by omega)] at z2
          rw [a2]
          exact z2
        · refine rx_T.to 2 96 [(5, .int 0), (4, .int (nI (4 * 16777216 + rx_pk p 4))), (3, .int (nI 4)), (2, .int (nI (rx_pk p 4))), (0, .ref 16), (1, .int (nI 4))] [.int 0] h2 rfl ?_
          refine rx_T.op (M := rxm_13) (ins := .ifCond .eq 8) rfl rfl rfl rfl (rx_b1_t 104 (by decide) (by decide)) ?_
          refine rx_T.to 1 105 [(5, .int 0), (4, .int (nI (4 * 16777216 + rx_pk p 4))), (3, .int (nI 4)), (2, .int (nI (rx_pk p 4))), (0, .ref 16), (1, .int (nI 4))] [.int (-1)] h2 rfl ?_
          refine rx_T.ret (M := rxm_13) (v := some (.int (-1))) rfl rfl rfl ⟨hh2, hK2', hD2, Or.inr ⟨fun K2 hK2 e z => z1 (fun j hj => ?_), rfl⟩⟩
          have e2 := rx_nI_inj (by omega) (by omega) e
          subst e2
          rw [hq (2 * j) (by omega), hq (2 * j + 1) (by omega)]
          exact z.2 (2 * j) (2 * j + 1) (by omega) (by omega) (Or.inr (Or.inr (Or.inr ⟨by omega, rfl⟩)))
      | 5, _, hc, _ =>
        have hc : c = 3 := hc
        subst hc
        have hF : 5 * 16777216 + rx_pk p 3 < 2147483648 := by have := rx_pk_lt 3 (fun i hi => Nat.lt_trans (hp i hi) (by decide)); omega
        have hq := rx_pk3 (p := p) (K := 5) hp
        have eb3 : rx_bo (fun i => (5 * 16777216 + rx_pk p 3) / 8 ^ i % 8) 3 = ((((0 : Int32) ||| ((1 : Int32) <<< (nI (p 0) &&& 31))) ||| ((1 : Int32) <<< (nI (p 1) &&& 31))) ||| ((1 : Int32) <<< (nI (p 2) &&& 31))) := by
          show ((((0 : Int32) ||| ((1 : Int32) <<< (nI ((5 * 16777216 + rx_pk p 3) / 8 ^ 0 % 8) &&& 31))) ||| ((1 : Int32) <<< (nI ((5 * 16777216 + rx_pk p 3) / 8 ^ 1 % 8) &&& 31))) ||| ((1 : Int32) <<< (nI ((5 * 16777216 + rx_pk p 3) / 8 ^ 2 % 8) &&& 31))) = _
          rw [hq 0 (by decide), hq 1 (by decide), hq 2 (by decide)]
        refine rx_T.to 1 52 [(4, .int (nI (5 * 16777216 + rx_pk p 3))), (3, .int (nI 3)), (2, .int (nI (rx_pk p 3))), (0, .ref 16), (1, .int (nI 5))] [.int (nI 5)] h2 rfl ?_
        refine rx_T.op (M := rxm_13) (ins := .ifCond .eq 13) rfl rfl rfl rfl (rx_b1_f (by decide +kernel) (by decide)) ?_
        refine rx_T.to 2 57 [(4, .int (nI (5 * 16777216 + rx_pk p 3))), (3, .int (nI 3)), (2, .int (nI (rx_pk p 3))), (0, .ref 16), (1, .int (nI 5))] [.int 3, .int (nI 5)] h2 rfl ?_
        refine rx_T.op (M := rxm_13) (ins := .if_icmp .eq 8) rfl rfl rfl rfl (rx_b2_f (by decide +kernel) (by decide)) ?_
        refine rx_T.to 2 62 [(4, .int (nI (5 * 16777216 + rx_pk p 3))), (3, .int (nI 3)), (2, .int (nI (rx_pk p 3))), (0, .ref 16), (1, .int (nI 5))] [.int 5, .int (nI 5)] h2 rfl ?_
        refine rx_T.op (M := rxm_13) (ins := .if_icmp .ne 24) rfl rfl rfl rfl (rx_b2_f (by decide +kernel) (by decide)) ?_
        refine rx_T.to 2 68 [(4, .int (nI (5 * 16777216 + rx_pk p 3))), (3, .int (nI 3)), (2, .int (nI (rx_pk p 3))), (0, .ref 16), (1, .int (nI 5))] [.int (nI 3), .int (nI (5 * 16777216 + rx_pk p 3))] h2 rfl ?_
        refine rx_T.call (M := rxm_13) (N := rxm_14) (j := 14) (as := [.int (nI (5 * 16777216 + rx_pk p 3)), .int (nI 3)]) (rest := []) rfl rfl rfl rfl rfl (show 19 + 4 ≤ w by omega) (rx_bitsOf (F := 5 * 16777216 + rx_pk p 3) (c := 3) hF (by decide) (show 21 ≤ w - (19 + 4) by omega)) ?_
        intro v1 h1 hp1
        obtain ⟨rfl, e1⟩ := hp1
        rw [e1]
        rw [eb3]
        refine rx_T.call (M := rxm_13) (N := rxm_16) (j := 16) (as := [.int ((((0 : Int32) ||| ((1 : Int32) <<< (nI (p 0) &&& 31))) ||| ((1 : Int32) <<< (nI (p 1) &&& 31))) ||| ((1 : Int32) <<< (nI (p 2) &&& 31)))]) (rest := []) rfl rfl rfl rfl rfl (show 19 + 1 ≤ w by omega) rx_bitCount ?_
        intro v7 h7 hp7
        obtain ⟨rfl, e7⟩ := hp7
        rw [e7]
        refine rx_T.to 1 75 [(4, .int (nI (5 * 16777216 + rx_pk p 3))), (3, .int (nI 3)), (2, .int (nI (rx_pk p 3))), (0, .ref 16), (1, .int (nI 5))] [.int (nI 3), .int (rx_bcf ((((0 : Int32) ||| ((1 : Int32) <<< (nI (p 0) &&& 31))) ||| ((1 : Int32) <<< (nI (p 1) &&& 31))) ||| ((1 : Int32) <<< (nI (p 2) &&& 31))))] h2 rfl ?_
        refine rx_T.br2 (M := rxm_13) 82 rfl rfl (by decide) (fun q3 => ?_) (fun q3 => ?_)
        · have z1 : ¬ rx_bcf ((((0 : Int32) ||| ((1 : Int32) <<< (nI (p 0) &&& 31))) ||| ((1 : Int32) <<< (nI (p 1) &&& 31))) ||| ((1 : Int32) <<< (nI (p 2) &&& 31))) = nI 3 := by simpa [rx_c2] using q3
          refine rx_T.to 4 96 [(5, .int 0), (4, .int (nI (5 * 16777216 + rx_pk p 3))), (3, .int (nI 3)), (2, .int (nI (rx_pk p 3))), (0, .ref 16), (1, .int (nI 5))] [.int 0] h2 rfl ?_
          refine rx_T.op (M := rxm_13) (ins := .ifCond .eq 8) rfl rfl rfl rfl (rx_b1_t 104 (by decide) (by decide)) ?_
          refine rx_T.to 1 105 [(5, .int 0), (4, .int (nI (5 * 16777216 + rx_pk p 3))), (3, .int (nI 3)), (2, .int (nI (rx_pk p 3))), (0, .ref 16), (1, .int (nI 5))] [.int (-1)] h2 rfl ?_
          refine rx_T.ret (M := rxm_13) (v := some (.int (-1))) rfl rfl rfl ⟨hh2, hK2', hD2, Or.inr ⟨fun K2 hK2 e z => z1 ((rx_bc3 (p 0) (hp 0 (by decide)) (p 1) (hp 1 (by decide)) (p 2) (hp 2 (by decide))).mpr ?_), rfl⟩⟩
          have e2 := rx_nI_inj (by omega) (by omega) e
          subst e2
          exact ⟨z.2 0 1 (by decide) (by decide) (Or.inr (Or.inr (Or.inl rfl))), z.2 0 2 (by decide) (by decide) (Or.inr (Or.inr (Or.inl rfl))), z.2 1 2 (by decide) (by decide) (Or.inr (Or.inr (Or.inl rfl)))⟩
        · have z1 : rx_bcf ((((0 : Int32) ||| ((1 : Int32) <<< (nI (p 0) &&& 31))) ||| ((1 : Int32) <<< (nI (p 1) &&& 31))) ||| ((1 : Int32) <<< (nI (p 2) &&& 31))) = nI 3 := by simpa [rx_c2] using q3
          have z2 := (rx_bc3 (p 0) (hp 0 (by decide)) (p 1) (hp 1 (by decide)) (p 2) (hp 2 (by decide))).mp z1
          refine rx_T.to 4 96 [(5, .int 1), (4, .int (nI (5 * 16777216 + rx_pk p 3))), (3, .int (nI 3)), (2, .int (nI (rx_pk p 3))), (0, .ref 16), (1, .int (nI 5))] [.int 1] h2 rfl ?_
          refine rx_T.op (M := rxm_13) (ins := .ifCond .eq 8) rfl rfl rfl rfl (rx_b1_f (by decide) (by decide)) ?_
          refine rx_T.to 2 105 [(5, .int 1), (4, .int (nI (5 * 16777216 + rx_pk p 3))), (3, .int (nI 3)), (2, .int (nI (rx_pk p 3))), (0, .ref 16), (1, .int (nI 5))] [.int (nI (5 * 16777216 + rx_pk p 3))] h2 rfl ?_
          refine rx_T.ret (M := rxm_13) (v := some (.int (nI (5 * 16777216 + rx_pk p 3)))) rfl rfl rfl ⟨hh2, hK2', hD2, Or.inl ⟨5, by decide, rfl, ⟨rfl, fun i j hij hj _ => ?_⟩, rfl⟩⟩
          have hs : (i = 0 ∧ j = 1) ∨ (i = 0 ∧ j = 2) ∨ (i = 1 ∧ j = 2) := by omega
          rcases hs with ⟨rfl, rfl⟩ | ⟨rfl, rfl⟩ | ⟨rfl, rfl⟩
          · exact z2.1
          · exact z2.2.1
          · exact z2.2.2
      | 6, _, hc, _ =>
        have hc : c = 8 := hc
        subst hc
        have hF : 6 * 16777216 + rx_pk p 8 < 2147483648 := by have := rx_pk_lt 8 (fun i hi => Nat.lt_trans (hp i hi) (by decide)); omega
        have hq := rx_pk8 (p := p) (K := 6) hp
        refine rx_T.to 1 52 [(4, .int (nI (6 * 16777216 + rx_pk p 8))), (3, .int (nI 8)), (2, .int (nI (rx_pk p 8))), (0, .ref 16), (1, .int (nI 6))] [.int (nI 6)] h2 rfl ?_
        refine rx_T.op (M := rxm_13) (ins := .ifCond .eq 13) rfl rfl rfl rfl (rx_b1_f (by decide +kernel) (by decide)) ?_
        refine rx_T.to 2 57 [(4, .int (nI (6 * 16777216 + rx_pk p 8))), (3, .int (nI 8)), (2, .int (nI (rx_pk p 8))), (0, .ref 16), (1, .int (nI 6))] [.int 3, .int (nI 6)] h2 rfl ?_
        refine rx_T.op (M := rxm_13) (ins := .if_icmp .eq 8) rfl rfl rfl rfl (rx_b2_f (by decide +kernel) (by decide)) ?_
        refine rx_T.to 2 62 [(4, .int (nI (6 * 16777216 + rx_pk p 8))), (3, .int (nI 8)), (2, .int (nI (rx_pk p 8))), (0, .ref 16), (1, .int (nI 6))] [.int 5, .int (nI 6)] h2 rfl ?_
        refine rx_T.op (M := rxm_13) (ins := .if_icmp .ne 24) rfl rfl rfl rfl (rx_b2_t 86 (by decide +kernel) (by decide)) ?_
        refine rx_T.to 2 89 [(4, .int (nI (6 * 16777216 + rx_pk p 8))), (3, .int (nI 8)), (2, .int (nI (rx_pk p 8))), (0, .ref 16), (1, .int (nI 6))] [.int (nI 8), .int (nI (6 * 16777216 + rx_pk p 8))] h2 rfl ?_
        refine rx_T.call (M := rxm_13) (N := rxm_17) (j := 17) (as := [.int (nI (6 * 16777216 + rx_pk p 8)), .int (nI 8)]) (rest := []) rfl rfl rfl rfl rfl (show 19 + 3 ≤ w by omega) (rx_hpt (F := 6 * 16777216 + rx_pk p 8) (c := 8) hF (by decide) (by decide) (show 21 ≤ w - (19 + 3) by omega)) ?_
        intro v1 h1 hp1
        obtain ⟨hp1, e1⟩ := hp1
        rw [e1]
        rcases hp1 with ⟨rfl, z1⟩ | ⟨rfl, z1⟩
        · refine rx_T.to 2 96 [(5, .int 1), (4, .int (nI (6 * 16777216 + rx_pk p 8))), (3, .int (nI 8)), (2, .int (nI (rx_pk p 8))), (0, .ref 16), (1, .int (nI 6))] [.int 1] h2 rfl ?_
          refine rx_T.op (M := rxm_13) (ins := .ifCond .eq 8) rfl rfl rfl rfl (rx_b1_f (by decide) (by decide)) ?_
          refine rx_T.to 2 105 [(5, .int 1), (4, .int (nI (6 * 16777216 + rx_pk p 8))), (3, .int (nI 8)), (2, .int (nI (rx_pk p 8))), (0, .ref 16), (1, .int (nI 6))] [.int (nI (6 * 16777216 + rx_pk p 8))] h2 rfl ?_
          refine rx_T.ret (M := rxm_13) (v := some (.int (nI (6 * 16777216 + rx_pk p 8)))) rfl rfl rfl ⟨hh2, hK2', hD2, Or.inl ⟨6, by decide, rfl, ⟨rfl, fun i j hij hj ha => ?_⟩, rfl⟩⟩
          obtain ⟨a1, a2⟩ : i % 2 = 0 ∧ j = i + 1 := by
            unfold rx_ap at ha
            omega
          have z2 := z1 (i / 2) (by omega)
          rw [show 2 * (i / 2) = i by omega, hq i (by omega), hq (i + 1) (by omega)] at z2
          rw [a2]
          exact z2
        · refine rx_T.to 2 96 [(5, .int 0), (4, .int (nI (6 * 16777216 + rx_pk p 8))), (3, .int (nI 8)), (2, .int (nI (rx_pk p 8))), (0, .ref 16), (1, .int (nI 6))] [.int 0] h2 rfl ?_
          refine rx_T.op (M := rxm_13) (ins := .ifCond .eq 8) rfl rfl rfl rfl (rx_b1_t 104 (by decide) (by decide)) ?_
          refine rx_T.to 1 105 [(5, .int 0), (4, .int (nI (6 * 16777216 + rx_pk p 8))), (3, .int (nI 8)), (2, .int (nI (rx_pk p 8))), (0, .ref 16), (1, .int (nI 6))] [.int (-1)] h2 rfl ?_
          refine rx_T.ret (M := rxm_13) (v := some (.int (-1))) rfl rfl rfl ⟨hh2, hK2', hD2, Or.inr ⟨fun K2 hK2 e z => z1 (fun j hj => ?_), rfl⟩⟩
          have e2 := rx_nI_inj (by omega) (by omega) e
          subst e2
          rw [hq (2 * j) (by omega), hq (2 * j + 1) (by omega)]
          exact z.2 (2 * j) (2 * j + 1) (by omega) (by omega) (Or.inr (Or.inr (Or.inr ⟨by omega, rfl⟩)))
    · have e2 := rx_nI_inj (by omega) (by omega) e
      subst e2
      exact of_decide_eq_false q (by rw [ok.1])
end RXTD
