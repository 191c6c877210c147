section RXPY
variable {rt : rx_R} {d w : Nat} {P : Option Value → rx_H → Prop}
set_option maxRecDepth 100000 in
set_option maxHeartbeats 4000000 in
theorem rx_xholds2 {h : rx_H} {K c : Nat} {p : Nat → Nat} (hK6 : K ≤ 6) (hc : c = rx_po K) (hc8 : c ≤ 8) (hp : ∀ i, i < c → p i < 7) (hw : 80 ≤ w) (hh : rx_hin rx_I0 h) : rx_T rx_cds rx_ms rx_lk0 rt (d + 3) w 18 0 [(0, .ref 17), (1, .int (nI (K * 16777216 + rx_pk p c)))] [] h (fun v h' => ((v = some (.int 1) ∧ (rx_HV (rx_gI h 2) (rx_gI h 3) K p)) ∨ (v = some (.int 0) ∧ ¬ (rx_HV (rx_gI h 2) (rx_gI h 3) K p))) ∧ h' = h) := by
  have hD := rx_pk_24 hc8 hp
  subst hc
  have hq := rx_pkK hK6 hp
  refine (rx_xholds (K := K) (by omega) (by omega) hK6 hw hh).mono (fun v h' q => ?_)
  have e := rx_HV_c (X := rx_gI h 2) (Y := rx_gI h 3) (X' := rx_gI h 2) (Y' := rx_gI h 3) (fun _ _ => rfl) (fun _ _ => rfl) (p := fun i => (K * 16777216 + rx_pk p (rx_po K)) / 8 ^ i % 8) (q := p) hK6 (fun i hi => ⟨hq i hi, hp i hi⟩)
  rw [e] at q
  exact q
set_option maxRecDepth 100000 in
theorem rx_shl8 : ∀ a : Nat, a < 7 → ∀ c : Nat, c < 8 → nI a <<< ((3 * nI c) &&& 31) = nI (a * 8 ^ c) := by decide +kernel
theorem rx_or8 {D a c : Nat} (ha : a < 7) (hc : c < 8) (hD : D < 8 ^ c) : nI D ||| (nI a <<< ((3 * nI c) &&& 31)) = nI (D + a * 8 ^ c) := by
  rw [rx_shl8 a ha c hc, Int32.or_comm]
  have e : 8 ^ c = 2 ^ (3 * c) := by rw [Nat.pow_mul]
  have h3 : 8 ^ c ≤ 8 ^ 7 := Nat.pow_le_pow_right (by decide) (by omega)
  have h4 : a * 8 ^ c ≤ 6 * 8 ^ c := Nat.mul_le_mul_right _ (by omega)
  have hD2 : D < 2 ^ (3 * c) := by rw [← e]; exact hD
  have h5 := rx_or_add (a := a) (b := D) (s := 3 * c) hD2 (by rw [← e]; omega)
  rw [← e] at h5
  rw [Nat.add_comm]
  exact h5
set_option maxRecDepth 100000 in
set_option maxHeartbeats 4000000 in
theorem rx_xof {h : rx_H} {q : Int32} {n f c : Nat} {p : Nat → Nat} (hn : n ≤ 7) (hw : 30 ≤ w) (H : rx_CX h f c p) (en : rx_gF h 1 2 = nI n) : rx_T rx_cds rx_ms rx_lk0 rt (d + 1) w 10 0 [(0, .ref 16), (1, .int q)] [] h (fun v h' => (∃ a, a < n ∧ q = nI a ∧ c < 8 ∧ v = some (.int (nI (c + 1))) ∧ rx_hin rx_I0 h' ∧ (∀ z, ¬ z = 0 → h'[z]? = h[z]?) ∧ rx_gF h' 0 3 = rx_gF h 0 3 ∧ rx_gF h' 0 6 = nI (rx_pk p c + a * 8 ^ c) ∧ rx_gF h' 0 7 = nI (c + 1)) ∨ (¬ (∃ a, a < n ∧ q = nI a ∧ c < 8) ∧ v = some (.int (-1)) ∧ h' = h)) := by
  have hh := H.1
  have e6 := H.2.2.2.2.2.1
  have e7 := H.2.2.2.2.2.2
  have hcc := H.2.2.1
  refine rx_T.to 1 1 [(0, .ref 16), (1, .int q)] [.ref 16] h rfl ?_
  refine rx_T.gfr (M := rxm_10) (k := 0) rfl rfl rfl hh rfl rfl ?_
  refine rx_T.to 1 5 [(0, .ref 16), (1, .int q)] [.int q, .ref 17] h rfl ?_
  refine rx_T.callk (M := rxm_10) (N := rxm_11) (j := 11) (nest := 0) (k := 1) (as' := [.int q]) (rest := []) rfl rfl rfl rfl rfl rfl rfl rfl rfl (Nat.le_of_ble_eq_true rfl) (Nat.le_of_ble_eq_true rfl) hh (show 19 + 2 ≤ w by omega) (rx_xhas hn hh en) ?_
  intro v1 h1 hp
  obtain ⟨hp, e1⟩ := hp
  rw [e1]
  rcases hp with ⟨rfl, hq⟩ | ⟨rfl, hq⟩
  · obtain ⟨a, ha, rfl⟩ := hq
    refine rx_T.op (M := rxm_10) (ins := .ifCond .eq 12) rfl rfl rfl rfl (rx_b1_f (by decide) (by decide)) ?_
    refine rx_T.to 1 12 [(0, .ref 16), (1, .int (nI a))] [.ref 16] h rfl ?_
    refine rx_T.gfF (M := rxm_10) (k := 0) rfl rfl rfl hh rfl rfl ?_
    rw [e7]
    refine rx_T.to 1 17 [(0, .ref 16), (1, .int (nI a))] [.int (Int8.ofInt 8).toInt32, .int (nI c)] h rfl ?_
    refine rx_T.br2 (M := rxm_10) 22 rfl rfl (by decide) (fun r => ?_) (fun r => ?_)
    · have z : (nI c).toInt < ((Int8.ofInt 8).toInt32).toInt := Int32.lt_iff_toInt_lt.mp (of_decide_eq_true r)
      rw [show ((Int8.ofInt 8).toInt32).toInt = 8 by decide +kernel, nI_toInt (by omega)] at z
      have hc8 : c < 8 := by omega
      have ha7 : a < 7 := by omega
      have hD := rx_pk_lt c (fun i hi => Nat.lt_trans (H.2.2.2.1 i hi) (by decide))
      refine rx_T.to 2 24 [(0, .ref 16), (1, .int (nI a))] [.ref 16, .ref 16] h rfl ?_
      refine rx_T.gfF (M := rxm_10) (k := 0) rfl rfl rfl hh rfl rfl ?_
      rw [e6]
      refine rx_T.to 3 30 [(0, .ref 16), (1, .int (nI a))] [.ref 16, .int 3, .int (nI a), .int (nI (rx_pk p c)), .ref 16] h rfl ?_
      refine rx_T.gfF (M := rxm_10) (k := 0) rfl rfl rfl hh rfl rfl ?_
      rw [e7]
      refine rx_T.to 3 36 [(0, .ref 16), (1, .int (nI a))] [.int ((nI (rx_pk p c)) ||| ((nI a) <<< ((3 * (nI c)) &&& 31))), .ref 16] h rfl ?_
      rw [rx_or8 ha7 hc8 hD]
      refine rx_T.pfF (M := rxm_10) (k := 0) rfl rfl rfl hh rfl rfl rfl (rxi_lo _) (rxi_hi _) (fun h2 hh2 v2 f2 z2 => ?_)
      have e72 : rx_gF h2 0 7 = nI c := (f2 7 (by decide)).trans e7
      refine rx_T.to 2 41 [(0, .ref 16), (1, .int (nI a))] [.ref 16, .ref 16] h2 rfl ?_
      refine rx_T.gfF (M := rxm_10) (k := 0) rfl rfl rfl hh2 rfl rfl ?_
      rw [e72]
      refine rx_T.to 2 46 [(0, .ref 16), (1, .int (nI a))] [.int ((nI c) + 1), .ref 16] h2 rfl ?_
      rw [show nI c + 1 = nI (c + 1) from nI_1 c]
      refine rx_T.pfF (M := rxm_10) (k := 0) rfl rfl rfl hh2 rfl rfl rfl (by rw [nI_toInt (by omega)]; omega) (by rw [nI_toInt (by omega)]; omega) (fun h3 hh3 v3 f3 z3 => ?_)
      refine rx_T.to 1 50 [(0, .ref 16), (1, .int (nI a))] [.ref 16] h3 rfl ?_
      refine rx_T.gfF (M := rxm_10) (k := 0) rfl rfl rfl hh3 rfl rfl ?_
      rw [v3]
      exact rx_T.ret (M := rxm_10) (v := some (.int (nI (c + 1)))) rfl rfl rfl (Or.inl ⟨a, ha, rfl, hc8, rfl, hh3, fun z hz => by rw [z3 z hz, z2 z hz], by rw [f3 3 (by decide), f2 3 (by decide)], by rw [f3 6 (by decide)]; exact v2, v3⟩)
    · have z : ¬ (nI c).toInt < ((Int8.ofInt 8).toInt32).toInt := fun z => of_decide_eq_false r (Int32.lt_iff_toInt_lt.mpr z)
      rw [show ((Int8.ofInt 8).toInt32).toInt = 8 by decide +kernel, nI_toInt (by omega)] at z
      refine rx_T.to 1 21 [(0, .ref 16), (1, .int (nI a))] [.int (-1)] h rfl ?_
      exact rx_T.ret (M := rxm_10) (v := some (.int (-1))) rfl rfl rfl (Or.inr ⟨fun y => by obtain ⟨_, _, _, y⟩ := y; omega, rfl, rfl⟩)
  · refine rx_T.op (M := rxm_10) (ins := .ifCond .eq 12) rfl rfl rfl rfl (rx_b1_t 20 (by decide) (by decide)) ?_
    refine rx_T.to 1 21 [(0, .ref 16), (1, .int q)] [.int (-1)] h rfl ?_
    exact rx_T.ret (M := rxm_10) (v := some (.int (-1))) rfl rfl rfl (Or.inr ⟨fun y => by obtain ⟨a, y1, y2, _⟩ := y; exact hq ⟨a, y1, y2⟩, rfl, rfl⟩)
set_option maxRecDepth 100000 in
set_option maxHeartbeats 4000000 in
theorem rx_xtrue {h : rx_H} {k : Int32} {f c : Nat} {p : Nat → Nat} (ht : rx_tok rx_Em rt) (hw : 110 ≤ w) (H : rx_CX h f c p) : rx_T rx_cds rx_ms rx_lk0 rt (d + 5) w 12 0 [(0, .ref 16), (1, .int k)] [] h (fun v h' => rx_hin rx_I0 h' ∧ rx_KX h h' ∧ rx_DX0 h' ∧ ((∃ K, K ≤ 6 ∧ k = nI K ∧ rx_OK K c p ∧ ((v = some (.int 1) ∧ rx_HV (rx_gI h 2) (rx_gI h 3) K p) ∨ (v = some (.int 0) ∧ ¬ rx_HV (rx_gI h 2) (rx_gI h 3) K p))) ∨ ((∀ K, K ≤ 6 → k = nI K → ¬ rx_OK K c p) ∧ v = some (.int (-1))))) := by
  have hh := H.1
  refine rx_T.to 2 2 [(0, .ref 16), (1, .int k)] [.int k, .ref 16] h rfl ?_
  refine rx_T.callk (M := rxm_12) (N := rxm_13) (j := 13) (nest := 0) (k := 0) (as' := [.int k]) (rest := []) rfl rfl rfl rfl rfl rfl rfl rfl rfl (Nat.le_of_ble_eq_true rfl) (Nat.le_of_ble_eq_true rfl) hh (show 19 + 6 ≤ w by omega) (rx_take2 (d := d + 2) ht (show 50 ≤ w - (19 + 6) by omega) H) ?_
  intro v1 h1 hp
  obtain ⟨hh1, hK1, hD1, hp⟩ := hp
  rcases hp with ⟨K, hK6, rfl, hok, rfl⟩ | ⟨hno, rfl⟩
  · have hne : ¬ nI (K * 16777216 + rx_pk p c) = -1 := fun z => by
      have hD := rx_pk_24 H.2.2.1 H.2.2.2.1
      have z2 := congrArg Int32.toInt z
      rw [nI_toInt (by omega), show (-1 : Int32).toInt = -1 by decide] at z2
      omega
    have hvc : rx_HV (rx_gI h1 2) (rx_gI h1 3) K p ↔ rx_HV (rx_gI h 2) (rx_gI h 3) K p := by rw [rx_gI_of (hK1.1 2 (by omega)), rx_gI_of (hK1.1 3 (by omega))]
    refine rx_T.to 3 8 [(2, .int (nI (K * 16777216 + rx_pk p c))), (0, .ref 16), (1, .int (nI K))] [.int (-1), .int (nI (K * 16777216 + rx_pk p c))] h1 rfl ?_
    refine rx_T.op (M := rxm_12) (ins := .if_icmp .ne 5) rfl rfl rfl rfl (rx_b2_t 13 (by simpa [rx_c2] using hne) (by decide)) ?_
    refine rx_T.to 1 14 [(2, .int (nI (K * 16777216 + rx_pk p c))), (0, .ref 16), (1, .int (nI K))] [.ref 16] h1 rfl ?_
    refine rx_T.gfr (M := rxm_12) (k := 0) rfl rfl rfl hh1 rfl rfl ?_
    refine rx_T.to 1 18 [(2, .int (nI (K * 16777216 + rx_pk p c))), (0, .ref 16), (1, .int (nI K))] [.int (nI (K * 16777216 + rx_pk p c)), .ref 17] h1 rfl ?_
    refine rx_T.callk (M := rxm_12) (N := rxm_18) (j := 18) (nest := 0) (k := 1) (as' := [.int (nI (K * 16777216 + rx_pk p c))]) (rest := []) rfl rfl rfl rfl rfl rfl rfl rfl rfl (Nat.le_of_ble_eq_true rfl) (Nat.le_of_ble_eq_true rfl) hh1 (show 19 + 6 ≤ w by omega) (rx_xholds2 (d := d + 1) hK6 hok.1 H.2.2.1 H.2.2.2.1 (show 80 ≤ w - (19 + 6) by omega) hh1) ?_
    intro v2 h2 hp
    obtain ⟨hp, e2⟩ := hp
    rw [hvc] at hp
    rw [e2]
    rcases hp with ⟨rfl, hv⟩ | ⟨rfl, hv⟩
    · refine rx_T.op (M := rxm_12) (ins := .ifCond .eq 7) rfl rfl rfl rfl (rx_b1_f (by decide) (by decide)) ?_
      refine rx_T.to 2 29 [(2, .int (nI (K * 16777216 + rx_pk p c))), (0, .ref 16), (1, .int (nI K))] [.int 1] h1 rfl ?_
      exact rx_T.ret (M := rxm_12) (v := some (.int 1)) rfl rfl rfl ⟨hh1, hK1, hD1, Or.inl ⟨K, hK6, rfl, hok, Or.inl ⟨rfl, hv⟩⟩⟩
    · refine rx_T.op (M := rxm_12) (ins := .ifCond .eq 7) rfl rfl rfl rfl (rx_b1_t 28 (by decide) (by decide)) ?_
      refine rx_T.to 1 29 [(2, .int (nI (K * 16777216 + rx_pk p c))), (0, .ref 16), (1, .int (nI K))] [.int 0] h1 rfl ?_
      exact rx_T.ret (M := rxm_12) (v := some (.int 0)) rfl rfl rfl ⟨hh1, hK1, hD1, Or.inl ⟨K, hK6, rfl, hok, Or.inr ⟨rfl, hv⟩⟩⟩
  · refine rx_T.to 3 8 [(2, .int (-1)), (0, .ref 16), (1, .int k)] [.int (-1), .int (-1)] h1 rfl ?_
    refine rx_T.op (M := rxm_12) (ins := .if_icmp .ne 5) rfl rfl rfl rfl (rx_b2_f (by decide) (by decide)) ?_
    refine rx_T.to 1 12 [(2, .int (-1)), (0, .ref 16), (1, .int k)] [.int (-1)] h1 rfl ?_
    exact rx_T.ret (M := rxm_12) (v := some (.int (-1))) rfl rfl rfl ⟨hh1, hK1, hD1, Or.inr ⟨hno, rfl⟩⟩
set_option maxRecDepth 100000 in
set_option maxHeartbeats 4000000 in
theorem rx_xfact {h : rx_H} {k : Int32} {f c : Nat} {p : Nat → Nat} (ht : rx_tok rx_Em rt) (hw : 110 ≤ w) (H : rx_CX h f c p) : rx_T rx_cds rx_ms rx_lk0 rt (d + 5) w 27 0 [(0, .ref 16), (1, .int k)] [] h (fun v h' => rx_hin rx_I0 h' ∧ (∀ z, 37 ≤ z ∨ z = 1 ∨ z = 2 ∨ z = 3 → h'[z]? = h[z]?) ∧ rx_DX0 h' ∧ ((∃ K, K ≤ 6 ∧ k = nI K ∧ rx_OK K c p ∧ f < 30 ∧ ((v = some (.int (nI f)) ∧ rx_HV (rx_gI h 2) (rx_gI h 3) K p ∧ rx_gF h' 0 3 = nI (f + 1)) ∨ (v = some (.int (-2)) ∧ ¬ rx_HV (rx_gI h 2) (rx_gI h 3) K p ∧ rx_gF h' 0 3 = nI f))) ∨ (((∀ K, K ≤ 6 → k = nI K → ¬ rx_OK K c p) ∨ ¬ f < 30) ∧ v = some (.int (-1)) ∧ rx_gF h' 0 3 = nI f))) := by
  have hf30 := H.2.1
  have hh := H.1
  refine rx_T.to 2 2 [(0, .ref 16), (1, .int k)] [.int k, .ref 16] h rfl ?_
  refine rx_T.callk (M := rxm_27) (N := rxm_13) (j := 13) (nest := 0) (k := 0) (as' := [.int k]) (rest := []) rfl rfl rfl rfl rfl rfl rfl rfl rfl (Nat.le_of_ble_eq_true rfl) (Nat.le_of_ble_eq_true rfl) hh (show 19 + 6 ≤ w by omega) (rx_take2 (d := d + 2) ht (show 50 ≤ w - (19 + 6) by omega) H) ?_
  intro v1 h1 hp
  obtain ⟨hh1, hK1, hD1, hp⟩ := hp
  rcases hp with ⟨K, hK6, rfl, hok, rfl⟩ | ⟨hno, rfl⟩
  · have hne : ¬ nI (K * 16777216 + rx_pk p c) = -1 := fun z => by
      have hD := rx_pk_24 H.2.2.1 H.2.2.2.1
      have z2 := congrArg Int32.toInt z
      rw [nI_toInt (by omega), show (-1 : Int32).toInt = -1 by decide] at z2
      omega
    have hvc : rx_HV (rx_gI h1 2) (rx_gI h1 3) K p ↔ rx_HV (rx_gI h 2) (rx_gI h 3) K p := by rw [rx_gI_of (hK1.1 2 (by omega)), rx_gI_of (hK1.1 3 (by omega))]
    have e31 : rx_gF h1 0 3 = nI f := hK1.2.trans H.2.2.2.2.1
    refine rx_T.to 3 8 [(2, .int (nI (K * 16777216 + rx_pk p c))), (0, .ref 16), (1, .int (nI K))] [.int (-1), .int (nI (K * 16777216 + rx_pk p c))] h1 rfl ?_
    refine rx_T.op (M := rxm_27) (ins := .if_icmp .eq 12) rfl rfl rfl rfl (rx_b2_f (by simpa [rx_c2] using hne) (by decide)) ?_
    refine rx_T.to 1 12 [(2, .int (nI (K * 16777216 + rx_pk p c))), (0, .ref 16), (1, .int (nI K))] [.ref 16] h1 rfl ?_
    refine rx_T.gfF (M := rxm_27) (k := 0) rfl rfl rfl hh1 rfl rfl ?_
    rw [e31]
    refine rx_T.to 1 17 [(2, .int (nI (K * 16777216 + rx_pk p c))), (0, .ref 16), (1, .int (nI K))] [.int (Int8.ofInt 30).toInt32, .int (nI f)] h1 rfl ?_
    refine rx_T.br2 (M := rxm_27) 22 rfl rfl (by decide) (fun r => ?_) (fun r => ?_)
    · have z : (nI f).toInt < ((Int8.ofInt 30).toInt32).toInt := Int32.lt_iff_toInt_lt.mp (of_decide_eq_true r)
      rw [show ((Int8.ofInt 30).toInt32).toInt = 30 by decide +kernel, nI_toInt (by omega)] at z
      have hf : f < 30 := by omega
      refine rx_T.to 1 23 [(2, .int (nI (K * 16777216 + rx_pk p c))), (0, .ref 16), (1, .int (nI K))] [.ref 16] h1 rfl ?_
      refine rx_T.gfr (M := rxm_27) (k := 0) rfl rfl rfl hh1 rfl rfl ?_
      refine rx_T.to 1 27 [(2, .int (nI (K * 16777216 + rx_pk p c))), (0, .ref 16), (1, .int (nI K))] [.int (nI (K * 16777216 + rx_pk p c)), .ref 17] h1 rfl ?_
      refine rx_T.callk (M := rxm_27) (N := rxm_18) (j := 18) (nest := 0) (k := 1) (as' := [.int (nI (K * 16777216 + rx_pk p c))]) (rest := []) rfl rfl rfl rfl rfl rfl rfl rfl rfl (Nat.le_of_ble_eq_true rfl) (Nat.le_of_ble_eq_true rfl) hh1 (show 19 + 6 ≤ w by omega) (rx_xholds2 (d := d + 1) hK6 hok.1 H.2.2.1 H.2.2.2.1 (show 80 ≤ w - (19 + 6) by omega) hh1) ?_
      intro v2 h2 hp
      obtain ⟨hp, e2⟩ := hp
      rw [hvc] at hp
      rw [e2]
      rcases hp with ⟨rfl, hv⟩ | ⟨rfl, hv⟩
      · refine rx_T.op (M := rxm_27) (ins := .ifCond .ne 6) rfl rfl rfl rfl (rx_b1_t 36 (by decide) (by decide)) ?_
        refine rx_T.to 1 37 [(2, .int (nI (K * 16777216 + rx_pk p c))), (0, .ref 16), (1, .int (nI K))] [.ref 16] h1 rfl ?_
        refine rx_T.gfF (M := rxm_27) (k := 0) rfl rfl rfl hh1 rfl rfl ?_
        rw [e31]
        refine rx_T.to 2 42 [(3, .int (nI f)), (2, .int (nI (K * 16777216 + rx_pk p c))), (0, .ref 16), (1, .int (nI K))] [.ref 16] h1 rfl ?_
        refine rx_T.gfr (M := rxm_27) (k := 0) rfl rfl rfl hh1 rfl rfl ?_
        refine rx_T.to 2 47 [(3, .int (nI f)), (2, .int (nI (K * 16777216 + rx_pk p c))), (0, .ref 16), (1, .int (nI K))] [.int (nI (K * 16777216 + rx_pk p c)), .int (nI f), .ref 20] h1 rfl ?_
        refine rx_T.iaW (M := rxm_27) (k := 4) rfl rfl hh1 rfl (show f < 30 by omega) (by decide) (rxi_lo _) (rxi_hi _) (fun h3 hh3 v3 z3 => ?_)
        refine rx_T.to 2 50 [(3, .int (nI f)), (2, .int (nI (K * 16777216 + rx_pk p c))), (0, .ref 16), (1, .int (nI K))] [.ref 16, .ref 16] h3 rfl ?_
        refine rx_T.gfF (M := rxm_27) (k := 0) rfl rfl rfl hh3 rfl rfl ?_
        refine rx_T.to 4 57 [(3, .int (nI f)), (2, .int (nI (K * 16777216 + rx_pk p c))), (0, .ref 16), (1, .int (nI K))] [.int ((rx_gF h3 0 4) ||| (1 <<< ((nI f) &&& 31))), .ref 16] h3 rfl ?_
        refine rx_T.pfF (M := rxm_27) (k := 0) rfl rfl rfl hh3 rfl rfl rfl (rxi_lo _) (rxi_hi _) (fun h4 hh4 v4 f4 z4 => ?_)
        have e34 : rx_gF h4 0 3 = nI f := (f4 3 (by decide)).trans ((rx_gF_of (z3 0 (by decide))).trans e31)
        refine rx_T.to 2 62 [(3, .int (nI f)), (2, .int (nI (K * 16777216 + rx_pk p c))), (0, .ref 16), (1, .int (nI K))] [.ref 16, .ref 16] h4 rfl ?_
        refine rx_T.gfF (M := rxm_27) (k := 0) rfl rfl rfl hh4 rfl rfl ?_
        rw [e34]
        refine rx_T.to 2 67 [(3, .int (nI f)), (2, .int (nI (K * 16777216 + rx_pk p c))), (0, .ref 16), (1, .int (nI K))] [.int ((nI f) + 1), .ref 16] h4 rfl ?_
        rw [show nI f + 1 = nI (f + 1) from nI_1 f]
        refine rx_T.pfF (M := rxm_27) (k := 0) rfl rfl rfl hh4 rfl rfl rfl (by rw [nI_toInt (by omega)]; omega) (by rw [nI_toInt (by omega)]; omega) (fun h5 hh5 v5 f5 z5 => ?_)
        refine rx_T.to 1 71 [(3, .int (nI f)), (2, .int (nI (K * 16777216 + rx_pk p c))), (0, .ref 16), (1, .int (nI K))] [.int (nI f)] h5 rfl ?_
        exact rx_T.ret (M := rxm_27) (v := some (.int (nI f))) rfl rfl rfl ⟨hh5, fun z hz => by rw [z5 z (by omega), z4 z (by omega), z3 z (by omega)]; exact hK1.1 z hz, ⟨by rw [f5 6 (by decide), f4 6 (by decide), rx_gF_of (z3 0 (by decide))]; exact hD1.1, by rw [f5 7 (by decide), f4 7 (by decide), rx_gF_of (z3 0 (by decide))]; exact hD1.2⟩, Or.inl ⟨K, hK6, rfl, hok, hf, Or.inl ⟨rfl, hv, v5⟩⟩⟩
      · refine rx_T.op (M := rxm_27) (ins := .ifCond .ne 6) rfl rfl rfl rfl (rx_b1_f (by decide) (by decide)) ?_
        refine rx_T.to 1 35 [(2, .int (nI (K * 16777216 + rx_pk p c))), (0, .ref 16), (1, .int (nI K))] [.int (Int8.ofInt (-2)).toInt32] h1 rfl ?_
        exact rx_T.ret (M := rxm_27) (v := some (.int (-2))) rfl rfl rfl ⟨hh1, hK1.1, hD1, Or.inl ⟨K, hK6, rfl, hok, hf, Or.inr ⟨rfl, hv, e31⟩⟩⟩
    · have z : ¬ (nI f).toInt < ((Int8.ofInt 30).toInt32).toInt := fun z => of_decide_eq_false r (Int32.lt_iff_toInt_lt.mpr z)
      rw [show ((Int8.ofInt 30).toInt32).toInt = 30 by decide +kernel, nI_toInt (by omega)] at z
      refine rx_T.to 1 21 [(2, .int (nI (K * 16777216 + rx_pk p c))), (0, .ref 16), (1, .int (nI K))] [.int (-1)] h1 rfl ?_
      exact rx_T.ret (M := rxm_27) (v := some (.int (-1))) rfl rfl rfl ⟨hh1, hK1.1, hD1, Or.inr ⟨Or.inr (by omega), rfl, e31⟩⟩
  · refine rx_T.to 3 8 [(2, .int (-1)), (0, .ref 16), (1, .int k)] [.int (-1), .int (-1)] h1 rfl ?_
    refine rx_T.op (M := rxm_27) (ins := .if_icmp .eq 12) rfl rfl rfl rfl (rx_b2_t 20 (by decide) (by decide)) ?_
    refine rx_T.to 1 21 [(2, .int (-1)), (0, .ref 16), (1, .int k)] [.int (-1)] h1 rfl ?_
    exact rx_T.ret (M := rxm_27) (v := some (.int (-1))) rfl rfl rfl ⟨hh1, hK1.1, hD1, Or.inr ⟨Or.inl hno, rfl, hK1.2.trans H.2.2.2.2.1⟩⟩
set_option maxRecDepth 100000 in
set_option maxHeartbeats 4000000 in
theorem rx_xturn2 {h : rx_H} {k o : Int32} {f c : Nat} {p : Nat → Nat} (H : rx_CX h f c p) : rx_T rx_cds rx_ms rx_lk0 rt d w 28 0 [(0, .ref 16), (1, .int k), (2, .int o)] [] h (fun v h' => (v = some (.int 1) ∧ (∃ a, a < f ∧ k = nI a) ∧ rx_hin rx_I0 h' ∧ rx_KX h h' ∧ rx_DXs h h') ∨ (v = some (.int 0) ∧ ¬ (∃ a, a < f ∧ k = nI a) ∧ h' = h)) := by
  have hf30 := H.2.1
  have hh := H.1
  have e31 := H.2.2.2.2.1
  refine rx_T.to 1 1 [(0, .ref 16), (1, .int k), (2, .int o)] [.int k] h rfl ?_
  refine rx_T.br1 (M := rxm_28) 12 rfl rfl (by decide) (fun q => ?_) (fun q1 => ?_)
  · have z : k.toInt < 0 := Int32.lt_iff_toInt_lt.mp (of_decide_eq_true q)
    refine rx_T.to 1 13 [(0, .ref 16), (1, .int k), (2, .int o)] [.int 0] h rfl ?_
    refine rx_T.ret (M := rxm_28) (v := some (.int 0)) rfl rfl rfl (Or.inr ⟨rfl, fun y => ?_, rfl⟩)
    obtain ⟨a, ha, rfl⟩ := y
    rw [nI_toInt (by omega)] at z
    omega
  · have z1 : ¬ k.toInt < 0 := fun z => of_decide_eq_false q1 (Int32.lt_iff_toInt_lt.mpr z)
    refine rx_T.to 2 6 [(0, .ref 16), (1, .int k), (2, .int o)] [.ref 16, .int k] h rfl ?_
    refine rx_T.gfF (M := rxm_28) (k := 0) rfl rfl rfl hh rfl rfl ?_
    rw [e31]
    refine rx_T.br2 (M := rxm_28) 14 rfl rfl (by decide) (fun q => ?_) (fun q2 => ?_)
    · have z : k.toInt < (nI f).toInt := Int32.lt_iff_toInt_lt.mp (of_decide_eq_true q)
      rw [nI_toInt (by omega)] at z
      have hin : ∃ a, a < f ∧ k = nI a := by
        obtain ⟨a, rfl, ha⟩ := rx_nIof (n := 30) (x := k) (by omega) (by omega)
        rw [nI_toInt (by omega)] at z
        exact ⟨a, by omega, rfl⟩
      refine rx_T.to 6 20 [(3, .int (1 <<< (k &&& 31))), (0, .ref 16), (1, .int k), (2, .int o)] [.int o, .ref 16] h rfl ?_
      refine rx_T.br1 (M := rxm_28) 32 rfl rfl (by decide) (fun q3 => ?_) (fun q3 => ?_)
      · refine rx_T.to 1 33 [(3, .int (1 <<< (k &&& 31))), (0, .ref 16), (1, .int k), (2, .int o)] [.ref 16, .ref 16] h rfl ?_
        refine rx_T.gfF (M := rxm_28) (k := 0) rfl rfl rfl hh rfl rfl ?_
        refine rx_T.to 4 40 [(3, .int (1 <<< (k &&& 31))), (0, .ref 16), (1, .int k), (2, .int o)] [.int ((rx_gF h 0 4) &&& ((1 <<< (k &&& 31)) ^^^ (-1))), .ref 16] h rfl ?_
        refine rx_T.pfF (M := rxm_28) (k := 0) rfl rfl rfl hh rfl rfl rfl (rxi_lo _) (rxi_hi _) (fun h2 hh2 v2 f2 z2 => ?_)
        refine rx_T.to 1 44 [(3, .int (1 <<< (k &&& 31))), (0, .ref 16), (1, .int k), (2, .int o)] [.int 1] h2 rfl ?_
        exact rx_T.ret (M := rxm_28) (v := some (.int 1)) rfl rfl rfl (Or.inl ⟨rfl, hin, hh2, ⟨fun z hz => z2 z (by omega), f2 3 (by decide)⟩, f2 6 (by decide), f2 7 (by decide)⟩)
      · refine rx_T.to 1 24 [(3, .int (1 <<< (k &&& 31))), (0, .ref 16), (1, .int k), (2, .int o)] [.ref 16, .ref 16] h rfl ?_
        refine rx_T.gfF (M := rxm_28) (k := 0) rfl rfl rfl hh rfl rfl ?_
        refine rx_T.to 3 40 [(3, .int (1 <<< (k &&& 31))), (0, .ref 16), (1, .int k), (2, .int o)] [.int ((rx_gF h 0 4) ||| (1 <<< (k &&& 31))), .ref 16] h rfl ?_
        refine rx_T.pfF (M := rxm_28) (k := 0) rfl rfl rfl hh rfl rfl rfl (rxi_lo _) (rxi_hi _) (fun h2 hh2 v2 f2 z2 => ?_)
        refine rx_T.to 1 44 [(3, .int (1 <<< (k &&& 31))), (0, .ref 16), (1, .int k), (2, .int o)] [.int 1] h2 rfl ?_
        exact rx_T.ret (M := rxm_28) (v := some (.int 1)) rfl rfl rfl (Or.inl ⟨rfl, hin, hh2, ⟨fun z hz => z2 z (by omega), f2 3 (by decide)⟩, f2 6 (by decide), f2 7 (by decide)⟩)
    · have z : ¬ k.toInt < (nI f).toInt := fun z => of_decide_eq_false q2 (Int32.lt_iff_toInt_lt.mpr z)
      rw [nI_toInt (by omega)] at z
      refine rx_T.to 1 13 [(0, .ref 16), (1, .int k), (2, .int o)] [.int 0] h rfl ?_
      refine rx_T.ret (M := rxm_28) (v := some (.int 0)) rfl rfl rfl (Or.inr ⟨rfl, fun y => ?_, rfl⟩)
      obtain ⟨a, ha, rfl⟩ := y
      rw [nI_toInt (by omega)] at z
      omega
end RXPY
