section RXTK
variable {rt : rx_R} {d w : Nat} {P : Option Value → rx_H → Prop}
/-- which two places must differ -/
def rx_ap (k i j : Nat) : Prop := k = 0 ∨ k = 3 ∨ k = 5 ∨ (i % 2 = 0 ∧ j = i + 1)
/-- THE DRAFT is a FACT of a kind -/
def rx_OK (k c : Nat) (p : Nat → Nat) : Prop := c = rx_po k ∧ ∀ i j, i < j → j < c → rx_ap k i j → ¬ p i = p j
def rx_pk (p : Nat → Nat) : Nat → Nat
  | 0 => 0
  | k + 1 => rx_pk p k + p k * 8 ^ k
theorem rx_pk_lt {p : Nat → Nat} : ∀ k : Nat, (∀ i, i < k → p i < 8) → rx_pk p k < 8 ^ k
  | 0, _ => (by show 0 < 1; decide)
  | k + 1, h => by
    have h1 := rx_pk_lt k (fun i hi => h i (by omega))
    have h2 := h k (by omega)
    have h3 : p k * 8 ^ k ≤ 7 * 8 ^ k := Nat.mul_le_mul_right _ (by omega)
    show rx_pk p k + p k * 8 ^ k < 8 ^ (k + 1)
    rw [Nat.pow_succ]
    omega
theorem rx_pk_c {p q : Nat → Nat} : ∀ k : Nat, (∀ i, i < k → p i = q i) → rx_pk p k = rx_pk q k
  | 0, _ => rfl
  | k + 1, h => by
    show rx_pk p k + p k * 8 ^ k = rx_pk q k + q k * 8 ^ k
    rw [rx_pk_c k (fun i hi => h i (by omega)), h k (by omega)]
def rx_bo (p : Nat → Nat) : Nat → Int32
  | 0 => 0
  | k + 1 => rx_bo p k ||| ((1 : Int32) <<< (nI (p k) &&& 31))
abbrev rx_u (x k : Int32) : Int32 := (x.toUInt32 >>> (k.toUInt32 &&& Int32.toUInt32 31)).toInt32
def rx_q1 (x : Int32) : Int32 := x - (rx_u x 1 &&& 1431655765)
def rx_q2 (x : Int32) : Int32 := (x &&& 858993459) + (rx_u x 2 &&& 858993459)
def rx_q3 (x : Int32) : Int32 := (x + rx_u x 4) &&& 252645135
def rx_q4 (x : Int32) : Int32 := x + rx_u x (Int8.ofInt 8).toInt32
def rx_q5 (x : Int32) : Int32 := x + rx_u x (Int8.ofInt 16).toInt32
def rx_bcf (x : Int32) : Int32 := rx_q5 (rx_q4 (rx_q3 (rx_q2 (rx_q1 x)))) &&& (Int8.ofInt 63).toInt32
set_option maxRecDepth 100000 in
theorem rx_bc3 : ∀ a : Nat, a < 7 → ∀ b : Nat, b < 7 → ∀ c : Nat, c < 7 → (rx_bcf ((((0 : Int32) ||| ((1 : Int32) <<< (nI a &&& 31))) ||| ((1 : Int32) <<< (nI b &&& 31))) ||| ((1 : Int32) <<< (nI c &&& 31))) = nI 3 ↔ (¬ a = b ∧ ¬ a = c ∧ ¬ b = c)) := by decide +kernel
def rx_d4 (a b c e : Nat) : Bool := decide (¬ a = b) && (decide (¬ a = c) && (decide (¬ a = e) && (decide (¬ b = c) && (decide (¬ b = e) && decide (¬ c = e)))))
theorem rx_d4_e {a b c e : Nat} : rx_d4 a b c e = true ↔ (¬ a = b ∧ ¬ a = c ∧ ¬ a = e ∧ ¬ b = c ∧ ¬ b = e ∧ ¬ c = e) := by
  unfold rx_d4
  simp only [Bool.and_eq_true, decide_eq_true_eq]
set_option maxRecDepth 100000 in
theorem rx_bc4k : ∀ a : Nat, a < 7 → ∀ b : Nat, b < 7 → ∀ c : Nat, c < 7 → ∀ e : Nat, e < 7 → decide (rx_bcf (((((0 : Int32) ||| ((1 : Int32) <<< (nI a &&& 31))) ||| ((1 : Int32) <<< (nI b &&& 31))) ||| ((1 : Int32) <<< (nI c &&& 31))) ||| ((1 : Int32) <<< (nI e &&& 31))) = nI 4) = rx_d4 a b c e := by decide +kernel
theorem rx_bc4 (a : Nat) (ha : a < 7) (b : Nat) (hb : b < 7) (c : Nat) (hc : c < 7) (e : Nat) (he : e < 7) : (rx_bcf (((((0 : Int32) ||| ((1 : Int32) <<< (nI a &&& 31))) ||| ((1 : Int32) <<< (nI b &&& 31))) ||| ((1 : Int32) <<< (nI c &&& 31))) ||| ((1 : Int32) <<< (nI e &&& 31))) = nI 4 ↔ (¬ a = b ∧ ¬ a = c ∧ ¬ a = e ∧ ¬ b = c ∧ ¬ b = e ∧ ¬ c = e)) := by
  have k := rx_bc4k a ha b hb c hc e he
  rw [← rx_d4_e, ← k]
  exact decide_eq_true_iff.symm
set_option maxRecDepth 100000 in
set_option maxHeartbeats 4000000 in
theorem rx_bitCount {x : Int32} {h : rx_H} : rx_T rx_cds rx_ms rx_lk0 rt d w 16 0 [(0, .int x)] [] h (fun v h' => v = some (.int (rx_bcf x)) ∧ h' = h) := by
  refine rx_T.to 8 10 [(0, .int (rx_q1 x))] [] h rfl ?_
  refine rx_T.to 10 24 [(0, .int (rx_q2 (rx_q1 x)))] [] h rfl ?_
  refine rx_T.to 8 34 [(0, .int (rx_q3 (rx_q2 (rx_q1 x))))] [] h rfl ?_
  refine rx_T.to 6 41 [(0, .int (rx_q4 (rx_q3 (rx_q2 (rx_q1 x)))))] [] h rfl ?_
  refine rx_T.to 6 48 [(0, .int (rx_q5 (rx_q4 (rx_q3 (rx_q2 (rx_q1 x))))))] [] h rfl ?_
  refine rx_T.to 3 52 [(0, .int (rx_q5 (rx_q4 (rx_q3 (rx_q2 (rx_q1 x))))))] [.int (rx_bcf x)] h rfl ?_
  exact rx_T.ret (M := rxm_16) (v := some (.int (rx_bcf x))) rfl rfl rfl ⟨rfl, rfl⟩
set_option maxRecDepth 100000 in
set_option maxHeartbeats 4000000 in
theorem rx_bo_l {F c : Nat} {h : rx_H} (hF : F < 2147483648) (hc : c ≤ 8) (hw : 21 ≤ w) : ∀ (q i : Nat), i + q = c →
    rx_T rx_cds rx_ms rx_lk0 rt (d + 1) w 14 4 [(3, .int (nI i)), (2, .int (rx_bo (fun i => F / 8 ^ i % 8) i)), (1, .int (nI c)), (0, .int (nI F))] [] h (fun v h' => v = some (.int (rx_bo (fun i => F / 8 ^ i % 8) c)) ∧ h' = h) := by
  intro q
  induction q with
  | zero =>
    intro i hi
    have ei : i = c := by omega
    subst ei
    refine rx_T.to 2 6 [(3, .int (nI i)), (2, .int (rx_bo (fun i => F / 8 ^ i % 8) i)), (1, .int (nI i)), (0, .int (nI F))] [.int (nI i), .int (nI i)] h rfl ?_
    refine rx_T.op (M := rxm_14) (ins := .if_icmp .ge 19) rfl rfl rfl rfl (rx_b2_t 25 (decide_eq_true (nI_le (Nat.le_refl i) (by omega))) (by decide)) ?_
    refine rx_T.to 1 26 [(3, .int (nI i)), (2, .int (rx_bo (fun i => F / 8 ^ i % 8) i)), (1, .int (nI i)), (0, .int (nI F))] [.int (rx_bo (fun i => F / 8 ^ i % 8) i)] h rfl ?_
    exact rx_T.ret (M := rxm_14) (v := some (.int (rx_bo (fun i => F / 8 ^ i % 8) i))) rfl rfl rfl ⟨rfl, rfl⟩
  | succ q ih =>
    intro i hi
    have hic : i < c := by omega
    refine rx_T.to 2 6 [(3, .int (nI i)), (2, .int (rx_bo (fun i => F / 8 ^ i % 8) i)), (1, .int (nI c)), (0, .int (nI F))] [.int (nI c), .int (nI i)] h rfl ?_
    refine rx_T.op (M := rxm_14) (ins := .if_icmp .ge 19) rfl rfl rfl rfl (rx_b2_f (decide_eq_false (nI_ge hic (by omega))) (by decide)) ?_
    refine rx_T.to 4 13 [(3, .int (nI i)), (2, .int (rx_bo (fun i => F / 8 ^ i % 8) i)), (1, .int (nI c)), (0, .int (nI F))] [.int (nI i), .int (nI F), .int 1, .int (rx_bo (fun i => F / 8 ^ i % 8) i)] h rfl ?_
    refine rx_T.call (M := rxm_14) (N := rxm_15) (j := 15) (as := [.int (nI F), .int (nI i)]) (rest := [.int 1, .int (rx_bo (fun i => F / 8 ^ i % 8) i)]) rfl rfl rfl rfl rfl (show 19 + 2 ≤ w by omega) (rx_at (i := i) hF (by omega)) ?_
    intro v1 h1 hp1
    obtain ⟨rfl, e1⟩ := hp1
    rw [e1]
    refine rx_T.to 5 4 [(3, .int ((nI i) + Int32.ofInt 1)), (2, .int ((rx_bo (fun i => F / 8 ^ i % 8) i) ||| (1 <<< ((nI (F / 8 ^ i % 8)) &&& 31)))), (1, .int (nI c)), (0, .int (nI F))] [] h rfl ?_
    refine rx_T.lv [(3, .int ((nI i) + Int32.ofInt 1)), (2, .int ((rx_bo (fun i => F / 8 ^ i % 8) i) ||| (1 <<< ((nI (F / 8 ^ i % 8)) &&& 31)))), (1, .int (nI c)), (0, .int (nI F))] (((((rx_lvl.nil _).cons rfl rfl).cons rfl rfl).cons rfl rfl).cons rfl rfl) ?_
    rw [show nI i + Int32.ofInt 1 = nI (i + 1) from nI_1 i]
    exact ih (i + 1) (by omega)
theorem rx_bitsOf {F c : Nat} {h : rx_H} (hF : F < 2147483648) (hc : c ≤ 8) (hw : 21 ≤ w) : rx_T rx_cds rx_ms rx_lk0 rt (d + 1) w 14 0 [(0, .int (nI F)), (1, .int (nI c))] [] h (fun v h' => v = some (.int (rx_bo (fun i => F / 8 ^ i % 8) c)) ∧ h' = h) := by
  refine rx_T.to 4 4 [(3, .int (nI 0)), (2, .int (rx_bo (fun i => F / 8 ^ i % 8) 0)), (0, .int (nI F)), (1, .int (nI c))] [] h rfl ?_
  refine rx_T.lv [(3, .int (nI 0)), (2, .int (rx_bo (fun i => F / 8 ^ i % 8) 0)), (1, .int (nI c)), (0, .int (nI F))] (((((rx_lvl.nil _).cons rfl rfl).cons rfl rfl).cons rfl rfl).cons rfl rfl) ?_
  exact rx_bo_l hF hc hw c 0 (by omega)
set_option maxRecDepth 100000 in
set_option maxHeartbeats 4000000 in
theorem rx_hp_l {F c : Nat} {h : rx_H} (hF : F < 2147483648) (hc : c ≤ 8) (hw : 21 ≤ w) : ∀ (q i : Nat), 2 * i + 2 * q = c → (∀ j, j < i → ¬ F / 8 ^ (2 * j) % 8 = F / 8 ^ (2 * j + 1) % 8) →
    rx_T rx_cds rx_ms rx_lk0 rt (d + 1) w 17 2 [(2, .int (nI (2 * i))), (1, .int (nI c)), (0, .int (nI F))] [] h (fun v h' => ((v = some (.int 1) ∧ (∀ j, 2 * j + 1 < c → ¬ F / 8 ^ (2 * j) % 8 = F / 8 ^ (2 * j + 1) % 8)) ∨ (v = some (.int 0) ∧ ¬ (∀ j, 2 * j + 1 < c → ¬ F / 8 ^ (2 * j) % 8 = F / 8 ^ (2 * j + 1) % 8))) ∧ h' = h) := by
  intro q
  induction q with
  | zero =>
    intro i hi hj
    refine rx_T.to 4 6 [(2, .int (nI (2 * i))), (1, .int (nI c)), (0, .int (nI F))] [.int (nI c), .int ((nI (2 * i)) + 1)] h rfl ?_
    rw [show nI (2 * i) + 1 = nI (2 * i + 1) from nI_1 (2 * i)]
    refine rx_T.op (M := rxm_17) (ins := .if_icmp .ge 26) rfl rfl rfl rfl (rx_b2_t 32 (decide_eq_true (nI_le (by omega) (by omega))) (by decide)) ?_
    refine rx_T.to 1 33 [(2, .int (nI (2 * i))), (1, .int (nI c)), (0, .int (nI F))] [.int 1] h rfl ?_
    exact rx_T.ret (M := rxm_17) (v := some (.int 1)) rfl rfl rfl ⟨Or.inl ⟨rfl, fun j hj2 => hj j (by omega)⟩, rfl⟩
  | succ q ih =>
    intro i hi hj
    refine rx_T.to 4 6 [(2, .int (nI (2 * i))), (1, .int (nI c)), (0, .int (nI F))] [.int (nI c), .int ((nI (2 * i)) + 1)] h rfl ?_
    rw [show nI (2 * i) + 1 = nI (2 * i + 1) from nI_1 (2 * i)]
    refine rx_T.op (M := rxm_17) (ins := .if_icmp .ge 26) rfl rfl rfl rfl (rx_b2_f (decide_eq_false (nI_ge (by omega) (by omega))) (by decide)) ?_
    refine rx_T.to 2 11 [(2, .int (nI (2 * i))), (1, .int (nI c)), (0, .int (nI F))] [.int (nI (2 * i)), .int (nI F)] h rfl ?_
    refine rx_T.call (M := rxm_17) (N := rxm_15) (j := 15) (as := [.int (nI F), .int (nI (2 * i))]) (rest := []) rfl rfl rfl rfl rfl (show 19 + 2 ≤ w by omega) (rx_at (i := 2 * i) hF (by omega)) ?_
    intro v1 h1 hp1
    obtain ⟨rfl, e1⟩ := hp1
    rw [e1]
    refine rx_T.to 4 18 [(2, .int (nI (2 * i))), (1, .int (nI c)), (0, .int (nI F))] [.int ((nI (2 * i)) + 1), .int (nI F), .int (nI (F / 8 ^ (2 * i) % 8))] h rfl ?_
    rw [show nI (2 * i) + 1 = nI (2 * i + 1) from nI_1 (2 * i)]
    refine rx_T.call (M := rxm_17) (N := rxm_15) (j := 15) (as := [.int (nI F), .int (nI (2 * i + 1))]) (rest := [.int (nI (F / 8 ^ (2 * i) % 8))]) rfl rfl rfl rfl rfl (show 19 + 2 ≤ w by omega) (rx_at (i := 2 * i + 1) hF (by omega)) ?_
    intro v2 h2 hp2
    obtain ⟨rfl, e2⟩ := hp2
    rw [e2]
    refine rx_T.br2 (M := rxm_17) 26 rfl rfl (by decide) (fun q0 => ?_) (fun q0 => ?_)
    · have z : ¬ F / 8 ^ (2 * i) % 8 = F / 8 ^ (2 * i + 1) % 8 := fun y => by
        rw [y] at q0
        simp [rx_c2] at q0
      refine rx_T.to 2 2 [(2, .int ((nI (2 * i)) + Int32.ofInt 2)), (1, .int (nI c)), (0, .int (nI F))] [] h rfl ?_
      rw [show nI (2 * i) + Int32.ofInt 2 = nI (2 * (i + 1)) from nI_add (2 * i) 2]
      refine ih (i + 1) (by omega) (fun j hj2 => ?_)
      by_cases ej : j = i
      · rw [ej]
        exact z
      · exact hj j (by omega)
    · have z : nI (F / 8 ^ (2 * i) % 8) = nI (F / 8 ^ (2 * i + 1) % 8) := by simpa [rx_c2] using q0
      have z2 : F / 8 ^ (2 * i) % 8 = F / 8 ^ (2 * i + 1) % 8 := by
        have := congrArg Int32.toInt z
        rw [nI_toInt (by omega), nI_toInt (by omega)] at this
        omega
      refine rx_T.to 1 25 [(2, .int (nI (2 * i))), (1, .int (nI c)), (0, .int (nI F))] [.int 0] h rfl ?_
      exact rx_T.ret (M := rxm_17) (v := some (.int 0)) rfl rfl rfl ⟨Or.inr ⟨rfl, fun y => y i (by omega) z2⟩, rfl⟩
theorem rx_hpt {F c : Nat} {h : rx_H} (hF : F < 2147483648) (hc : c ≤ 8) (he : c % 2 = 0) (hw : 21 ≤ w) : rx_T rx_cds rx_ms rx_lk0 rt (d + 1) w 17 0 [(0, .int (nI F)), (1, .int (nI c))] [] h (fun v h' => ((v = some (.int 1) ∧ (∀ j, 2 * j + 1 < c → ¬ F / 8 ^ (2 * j) % 8 = F / 8 ^ (2 * j + 1) % 8)) ∨ (v = some (.int 0) ∧ ¬ (∀ j, 2 * j + 1 < c → ¬ F / 8 ^ (2 * j) % 8 = F / 8 ^ (2 * j + 1) % 8))) ∧ h' = h) := by
  refine rx_T.to 2 2 [(2, .int (nI (2 * 0))), (0, .int (nI F)), (1, .int (nI c))] [] h rfl ?_
  refine rx_T.lv [(2, .int (nI (2 * 0))), (1, .int (nI c)), (0, .int (nI F))] ((((rx_lvl.nil _).cons rfl rfl).cons rfl rfl).cons rfl rfl) ?_
  exact rx_hp_l hF hc hw (c / 2) 0 (by omega) (fun j hj => absurd hj (by omega))
/-- the packed FACT, place by place -/
theorem rx_pk3 {p : Nat → Nat} {K : Nat} (h : ∀ i, i < 3 → p i < 7) : ∀ i, i < 3 → (K * 16777216 + rx_pk p 3) / 8 ^ i % 8 = p i := by
  have e : rx_pk p 3 = ((0 + p 0 * 1) + p 1 * 8) + p 2 * 64 := rfl
  have h0 := h 0 (by decide)
  have h1 := h 1 (by decide)
  have h2 := h 2 (by decide)
  intro i hi
  match i, hi with
  | 0, _ => show (K * 16777216 + rx_pk p 3) / 1 % 8 = p 0; omega
  | 1, _ => show (K * 16777216 + rx_pk p 3) / 8 % 8 = p 1; omega
  | 2, _ => show (K * 16777216 + rx_pk p 3) / 64 % 8 = p 2; omega
theorem rx_pk4 {p : Nat → Nat} {K : Nat} (h : ∀ i, i < 4 → p i < 7) : ∀ i, i < 4 → (K * 16777216 + rx_pk p 4) / 8 ^ i % 8 = p i := by
  have e : rx_pk p 4 = (((0 + p 0 * 1) + p 1 * 8) + p 2 * 64) + p 3 * 512 := rfl
  have h0 := h 0 (by decide)
  have h1 := h 1 (by decide)
  have h2 := h 2 (by decide)
  have h3 := h 3 (by decide)
  intro i hi
  match i, hi with
  | 0, _ => show (K * 16777216 + rx_pk p 4) / 1 % 8 = p 0; omega
  | 1, _ => show (K * 16777216 + rx_pk p 4) / 8 % 8 = p 1; omega
  | 2, _ => show (K * 16777216 + rx_pk p 4) / 64 % 8 = p 2; omega
  | 3, _ => show (K * 16777216 + rx_pk p 4) / 512 % 8 = p 3; omega
theorem rx_pk8 {p : Nat → Nat} {K : Nat} (h : ∀ i, i < 8 → p i < 7) : ∀ i, i < 8 → (K * 16777216 + rx_pk p 8) / 8 ^ i % 8 = p i := by
  have e : rx_pk p 8 = (((((((0 + p 0 * 1) + p 1 * 8) + p 2 * 64) + p 3 * 512) + p 4 * 4096) + p 5 * 32768) + p 6 * 262144) + p 7 * 2097152 := rfl
  have h0 := h 0 (by decide)
  have h1 := h 1 (by decide)
  have h2 := h 2 (by decide)
  have h3 := h 3 (by decide)
  have h4 := h 4 (by decide)
  have h5 := h 5 (by decide)
  have h6 := h 6 (by decide)
  have h7 := h 7 (by decide)
  intro i hi
  match i, hi with
  | 0, _ => show (K * 16777216 + rx_pk p 8) / 1 % 8 = p 0; omega
  | 1, _ => show (K * 16777216 + rx_pk p 8) / 8 % 8 = p 1; omega
  | 2, _ => show (K * 16777216 + rx_pk p 8) / 64 % 8 = p 2; omega
  | 3, _ => show (K * 16777216 + rx_pk p 8) / 512 % 8 = p 3; omega
  | 4, _ => show (K * 16777216 + rx_pk p 8) / 4096 % 8 = p 4; omega
  | 5, _ => show (K * 16777216 + rx_pk p 8) / 32768 % 8 = p 5; omega
  | 6, _ => show (K * 16777216 + rx_pk p 8) / 262144 % 8 = p 6; omega
  | 7, _ => show (K * 16777216 + rx_pk p 8) / 2097152 % 8 = p 7; omega
theorem rx_pkK {p : Nat → Nat} {K : Nat} (hK : K ≤ 6) (h : ∀ i, i < rx_po K → p i < 7) : ∀ i, i < rx_po K → (K * 16777216 + rx_pk p (rx_po K)) / 8 ^ i % 8 = p i := by
  match K, hK, h with
  | 0, _, h => exact rx_pk3 h
  | 1, _, h => exact rx_pk4 h
  | 2, _, h => exact rx_pk4 h
  | 3, _, h => exact rx_pk4 h
  | 4, _, h => exact rx_pk4 h
  | 5, _, h => exact rx_pk3 h
  | 6, _, h => exact rx_pk8 h
/-- a number and what stands above it -/
theorem rx_or_add {a b s : Nat} (hb : b < 2 ^ s) (ha : a * 2 ^ s + b < 2147483648) : nI (a * 2 ^ s) ||| nI b = nI (a * 2 ^ s + b) := by
  apply Int32.toBitVec_inj.mp
  apply BitVec.eq_of_toNat_eq
  rw [Int32.toBitVec_or, BitVec.toNat_or]
  show (BitVec.ofNat 32 (a * 2 ^ s)).toNat ||| (BitVec.ofNat 32 b).toNat = (BitVec.ofNat 32 (a * 2 ^ s + b)).toNat
  rw [BitVec.toNat_ofNat, BitVec.toNat_ofNat, BitVec.toNat_ofNat, Nat.mod_eq_of_lt (show a * 2 ^ s < 2 ^ 32 by omega), Nat.mod_eq_of_lt (show b < 2 ^ 32 by omega), Nat.mod_eq_of_lt (show a * 2 ^ s + b < 2 ^ 32 by omega)]
  have h1 := Nat.shiftLeft_add_eq_or_of_lt hb a
  rw [Nat.shiftLeft_eq] at h1
  exact h1.symm
end RXTK
