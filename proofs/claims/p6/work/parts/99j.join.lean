section RXJN
variable {rt : rx_R} {d w : Nat} {P : Option Value → rx_H → Prop}
/-- a bit of a set -/
def rx_hb (x k : Int32) : Int32 := if (x >>> (k &&& 31)) &&& Int32.ofInt 1 = Int32.ofInt 1 then 1 else 0
set_option maxRecDepth 100000 in
set_option maxHeartbeats 4000000 in
theorem rx_has_t {x k : Int32} {h : rx_H} : rx_T rx_cds rx_ms rx_lk0 rt d w 121 0 [(0, .int x), (1, .int k)] [] h (fun v h' => v = some (.int (rx_hb x k)) ∧ h' = h) := by
  refine rx_T.to 6 6 [(0, .int x), (1, .int k)] [.int (Int32.ofInt 1), .int ((x >>> (k &&& 31)) &&& Int32.ofInt 1)] h rfl ?_
  refine rx_T.br2 (M := rxm_121) 13 rfl rfl (by decide) (fun h1 => ?_) (fun h1 => ?_)
  · refine rx_T.to 1 14 [(0, .int x), (1, .int k)] [.int 0] h rfl ?_
    have q : ¬ (x >>> (k &&& 31)) &&& Int32.ofInt 1 = Int32.ofInt 1 := by simpa [rx_c2] using h1
    exact rx_T.ret (M := rxm_121) (v := some (.int 0)) rfl rfl rfl ⟨by unfold rx_hb; rw [if_neg q], rfl⟩
  · refine rx_T.to 2 14 [(0, .int x), (1, .int k)] [.int 1] h rfl ?_
    have q : (x >>> (k &&& 31)) &&& Int32.ofInt 1 = Int32.ofInt 1 := by simpa [rx_c2] using h1
    exact rx_T.ret (M := rxm_121) (v := some (.int 1)) rfl rfl rfl ⟨by unfold rx_hb; rw [if_pos q], rfl⟩
set_option maxRecDepth 100000 in
set_option maxHeartbeats 4000000 in
theorem rx_lineOf {a b : Nat} {h : rx_H} (ha : a < 7) (hb : b < 7) (hh : rx_hin rx_I0 h) : rx_T rx_cds rx_ms rx_lk0 rt d w 116 0 [(0, .ref 53), (1, .int (nI a)), (2, .int (nI b))] [] h (fun v h' => v = some (.int (rx_gI h 46 (12 * a + b))) ∧ h' = h) := by
  obtain ⟨f, e1, e2⟩ := rx_get_a (k := 46) hh rfl
  rw [rx_gI_at e1]
  refine rx_T.to 1 1 [(0, .ref 53), (1, .int (nI a)), (2, .int (nI b))] [.ref 53] h rfl ?_
  refine rx_T.gfr (M := rxm_116) (k := 37) rfl rfl rfl hh rfl rfl ?_
  refine rx_T.to 5 10 [(0, .ref 53), (1, .int (nI a)), (2, .int (nI b))] [.int ((Int8.ofInt 12).toInt32 * nI a + nI b), .ref 62] h rfl ?_
  rw [rx_ix12 a b (by omega) (by omega)]
  refine rx_T.iald (M := rxm_116) rfl rfl (rx_ri_i (k := 46) e1) (vp_in_nI (show 12 * a + b < 144 by omega) (by decide)) ?_
  rw [nI_clamp (show 12 * a + b < 2 ^ 31 by omega)]
  exact rx_T.ret (M := rxm_116) (v := some (.int (f (12 * a + b)))) rfl rfl rfl ⟨rfl, rfl⟩
/-- the closing condition of join for a pair -/
def rx_jc (f : Nat → Int32) (s : Int32) (a b : Nat) : Prop := ¬ a = b → ¬ rx_hb s (nI a) = 0 → ¬ rx_hb s (nI b) = 0 → f (12 * a + b) ||| s = s
def rx_ji (f : Nat → Int32) (n : Nat) (s0 : Int32) (a b : Nat) (s m : Int32) : Prop := (m = 1 ∧ s0.toBitVec.toNat < s.toBitVec.toNat) ∨ (m = 0 ∧ s = s0 ∧ ∀ a' b', a' < n → b' < n → (a' < a ∨ (a' = a ∧ b' < b)) → rx_jc f s a' b')
theorem rx_or_lt {x y : Int32} (h : ¬ x ||| y = y) : y.toBitVec.toNat < (y ||| x).toBitVec.toNat := by
  have h1 : (y ||| x).toBitVec.toNat = y.toBitVec.toNat ||| x.toBitVec.toNat := by rw [Int32.toBitVec_or, BitVec.toNat_or]
  have h2 : y.toBitVec.toNat ≤ y.toBitVec.toNat ||| x.toBitVec.toNat := Nat.left_le_or
  have h3 : ¬ y.toBitVec.toNat = (y ||| x).toBitVec.toNat := fun z => h (by
    have h4 : y.toBitVec = (y ||| x).toBitVec := BitVec.eq_of_toNat_eq z
    have h5 : y = y ||| x := Int32.toBitVec_inj.mp h4
    rw [Int32.or_comm]
    exact h5.symm)
  omega
theorem rx_gFn {h : rx_H} (hh : rx_hin rx_I0 h) : ∃ n : Nat, n ≤ 7 ∧ ∃ vs, h[37]? = some (.inr (5, vs)) ∧ vs[1]? = some (.int (nI n)) := by
  obtain ⟨vs, c1, c2, c3⟩ := rx_get_o hh (k := 37) rfl
  obtain ⟨v, f1, x, rfl, g1, g2⟩ := c3 1 _ rfl
  obtain ⟨n, rfl, hn⟩ := rx_nIof (n := 7) g1 g2
  exact ⟨n, hn, vs, c1, f1⟩
set_option maxRecDepth 100000 in
set_option maxHeartbeats 4000000 in
theorem rx_jn_b {n a : Nat} {s0 : Int32} {h : rx_H} {vs : List Value} (hn : n ≤ 7) (ha : a < n) (hw : 30 ≤ w) (hh : rx_hin rx_I0 h) (c1 : h[37]? = some (.inr (5, vs))) (c2 : vs[1]? = some (.int (nI n))) (K : ∀ s m, rx_ji (rx_gI h 46) n s0 (a + 1) 0 s m → rx_T rx_cds rx_ms rx_lk0 rt (d + 1) w 120 92 [(4, .int (nI a)), (3, .int m), (2, .int s), (0, .ref 53)] [] h P) : ∀ (q b : Nat) (s m : Int32), b + q = n → rx_ji (rx_gI h 46) n s0 a b s m →
    rx_T rx_cds rx_ms rx_lk0 rt (d + 1) w 120 25 [(5, .int (nI b)), (4, .int (nI a)), (3, .int m), (2, .int s), (0, .ref 53)] [] h P := by
  intro q
  induction q with
  | zero =>
    intro b s m hb hi
    have eb : b = n := by omega
    subst eb
    refine rx_T.to 2 28 [(5, .int (nI b)), (4, .int (nI a)), (3, .int m), (2, .int s), (0, .ref 53)] [.ref 53, .int (nI b)] h rfl ?_
    refine rx_T.gf (M := rxm_120) (k := 37) rfl rfl rfl c1 c2 ?_
    refine rx_T.op (M := rxm_120) (ins := .if_icmp .ge 61) rfl rfl rfl rfl (rx_b2_t 92 (decide_eq_true (nI_le (Nat.le_refl b) (by omega))) (by decide)) ?_
    refine rx_T.lv [(4, .int (nI a)), (3, .int m), (2, .int s), (0, .ref 53)] (((((rx_lvl.nil _).cons rfl rfl).cons rfl rfl).cons rfl rfl).cons rfl rfl) (K s m ?_)
    rcases hi with hi | ⟨e1, e2, e3⟩
    · exact Or.inl hi
    · exact Or.inr ⟨e1, e2, fun a' b' p1 p2 p3 => e3 a' b' p1 p2 (by omega)⟩
  | succ q ih =>
    intro b s m hb hi
    have hbn : b < n := by omega
    have next : ∀ s' m', rx_ji (rx_gI h 46) n s0 a (b + 1) s' m' → rx_T rx_cds rx_ms rx_lk0 rt (d + 1) w 120 86 [(5, .int (nI b)), (4, .int (nI a)), (3, .int m'), (2, .int s'), (0, .ref 53)] [] h P := by
      intro s' m' hi'
      refine rx_T.to 2 25 [(5, .int (nI b + Int32.ofInt 1)), (4, .int (nI a)), (3, .int m'), (2, .int s'), (0, .ref 53)] [] h rfl ?_
      rw [show nI b + Int32.ofInt 1 = nI (b + 1) from nI_1 b]
      exact ih (b + 1) s' m' (by omega) hi'
    have skip : rx_jc (rx_gI h 46) s a b → rx_T rx_cds rx_ms rx_lk0 rt (d + 1) w 120 86 [(5, .int (nI b)), (4, .int (nI a)), (3, .int m), (2, .int s), (0, .ref 53)] [] h P := by
      intro hj
      refine next s m ?_
      rcases hi with hi | ⟨e1, e2, e3⟩
      · exact Or.inl hi
      · refine Or.inr ⟨e1, e2, fun a' b' p1 p2 p3 => ?_⟩
        by_cases e : a' = a ∧ b' = b
        · rw [e.1, e.2]
          exact hj
        · exact e3 a' b' p1 p2 (by omega)
    refine rx_T.to 2 28 [(5, .int (nI b)), (4, .int (nI a)), (3, .int m), (2, .int s), (0, .ref 53)] [.ref 53, .int (nI b)] h rfl ?_
    refine rx_T.gf (M := rxm_120) (k := 37) rfl rfl rfl c1 c2 ?_
    refine rx_T.op (M := rxm_120) (ins := .if_icmp .ge 61) rfl rfl rfl rfl (rx_b2_f (decide_eq_false (nI_ge hbn (by omega))) (by decide)) ?_
    refine rx_T.to 2 38 [(5, .int (nI b)), (4, .int (nI a)), (3, .int m), (2, .int s), (0, .ref 53)] [.int (nI b), .int (nI a)] h rfl ?_
    refine rx_T.br2 (M := rxm_120) 86 rfl rfl (by decide) (fun h1 => ?_) (fun h1 => ?_)
    · refine skip (fun z => absurd ?_ z)
      have h2 := congrArg Int32.toInt (of_decide_eq_true h1)
      rw [nI_toInt (by omega), nI_toInt (by omega)] at h2
      omega
    · refine rx_T.to 2 44 [(5, .int (nI b)), (4, .int (nI a)), (3, .int m), (2, .int s), (0, .ref 53)] [.int (nI a), .int s] h rfl ?_
      refine rx_T.call (M := rxm_120) (N := rxm_121) (j := 121) (as := [.int s, .int (nI a)]) (rest := []) rfl rfl rfl rfl rfl (show 19 + 2 ≤ w by omega) rx_has_t ?_
      intro v1 h2 hp
      obtain ⟨rfl, rfl⟩ := hp
      refine rx_T.br1 (M := rxm_120) (x := rx_hb s (nI a)) 86 rfl rfl (by decide) (fun h3 => ?_) (fun h3 => ?_)
      · exact skip (fun _ z => absurd (of_decide_eq_true h3) z)
      · refine rx_T.to 2 53 [(5, .int (nI b)), (4, .int (nI a)), (3, .int m), (2, .int s), (0, .ref 53)] [.int (nI b), .int s] h2 rfl ?_
        refine rx_T.call (M := rxm_120) (N := rxm_121) (j := 121) (as := [.int s, .int (nI b)]) (rest := []) rfl rfl rfl rfl rfl (show 19 + 2 ≤ w by omega) rx_has_t ?_
        intro v2 h4 hp
        obtain ⟨rfl, rfl⟩ := hp
        refine rx_T.br1 (M := rxm_120) (x := rx_hb s (nI b)) 86 rfl rfl (by decide) (fun h5 => ?_) (fun h5 => ?_)
        · exact skip (fun _ _ z => absurd (of_decide_eq_true h5) z)
        · refine rx_T.to 3 64 [(5, .int (nI b)), (4, .int (nI a)), (3, .int m), (2, .int s), (0, .ref 53)] [.int (nI b), .int (nI a), .ref 53] h4 rfl ?_
          refine rx_T.callm (M := rxm_120) (N := rxm_116) (j := 116) (nest := 0) (as' := [.int (nI a), .int (nI b)]) (rest := []) rfl rfl rfl rfl rfl rfl rfl rfl (Nat.le_of_ble_eq_true rfl) (Nat.le_of_ble_eq_true rfl) hh (show 19 + 3 ≤ w by omega) (rx_lineOf (by omega) (by omega) hh) ?_
          intro v3 h6 hp
          obtain ⟨rfl, rfl⟩ := hp
          refine rx_T.to 3 70 [(5, .int (nI b)), (4, .int (nI a)), (3, .int m), (2, .int s), (0, .ref 53)] [.int s, .int (rx_gI h6 46 (12 * a + b) ||| s)] h6 rfl ?_
          refine rx_T.br2 (M := rxm_120) 86 rfl rfl (by decide) (fun h7 => ?_) (fun h7 => ?_)
          · exact skip (fun _ _ _ => of_decide_eq_true h7)
          · refine rx_T.to 4 79 [(5, .int (nI b)), (4, .int (nI a)), (3, .int m), (2, .int s), (0, .ref 53)] [.int (nI b), .int (nI a), .ref 53, .int s] h6 rfl ?_
            refine rx_T.callm (M := rxm_120) (N := rxm_116) (j := 116) (nest := 0) (as' := [.int (nI a), .int (nI b)]) (rest := [.int s]) rfl rfl rfl rfl rfl rfl rfl rfl (Nat.le_of_ble_eq_true rfl) (Nat.le_of_ble_eq_true rfl) hh (show 19 + 3 ≤ w by omega) (rx_lineOf (by omega) (by omega) hh) ?_
            intro v4 h8 hp
            obtain ⟨rfl, rfl⟩ := hp
            refine rx_T.to 4 86 [(3, .int 1), (2, .int (s ||| rx_gI h8 46 (12 * a + b))), (5, .int (nI b)), (4, .int (nI a)), (0, .ref 53)] [] h8 rfl ?_
            refine rx_T.lv [(5, .int (nI b)), (4, .int (nI a)), (3, .int 1), (2, .int (s ||| rx_gI h8 46 (12 * a + b))), (0, .ref 53)] ((((((rx_lvl.nil _).cons rfl rfl).cons rfl rfl).cons rfl rfl).cons rfl rfl).cons rfl rfl) ?_
            refine next _ 1 (Or.inl ⟨rfl, ?_⟩)
            have hlt := rx_or_lt (of_decide_eq_false h7)
            rcases hi with ⟨_, hi⟩ | ⟨_, e2, _⟩
            · omega
            · rw [← e2]
              exact hlt
end RXJN
