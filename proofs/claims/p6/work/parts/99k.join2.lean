section RXJ2
variable {rt : rx_R} {d w : Nat} {P : Option Value → rx_H → Prop}
set_option maxRecDepth 100000 in
set_option maxHeartbeats 4000000 in
theorem rx_jn_a {n : Nat} {s0 : Int32} {h : rx_H} {vs : List Value} (hn : n ≤ 7) (hw : 30 ≤ w) (hh : rx_hin rx_I0 h) (c1 : h[37]? = some (.inr (5, vs))) (c2 : vs[1]? = some (.int (nI n))) (K : ∀ s m, rx_ji (rx_gI h 46) n s0 n 0 s m → rx_T rx_cds rx_ms rx_lk0 rt (d + 1) w 120 4 [(3, .int m), (2, .int s), (0, .ref 53)] [] h P) : ∀ (q a : Nat) (s m : Int32), a + q = n → rx_ji (rx_gI h 46) n s0 a 0 s m →
    rx_T rx_cds rx_ms rx_lk0 rt (d + 1) w 120 13 [(4, .int (nI a)), (3, .int m), (2, .int s), (0, .ref 53)] [] h P := by
  intro q
  induction q with
  | zero =>
    intro a s m ha hi
    have ea : a = n := by omega
    subst ea
    refine rx_T.to 2 16 [(4, .int (nI a)), (3, .int m), (2, .int s), (0, .ref 53)] [.ref 53, .int (nI a)] h rfl ?_
    refine rx_T.gf (M := rxm_120) (k := 37) rfl rfl rfl c1 c2 ?_
    refine rx_T.op (M := rxm_120) (ins := .if_icmp .ge 79) rfl rfl rfl rfl (rx_b2_t 98 (decide_eq_true (nI_le (Nat.le_refl a) (by omega))) (by decide)) ?_
    refine rx_T.to 1 4 [(4, .int (nI a)), (3, .int m), (2, .int s), (0, .ref 53)] [] h rfl ?_
    exact rx_T.lv [(3, .int m), (2, .int s), (0, .ref 53)] ((((rx_lvl.nil _).cons rfl rfl).cons rfl rfl).cons rfl rfl) (K s m hi)
  | succ q ih =>
    intro a s m ha hi
    have han : a < n := by omega
    refine rx_T.to 2 16 [(4, .int (nI a)), (3, .int m), (2, .int s), (0, .ref 53)] [.ref 53, .int (nI a)] h rfl ?_
    refine rx_T.gf (M := rxm_120) (k := 37) rfl rfl rfl c1 c2 ?_
    refine rx_T.op (M := rxm_120) (ins := .if_icmp .ge 79) rfl rfl rfl rfl (rx_b2_f (decide_eq_false (nI_ge han (by omega))) (by decide)) ?_
    refine rx_T.to 2 25 [(5, .int (nI 0)), (4, .int (nI a)), (3, .int m), (2, .int s), (0, .ref 53)] [] h rfl ?_
    refine rx_jn_b hn han hw hh c1 c2 (fun s' m' hi' => ?_) n 0 s m (by omega) hi
    refine rx_T.to 2 13 [(4, .int (nI a + Int32.ofInt 1)), (3, .int m'), (2, .int s'), (0, .ref 53)] [] h rfl ?_
    rw [show nI a + Int32.ofInt 1 = nI (a + 1) from nI_1 a]
    exact ih (a + 1) s' m' (by omega) hi'
set_option maxRecDepth 100000 in
set_option maxHeartbeats 4000000 in
theorem rx_jn_w {n : Nat} {h : rx_H} {vs : List Value} (hn : n ≤ 7) (hw : 30 ≤ w) (hh : rx_hin rx_I0 h) (c1 : h[37]? = some (.inr (5, vs))) (c2 : vs[1]? = some (.int (nI n))) (K : ∀ s, (∀ a b, a < n → b < n → rx_jc (rx_gI h 46) s a b) → rx_T rx_cds rx_ms rx_lk0 rt (d + 1) w 120 101 [(2, .int s), (0, .ref 53)] [] h P) : ∀ (z : Nat) (s : Int32), 4294967296 - s.toBitVec.toNat ≤ z →
    rx_T rx_cds rx_ms rx_lk0 rt (d + 1) w 120 4 [(3, .int 1), (2, .int s), (0, .ref 53)] [] h P := by
  intro z
  induction z with
  | zero =>
    intro s hz
    exact absurd s.toBitVec.isLt (by omega)
  | succ z ih =>
    intro s hz
    refine rx_T.to 2 8 [(3, .int 1), (2, .int s), (0, .ref 53)] [] h rfl ?_
    refine rx_T.to 4 13 [(4, .int (nI 0)), (3, .int 0), (2, .int s), (0, .ref 53)] [] h rfl ?_
    refine rx_jn_a (s0 := s) hn hw hh c1 c2 (fun s' m' hi => ?_) n 0 s 0 (by omega) (Or.inr ⟨rfl, rfl, fun a' b' _ _ p => absurd p (by omega)⟩)
    rcases hi with ⟨rfl, hlt⟩ | ⟨rfl, rfl, hcl⟩
    · have := s'.toBitVec.isLt
      exact ih s' (by omega)
    · refine rx_T.to 2 101 [(3, .int 0), (2, .int s'), (0, .ref 53)] [] h rfl ?_
      exact rx_T.lv [(2, .int s'), (0, .ref 53)] (((rx_lvl.nil _).cons rfl rfl).cons rfl rfl) (K s' (fun a b p1 p2 => hcl a b p1 p2 (by omega)))
/-- what holds while join writes lines: from pair (a, b) on they are as they were -/
def rx_j2 (f : Nat → Int32) (n : Nat) (h0 : rx_H) (a b : Nat) (h : rx_H) : Prop := rx_hin rx_I0 h ∧ rx_Xm h ∧ rx_Fm h0 h ∧ rx_gF h 37 1 = nI n ∧ ∀ a' b', a' < n → b' < n → (a < a' ∨ (a' = a ∧ b ≤ b')) → rx_gI h 46 (12 * a' + b') = f (12 * a' + b')
theorem rx_gF_f {h : rx_H} {n : Nat} (hh : rx_hin rx_I0 h) (e : rx_gF h 37 1 = nI n) : ∃ vs, h[37]? = some (.inr (5, vs)) ∧ vs[1]? = some (.int (nI n)) := by
  obtain ⟨vs, c1, c2, c3⟩ := rx_get_o hh (k := 37) rfl
  obtain ⟨v, f1, x, rfl, g1, g2⟩ := c3 1 _ rfl
  rw [rx_gF_at c1 f1] at e
  subst e
  exact ⟨vs, c1, f1⟩
/-- a line grows, news and moved are set -/
theorem rx_jstep {h : rx_H} {vs : List Value} {g : Nat → Int32} {i : Nat} {s : Int32} (hi : i < 144) (hh : rx_hin rx_I0 h) (hx : rx_Xm h) (c1 : h[37]? = some (.inr (5, vs))) (hg : h[46]? = some (.inl (0, 144, .inl g))) (hs : g i ||| s = s) (hne : ¬ g i = s) :
    ∀ h' : rx_H, h' = ((h.set 46 (.inl (0, 144, .inl (upd g i s)))).set 37 (.inr (5, vs.set 20 (.int 1)))).set 37 (.inr (5, (vs.set 20 (.int 1)).set 17 (.int 1))) → rx_hin rx_I0 h' ∧ rx_Xm h' ∧ rx_Fm h h' ∧ rx_gF h' 37 1 = rx_gF h 37 1 ∧ rx_gI h' 46 = upd g i s := by
  intro h' e
  obtain ⟨ws, d1, d2, d3⟩ := rx_get_o hh (k := 37) rfl
  rw [c1] at d1
  cases d1
  have h1 : rx_hin rx_I0 (h.set 46 (.inl (0, 144, .inl (upd g i s)))) := rx_hin_set hh (k := 46) rfl ⟨_, rfl, fun j _ => ⟨rxi_lo _, rxi_hi _⟩⟩
  have k1 : (h.set 46 (.inl (0, 144, .inl (upd g i s))))[37]? = some (.inr (5, vs)) := (List.getElem?_set_ne (by decide)).trans c1
  have h2 := rx_hin_fld (i := 20) (x := 1) h1 k1 (fun fs hfs => by cases hfs; rfl) (by decide) (by decide)
  have k2 : ((h.set 46 (.inl (0, 144, .inl (upd g i s)))).set 37 (.inr (5, vs.set 20 (.int 1))))[37]? = some (.inr (5, vs.set 20 (.int 1))) := List.getElem?_set_self (List.getElem?_eq_some_iff.mp k1).1
  have h3 := rx_hin_fld (i := 17) (x := 1) h2 k2 (fun fs hfs => by cases hfs; rfl) (by decide) (by decide)
  rw [← e] at h3
  have s1 : ∀ z, ¬ z = 37 → ¬ z = 46 → h'[z]? = h[z]? := fun z z1 z2 => by
    rw [e, List.getElem?_set_ne (fun y => z1 y.symm), List.getElem?_set_ne (fun y => z1 y.symm), List.getElem?_set_ne (fun y => z2 y.symm)]
  have s2 : h'[46]? = some (.inl (0, 144, .inl (upd g i s))) := by
    rw [e, List.getElem?_set_ne (by decide), List.getElem?_set_ne (by decide)]
    exact List.getElem?_set_self (List.getElem?_eq_some_iff.mp hg).1
  have s3 : rx_gI h' 46 = upd g i s := rx_gI_at s2
  have f0 : ∀ j, ¬ 17 = j → ¬ 20 = j → rx_gF h' 37 j = rx_gF h 37 j := fun j j1 j2 => by
    rw [e, rx_gF_set k2 j1, rx_gF_set k1 j2]
    exact rx_gF_of (List.getElem?_set_ne (by decide))
  have m1 : rx_MA h' < rx_MA h := by
    unfold rx_MA
    rw [rx_gI_of (s1 47 (by decide) (by decide)), rx_gI_of (s1 48 (by decide) (by decide)), s3, rx_gI_at hg]
    have hlt : (g i).toBitVec.toNat < s.toBitVec.toNat := by
      have q1 : s.toBitVec.toNat = (g i).toBitVec.toNat ||| s.toBitVec.toNat := by
        have := congrArg (fun x : Int32 => x.toBitVec.toNat) hs
        simp only [Int32.toBitVec_or, BitVec.toNat_or] at this
        exact this.symm
      have q2 : (g i).toBitVec.toNat ≤ (g i).toBitVec.toNat ||| s.toBitVec.toNat := Nat.left_le_or
      have q3 : ¬ (g i).toBitVec.toNat = s.toBitVec.toNat := fun z => hne (Int32.toBitVec_inj.mp (BitVec.eq_of_toNat_eq z))
      omega
    have b1 := s.toBitVec.isLt
    have hsum : rx_sum (rx_tb (upd g i s)) 144 < rx_sum (rx_tb g) 144 := by
      refine rx_sum_lt (c := i) 144 hi (fun j hj => ?_) ?_
      · unfold rx_tb upd
        by_cases ej : j = i
        · rw [if_pos ej, ej]
          omega
        · rw [if_neg ej]
          exact Nat.le_refl _
      · unfold rx_tb upd
        rw [if_pos rfl]
        omega
    omega
  refine ⟨h3, ⟨?_, ?_⟩, ⟨fun z hz => s1 z (by omega) (by omega), fun j hj => f0 j (by omega) (by omega), Or.inl m1, fun _ => Or.inr (Or.inl m1), fun _ => Or.inr m1⟩, f0 1 (by decide) (by decide), s3⟩
  · rw [rx_gL_of (s1 50 (by decide) (by decide)), rx_gI_of (s1 51 (by decide) (by decide))]
    exact hx.1
  · rw [rx_gI_of (s1 47 (by decide) (by decide))]
    exact hx.2
end RXJ2
