section RXIF
variable {rt : rx_R} {d w : Nat} {P : Option Value → rx_H → Prop}
set_option maxRecDepth 100000 in
set_option maxHeartbeats 4000000 in
theorem rx_mpo {K : Nat} {h : rx_H} (hK : K ≤ 6) : rx_T rx_cds rx_ms rx_lk0 rt d w 101 0 [(0, .int (nI K))] [] h (fun v h' => v = some (.int (nI (rx_po K))) ∧ h' = h) := by
  match K, hK with
  | 0, _ =>
    refine rx_T.to 1 1 [(0, .int (nI 0))] [.int (nI 0)] h rfl ?_
    refine rx_T.op (M := rxm_101) (ins := .ifCond .eq 8) rfl rfl rfl rfl (rx_b1_t 9 (by decide +kernel) (by decide)) ?_
    refine rx_T.to 2 25 [(0, .int (nI 0))] [.int 3] h rfl ?_
    exact rx_T.ret (M := rxm_101) (v := some (.int (nI (rx_po 0)))) rfl rfl rfl ⟨rfl, rfl⟩
  | 1, _ =>
    refine rx_T.to 1 1 [(0, .int (nI 1))] [.int (nI 1)] h rfl ?_
    refine rx_T.op (M := rxm_101) (ins := .ifCond .eq 8) rfl rfl rfl rfl (rx_b1_f (by decide +kernel) (by decide)) ?_
    refine rx_T.to 2 6 [(0, .int (nI 1))] [.int 5, .int (nI 1)] h rfl ?_
    refine rx_T.op (M := rxm_101) (ins := .if_icmp .ne 7) rfl rfl rfl rfl (rx_b2_t 13 (by decide +kernel) (by decide)) ?_
    refine rx_T.to 2 16 [(0, .int (nI 1))] [.int (Int8.ofInt 6).toInt32, .int (nI 1)] h rfl ?_
    refine rx_T.op (M := rxm_101) (ins := .if_icmp .ne 8) rfl rfl rfl rfl (rx_b2_t 24 (by decide +kernel) (by decide)) ?_
    refine rx_T.to 1 25 [(0, .int (nI 1))] [.int 4] h rfl ?_
    exact rx_T.ret (M := rxm_101) (v := some (.int (nI (rx_po 1)))) rfl rfl rfl ⟨rfl, rfl⟩
  | 2, _ =>
    refine rx_T.to 1 1 [(0, .int (nI 2))] [.int (nI 2)] h rfl ?_
    refine rx_T.op (M := rxm_101) (ins := .ifCond .eq 8) rfl rfl rfl rfl (rx_b1_f (by decide +kernel) (by decide)) ?_
    refine rx_T.to 2 6 [(0, .int (nI 2))] [.int 5, .int (nI 2)] h rfl ?_
    refine rx_T.op (M := rxm_101) (ins := .if_icmp .ne 7) rfl rfl rfl rfl (rx_b2_t 13 (by decide +kernel) (by decide)) ?_
    refine rx_T.to 2 16 [(0, .int (nI 2))] [.int (Int8.ofInt 6).toInt32, .int (nI 2)] h rfl ?_
    refine rx_T.op (M := rxm_101) (ins := .if_icmp .ne 8) rfl rfl rfl rfl (rx_b2_t 24 (by decide +kernel) (by decide)) ?_
    refine rx_T.to 1 25 [(0, .int (nI 2))] [.int 4] h rfl ?_
    exact rx_T.ret (M := rxm_101) (v := some (.int (nI (rx_po 2)))) rfl rfl rfl ⟨rfl, rfl⟩
  | 3, _ =>
    refine rx_T.to 1 1 [(0, .int (nI 3))] [.int (nI 3)] h rfl ?_
    refine rx_T.op (M := rxm_101) (ins := .ifCond .eq 8) rfl rfl rfl rfl (rx_b1_f (by decide +kernel) (by decide)) ?_
    refine rx_T.to 2 6 [(0, .int (nI 3))] [.int 5, .int (nI 3)] h rfl ?_
    refine rx_T.op (M := rxm_101) (ins := .if_icmp .ne 7) rfl rfl rfl rfl (rx_b2_t 13 (by decide +kernel) (by decide)) ?_
    refine rx_T.to 2 16 [(0, .int (nI 3))] [.int (Int8.ofInt 6).toInt32, .int (nI 3)] h rfl ?_
    refine rx_T.op (M := rxm_101) (ins := .if_icmp .ne 8) rfl rfl rfl rfl (rx_b2_t 24 (by decide +kernel) (by decide)) ?_
    refine rx_T.to 1 25 [(0, .int (nI 3))] [.int 4] h rfl ?_
    exact rx_T.ret (M := rxm_101) (v := some (.int (nI (rx_po 3)))) rfl rfl rfl ⟨rfl, rfl⟩
  | 4, _ =>
    refine rx_T.to 1 1 [(0, .int (nI 4))] [.int (nI 4)] h rfl ?_
    refine rx_T.op (M := rxm_101) (ins := .ifCond .eq 8) rfl rfl rfl rfl (rx_b1_f (by decide +kernel) (by decide)) ?_
    refine rx_T.to 2 6 [(0, .int (nI 4))] [.int 5, .int (nI 4)] h rfl ?_
    refine rx_T.op (M := rxm_101) (ins := .if_icmp .ne 7) rfl rfl rfl rfl (rx_b2_t 13 (by decide +kernel) (by decide)) ?_
    refine rx_T.to 2 16 [(0, .int (nI 4))] [.int (Int8.ofInt 6).toInt32, .int (nI 4)] h rfl ?_
    refine rx_T.op (M := rxm_101) (ins := .if_icmp .ne 8) rfl rfl rfl rfl (rx_b2_t 24 (by decide +kernel) (by decide)) ?_
    refine rx_T.to 1 25 [(0, .int (nI 4))] [.int 4] h rfl ?_
    exact rx_T.ret (M := rxm_101) (v := some (.int (nI (rx_po 4)))) rfl rfl rfl ⟨rfl, rfl⟩
  | 5, _ =>
    refine rx_T.to 1 1 [(0, .int (nI 5))] [.int (nI 5)] h rfl ?_
    refine rx_T.op (M := rxm_101) (ins := .ifCond .eq 8) rfl rfl rfl rfl (rx_b1_f (by decide +kernel) (by decide)) ?_
    refine rx_T.to 2 6 [(0, .int (nI 5))] [.int 5, .int (nI 5)] h rfl ?_
    refine rx_T.op (M := rxm_101) (ins := .if_icmp .ne 7) rfl rfl rfl rfl (rx_b2_f (by decide +kernel) (by decide)) ?_
    refine rx_T.to 2 25 [(0, .int (nI 5))] [.int 3] h rfl ?_
    exact rx_T.ret (M := rxm_101) (v := some (.int (nI (rx_po 5)))) rfl rfl rfl ⟨rfl, rfl⟩
  | 6, _ =>
    refine rx_T.to 1 1 [(0, .int (nI 6))] [.int (nI 6)] h rfl ?_
    refine rx_T.op (M := rxm_101) (ins := .ifCond .eq 8) rfl rfl rfl rfl (rx_b1_f (by decide +kernel) (by decide)) ?_
    refine rx_T.to 2 6 [(0, .int (nI 6))] [.int 5, .int (nI 6)] h rfl ?_
    refine rx_T.op (M := rxm_101) (ins := .if_icmp .ne 7) rfl rfl rfl rfl (rx_b2_t 13 (by decide +kernel) (by decide)) ?_
    refine rx_T.to 2 16 [(0, .int (nI 6))] [.int (Int8.ofInt 6).toInt32, .int (nI 6)] h rfl ?_
    refine rx_T.op (M := rxm_101) (ins := .if_icmp .ne 8) rfl rfl rfl rfl (rx_b2_f (by decide +kernel) (by decide)) ?_
    refine rx_T.to 2 25 [(0, .int (nI 6))] [.int (Int8.ofInt 8).toInt32] h rfl ?_
    exact rx_T.ret (M := rxm_101) (v := some (.int (nI (rx_po 6)))) rfl rfl rfl ⟨rfl, rfl⟩
def rx_Ad (K c : Nat) (p : Nat → Nat) (i j : Nat) : Prop := ∀ i' j', i' < j' → j' < c → (i' < i ∨ (i' = i ∧ j' < j)) → rx_ap K i' j' → ¬ p i' = p j'
def rx_Gd (K c : Nat) (p : Nat → Nat) (i j : Nat) (g : Int32) : Prop := (g = 1 ∧ rx_Ad K c p i j) ∨ (g = 0 ∧ ¬ rx_Ad K c p i j)
theorem rx_rem2 : ∀ i : Nat, i < 8 → nI i - nI i / 2 * 2 = nI (i % 2) := by decide +kernel
theorem rx_Gd.to {K c : Nat} {p : Nat → Nat} {i j i2 j2 : Nat} {g : Int32} (H : rx_Gd K c p i j g) (hk : ∀ i' j', i' < j' → j' < c → ((i' < i2 ∨ (i' = i2 ∧ j' < j2)) ↔ (i' < i ∨ (i' = i ∧ j' < j)))) : rx_Gd K c p i2 j2 g := by
  have e : rx_Ad K c p i2 j2 ↔ rx_Ad K c p i j := ⟨fun a i' j' h1 h2 h3 => a i' j' h1 h2 ((hk i' j' h1 h2).mpr h3), fun a i' j' h1 h2 h3 => a i' j' h1 h2 ((hk i' j' h1 h2).mp h3)⟩
  unfold rx_Gd
  rw [e]
  exact H
theorem rx_Gd.and {K c : Nat} {p : Nat → Nat} {i j : Nat} {g x : Int32} (hij : i < j) (hj : j < c) (H : rx_Gd K c p i j g) (hx : (x = 1 ∧ (rx_ap K i j → ¬ p i = p j)) ∨ (x = 0 ∧ ¬ (rx_ap K i j → ¬ p i = p j))) : rx_Gd K c p i (j + 1) (g &&& x) := by
  have e : rx_Ad K c p i (j + 1) ↔ rx_Ad K c p i j ∧ (rx_ap K i j → ¬ p i = p j) := by
    constructor
    · intro a
      exact ⟨fun i' j' h1 h2 h3 => a i' j' h1 h2 (by omega), a i j hij hj (Or.inr ⟨rfl, by omega⟩)⟩
    · intro a i' j' h1 h2 h3
      by_cases q : i' = i ∧ j' = j
      · rw [q.1, q.2]
        exact a.2
      · exact a.1 i' j' h1 h2 (by omega)
  unfold rx_Gd
  rw [e]
  rcases H with ⟨rfl, a⟩ | ⟨rfl, a⟩ <;> rcases hx with ⟨rfl, b⟩ | ⟨rfl, b⟩
  · exact Or.inl ⟨by decide, a, b⟩
  · exact Or.inr ⟨by decide, fun z => b z.2⟩
  · exact Or.inr ⟨by decide, fun z => a z.1⟩
  · exact Or.inr ⟨by decide, fun z => a z.1⟩
set_option maxRecDepth 100000 in
set_option maxHeartbeats 4000000 in
theorem rx_if_j {K c i : Nat} {h : rx_H} {vs : List Value} (hK : K ≤ 6) (hc : c ≤ 8) (hi : i < c) (hh : rx_hin rx_I0 h) (c1 : h[37]? = some (.inr (5, vs))) (c5 : vs[5]? = some (.int (nI c))) (Kk : ∀ g, rx_Gd K c (rx_p h) (i + 1) 0 g → rx_T rx_cds rx_ms rx_lk0 rt d w 100 119 [(3, .int (nI i)), (2, .int g), (1, .int (nI K)), (0, .ref 53)] [] h P) : ∀ (q j : Nat) (g : Int32), i < j → j + q = c → rx_Gd K c (rx_p h) i j g →
    rx_T rx_cds rx_ms rx_lk0 rt d w 100 40 [(4, .int (nI j)), (3, .int (nI i)), (2, .int g), (1, .int (nI K)), (0, .ref 53)] [] h P := by
  obtain ⟨f, e0, _⟩ := rx_get_a (k := 40) hh rfl
  intro q
  induction q with
  | zero =>
    intro j g hij hj hg
    have ej : j = c := by omega
    subst ej
    refine rx_T.to 2 43 [(4, .int (nI j)), (3, .int (nI i)), (2, .int g), (1, .int (nI K)), (0, .ref 53)] [.ref 53, .int (nI j)] h rfl ?_
    refine rx_T.gf (M := rxm_100) (k := 37) rfl rfl rfl c1 c5 ?_
    refine rx_T.op (M := rxm_100) (ins := .if_icmp .ge 73) rfl rfl rfl rfl (rx_b2_t 119 (decide_eq_true (nI_le (Nat.le_refl j) (by omega))) (by decide)) ?_
    refine rx_T.lv [(3, .int (nI i)), (2, .int g), (1, .int (nI K)), (0, .ref 53)] (((((rx_lvl.nil _).cons rfl rfl).cons rfl rfl).cons rfl rfl).cons rfl rfl) ?_
    exact Kk g (hg.to (fun i' j' h1 h2 => by omega))
  | succ q ih =>
    intro j g hij hj hg
    have hjc : j < c := by omega
    have hpe : f i = f j ↔ rx_p h i = rx_p h j := by
      have a := (rx_p_of hh (show i < 8 by omega))
      have b := (rx_p_of hh (show j < 8 by omega))
      rw [rx_gI_at e0] at a b
      rw [a.1, b.1]
      exact ⟨fun z => rx_nI_inj (by omega) (by omega) z, fun z => by rw [z]⟩
    have at111 : ∀ x : Int32, ((x = 1 ∧ (rx_ap K i j → ¬ rx_p h i = rx_p h j)) ∨ (x = 0 ∧ ¬ (rx_ap K i j → ¬ rx_p h i = rx_p h j))) → rx_T rx_cds rx_ms rx_lk0 rt d w 100 111 [(4, .int (nI j)), (3, .int (nI i)), (2, .int g), (1, .int (nI K)), (0, .ref 53)] [.int x, .int g] h P := by
      intro x hx
      refine rx_T.to 4 40 [(4, .int ((nI j) + Int32.ofInt 1)), (2, .int (g &&& x)), (3, .int (nI i)), (1, .int (nI K)), (0, .ref 53)] [] h rfl ?_
      refine rx_T.lv [(4, .int ((nI j) + Int32.ofInt 1)), (3, .int (nI i)), (2, .int (g &&& x)), (1, .int (nI K)), (0, .ref 53)] ((((((rx_lvl.nil _).cons rfl rfl).cons rfl rfl).cons rfl rfl).cons rfl rfl).cons rfl rfl) ?_
      rw [show nI j + Int32.ofInt 1 = nI (j + 1) from nI_1 j]
      exact ih (j + 1) _ (by omega) (by omega) (rx_Gd.and hij hjc hg hx)
    have at106 : (rx_ap K i j → ¬ rx_p h i = rx_p h j) → rx_T rx_cds rx_ms rx_lk0 rt d w 100 106 [(4, .int (nI j)), (3, .int (nI i)), (2, .int g), (1, .int (nI K)), (0, .ref 53)] [.int g] h P := by
      intro hz
      refine rx_T.to 2 111 [(4, .int (nI j)), (3, .int (nI i)), (2, .int g), (1, .int (nI K)), (0, .ref 53)] [.int 1, .int g] h rfl ?_
      exact at111 1 (Or.inl ⟨rfl, hz⟩)
    have at110 : ¬ (rx_ap K i j → ¬ rx_p h i = rx_p h j) → rx_T rx_cds rx_ms rx_lk0 rt d w 100 110 [(4, .int (nI j)), (3, .int (nI i)), (2, .int g), (1, .int (nI K)), (0, .ref 53)] [.int g] h P := by
      intro hz
      refine rx_T.to 1 111 [(4, .int (nI j)), (3, .int (nI i)), (2, .int g), (1, .int (nI K)), (0, .ref 53)] [.int 0, .int g] h rfl ?_
      exact at111 0 (Or.inr ⟨rfl, hz⟩)
    have at81 : ¬ rx_ap K i j → rx_T rx_cds rx_ms rx_lk0 rt d w 100 81 [(4, .int (nI j)), (3, .int (nI i)), (2, .int g), (1, .int (nI K)), (0, .ref 53)] [] h P := by
      intro hz
      refine rx_T.to 4 87 [(5, .int 0), (4, .int (nI j)), (3, .int (nI i)), (2, .int g), (1, .int (nI K)), (0, .ref 53)] [.int 0, .int g] h rfl ?_
      refine rx_T.op (M := rxm_100) (ins := .ifCond .eq 19) rfl rfl rfl rfl (rx_b1_t 106 (by decide) (by decide)) ?_
      refine rx_T.lv [(4, .int (nI j)), (3, .int (nI i)), (2, .int g), (1, .int (nI K)), (0, .ref 53)] ((((((rx_lvl.nil _).cons rfl rfl).cons rfl rfl).cons rfl rfl).cons rfl rfl).cons rfl rfl) ?_
      exact at106 (fun z => absurd z hz)
    have at77 : rx_ap K i j → rx_T rx_cds rx_ms rx_lk0 rt d w 100 77 [(4, .int (nI j)), (3, .int (nI i)), (2, .int g), (1, .int (nI K)), (0, .ref 53)] [] h P := by
      intro hz
      refine rx_T.to 5 87 [(5, .int 1), (4, .int (nI j)), (3, .int (nI i)), (2, .int g), (1, .int (nI K)), (0, .ref 53)] [.int 1, .int g] h rfl ?_
      refine rx_T.op (M := rxm_100) (ins := .ifCond .eq 19) rfl rfl rfl rfl (rx_b1_f (by decide) (by decide)) ?_
      refine rx_T.lv [(4, .int (nI j)), (3, .int (nI i)), (2, .int g), (1, .int (nI K)), (0, .ref 53)] ((((((rx_lvl.nil _).cons rfl rfl).cons rfl rfl).cons rfl rfl).cons rfl rfl).cons rfl rfl) ?_
      refine rx_T.to 1 91 [(4, .int (nI j)), (3, .int (nI i)), (2, .int g), (1, .int (nI K)), (0, .ref 53)] [.ref 53, .int g] h rfl ?_
      refine rx_T.gfr (M := rxm_100) (k := 37) rfl rfl rfl hh rfl rfl ?_
      refine rx_T.to 1 95 [(4, .int (nI j)), (3, .int (nI i)), (2, .int g), (1, .int (nI K)), (0, .ref 53)] [.int (nI i), .ref 56, .int g] h rfl ?_
      refine rx_T.iald (M := rxm_100) rfl rfl (rx_ri_i (k := 40) e0) (vp_in_nI (show i < 8 by omega) (by decide)) ?_
      rw [nI_clamp (show i < 2 ^ 31 by omega)]
      refine rx_T.to 1 97 [(4, .int (nI j)), (3, .int (nI i)), (2, .int g), (1, .int (nI K)), (0, .ref 53)] [.ref 53, .int (f i), .int g] h rfl ?_
      refine rx_T.gfr (M := rxm_100) (k := 37) rfl rfl rfl hh rfl rfl ?_
      refine rx_T.to 1 102 [(4, .int (nI j)), (3, .int (nI i)), (2, .int g), (1, .int (nI K)), (0, .ref 53)] [.int (nI j), .ref 56, .int (f i), .int g] h rfl ?_
      refine rx_T.iald (M := rxm_100) rfl rfl (rx_ri_i (k := 40) e0) (vp_in_nI (show j < 8 by omega) (by decide)) ?_
      rw [nI_clamp (show j < 2 ^ 31 by omega)]
      refine rx_T.br2 (M := rxm_100) 110 rfl rfl (by decide) (fun q => at110 (fun z => z hz (hpe.mp (of_decide_eq_true q)))) (fun q => at106 (fun _ z => of_decide_eq_false q (hpe.mpr z)))
    refine rx_T.to 2 43 [(4, .int (nI j)), (3, .int (nI i)), (2, .int g), (1, .int (nI K)), (0, .ref 53)] [.ref 53, .int (nI j)] h rfl ?_
    refine rx_T.gf (M := rxm_100) (k := 37) rfl rfl rfl c1 c5 ?_
    refine rx_T.op (M := rxm_100) (ins := .if_icmp .ge 73) rfl rfl rfl rfl (rx_b2_f (decide_eq_false (nI_ge hjc (by omega))) (by decide)) ?_
    refine rx_T.to 1 50 [(4, .int (nI j)), (3, .int (nI i)), (2, .int g), (1, .int (nI K)), (0, .ref 53)] [.int (nI K)] h rfl ?_
    refine rx_T.br1 (M := rxm_100) 77 rfl rfl (by decide) (fun q => at77 (Or.inl (rx_nI_inj (b := 0) (by omega) (by omega) (of_decide_eq_true q)))) (fun n0 => ?_)
    refine rx_T.to 2 55 [(4, .int (nI j)), (3, .int (nI i)), (2, .int g), (1, .int (nI K)), (0, .ref 53)] [.int 3, .int (nI K)] h rfl ?_
    refine rx_T.br2 (M := rxm_100) 77 rfl rfl (by decide) (fun q => at77 (Or.inr (Or.inl (rx_nI_inj (b := 3) (by omega) (by omega) (of_decide_eq_true q))))) (fun n3 => ?_)
    refine rx_T.to 2 60 [(4, .int (nI j)), (3, .int (nI i)), (2, .int g), (1, .int (nI K)), (0, .ref 53)] [.int 5, .int (nI K)] h rfl ?_
    refine rx_T.br2 (M := rxm_100) 77 rfl rfl (by decide) (fun q => at77 (Or.inr (Or.inr (Or.inl (rx_nI_inj (b := 5) (by omega) (by omega) (of_decide_eq_true q)))))) (fun n5 => ?_)
    refine rx_T.to 2 65 [(4, .int (nI j)), (3, .int (nI i)), (2, .int g), (1, .int (nI K)), (0, .ref 53)] [.int 2, .int (nI i)] h rfl ?_
    have hne : ¬ (K = 0 ∨ K = 3 ∨ K = 5) := fun z => by
      rcases z with rfl | rfl | rfl
      · exact absurd n0 (by decide +kernel)
      · exact absurd n3 (by decide +kernel)
      · exact absurd n5 (by decide +kernel)
    refine rx_T.irm (M := rxm_100) rfl rfl (show ¬ (2 : Int32) = 0 by decide) ?_
    rw [show nI i - nI i / 2 * 2 = nI (i % 2) from rx_rem2 i (by omega)]
    refine rx_T.br1 (M := rxm_100) (x := nI (i % 2)) 81 rfl rfl (by decide) (fun q => at81 (fun z => ?_)) (fun q6 => ?_)
    · have z2 : ¬ nI (i % 2) = 0 := by simpa [rx_c1] using q
      unfold rx_ap at z
      have z3 : i % 2 = 0 := by omega
      rw [z3] at z2
      exact z2 rfl
    have h6 : i % 2 = 0 := by
      have z2 : nI (i % 2) = 0 := by simpa [rx_c1] using q6
      exact rx_nI_inj (b := 0) (by omega) (by omega) z2
    refine rx_T.to 4 74 [(4, .int (nI j)), (3, .int (nI i)), (2, .int g), (1, .int (nI K)), (0, .ref 53)] [.int ((nI i) + 1), .int (nI j)] h rfl ?_
    rw [show nI i + 1 = nI (i + 1) from nI_1 i]
    refine rx_T.br2 (M := rxm_100) 81 rfl rfl (by decide) (fun q => at81 (fun z => ?_)) (fun q7 => at77 (Or.inr (Or.inr (Or.inr ⟨?_, ?_⟩))))
    · have z2 : ¬ nI j = nI (i + 1) := by simpa [rx_c2] using q
      unfold rx_ap at z
      have z3 : j = i + 1 := by omega
      rw [z3] at z2
      exact z2 rfl
    · exact h6
    · have z2 : nI j = nI (i + 1) := by simpa [rx_c2] using q7
      exact rx_nI_inj (by omega) (by omega) z2
set_option maxRecDepth 100000 in
set_option maxHeartbeats 4000000 in
theorem rx_if_i {K c : Nat} {h : rx_H} {vs : List Value} (hK : K ≤ 6) (hc : c ≤ 8) (hh : rx_hin rx_I0 h) (c1 : h[37]? = some (.inr (5, vs))) (c5 : vs[5]? = some (.int (nI c))) : ∀ (q i : Nat) (g : Int32), i + q = c → rx_Gd K c (rx_p h) i 0 g →
    rx_T rx_cds rx_ms rx_lk0 rt d w 100 27 [(3, .int (nI i)), (2, .int g), (1, .int (nI K)), (0, .ref 53)] [] h (fun v h' => h' = h ∧ ∃ g, v = some (.int g) ∧ rx_Gd K c (rx_p h) c 0 g) := by
  intro q
  induction q with
  | zero =>
    intro i g hi hg
    have ei : i = c := by omega
    subst ei
    refine rx_T.to 2 29 [(3, .int (nI i)), (2, .int g), (1, .int (nI K)), (0, .ref 53)] [.ref 53, .int (nI i)] h rfl ?_
    refine rx_T.gf (M := rxm_100) (k := 37) rfl rfl rfl c1 c5 ?_
    refine rx_T.op (M := rxm_100) (ins := .if_icmp .ge 93) rfl rfl rfl rfl (rx_b2_t 125 (decide_eq_true (nI_le (Nat.le_refl i) (by omega))) (by decide)) ?_
    refine rx_T.to 1 126 [(3, .int (nI i)), (2, .int g), (1, .int (nI K)), (0, .ref 53)] [.int g] h rfl ?_
    have hgf : rx_ret rxm_100 .ireturn [.int g] = some (some (.int g)) := by
      rcases hg with ⟨rfl, _⟩ | ⟨rfl, _⟩ <;> rfl
    exact rx_T.ret (M := rxm_100) (v := some (.int g)) rfl rfl hgf ⟨rfl, g, rfl, hg⟩
  | succ q ih =>
    intro i g hi hg
    have hic : i < c := by omega
    refine rx_T.to 2 29 [(3, .int (nI i)), (2, .int g), (1, .int (nI K)), (0, .ref 53)] [.ref 53, .int (nI i)] h rfl ?_
    refine rx_T.gf (M := rxm_100) (k := 37) rfl rfl rfl c1 c5 ?_
    refine rx_T.op (M := rxm_100) (ins := .if_icmp .ge 93) rfl rfl rfl rfl (rx_b2_f (decide_eq_false (nI_ge hic (by omega))) (by decide)) ?_
    refine rx_T.to 4 40 [(4, .int ((nI i) + 1)), (3, .int (nI i)), (2, .int g), (1, .int (nI K)), (0, .ref 53)] [] h rfl ?_
    rw [show nI i + 1 = nI (i + 1) from nI_1 i]
    refine rx_if_j hK hc hic hh c1 c5 (fun g2 hg2 => ?_) (c - (i + 1)) (i + 1) g (by omega) (by omega) (hg.to (fun i' j' h1 h2 => by omega))
    refine rx_T.to 2 27 [(3, .int ((nI i) + Int32.ofInt 1)), (2, .int g2), (1, .int (nI K)), (0, .ref 53)] [] h rfl ?_
    rw [show nI i + Int32.ofInt 1 = nI (i + 1) from nI_1 i]
    exact ih (i + 1) g2 (by omega) hg2
set_option maxRecDepth 100000 in
set_option maxHeartbeats 4000000 in
theorem rx_isFact {k : Int32} {c : Nat} {h : rx_H} {vs : List Value} (hw : 20 ≤ w) (hc : c ≤ 8) (hh : rx_hin rx_I0 h) (c1 : h[37]? = some (.inr (5, vs))) (c5 : vs[5]? = some (.int (nI c))) : rx_T rx_cds rx_ms rx_lk0 rt (d + 1) w 100 0 [(0, .ref 53), (1, .int k)] [] h (fun v h' => h' = h ∧ ((∃ K, K ≤ 6 ∧ k = nI K ∧ rx_OK K c (rx_p h) ∧ v = some (.int 1)) ∨ ((∀ K, K ≤ 6 → k = nI K → ¬ rx_OK K c (rx_p h)) ∧ v = some (.int 0)))) := by
  have no : (∀ K, K ≤ 6 → k = nI K → ¬ rx_OK K c (rx_p h)) → rx_T rx_cds rx_ms rx_lk0 rt (d + 1) w 100 21 [(0, .ref 53), (1, .int k)] [] h (fun v h' => h' = h ∧ ((∃ K, K ≤ 6 ∧ k = nI K ∧ rx_OK K c (rx_p h) ∧ v = some (.int 1)) ∨ ((∀ K, K ≤ 6 → k = nI K → ¬ rx_OK K c (rx_p h)) ∧ v = some (.int 0)))) := by
    intro hno
    refine rx_T.to 1 22 [(0, .ref 53), (1, .int k)] [.int 0] h rfl ?_
    exact rx_T.ret (M := rxm_100) (v := some (.int 0)) rfl rfl rfl ⟨rfl, Or.inr ⟨hno, rfl⟩⟩
  refine rx_T.to 1 1 [(0, .ref 53), (1, .int k)] [.int k] h rfl ?_
  refine rx_T.br1 (M := rxm_100) 21 rfl rfl (by decide) (fun q => no (fun K hK e => ?_)) (fun q1 => ?_)
  · have z : k.toInt < 0 := Int32.lt_iff_toInt_lt.mp (of_decide_eq_true q)
    rw [e, nI_toInt (by omega)] at z
    omega
  · have z1 : ¬ k.toInt < 0 := fun z => of_decide_eq_false q1 (Int32.lt_iff_toInt_lt.mpr z)
    refine rx_T.to 2 7 [(0, .ref 53), (1, .int k)] [.int (Int8.ofInt 7).toInt32, .int k] h rfl ?_
    refine rx_T.br2 (M := rxm_100) 21 rfl rfl (by decide) (fun q => no (fun K hK e => ?_)) (fun q2 => ?_)
    · have z : (7 : Int) ≤ k.toInt := Int32.le_iff_toInt_le.mp (of_decide_eq_true q)
      rw [e, nI_toInt (by omega)] at z
      omega
    have z2 : ¬ (7 : Int) ≤ k.toInt := fun z => of_decide_eq_false q2 (Int32.le_iff_toInt_le.mpr z)
    obtain ⟨K, rfl, hK6⟩ := rx_nIof (n := 6) (x := k) (by omega) (by omega)
    have hpo : rx_po K < 10 := by
      match K, hK6 with
      | 0, _ => decide
      | 1, _ => decide
      | 2, _ => decide
      | 3, _ => decide
      | 4, _ => decide
      | 5, _ => decide
      | 6, _ => decide
    refine rx_T.to 1 11 [(0, .ref 53), (1, .int (nI K))] [.ref 53] h rfl ?_
    refine rx_T.gf (M := rxm_100) (k := 37) rfl rfl rfl c1 c5 ?_
    refine rx_T.to 1 15 [(0, .ref 53), (1, .int (nI K))] [.int (nI K), .int (nI c)] h rfl ?_
    refine rx_T.call (M := rxm_100) (N := rxm_101) (j := 101) (as := [.int (nI K)]) (rest := [.int (nI c)]) rfl rfl rfl rfl rfl (show 19 + 1 ≤ w by omega) (rx_mpo hK6) ?_
    intro v1 h1 hp1
    obtain ⟨rfl, e1⟩ := hp1
    rw [e1]
    refine rx_T.br2 (M := rxm_100) 23 rfl rfl (by decide) (fun q => ?_) (fun q => no (fun K2 hK2 e ok => ?_))
    · have hcp : c = rx_po K := rx_nI_inj (by omega) (by omega) (of_decide_eq_true q)
      refine rx_T.to 4 27 [(3, .int (nI 0)), (2, .int 1), (0, .ref 53), (1, .int (nI K))] [] h rfl ?_
      refine rx_T.lv [(3, .int (nI 0)), (2, .int 1), (1, .int (nI K)), (0, .ref 53)] (((((rx_lvl.nil _).cons rfl rfl).cons rfl rfl).cons rfl rfl).cons rfl rfl) ?_
      refine (rx_if_i (d := d + 1) hK6 hc hh c1 c5 c 0 1 (by omega) (Or.inl ⟨rfl, fun i' j' _ _ z => absurd z (by omega)⟩)).mono (fun v h' hp => ?_)
      obtain ⟨rfl, g, rfl, hg⟩ := hp
      refine ⟨rfl, ?_⟩
      have e : rx_Ad K c (rx_p h') c 0 ↔ rx_OK K c (rx_p h') := ⟨fun a => ⟨hcp, fun i j h1 h2 h3 => a i j h1 h2 (by omega) h3⟩, fun a i' j' h1 h2 _ h3 => a.2 i' j' h1 h2 h3⟩
      rcases hg with ⟨rfl, a⟩ | ⟨rfl, a⟩
      · exact Or.inl ⟨K, hK6, rfl, e.mp a, rfl⟩
      · refine Or.inr ⟨fun K2 hK2 e2 z => a (e.mpr ?_), rfl⟩
        have e3 := rx_nI_inj (by omega) (by omega) e2
        subst e3
        exact z
    · have e2 := rx_nI_inj (by omega) (by omega) e
      subst e2
      exact of_decide_eq_false q (by rw [ok.1])
end RXIF
