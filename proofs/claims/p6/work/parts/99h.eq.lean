section RXEQ
variable {rt : rx_R} {d w : Nat} {P : Option Value → rx_H → Prop}
theorem rx_nIof {x : Int32} {n : Nat} (h1 : 0 ≤ x.toInt) (h2 : x.toInt ≤ n) : ∃ m : Nat, x = nI m ∧ m ≤ n := by
  refine ⟨x.toInt.toNat, ?_, by omega⟩
  apply Int32.toInt_inj.mp
  have := rxi_hi x
  rw [nI_toInt (by omega)]
  omega
theorem rx_ix12 (a b : Nat) (ha : a < 12) (hb : b < 12) : (Int8.ofInt 12).toInt32 * nI a + nI b = nI (12 * a + b) := by
  rw [show (Int8.ofInt 12).toInt32 = nI 12 by decide +kernel, rx_mulI 12 a (by omega) (by decide) (by omega), nI_add]
theorem rx_gI_at {h : rx_H} {k t n : Nat} {f : Nat → Int32} (e : h[k]? = some (.inl (t, n, .inl f))) : rx_gI h k = f := by
  unfold rx_gI
  rw [e]
set_option maxRecDepth 100000 in
set_option maxHeartbeats 4000000 in
theorem rx_lengthOf {a b : Nat} {h : rx_H} (ha : a < 7) (hb : b < 7) (hh : rx_hin rx_I0 h) : rx_T rx_cds rx_ms rx_lk0 rt d w 125 0 [(0, .ref 53), (1, .int (nI a)), (2, .int (nI b))] [] h (fun v h' => v = some (.int (rx_gI h 48 (12 * a + b))) ∧ h' = h) := by
  obtain ⟨f, e1, e2⟩ := rx_get_a (k := 48) hh rfl
  rw [rx_gI_at e1]
  refine rx_T.to 1 1 [(0, .ref 53), (1, .int (nI a)), (2, .int (nI b))] [.ref 53] h rfl ?_
  refine rx_T.gfr (M := rxm_125) (k := 37) rfl rfl rfl hh rfl rfl ?_
  refine rx_T.to 5 10 [(0, .ref 53), (1, .int (nI a)), (2, .int (nI b))] [.int ((Int8.ofInt 12).toInt32 * nI a + nI b), .ref 64] h rfl ?_
  rw [rx_ix12 a b (by omega) (by omega)]
  refine rx_T.iald (M := rxm_125) rfl rfl (rx_ri_i (k := 48) e1) (vp_in_nI (show 12 * a + b < 144 by omega) (by decide)) ?_
  rw [nI_clamp (show 12 * a + b < 2 ^ 31 by omega)]
  exact rx_T.ret (M := rxm_125) (v := some (.int (f (12 * a + b)))) rfl rfl rfl ⟨rfl, rfl⟩
set_option maxRecDepth 100000 in
set_option maxHeartbeats 4000000 in
theorem rx_eq_lp {x y l : Int32} : ∀ (m k : Nat) (h : rx_H) (f : Nat → Int32), k + m = 144 → rx_hin rx_I0 h → h[48]? = some (.inl (0, 144, .inl f)) →
    (∀ (h' : rx_H) (f' : Nat → Int32), rx_hin rx_I0 h' → h'[48]? = some (.inl (0, 144, .inl f')) → (∀ z, ¬ z = 48 → h'[z]? = h[z]?) → (∀ j, j < k → f' j = f j) → (∀ j, k ≤ j → j < 144 → f' j = if f j = x ∨ f j = y then l else f j) → rx_T rx_cds rx_ms rx_lk0 rt d w 124 100 [(8, .int (nI 144)), (7, .int l), (6, .int y), (5, .int x), (0, .ref 53)] [] h' P) →
    rx_T rx_cds rx_ms rx_lk0 rt d w 124 43 [(8, .int (nI k)), (7, .int l), (6, .int y), (5, .int x), (0, .ref 53)] [] h P := by
  intro m
  induction m with
  | zero =>
    intro k h f hk hh hc K
    have ek : k = 144 := by omega
    subst ek
    refine rx_T.to 2 48 [(8, .int (nI 144)), (7, .int l), (6, .int y), (5, .int x), (0, .ref 53)] [.int (Int16.ofInt 144).toInt32, .int (nI 144)] h rfl ?_
    refine rx_T.op (M := rxm_124) (ins := .if_icmp .ge 52) rfl rfl rfl rfl (rx_b2_t 100 (by decide +kernel) (by decide)) ?_
    exact K h f hh hc (fun _ _ => rfl) (fun _ _ => rfl) (fun j j1 j2 => absurd j2 (by omega))
  | succ m ih =>
    intro k h f hk hh hc K
    have hk1 : k < 144 := by omega
    have ek : (nI k).toNatClampNeg = k := nI_clamp (by omega)
    have hin : vp_in (nI k) 144 := vp_in_nI hk1 (by decide)
    refine rx_T.to 2 48 [(8, .int (nI k)), (7, .int l), (6, .int y), (5, .int x), (0, .ref 53)] [.int (Int16.ofInt 144).toInt32, .int (nI k)] h rfl ?_
    refine rx_T.op (M := rxm_124) (ins := .if_icmp .ge 52) rfl rfl rfl rfl (rx_b2_f (decide_eq_false (show ¬ (Int16.ofInt 144).toInt32 ≤ nI k by rw [show (Int16.ofInt 144).toInt32 = nI 144 by decide +kernel]; exact nI_ge hk1 (by decide))) (by decide)) ?_
    have fin : ∀ v : Int32, v = (if f k = x ∨ f k = y then l else f k) → rx_T rx_cds rx_ms rx_lk0 rt d w 124 93 [(8, .int (nI k)), (7, .int l), (6, .int y), (5, .int x), (0, .ref 53)] [.int v, .int (nI k), .ref 64] h P := by
      intro v hv
      refine rx_T.iast (M := rxm_124) (a := 48) rfl rfl hc hin ?_
      rw [ek]
      refine rx_T.to 2 43 [(8, .int (nI k + Int32.ofInt 1)), (7, .int l), (6, .int y), (5, .int x), (0, .ref 53)] [] _ rfl ?_
      rw [show nI k + Int32.ofInt 1 = nI (k + 1) from nI_1 k]
      refine ih (k + 1) _ _ (by omega) (rx_hin_set hh (k := 48) rfl ⟨_, rfl, fun j _ => ⟨rxi_lo _, rxi_hi _⟩⟩) (List.getElem?_set_self (List.getElem?_eq_some_iff.mp hc).1) (fun h' f' a1 a2 a3 a4 a5 => ?_)
      refine K h' f' a1 a2 (fun z hz => (a3 z hz).trans (List.getElem?_set_ne (fun e => hz e.symm))) (fun j hj => ?_) (fun j j1 j2 => ?_)
      · rw [a4 j (by omega)]
        exact if_neg (by omega)
      · by_cases ej : j = k
        · subst ej
          rw [a4 j (by omega), ← hv]
          exact if_pos rfl
        · have e9 : upd f k v j = f j := if_neg ej
          rw [a5 j (by omega) j2, e9]
    refine rx_T.to 1 52 [(8, .int (nI k)), (7, .int l), (6, .int y), (5, .int x), (0, .ref 53)] [.ref 53] h rfl ?_
    refine rx_T.gfr (M := rxm_124) (k := 37) rfl rfl rfl hh rfl rfl ?_
    refine rx_T.to 2 58 [(8, .int (nI k)), (7, .int l), (6, .int y), (5, .int x), (0, .ref 53)] [.ref 53, .int (nI k), .ref 64] h rfl ?_
    refine rx_T.gfr (M := rxm_124) (k := 37) rfl rfl rfl hh rfl rfl ?_
    refine rx_T.to 1 63 [(8, .int (nI k)), (7, .int l), (6, .int y), (5, .int x), (0, .ref 53)] [.int (nI k), .ref 64, .int (nI k), .ref 64] h rfl ?_
    refine rx_T.iald (M := rxm_124) rfl rfl (rx_ri_i (k := 48) hc) hin ?_
    rw [ek]
    refine rx_T.to 1 66 [(8, .int (nI k)), (7, .int l), (6, .int y), (5, .int x), (0, .ref 53)] [.int x, .int (f k), .int (nI k), .ref 64] h rfl ?_
    refine rx_T.br2 (M := rxm_124) 81 rfl rfl (by decide) (fun h1 => ?_) (fun h1 => ?_)
    · refine rx_T.to 2 93 [(8, .int (nI k)), (7, .int l), (6, .int y), (5, .int x), (0, .ref 53)] [.int l, .int (nI k), .ref 64] h rfl ?_
      exact fin l (if_pos (Or.inl (of_decide_eq_true h1))).symm
    · refine rx_T.to 1 70 [(8, .int (nI k)), (7, .int l), (6, .int y), (5, .int x), (0, .ref 53)] [.ref 53, .int (nI k), .ref 64] h rfl ?_
      refine rx_T.gfr (M := rxm_124) (k := 37) rfl rfl rfl hh rfl rfl ?_
      refine rx_T.to 1 75 [(8, .int (nI k)), (7, .int l), (6, .int y), (5, .int x), (0, .ref 53)] [.int (nI k), .ref 64, .int (nI k), .ref 64] h rfl ?_
      refine rx_T.iald (M := rxm_124) rfl rfl (rx_ri_i (k := 48) hc) hin ?_
      rw [ek]
      refine rx_T.to 1 78 [(8, .int (nI k)), (7, .int l), (6, .int y), (5, .int x), (0, .ref 53)] [.int y, .int (f k), .int (nI k), .ref 64] h rfl ?_
      refine rx_T.br2 (M := rxm_124) 86 rfl rfl (by decide) (fun h2 => ?_) (fun h2 => ?_)
      · refine rx_T.to 1 87 [(8, .int (nI k)), (7, .int l), (6, .int y), (5, .int x), (0, .ref 53)] [.ref 53, .int (nI k), .ref 64] h rfl ?_
        refine rx_T.gfr (M := rxm_124) (k := 37) rfl rfl rfl hh rfl rfl ?_
        refine rx_T.to 1 92 [(8, .int (nI k)), (7, .int l), (6, .int y), (5, .int x), (0, .ref 53)] [.int (nI k), .ref 64, .int (nI k), .ref 64] h rfl ?_
        refine rx_T.iald (M := rxm_124) rfl rfl (rx_ri_i (k := 48) hc) hin ?_
        rw [ek]
        have q2 : ¬ f k = y := by simpa [rx_c2] using h2
        exact fin (f k) (if_neg (fun z => z.elim (of_decide_eq_false h1) q2)).symm
      · refine rx_T.to 2 93 [(8, .int (nI k)), (7, .int l), (6, .int y), (5, .int x), (0, .ref 53)] [.int l, .int (nI k), .ref 64] h rfl ?_
        exact fin l (if_pos (Or.inr (Decidable.not_not.mp (of_decide_eq_false h2)))).symm
def rx_s_eq : rx_Sp := (124, [.inr (.inl (53, 53)), .inl (0, 6), .inl (0, 6), .inl (0, 6), .inl (0, 6)], none, 1, 30)
set_option maxRecDepth 100000 in
set_option maxHeartbeats 4000000 in
theorem rx_sp_eq : rx_spm rx_s_eq := by
  intro rt d w as h ht hd hw has hh hx
  have hd : 1 ≤ d := hd
  have hw : 30 ≤ w := hw
  obtain ⟨v0, as0, rfl, k0, has0⟩ := rx_asin_e has
  obtain ⟨v1, as1, rfl, ⟨a, rfl, ha1, ha2⟩, has1⟩ := rx_asin_e has0
  obtain ⟨v2, as2, rfl, ⟨b, rfl, hb1, hb2⟩, has2⟩ := rx_asin_e has1
  obtain ⟨v3, as3, rfl, ⟨c, rfl, hc1, hc2⟩, has3⟩ := rx_asin_e has2
  obtain ⟨v4, as4, rfl, ⟨e, rfl, he1, he2⟩, has4⟩ := rx_asin_e has3
  have e0 := rx_ref_e k0
  subst e0
  have e1 := rx_asin_nil has4
  subst e1
  obtain ⟨a, rfl, ha⟩ := rx_nIof (n := 6) ha1 ha2
  obtain ⟨b, rfl, hb⟩ := rx_nIof (n := 6) hb1 hb2
  obtain ⟨c, rfl, hc⟩ := rx_nIof (n := 6) hc1 hc2
  obtain ⟨e, rfl, he⟩ := rx_nIof (n := 6) he1 he2
  obtain ⟨d', rfl⟩ : ∃ d', d = d' + 1 := ⟨d - 1, by omega⟩
  show rx_T rx_cds rx_ms rx_lk0 rt (d' + 1) w 124 0 [(0, .ref 53), (1, .int (nI a)), (2, .int (nI b)), (3, .int (nI c)), (4, .int (nI e))] [] h _
  refine rx_T.to 3 3 [(0, .ref 53), (1, .int (nI a)), (2, .int (nI b)), (3, .int (nI c)), (4, .int (nI e))] [.int (nI b), .int (nI a), .ref 53] h rfl ?_
  refine rx_T.callm (M := rxm_124) (N := rxm_125) (j := 125) (nest := 0) (as' := [.int (nI a), .int (nI b)]) (rest := []) rfl rfl rfl rfl rfl rfl rfl rfl (Nat.le_of_ble_eq_true rfl) (Nat.le_of_ble_eq_true rfl) hh (show 19 + 3 ≤ w by omega) (rx_lengthOf (by omega) (by omega) hh) ?_
  intro v1 h1 hp
  obtain ⟨rfl, rfl⟩ := hp
  obtain ⟨f, g1, g2⟩ := rx_get_a (k := 48) hh rfl
  rw [rx_gI_at g1]
  have hxe : f (12 * a + b) = f (12 * a + b) := rfl
  generalize hx0 : f (12 * a + b) = x
  refine rx_T.to 4 12 [(5, .int x), (0, .ref 53), (1, .int (nI a)), (2, .int (nI b)), (3, .int (nI c)), (4, .int (nI e))] [.int (nI e), .int (nI c), .ref 53] h1 rfl ?_
  refine rx_T.callm (M := rxm_124) (N := rxm_125) (j := 125) (nest := 0) (as' := [.int (nI c), .int (nI e)]) (rest := []) rfl rfl rfl rfl rfl rfl rfl rfl (Nat.le_of_ble_eq_true rfl) (Nat.le_of_ble_eq_true rfl) hh (show 19 + 3 ≤ w by omega) (rx_lengthOf (by omega) (by omega) hh) ?_
  intro v1 h2 hp
  obtain ⟨rfl, rfl⟩ := hp
  rw [rx_gI_at g1]
  generalize hy0 : f (12 * c + e) = y
  refine rx_T.to 3 21 [(6, .int y), (5, .int x), (0, .ref 53), (1, .int (nI a)), (2, .int (nI b)), (3, .int (nI c)), (4, .int (nI e))] [.int y, .int x] h2 rfl ?_
  refine rx_T.br2 (M := rxm_124) 105 rfl rfl (by decide) (fun z1 => ?_) (fun z1 => ?_)
  · exact rx_T.ret (M := rxm_124) (v := none) rfl rfl rfl ⟨trivial, hh, hx, rx_Fm.refl _⟩
  · have hne : ¬ x = y := of_decide_eq_false z1
    have go : ∀ l : Int32, l.toInt ≤ x.toInt → l.toInt ≤ y.toInt → (l.toInt < x.toInt ∨ l.toInt < y.toInt) → rx_T rx_cds rx_ms rx_lk0 rt (d' + 1) w 124 38 [(6, .int y), (5, .int x), (0, .ref 53), (1, .int (nI a)), (2, .int (nI b)), (3, .int (nI c)), (4, .int (nI e))] [.int l] h2 (fun v h' => rx_pin none v ∧ rx_hin rx_I0 h' ∧ rx_Xm h' ∧ rx_Fm h2 h') := by
      intro l l1 l2 l3
      refine rx_T.to 3 43 [(8, .int (nI 0)), (7, .int l), (6, .int y), (5, .int x), (0, .ref 53), (1, .int (nI a)), (2, .int (nI b)), (3, .int (nI c)), (4, .int (nI e))] [] h2 rfl ?_
      refine rx_T.lv [(8, .int (nI 0)), (7, .int l), (6, .int y), (5, .int x), (0, .ref 53)] ((((((rx_lvl.nil _).cons rfl rfl).cons rfl rfl).cons rfl rfl).cons rfl rfl).cons rfl rfl) ?_
      refine rx_eq_lp 144 0 h2 f rfl hh g1 (fun h3 f3 a1 a2 a3 _ a5 => ?_)
      obtain ⟨vs, c1, c2, c3⟩ := rx_get_o a1 (k := 37) rfl
      have hlen : 17 < vs.length := by rw [c2]; decide
      refine rx_T.to 2 102 [(8, .int (nI 144)), (7, .int l), (6, .int y), (5, .int x), (0, .ref 53)] [.int 1, .ref 53] h3 rfl ?_
      refine rx_T.pf (M := rxm_124) (k := 37) rfl rfl rfl c1 hlen rfl ?_
      have hh2 := rx_hin_fld (i := 17) (x := 1) a1 c1 (fun fs hfs => by cases hfs; rfl) (by decide) (by decide)
      have s1 : ∀ z, ¬ z = 37 → (h3.set 37 (.inr (5, vs.set 17 (.int 1))))[z]? = h3[z]? := fun z hz => List.getElem?_set_ne (fun y => hz y.symm)
      have s2 : ∀ z, ¬ z = 37 → ¬ z = 48 → (h3.set 37 (.inr (5, vs.set 17 (.int 1))))[z]? = h2[z]? := fun z z1 z2 => (s1 z z1).trans (a3 z z2)
      have m1 : rx_MA (h3.set 37 (.inr (5, vs.set 17 (.int 1)))) < rx_MA h2 := by
        unfold rx_MA
        rw [rx_gI_of (s2 46 (by decide) (by decide)), rx_gI_of (s2 47 (by decide) (by decide)), rx_gI_of (s1 48 (by decide)), rx_gI_at a2, rx_gI_at g1]
        have hle : ∀ j, j < 144 → rx_tl f3 j ≤ rx_tl f j := by
          intro j hj
          unfold rx_tl
          rw [a5 j (Nat.zero_le j) hj]
          by_cases q : f j = x ∨ f j = y
          · rw [if_pos q]
            rcases q with q | q <;> rw [q] <;> omega
          · rw [if_neg q]
            exact Nat.le_refl _
        have lo1 := rxi_lo l
        have hlt : rx_sum (rx_tl f3) 144 < rx_sum (rx_tl f) 144 := by
          rcases l3 with l3 | l3
          · refine rx_sum_lt (c := 12 * a + b) 144 (by omega) hle ?_
            unfold rx_tl
            rw [a5 _ (Nat.zero_le _) (by omega), if_pos (Or.inl hx0), hx0]
            omega
          · refine rx_sum_lt (c := 12 * c + e) 144 (by omega) hle ?_
            unfold rx_tl
            rw [a5 _ (Nat.zero_le _) (by omega), if_pos (Or.inr hy0), hy0]
            omega
        omega
      have f0 : ∀ j, ¬ 17 = j → rx_gF (h3.set 37 (.inr (5, vs.set 17 (.int 1)))) 37 j = rx_gF h2 37 j := fun j hj => (rx_gF_set c1 hj).trans (rx_gF_of (a3 37 (by decide)))
      refine rx_T.ret (M := rxm_124) (v := none) rfl rfl rfl ⟨trivial, hh2, ⟨?_, ?_⟩, fun z hz => s2 z (by omega) (by omega), fun j hj => f0 j (by omega), Or.inl m1, fun _ => Or.inr (Or.inl m1), fun _ => Or.inr m1⟩
      · rw [rx_gL_of (s2 50 (by decide) (by decide)), rx_gI_of (s2 51 (by decide) (by decide))]
        exact hx.1
      · rw [rx_gI_of (s2 47 (by decide) (by decide))]
        exact hx.2
    have hni : ¬ x.toInt = y.toInt := fun z => hne (Int32.toInt_inj.mp z)
    refine rx_T.to 2 28 [(6, .int y), (5, .int x), (0, .ref 53), (1, .int (nI a)), (2, .int (nI b)), (3, .int (nI c)), (4, .int (nI e))] [.int y, .int x] h2 rfl ?_
    refine rx_T.br2 (M := rxm_124) 36 rfl rfl (by decide) (fun z2 => ?_) (fun z2 => ?_)
    · have h5 : y.toInt ≤ x.toInt := Int32.le_iff_toInt_le.mp (of_decide_eq_true z2)
      refine rx_T.to 1 38 [(6, .int y), (5, .int x), (0, .ref 53), (1, .int (nI a)), (2, .int (nI b)), (3, .int (nI c)), (4, .int (nI e))] [.int y] h2 rfl ?_
      exact go y h5 (Int.le_refl _) (Or.inl (by omega))
    · have h5 : ¬ y.toInt ≤ x.toInt := fun q => of_decide_eq_false z2 (Int32.le_iff_toInt_le.mpr q)
      refine rx_T.to 2 38 [(6, .int y), (5, .int x), (0, .ref 53), (1, .int (nI a)), (2, .int (nI b)), (3, .int (nI c)), (4, .int (nI e))] [.int x] h2 rfl ?_
      exact go x (Int.le_refl _) (by omega) (Or.inr (by omega))
end RXEQ
