/-! the reference's numberAll: table[k] = NONE for all k (a pattern for loops over rx_T) -/
section RXL
variable {rt : rx_R} {d w : Nat} {P : Option Value → rx_H → Prop}
set_option maxRecDepth 100000 in
set_option maxHeartbeats 4000000 in
theorem rx_fill_table (o t : Nat) (fs : List Value) (hfs : fs[31]? = some (.ref (t + 16))) (hot : o ≠ t) : ∀ (m k : Nat) (h : rx_H) (g : Nat → Int32), k + m = 2048 → h[o]? = some (.inr (5, fs)) → h[t]? = some (.inl (0, 2048, .inl g)) → (∀ j, j < k → g j = -1) →
    (∀ (h' : rx_H) (g' : Nat → Int32), h'[o]? = some (.inr (5, fs)) → h'[t]? = some (.inl (0, 2048, .inl g')) → (∀ q, q ≠ t → h'[q]? = h[q]?) → h'.length = h.length → (∀ j, j < 2048 → g' j = -1) → rx_T rx_cds rx_ms rx_lk0 rt d w 138 22 [(1, .int (nI 2048)), (0, .ref (o + 16))] [] h' P) →
    rx_T rx_cds rx_ms rx_lk0 rt d w 138 2 [(1, .int (nI k)), (0, .ref (o + 16))] [] h P := by
  intro m
  induction m with
  | zero =>
    intro k h g hk ho ht hg K
    have ek : k = 2048 := by omega
    subst ek
    refine rx_T.op (M := rxm_138) (ins := .iload_n 1) rfl rfl rfl rfl rfl ?_
    refine rx_T.op (M := rxm_138) (ins := .sipush 2048) rfl rfl rfl rfl rfl ?_
    refine rx_T.op (M := rxm_138) (ins := .if_icmp .ge 16) rfl rfl rfl rfl (rx_b2_t 22 (by decide +kernel) (by decide)) ?_
    exact K h g ho ht (fun _ _ => rfl) rfl hg
  | succ m ih =>
    intro k h g hk ho ht hg K
    refine rx_T.op (M := rxm_138) (ins := .iload_n 1) rfl rfl rfl rfl rfl ?_
    refine rx_T.op (M := rxm_138) (ins := .sipush 2048) rfl rfl rfl rfl rfl ?_
    refine rx_T.op (M := rxm_138) (ins := .if_icmp .ge 16) rfl rfl rfl rfl (rx_b2_f (decide_eq_false (show ¬ (Int16.ofInt 2048).toInt32 ≤ nI k by rw [show (Int16.ofInt 2048).toInt32 = nI 2048 by decide +kernel]; exact nI_ge (by omega) (by decide))) (by decide)) ?_
    refine rx_T.op (M := rxm_138) (ins := .aload_n 0) rfl rfl rfl rfl rfl ?_
    refine rx_T.op (M := rxm_138) (ins := .getfield 78) rfl rfl rfl rfl (rx_gf_i rfl ho hfs) ?_
    refine rx_T.op (M := rxm_138) (ins := .iload_n 1) rfl rfl rfl rfl rfl ?_
    refine rx_T.op (M := rxm_138) (ins := .iconst (-1)) rfl rfl rfl rfl rfl ?_
    refine rx_T.op (M := rxm_138) (ins := .iastore) rfl rfl rfl rfl (rx_ias_i ht (vp_in_nI (by omega) (by decide))) ?_
    refine rx_T.op (M := rxm_138) (ins := .iinc 1 1) rfl rfl rfl rfl rfl ?_
    refine rx_T.op (M := rxm_138) (ins := .goto (-17)) rfl rfl rfl rfl rfl ?_
    have hlt : t < h.length := (List.getElem?_eq_some_iff.mp ht).1
    have e1 : (nI k).toNatClampNeg = k := nI_clamp (by omega)
    show rx_T rx_cds rx_ms rx_lk0 rt d w 138 2 [(1, .int (nI k + Int32.ofInt 1)), (0, .ref (o + 16))] [] _ P
    rw [show nI k + Int32.ofInt 1 = nI (k + 1) from nI_1 k, e1]
    refine ih (k + 1) _ (upd g k (Int32.ofInt (-1))) (by omega) (by rw [List.getElem?_set_ne (Ne.symm hot)]; exact ho) (List.getElem?_set_self hlt) ?_ ?_
    · intro j hj
      by_cases ej : j = k
      · subst ej
        simp [upd]
      · simp only [upd, if_neg ej]
        exact hg j (by omega)
    · intro h' g' a1 a2 a3 a4 a5
      exact K h' g' a1 a2 (fun q hq => (a3 q hq).trans (List.getElem?_set_ne (Ne.symm hq))) (by rw [a4, List.length_set]) a5
end RXL
