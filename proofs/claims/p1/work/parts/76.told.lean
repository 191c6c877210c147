set_option maxRecDepth 1000000 in
set_option maxHeartbeats 8000000 in
theorem rx_p1_tx4 : (rx_run rx_cds rx_ms rx_lk0 rx_rt0 20000 11 447 89 0 [(0, .ref 16), (1, .int 4)] [] rx_layX).map (fun q => (q.1, q.2.length)) = some (some (.int 0), 61) := by decide +kernel
set_option maxRecDepth 1000000 in
set_option maxHeartbeats 8000000 in
theorem rx_p1_tx5 : (rx_run rx_cds rx_ms rx_lk0 rx_rt0 20000 11 447 89 0 [(0, .ref 16), (1, .int 5)] [] rx_layX).map (fun q => (q.1, q.2.length)) = some (some (.int 0), 61) := by decide +kernel
set_option maxRecDepth 1000000 in
set_option maxHeartbeats 8000000 in
theorem rx_p1_tx6 : (rx_run rx_cds rx_ms rx_lk0 rx_rt0 20000 11 447 89 0 [(0, .ref 16), (1, .int 6)] [] rx_layX).map (fun q => (q.1, q.2.length)) = some (some (.int 0), 61) := by decide +kernel
set_option maxRecDepth 1000000 in
set_option maxHeartbeats 8000000 in
theorem rx_p1_tx7 : (rx_run rx_cds rx_ms rx_lk0 rx_rt0 20000 11 447 89 0 [(0, .ref 16), (1, .int 7)] [] rx_layX).map (fun q => (q.1, q.2.length)) = some (some (.int 0), 61) := by decide +kernel
theorem rx_p1_tx {i : Int32} {xs : Nat → Int32} (h : (rx_run rx_cds rx_ms rx_lk0 rx_rt0 20000 11 447 89 0 [(0, .ref 16), (1, .int i)] [] rx_layX).map (fun q => (q.1, q.2.length)) = some (some (.int 0), 61)) : rx_T rx_cds rx_ms rx_lk0 (rx_rt 4 xs) 11 447 89 0 [(0, .ref 16), (1, .int i)] [] rx_lay0 (fun v g => v = some (.int 0) ∧ g.length = 61 ∧ rx_sz g = rx_sz rx_lay0 ∧ ∀ k, 37 ≤ k → g[k]? = rx_lay0[k]?) := by
  obtain ⟨q, h1, h2⟩ := Option.map_eq_some_iff.mp h
  obtain ⟨v, h'⟩ := q
  simp only [Prod.mk.injEq] at h2
  obtain ⟨rfl, h3⟩ := h2
  obtain ⟨g, h4, h5⟩ := rx_run_psn _ _ _ _ _ _ _ _ _ _ h1 rx_lay0 rx_layX_le
  have h6 : g.length = 61 := by rw [← h5.1.1]; exact h3
  refine rx_T.rt0 4 xs ⟨20000, _, g, h4, rfl, h6, rx_run_sz _ _ _ _ _ _ _ _ _ _ h4 (by rw [h6]; rfl), fun k hk => ?_⟩
  by_cases h7 : k < 61
  · exact (h5.2 k (rx_layX_psn hk h7)).2
  · rw [List.getElem?_eq_none (by omega), List.getElem?_eq_none (by show 61 ≤ k; omega)]
section RXL2
variable {rt : rx_R} {d w : Nat} {P : Option Value → rx_H → Prop}
set_option maxRecDepth 100000 in
set_option maxHeartbeats 4000000 in
theorem rx_fill2 (o t : Nat) (fs : List Value) (hfs : fs[31]? = some (.ref (t + 16))) (hot : o ≠ t) : ∀ (m k : Nat) (h : rx_H) (g : Nat → Int32), k + m = 2048 → h[o]? = some (.inr (5, fs)) → h[t]? = some (.inl (0, 2048, .inl g)) →
    rx_T rx_cds rx_ms rx_lk0 rt d w 138 22 [(1, .int (nI 2048)), (0, .ref (o + 16))] [] (h.set t (.inl (0, 2048, .inl (fun j => if k ≤ j ∧ j < 2048 then (-1) else g j)))) P →
    rx_T rx_cds rx_ms rx_lk0 rt d w 138 2 [(1, .int (nI k)), (0, .ref (o + 16))] [] h P := by
  intro m
  induction m with
  | zero =>
    intro k h g hk ho ht K
    have ek : k = 2048 := by omega
    subst ek
    refine rx_T.op (M := rxm_138) (ins := .iload_n 1) rfl rfl rfl rfl rfl ?_
    refine rx_T.op (M := rxm_138) (ins := .sipush 2048) rfl rfl rfl rfl rfl ?_
    refine rx_T.op (M := rxm_138) (ins := .if_icmp .ge 16) rfl rfl rfl rfl (rx_b2_t 22 (by decide +kernel) (by decide)) ?_
    have e1 : (fun j => if 2048 ≤ j ∧ j < 2048 then (-1 : Int32) else g j) = g := funext (fun j => if_neg (fun z => absurd z.2 (Nat.not_lt.mpr z.1)))
    rw [e1] at K
    obtain ⟨h1, h2⟩ := List.getElem?_eq_some_iff.mp ht
    rw [← h2, List.set_getElem_self] at K
    exact K
  | succ m ih =>
    intro k h g hk ho ht K
    refine rx_T.op (M := rxm_138) (ins := .iload_n 1) rfl rfl rfl rfl rfl ?_
    refine rx_T.op (M := rxm_138) (ins := .sipush 2048) rfl rfl rfl rfl rfl ?_
    refine rx_T.op (M := rxm_138) (ins := .if_icmp .ge 16) rfl rfl rfl rfl (rx_b2_f (decide_eq_false (show ¬ (Int16.ofInt 2048).toInt32 ≤ nI k by rw [show (Int16.ofInt 2048).toInt32 = nI 2048 by decide +kernel]; exact nI_ge (by omega) (by decide))) (by decide)) ?_
    refine rx_T.op (M := rxm_138) (ins := .aload_n 0) rfl rfl rfl rfl rfl ?_
    refine rx_T.op (M := rxm_138) (ins := .getfield 78) rfl rfl rfl rfl (rx_gf_i rfl ho hfs) ?_
    refine rx_T.op (M := rxm_138) (ins := .iload_n 1) rfl rfl rfl rfl rfl ?_
    refine rx_T.op (M := rxm_138) (ins := .iconst (-1)) rfl rfl rfl rfl rfl ?_
    refine rx_T.op (M := rxm_138) (ins := .iastore) rfl rfl rfl rfl (rx_ias_i ht (vp_in_nI (by omega) (by decide))) ?_
    refine rx_T.op (M := rxm_138) (ins := .iinc 1 1) rfl rfl rfl rfl rfl ?_
    refine rx_T.op (M := rxm_138) (ins := .goto (-17)) rfl rfl rfl rfl rfl ?_
    have hlt : t < h.length := (List.getElem?_eq_some_iff.mp ht).1
    have e1 : (nI k).toNatClampNeg = k := nI_clamp (by omega)
    show rx_T rx_cds rx_ms rx_lk0 rt d w 138 2 [(1, .int (nI k + Int32.ofInt 1)), (0, .ref (o + 16))] [] _ P
    rw [show nI k + Int32.ofInt 1 = nI (k + 1) from nI_1 k, e1]
    refine ih (k + 1) _ (upd g k (Int32.ofInt (-1))) (by omega) (by rw [List.getElem?_set_ne (Ne.symm hot)]; exact ho) (List.getElem?_set_self hlt) ?_
    rw [List.set_set]
    have e2 : (fun j => if k + 1 ≤ j ∧ j < 2048 then (-1 : Int32) else upd g k (Int32.ofInt (-1)) j) = (fun j => if k ≤ j ∧ j < 2048 then (-1) else g j) := funext (fun j => by
      by_cases ej : j = k
      · subst ej
        rw [if_neg (by omega), if_pos (by omega)]
        simp [upd]
      · simp only [upd, if_neg ej]
        by_cases e3 : k ≤ j ∧ j < 2048
        · rw [if_pos e3, if_pos (by omega)]
        · rw [if_neg e3, if_neg (by omega)])
    rw [e2]
    exact K
end RXL2
def rx_n1 : rx_H := rx_hp (rx_steps rx_cds rx_ms rx_lk0 rx_rt0 20000 9 403 113 19 (0, [(0, .ref 53)], [], rx_layM))
def rx_n2 : rx_H := rx_n1.set 60 (.inl (0, 2048, .inl (fun j => if 0 ≤ j ∧ j < 2048 then (-1) else rx_prA rx_n1[60]? j)))
def rx_n3 : rx_H := rx_hp (rx_steps rx_cds rx_ms rx_lk0 rx_rt0 20000 8 380 138 25 (22, [(1, .int (nI 2048)), (0, .ref 53)], [], rx_n2))
def rx_n4 : rx_H := rx_hp (rx_steps rx_cds rx_ms rx_lk0 rx_rt0 20000 9 403 113 13 (44, [(0, .ref 53)], [], rx_n3))
def rx_n5 : rx_H := rx_hp (rx_steps rx_cds rx_ms rx_lk0 rx_rt0 0 10 423 112 3 (39, [(1, .int 0), (0, .ref 53)], [], rx_n4))
set_option maxRecDepth 1000000 in
set_option maxHeartbeats 8000000 in
theorem rx_n1_at : (rx_steps rx_cds rx_ms rx_lk0 rx_rt0 20000 9 403 113 19 (0, [(0, .ref 53)], [], rx_layM)).map (fun q => (q.1, q.2.1, q.2.2.1)) = some (41, [(0, .ref 53)], [.ref 53]) := by decide +kernel
set_option maxRecDepth 1000000 in
set_option maxHeartbeats 8000000 in
theorem rx_n1_o : rx_isO rx_n1[37]? 5 = true ∧ (rx_prO rx_n1[37]?)[31]? = some (.ref 76) ∧ rx_isA rx_n1[60]? 2048 = true := by decide +kernel
set_option maxRecDepth 1000000 in
set_option maxHeartbeats 8000000 in
theorem rx_n3_at : (rx_steps rx_cds rx_ms rx_lk0 rx_rt0 20000 8 380 138 25 (22, [(1, .int (nI 2048)), (0, .ref 53)], [], rx_n2)).map (fun q => (q.1, q.2.1, q.2.2.1)) = some (127, [(2, .int 0), (1, .int 0), (0, .ref 53)], []) := by decide +kernel
set_option maxRecDepth 1000000 in
set_option maxHeartbeats 8000000 in
theorem rx_n4_at : (rx_steps rx_cds rx_ms rx_lk0 rx_rt0 20000 9 403 113 13 (44, [(0, .ref 53)], [], rx_n3)).map (fun q => (q.1, q.2.1, q.2.2.1)) = some (73, [(0, .ref 53)], []) := by decide +kernel
set_option maxRecDepth 1000000 in
set_option maxHeartbeats 8000000 in
theorem rx_n5_at : (rx_steps rx_cds rx_ms rx_lk0 rx_rt0 0 10 423 112 3 (39, [(1, .int 0), (0, .ref 53)], [], rx_n4)).map (fun q => (q.1, q.2.1, q.2.2.1)) = some (44, [(1, .int 0), (0, .ref 53)], []) := by decide +kernel
set_option maxRecDepth 1000000 in
set_option maxHeartbeats 8000000 in
theorem rx_p1_na  : rx_T rx_cds rx_ms rx_lk0 rx_rt0 8 380 138 0 [(0, .ref 53)] [] rx_n1 (fun v h' => v = none ∧ h' = rx_n3) := by
  refine rx_T.to 2 2 [(1, .int (nI 0)), (0, .ref 53)] [] rx_n1 rfl ?_
  refine rx_fill2 37 60 (rx_prO rx_n1[37]?) rx_n1_o.2.1 (by decide) 2048 0 rx_n1 (rx_prA rx_n1[60]?) rfl (rx_isO_e rx_n1_o.1) (rx_isA_e rx_n1_o.2.2) ?_
  refine rx_T.stretch (h := rx_n2) rx_n3_at ?_
  exact rx_T.ret (M := rxm_138) rfl rfl rfl ⟨rfl, rfl⟩
set_option maxRecDepth 1000000 in
set_option maxHeartbeats 8000000 in
theorem rx_n1_call : rx_call rx_ms rx_lk0 rxm_113 (.invokevirtual 271) [.ref 53] rx_n1 = some (138, [.ref 53], []) := by decide +kernel
set_option maxRecDepth 1000000 in
set_option maxHeartbeats 8000000 in
theorem rx_p1_wk  : rx_T rx_cds rx_ms rx_lk0 rx_rt0 9 403 113 0 [(0, .ref 53)] [] rx_layM (fun v h' => v = none ∧ h' = rx_n4) := by
  refine rx_T.stretch rx_n1_at ?_
  refine rx_T.call (M := rxm_113) (N := rxm_138) (j := 138) (as := [.ref 53]) (rest := []) rfl rfl rfl rx_n1_call rfl (by decide) rx_p1_na ?_
  intro v1 h1 hp
  obtain ⟨rfl, rfl⟩ := hp
  refine rx_T.stretch (h := rx_n3) rx_n4_at ?_
  exact rx_T.ret (M := rxm_113) rfl rfl rfl ⟨rfl, rfl⟩
set_option maxRecDepth 1000000 in
set_option maxHeartbeats 8000000 in
theorem rx_p1_rf  : rx_T rx_cds rx_ms rx_lk0 rx_rt0 10 423 112 0 [(0, .ref 53)] [] rx_layM (fun v h' => v = none ∧ h' = rx_n5) := by
  refine rx_T.to 10 36 [(1, .int 0), (0, .ref 53)] [.ref 53] rx_layM rfl ?_
  refine rx_T.call (M := rxm_112) (N := rxm_113) (j := 113) (as := [.ref 53]) (rest := []) rfl rfl rfl rfl rfl (by decide) rx_p1_wk ?_
  intro v1 h1 hp
  obtain ⟨rfl, rfl⟩ := hp
  refine rx_T.stretch (h := rx_n4) rx_n5_at ?_
  exact rx_T.ret (M := rxm_112) rfl rfl rfl ⟨rfl, rfl⟩
set_option maxRecDepth 1000000 in
set_option maxHeartbeats 8000000 in
theorem rx_n6_at4 : (rx_steps rx_cds rx_ms rx_lk0 rx_rt0 20000 11 444 160 309 (24, [(3, .int 0), (2, .int 0), (0, .ref 53), (1, .int 4)], [], rx_n5)).map (fun q => (q.1, q.2.2.1, q.2.2.2.length)) = some (161, [.int 0], 61) := by decide +kernel
set_option maxRecDepth 1000000 in
set_option maxHeartbeats 8000000 in
theorem rx_p1_tm4  : rx_T rx_cds rx_ms rx_lk0 rx_rt0 11 444 160 0 [(0, .ref 53), (1, .int 4)] [] rx_layM (fun v h' => v = some (.int 0) ∧ h'.length = 61) := by
  refine rx_T.to 14 21 [(3, .int 0), (2, .int 0), (0, .ref 53), (1, .int 4)] [.ref 53] rx_layM rfl ?_
  refine rx_T.call (M := rxm_160) (N := rxm_112) (j := 112) (as := [.ref 53]) (rest := []) rfl rfl rfl rfl rfl (by decide) rx_p1_rf ?_
  intro v1 h1 hp
  obtain ⟨rfl, rfl⟩ := hp
  obtain ⟨q, h1, h2⟩ := Option.map_eq_some_iff.mp rx_n6_at4
  obtain ⟨a, b, c, g⟩ := q
  simp only [Prod.mk.injEq] at h2
  obtain ⟨rfl, rfl, h3⟩ := h2
  refine rx_steps_T 309 _ _ h1 ?_
  exact rx_T.ret (M := rxm_160) rfl rfl rfl ⟨rfl, h3⟩
set_option maxRecDepth 1000000 in
set_option maxHeartbeats 8000000 in
theorem rx_n6_at5 : (rx_steps rx_cds rx_ms rx_lk0 rx_rt0 20000 11 444 160 309 (24, [(3, .int 0), (2, .int 0), (0, .ref 53), (1, .int 5)], [], rx_n5)).map (fun q => (q.1, q.2.2.1, q.2.2.2.length)) = some (166, [.int 0], 61) := by decide +kernel
set_option maxRecDepth 1000000 in
set_option maxHeartbeats 8000000 in
theorem rx_p1_tm5  : rx_T rx_cds rx_ms rx_lk0 rx_rt0 11 444 160 0 [(0, .ref 53), (1, .int 5)] [] rx_layM (fun v h' => v = some (.int 0) ∧ h'.length = 61) := by
  refine rx_T.to 14 21 [(3, .int 0), (2, .int 0), (0, .ref 53), (1, .int 5)] [.ref 53] rx_layM rfl ?_
  refine rx_T.call (M := rxm_160) (N := rxm_112) (j := 112) (as := [.ref 53]) (rest := []) rfl rfl rfl rfl rfl (by decide) rx_p1_rf ?_
  intro v1 h1 hp
  obtain ⟨rfl, rfl⟩ := hp
  obtain ⟨q, h1, h2⟩ := Option.map_eq_some_iff.mp rx_n6_at5
  obtain ⟨a, b, c, g⟩ := q
  simp only [Prod.mk.injEq] at h2
  obtain ⟨rfl, rfl, h3⟩ := h2
  refine rx_steps_T 309 _ _ h1 ?_
  exact rx_T.ret (M := rxm_160) rfl rfl rfl ⟨rfl, h3⟩
set_option maxRecDepth 1000000 in
set_option maxHeartbeats 8000000 in
theorem rx_n6_at6 : (rx_steps rx_cds rx_ms rx_lk0 rx_rt0 20000 11 444 160 309 (24, [(3, .int 0), (2, .int 0), (0, .ref 53), (1, .int 6)], [], rx_n5)).map (fun q => (q.1, q.2.2.1, q.2.2.2.length)) = some (171, [.int 0], 61) := by decide +kernel
set_option maxRecDepth 1000000 in
set_option maxHeartbeats 8000000 in
theorem rx_p1_tm6  : rx_T rx_cds rx_ms rx_lk0 rx_rt0 11 444 160 0 [(0, .ref 53), (1, .int 6)] [] rx_layM (fun v h' => v = some (.int 0) ∧ h'.length = 61) := by
  refine rx_T.to 14 21 [(3, .int 0), (2, .int 0), (0, .ref 53), (1, .int 6)] [.ref 53] rx_layM rfl ?_
  refine rx_T.call (M := rxm_160) (N := rxm_112) (j := 112) (as := [.ref 53]) (rest := []) rfl rfl rfl rfl rfl (by decide) rx_p1_rf ?_
  intro v1 h1 hp
  obtain ⟨rfl, rfl⟩ := hp
  obtain ⟨q, h1, h2⟩ := Option.map_eq_some_iff.mp rx_n6_at6
  obtain ⟨a, b, c, g⟩ := q
  simp only [Prod.mk.injEq] at h2
  obtain ⟨rfl, rfl, h3⟩ := h2
  refine rx_steps_T 309 _ _ h1 ?_
  exact rx_T.ret (M := rxm_160) rfl rfl rfl ⟨rfl, h3⟩
set_option maxRecDepth 1000000 in
set_option maxHeartbeats 8000000 in
theorem rx_n6_at7 : (rx_steps rx_cds rx_ms rx_lk0 rx_rt0 20000 11 444 160 308 (24, [(3, .int 0), (2, .int 0), (0, .ref 53), (1, .int 7)], [], rx_n5)).map (fun q => (q.1, q.2.2.1, q.2.2.2.length)) = some (173, [.int 0], 61) := by decide +kernel
set_option maxRecDepth 1000000 in
set_option maxHeartbeats 8000000 in
theorem rx_p1_tm7  : rx_T rx_cds rx_ms rx_lk0 rx_rt0 11 444 160 0 [(0, .ref 53), (1, .int 7)] [] rx_layM (fun v h' => v = some (.int 0) ∧ h'.length = 61) := by
  refine rx_T.to 14 21 [(3, .int 0), (2, .int 0), (0, .ref 53), (1, .int 7)] [.ref 53] rx_layM rfl ?_
  refine rx_T.call (M := rxm_160) (N := rxm_112) (j := 112) (as := [.ref 53]) (rest := []) rfl rfl rfl rfl rfl (by decide) rx_p1_rf ?_
  intro v1 h1 hp
  obtain ⟨rfl, rfl⟩ := hp
  obtain ⟨q, h1, h2⟩ := Option.map_eq_some_iff.mp rx_n6_at7
  obtain ⟨a, b, c, g⟩ := q
  simp only [Prod.mk.injEq] at h2
  obtain ⟨rfl, rfl, h3⟩ := h2
  refine rx_steps_T 308 _ _ h1 ?_
  exact rx_T.ret (M := rxm_160) rfl rfl rfl ⟨rfl, h3⟩
theorem rx_p1_tm {i : Int32} {xs : Nat → Int32} {g : rx_H} (k : rx_T rx_cds rx_ms rx_lk0 rx_rt0 11 444 160 0 [(0, .ref 53), (1, .int i)] [] rx_layM (fun v h' => v = some (.int 0) ∧ h'.length = 61)) (hl : g.length = 61) (hg : ∀ k, 37 ≤ k → g[k]? = rx_lay0[k]?) : rx_T rx_cds rx_ms rx_lk0 (rx_rt 4 xs) 11 444 160 0 [(0, .ref 53), (1, .int i)] [] g (fun v g' => v = some (.int 0) ∧ g'.length = 61 ∧ rx_sz g' = rx_sz g) := by
  obtain ⟨f, v, h', e, rfl, h1⟩ := k
  obtain ⟨g', h4, h5⟩ := rx_run_psn _ _ _ _ _ _ _ _ _ _ e g (rx_layM_le hl hg)
  have h6 : g'.length = 61 := by rw [← h5.1.1]; exact h1
  exact rx_T.rt0 4 xs ⟨f, _, g', h4, rfl, h6, rx_run_sz _ _ _ _ _ _ _ _ _ _ h4 (by rw [h6, hl])⟩
