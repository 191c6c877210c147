set_option maxRecDepth 1000000 in
set_option maxHeartbeats 8000000 in
theorem rx_p1_tx4 : (rx_run rx_cds rx_ms rx_lk0 rx_rt0 20000 11 447 88 0 [(0, .ref 16), (1, .int 4)] [] rx_layX).map (fun q => (q.1, q.2.length)) = some (some (.int 0), 61) := sorry
set_option maxRecDepth 1000000 in
set_option maxHeartbeats 8000000 in
theorem rx_p1_tx5 : (rx_run rx_cds rx_ms rx_lk0 rx_rt0 20000 11 447 88 0 [(0, .ref 16), (1, .int 5)] [] rx_layX).map (fun q => (q.1, q.2.length)) = some (some (.int 0), 61) := sorry
set_option maxRecDepth 1000000 in
set_option maxHeartbeats 8000000 in
theorem rx_p1_tx6 : (rx_run rx_cds rx_ms rx_lk0 rx_rt0 20000 11 447 88 0 [(0, .ref 16), (1, .int 6)] [] rx_layX).map (fun q => (q.1, q.2.length)) = some (some (.int 0), 61) := sorry
set_option maxRecDepth 1000000 in
set_option maxHeartbeats 8000000 in
theorem rx_p1_tx7 : (rx_run rx_cds rx_ms rx_lk0 rx_rt0 20000 11 447 88 0 [(0, .ref 16), (1, .int 7)] [] rx_layX).map (fun q => (q.1, q.2.length)) = some (some (.int 0), 61) := sorry
theorem rx_p1_tx {i : Int32} {xs : Nat → Int32} (h : (rx_run rx_cds rx_ms rx_lk0 rx_rt0 20000 11 447 88 0 [(0, .ref 16), (1, .int i)] [] rx_layX).map (fun q => (q.1, q.2.length)) = some (some (.int 0), 61)) : rx_T rx_cds rx_ms rx_lk0 (rx_rt 4 xs) 11 447 88 0 [(0, .ref 16), (1, .int i)] [] rx_lay0 (fun v g => v = some (.int 0) ∧ g.length = 61 ∧ rx_sz g = rx_sz rx_lay0 ∧ ∀ k, 37 ≤ k → g[k]? = rx_lay0[k]?) := sorry
section RXL2
variable {rt : rx_R} {d w : Nat} {P : Option Value → rx_H → Prop}
set_option maxRecDepth 100000 in
set_option maxHeartbeats 4000000 in
theorem rx_fill2 (o t : Nat) (fs : List Value) (hfs : fs[31]? = some (.ref (t + 16))) (hot : o ≠ t) : ∀ (m k : Nat) (h : rx_H) (g : Nat → Int32), k + m = 2048 → h[o]? = some (.inr (5, fs)) → h[t]? = some (.inl (0, 2048, .inl g)) →
    rx_T rx_cds rx_ms rx_lk0 rt d w 137 22 [(1, .int (nI 2048)), (0, .ref (o + 16))] [] (h.set t (.inl (0, 2048, .inl (fun j => if k ≤ j ∧ j < 2048 then (-1) else g j)))) P →
    rx_T rx_cds rx_ms rx_lk0 rt d w 137 2 [(1, .int (nI k)), (0, .ref (o + 16))] [] h P := by
  intro m
  induction m with
  | zero =>
    intro k h g hk ho ht K
    have ek : k = 2048 := by omega
    subst ek
    refine rx_T.op (M := rxm_137) (ins := .iload_n 1) rfl rfl rfl rfl rfl ?_
    refine rx_T.op (M := rxm_137) (ins := .sipush 2048) rfl rfl rfl rfl rfl ?_
    refine rx_T.op (M := rxm_137) (ins := .if_icmp .ge 16) rfl rfl rfl rfl (rx_b2_t 22 (by decide +kernel) (by decide)) ?_
    have e1 : (fun j => if 2048 ≤ j ∧ j < 2048 then (-1 : Int32) else g j) = g := funext (fun j => if_neg (fun z => absurd z.2 (Nat.not_lt.mpr z.1)))
    rw [e1] at K
    obtain ⟨h1, h2⟩ := List.getElem?_eq_some_iff.mp ht
    rw [← h2, List.set_getElem_self] at K
    exact K
  | succ m ih =>
    intro k h g hk ho ht K
    refine rx_T.op (M := rxm_137) (ins := .iload_n 1) rfl rfl rfl rfl rfl ?_
    refine rx_T.op (M := rxm_137) (ins := .sipush 2048) rfl rfl rfl rfl rfl ?_
    refine rx_T.op (M := rxm_137) (ins := .if_icmp .ge 16) rfl rfl rfl rfl (rx_b2_f (decide_eq_false (show ¬ (Int16.ofInt 2048).toInt32 ≤ nI k by rw [show (Int16.ofInt 2048).toInt32 = nI 2048 by decide +kernel]; exact nI_ge (by omega) (by decide))) (by decide)) ?_
    refine rx_T.op (M := rxm_137) (ins := .aload_n 0) rfl rfl rfl rfl rfl ?_
    refine rx_T.op (M := rxm_137) (ins := .getfield 78) rfl rfl rfl rfl (rx_gf_i rfl ho hfs) ?_
    refine rx_T.op (M := rxm_137) (ins := .iload_n 1) rfl rfl rfl rfl rfl ?_
    refine rx_T.op (M := rxm_137) (ins := .iconst (-1)) rfl rfl rfl rfl rfl ?_
    refine rx_T.op (M := rxm_137) (ins := .iastore) rfl rfl rfl rfl (rx_ias_i ht (vp_in_nI (by omega) (by decide))) ?_
    refine rx_T.op (M := rxm_137) (ins := .iinc 1 1) rfl rfl rfl rfl rfl ?_
    refine rx_T.op (M := rxm_137) (ins := .goto (-17)) rfl rfl rfl rfl rfl ?_
    have hlt : t < h.length := (List.getElem?_eq_some_iff.mp ht).1
    have e1 : (nI k).toNatClampNeg = k := nI_clamp (by omega)
    show rx_T rx_cds rx_ms rx_lk0 rt d w 137 2 [(1, .int (nI k + Int32.ofInt 1)), (0, .ref (o + 16))] [] _ P
    rw [show nI k + Int32.ofInt 1 = nI (k + 1) from nI_1 k, e1]
    refine ih (k + 1) _ (upd g k (Int32.ofInt (-1))) (by omega) (by rw [List.getElem?_set_ne (Ne.symm hot)]; exact ho) (List.getElem?_set_self hlt) ?_
    rw [List.set_set]
    have e2 : (fun j => if k + 1 ≤ j ∧ j < 2048 then (-1 : Int32) else upd g k (Int32.ofInt (-1)) j) = (fun j => if k ≤ j ∧ j < 2048 then (-1) else g j) := funext (fun j => by
      by_cases ej : j = k
      · subst ej
        rw [if_neg (by omega), if_pos (by omega)]
        simp [upd]
      · simp only [upd, if_neg ej]
        by_cases e3 : k ≤ j ∧ j < 2048
        · rw [if_pos e3, if_pos (by omega)]
        · rw [if_neg e3, if_neg (by omega)])
    rw [e2]
    exact K
end RXL2
def rx_n1 : rx_H := rx_hp (rx_steps rx_cds rx_ms rx_lk0 rx_rt0 20000 9 403 112 19 (0, [(0, .ref 53)], [], rx_layM))
def rx_n2 : rx_H := rx_n1.set 60 (.inl (0, 2048, .inl (fun j => if 0 ≤ j ∧ j < 2048 then (-1) else rx_prA rx_n1[60]? j)))
def rx_n3 : rx_H := rx_hp (rx_steps rx_cds rx_ms rx_lk0 rx_rt0 20000 8 380 137 25 (22, [(1, .int (nI 2048)), (0, .ref 53)], [], rx_n2))
def rx_n4 : rx_H := rx_hp (rx_steps rx_cds rx_ms rx_lk0 rx_rt0 20000 9 403 112 13 (44, [(0, .ref 53)], [], rx_n3))
def rx_n5 : rx_H := rx_hp (rx_steps rx_cds rx_ms rx_lk0 rx_rt0 0 10 423 111 3 (39, [(1, .int 0), (0, .ref 53)], [], rx_n4))
set_option maxRecDepth 1000000 in
set_option maxHeartbeats 8000000 in
theorem rx_n1_at : (rx_steps rx_cds rx_ms rx_lk0 rx_rt0 20000 9 403 112 19 (0, [(0, .ref 53)], [], rx_layM)).map (fun q => (q.1, q.2.1, q.2.2.1)) = some (41, [(0, .ref 53)], [.ref 53]) := sorry
set_option maxRecDepth 1000000 in
set_option maxHeartbeats 8000000 in
theorem rx_n1_o : rx_isO rx_n1[37]? 5 = true ∧ (rx_prO rx_n1[37]?)[31]? = some (.ref 76) ∧ rx_isA rx_n1[60]? 2048 = true := sorry
set_option maxRecDepth 1000000 in
set_option maxHeartbeats 8000000 in
theorem rx_n3_at : (rx_steps rx_cds rx_ms rx_lk0 rx_rt0 20000 8 380 137 25 (22, [(1, .int (nI 2048)), (0, .ref 53)], [], rx_n2)).map (fun q => (q.1, q.2.1, q.2.2.1)) = some (127, [(2, .int 0), (1, .int 0), (0, .ref 53)], []) := sorry
set_option maxRecDepth 1000000 in
set_option maxHeartbeats 8000000 in
theorem rx_n4_at : (rx_steps rx_cds rx_ms rx_lk0 rx_rt0 20000 9 403 112 13 (44, [(0, .ref 53)], [], rx_n3)).map (fun q => (q.1, q.2.1, q.2.2.1)) = some (73, [(0, .ref 53)], []) := sorry
set_option maxRecDepth 1000000 in
set_option maxHeartbeats 8000000 in
theorem rx_n5_at : (rx_steps rx_cds rx_ms rx_lk0 rx_rt0 0 10 423 111 3 (39, [(1, .int 0), (0, .ref 53)], [], rx_n4)).map (fun q => (q.1, q.2.1, q.2.2.1)) = some (44, [(1, .int 0), (0, .ref 53)], []) := sorry
set_option maxRecDepth 1000000 in
set_option maxHeartbeats 8000000 in
theorem rx_p1_na  : rx_T rx_cds rx_ms rx_lk0 rx_rt0 8 380 137 0 [(0, .ref 53)] [] rx_n1 (fun v h' => v = none ∧ h' = rx_n3) := sorry
set_option maxRecDepth 1000000 in
set_option maxHeartbeats 8000000 in
theorem rx_n1_call : rx_call rx_ms rx_lk0 rxm_112 (.invokevirtual 271) [.ref 53] rx_n1 = some (137, [.ref 53], []) := sorry
set_option maxRecDepth 1000000 in
set_option maxHeartbeats 8000000 in
theorem rx_p1_wk  : rx_T rx_cds rx_ms rx_lk0 rx_rt0 9 403 112 0 [(0, .ref 53)] [] rx_layM (fun v h' => v = none ∧ h' = rx_n4) := sorry
set_option maxRecDepth 1000000 in
set_option maxHeartbeats 8000000 in
theorem rx_p1_rf  : rx_T rx_cds rx_ms rx_lk0 rx_rt0 10 423 111 0 [(0, .ref 53)] [] rx_layM (fun v h' => v = none ∧ h' = rx_n5) := sorry
set_option maxRecDepth 1000000 in
set_option maxHeartbeats 8000000 in
theorem rx_n6_at4 : (rx_steps rx_cds rx_ms rx_lk0 rx_rt0 20000 11 444 159 309 (24, [(3, .int 0), (2, .int 0), (0, .ref 53), (1, .int 4)], [], rx_n5)).map (fun q => (q.1, q.2.2.1, q.2.2.2.length)) = some (161, [.int 0], 61) := sorry
set_option maxRecDepth 1000000 in
set_option maxHeartbeats 8000000 in
theorem rx_p1_tm4  : rx_T rx_cds rx_ms rx_lk0 rx_rt0 11 444 159 0 [(0, .ref 53), (1, .int 4)] [] rx_layM (fun v h' => v = some (.int 0) ∧ h'.length = 61) := sorry
set_option maxRecDepth 1000000 in
set_option maxHeartbeats 8000000 in
theorem rx_n6_at5 : (rx_steps rx_cds rx_ms rx_lk0 rx_rt0 20000 11 444 159 309 (24, [(3, .int 0), (2, .int 0), (0, .ref 53), (1, .int 5)], [], rx_n5)).map (fun q => (q.1, q.2.2.1, q.2.2.2.length)) = some (166, [.int 0], 61) := sorry
set_option maxRecDepth 1000000 in
set_option maxHeartbeats 8000000 in
theorem rx_p1_tm5  : rx_T rx_cds rx_ms rx_lk0 rx_rt0 11 444 159 0 [(0, .ref 53), (1, .int 5)] [] rx_layM (fun v h' => v = some (.int 0) ∧ h'.length = 61) := sorry
set_option maxRecDepth 1000000 in
set_option maxHeartbeats 8000000 in
theorem rx_n6_at6 : (rx_steps rx_cds rx_ms rx_lk0 rx_rt0 20000 11 444 159 309 (24, [(3, .int 0), (2, .int 0), (0, .ref 53), (1, .int 6)], [], rx_n5)).map (fun q => (q.1, q.2.2.1, q.2.2.2.length)) = some (171, [.int 0], 61) := sorry
set_option maxRecDepth 1000000 in
set_option maxHeartbeats 8000000 in
theorem rx_p1_tm6  : rx_T rx_cds rx_ms rx_lk0 rx_rt0 11 444 159 0 [(0, .ref 53), (1, .int 6)] [] rx_layM (fun v h' => v = some (.int 0) ∧ h'.length = 61) := sorry
set_option maxRecDepth 1000000 in
set_option maxHeartbeats 8000000 in
theorem rx_n6_at7 : (rx_steps rx_cds rx_ms rx_lk0 rx_rt0 20000 11 444 159 308 (24, [(3, .int 0), (2, .int 0), (0, .ref 53), (1, .int 7)], [], rx_n5)).map (fun q => (q.1, q.2.2.1, q.2.2.2.length)) = some (173, [.int 0], 61) := sorry
set_option maxRecDepth 1000000 in
set_option maxHeartbeats 8000000 in
theorem rx_p1_tm7  : rx_T rx_cds rx_ms rx_lk0 rx_rt0 11 444 159 0 [(0, .ref 53), (1, .int 7)] [] rx_layM (fun v h' => v = some (.int 0) ∧ h'.length = 61) := sorry
theorem rx_p1_tm {i : Int32} {xs : Nat → Int32} {g : rx_H} (k : rx_T rx_cds rx_ms rx_lk0 rx_rt0 11 444 159 0 [(0, .ref 53), (1, .int i)] [] rx_layM (fun v h' => v = some (.int 0) ∧ h'.length = 61)) (hl : g.length = 61) (hg : ∀ k, 37 ≤ k → g[k]? = rx_lay0[k]?) : rx_T rx_cds rx_ms rx_lk0 (rx_rt 4 xs) 11 444 159 0 [(0, .ref 53), (1, .int i)] [] g (fun v g' => v = some (.int 0) ∧ g'.length = 61 ∧ rx_sz g' = rx_sz g) := sorry