/-! steps by hand, over locals of which some are known -/
section RXH
variable {cds : List (List Value)} {ms : List rx_M} {lk : rx_Lk} {rt : rx_R} {d w mi pc : Nat} {lv : rx_L} {st : List Value} {h : rx_H} {P : Option Value → rx_H → Prop} {M : rx_M}
theorem rx_T.il1 {k : Fin 4} {x : Int32} (hM : ms[mi]? = some M) (hf : rx_f2 (rx_Mt M) pc = some (.iload_n k)) (hx : rx_lk lv k.val = some (.int x)) (K : rx_T cds ms lk rt d w mi (pc + 1) lv (.int x :: st) h P) : rx_T cds ms lk rt d w mi pc lv st h P := rx_T.op hM hf rfl rfl (show rx_li lv k.val (pc + 1) st h = some (pc + 1, lv, .int x :: st, h) by unfold rx_li; rw [hx]; rfl) K
theorem rx_T.il2 {i : Nat} {x : Int32} (hM : ms[mi]? = some M) (hf : rx_f2 (rx_Mt M) pc = some (.iload i)) (hx : rx_lk lv i = some (.int x)) (K : rx_T cds ms lk rt d w mi (pc + 2) lv (.int x :: st) h P) : rx_T cds ms lk rt d w mi pc lv st h P := rx_T.op hM hf rfl rfl (show rx_li lv i (pc + 2) st h = some (pc + 2, lv, .int x :: st, h) by unfold rx_li; rw [hx]; rfl) K
theorem rx_T.al1 {k : Fin 4} {x : Nat} (hM : ms[mi]? = some M) (hf : rx_f2 (rx_Mt M) pc = some (.aload_n k)) (hx : rx_lk lv k.val = some (.ref x)) (K : rx_T cds ms lk rt d w mi (pc + 1) lv (.ref x :: st) h P) : rx_T cds ms lk rt d w mi pc lv st h P := rx_T.op hM hf rfl rfl (show rx_la lv k.val (pc + 1) st h = some (pc + 1, lv, .ref x :: st, h) by unfold rx_la; rw [hx]; rfl) K
theorem rx_T.is1 {k : Fin 4} {x : Int32} (hM : ms[mi]? = some M) (hf : rx_f2 (rx_Mt M) pc = some (.istore_n k)) (hx : k.val < rx_Ml M) (K : rx_T cds ms lk rt d w mi (pc + 1) (rx_s1 lv k.val (.int x)) st h P) : rx_T cds ms lk rt d w mi pc lv (.int x :: st) h P := rx_T.op hM hf rfl rfl (show rx_si (rx_Ml M) lv k.val (pc + 1) (.int x :: st) h = _ from if_pos hx) K
theorem rx_T.is2 {i : Nat} {x : Int32} (hM : ms[mi]? = some M) (hf : rx_f2 (rx_Mt M) pc = some (.istore i)) (hx : i < rx_Ml M) (K : rx_T cds ms lk rt d w mi (pc + 2) (rx_s1 lv i (.int x)) st h P) : rx_T cds ms lk rt d w mi pc lv (.int x :: st) h P := rx_T.op hM hf rfl rfl (show rx_si (rx_Ml M) lv i (pc + 2) (.int x :: st) h = _ from if_pos hx) K
theorem rx_T.ii {i : Nat} {n : Int} {x : Int32} (hM : ms[mi]? = some M) (hf : rx_f2 (rx_Mt M) pc = some (.iinc i n)) (hx : rx_lk lv i = some (.int x)) (hi : i < rx_Ml M) (K : rx_T cds ms lk rt d w mi (pc + 3) (rx_s1 lv i (.int (x + Int32.ofInt n))) st h P) : rx_T cds ms lk rt d w mi pc lv st h P := rx_T.op hM hf rfl rfl (show rx_in (rx_Ml M) i n pc lv st h = some (pc + 3, rx_s1 lv i (.int (x + Int32.ofInt n)), st, h) by unfold rx_in; rw [hx]; exact if_pos hi) K
theorem rx_T.gf {o k j fl ix : Nat} {ty : FieldType} {vs : List Value} {v : Value} (hM : ms[mi]? = some M) (hf : rx_f2 (rx_Mt M) pc = some (.getfield ix)) (hl : rx_luv lk.1 (rx_Mo M) ix = some (o, j, ty, fl)) (hc : h[k]? = some (.inr (o, vs))) (hv : vs[j]? = some v) (K : rx_T cds ms lk rt d w mi (pc + 3) lv (v :: st) h P) : rx_T cds ms lk rt d w mi pc lv (.ref (k + 16) :: st) h P := rx_T.op hM hf rfl rfl (rx_gf_i hl hc hv) K
theorem rx_T.pf {o k j ix : Nat} {ty : FieldType} {vs : List Value} {v : Value} (hM : ms[mi]? = some M) (hf : rx_f2 (rx_Mt M) pc = some (.putfield ix)) (hl : rx_luv lk.1 (rx_Mo M) ix = some (o, j, ty, 0)) (hc : h[k]? = some (.inr (o, vs))) (hj : j < vs.length) (hv : rx_fit ty v = true) (K : rx_T cds ms lk rt d w mi (pc + 3) lv st (h.set k (.inr (o, vs.set j v))) P) : rx_T cds ms lk rt d w mi pc lv (v :: .ref (k + 16) :: st) h P := rx_T.op hM hf rfl rfl (rx_pf_i hl hc hj hv (Or.inl rfl)) K
theorem rx_callv {N : rx_M} {j nest ix k ci : Nat} {as' as rest vs : List Value} (hl : rx_luv lk.2.2.1 (rx_Mo M) ix = some (j, nest)) (hN : ms[j]? = some N) (hk : rx_Mk N = 1) (hs : st = as.reverse ++ rest) (hal : as.length = rx_an N 1) (hr : (rest.map (fun v => v.category)).sum ≤ 8) (hsl : (lg_sl as).length ≤ rx_Ml N) (h1 : as = .ref (k + 16) :: as') (h2 : h[k]? = some (.inr (ci, vs))) (h3 : ci = rx_Mc N) : rx_call ms lk M (.invokevirtual ix) st h = some (j, as, rest) := by
  show rx_iv ms (rx_luv lk.2.2.1 (rx_Mo M) ix) 1 st h = _
  have e1 : st.take (rx_an N 1) = as.reverse := by rw [hs, ← hal, ← List.length_reverse, List.take_left]
  have e2 : st.drop (rx_an N 1) = rest := by rw [hs, ← hal, ← List.length_reverse, List.drop_left]
  unfold rx_iv
  rw [hl]
  simp only [hN]
  rw [e1, e2, List.reverse_reverse, if_pos]
  refine ⟨hk, ?_, hr, hsl, ?_⟩
  · rw [hs, ← hal, List.length_append, List.length_reverse]
    exact Nat.le_add_right _ _
  · rw [h1]
    unfold rx_rcv
    simp only [rx_ro_i h2]
    rw [h3]
    exact Nat.beq_refl _
theorem rx_T.more {d' w' : Nat} (K : rx_T cds ms lk rt d w mi pc lv st h P) (hd : d ≤ d') (hw : w ≤ w') : rx_T cds ms lk rt d' w' mi pc lv st h P := by
  obtain ⟨f, v, h', e, hp⟩ := K
  exact ⟨f, v, h', rx_run_more (fun _ _ z => z) _ _ _ _ _ _ _ _ _ e _ _ hd hw, hp⟩
end RXH
/-- n steps, by rfl, calls among them -/
theorem rx_T.toF {cds : List (List Value)} {ms : List rx_M} {lk : rx_Lk} {rt : rx_R} {d w mi pc : Nat} {lv : rx_L} {st : List Value} {h : rx_H} {P : Option Value → rx_H → Prop} (F n pc' : Nat) (lv' : rx_L) (st' : List Value) (h' : rx_H) (e : rx_steps cds ms lk rt F d w mi n (pc, lv, st, h) = some (pc', lv', st', h')) (k : rx_T cds ms lk rt d w mi pc' lv' st' h' P) : rx_T cds ms lk rt d w mi pc lv st h P := rx_steps_T n (pc, lv, st, h) _ e k
