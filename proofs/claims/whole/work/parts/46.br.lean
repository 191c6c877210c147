section RXB
variable {cds : List (List Value)} {ms : List rx_M} {lk : rx_Lk} {rt : rx_R} {d w mi pc : Nat} {lv : rx_L} {r : List Value} {h : rx_H} {P : Option Value → rx_H → Prop} {M : rx_M} {c : ClassFile.Cond} {off : Int} {x y : Int32}
theorem rx_T.br1 (g : Nat) (hM : ms[mi]? = some M) (hf : rx_f2 (rx_Mt M) pc = some (.ifCond c off)) (hg : (pc : Int) + off = (g : Int)) (k1 : rx_c1 c x = true → rx_T cds ms lk rt d w mi g lv r h P) (k2 : rx_c1 c x = false → rx_T cds ms lk rt d w mi (pc + 3) lv r h P) : rx_T cds ms lk rt d w mi pc lv (.int x :: r) h P := by
  cases hc : rx_c1 c x with
  | true => exact rx_T.op hM hf rfl rfl (rx_b1_t g hc hg) (k1 hc)
  | false => exact rx_T.op hM hf rfl rfl (rx_b1_f hc (by omega)) (k2 hc)
theorem rx_T.br2 (g : Nat) (hM : ms[mi]? = some M) (hf : rx_f2 (rx_Mt M) pc = some (.if_icmp c off)) (hg : (pc : Int) + off = (g : Int)) (k1 : rx_c2 c x y = true → rx_T cds ms lk rt d w mi g lv r h P) (k2 : rx_c2 c x y = false → rx_T cds ms lk rt d w mi (pc + 3) lv r h P) : rx_T cds ms lk rt d w mi pc lv (.int y :: .int x :: r) h P := by
  cases hc : rx_c2 c x y with
  | true => exact rx_T.op hM hf rfl rfl (rx_b2_t g hc hg) (k1 hc)
  | false => exact rx_T.op hM hf rfl rfl (rx_b2_f hc (by omega)) (k2 hc)
end RXB
/-- n steps, by rfl, to a point that is written out -/
theorem rx_T.to {cds : List (List Value)} {ms : List rx_M} {lk : rx_Lk} {rt : rx_R} {d w mi pc : Nat} {lv : rx_L} {st : List Value} {h : rx_H} {P : Option Value → rx_H → Prop} (n pc' : Nat) (lv' : rx_L) (st' : List Value) (h' : rx_H) (e : rx_steps cds ms lk rt 0 d w mi n (pc, lv, st, h) = some (pc', lv', st', h')) (k : rx_T cds ms lk rt d w mi pc' lv' st' h' P) : rx_T cds ms lk rt d w mi pc lv st h P := rx_steps_T n (pc, lv, st, h) _ e k
