section RXB
variable {cds : List (List Value)} {ms : List rx_M} {lk : rx_Lk} {rt : rx_R} {d w mi pc : Nat} {lv : rx_L} {r : List Value} {h : rx_H} {P : Option Value → rx_H → Prop} {M : rx_M} {c : ClassFile.Cond} {off : Int} {x y : Int32}
theorem rx_T.br1 (g : Nat) (hM : ms[mi]? = some M) (hf : rx_f2 (rx_Mt M) pc = some (.ifCond c off)) (hg : (pc : Int) + off = (g : Int)) (k1 : rx_c1 c x = true → rx_T cds ms lk rt d w mi g lv r h P) (k2 : rx_c1 c x = false → rx_T cds ms lk rt d w mi (pc + 3) lv r h P) : rx_T cds ms lk rt d w mi pc lv (.int x :: r) h P := by
  cases hc : rx_c1 c x with
  | true => exact rx_T.op hM hf rfl rfl (rx_b1_t g hc hg) (k1 hc)
  | false => exact rx_T.op hM hf rfl rfl (rx_b1_f hc (by omega)) (k2 hc)
theorem rx_T.br2 (g : Nat) (hM : ms[mi]? = some M) (hf : rx_f2 (rx_Mt M) pc = some (.if_icmp c off)) (hg : (pc : Int) + off = (g : Int)) (k1 : rx_c2 c x y = true → rx_T cds ms lk rt d w mi g lv r h P) (k2 : rx_c2 c x y = false → rx_T cds ms lk rt d w mi (pc + 3) lv r h P) : rx_T cds ms lk rt d w mi pc lv (.int y :: .int x :: r) h P := by
  cases hc : rx_c2 c x y with
  | true => exact rx_T.op hM hf rfl rfl (rx_b2_t g hc hg) (k1 hc)
  | false => exact rx_T.op hM hf rfl rfl (rx_b2_f hc (by omega)) (k2 hc)
end RXB
/-- n steps, by rfl, to a point that is written out -/
theorem rx_T.to {cds : List (List Value)} {ms : List rx_M} {lk : rx_Lk} {rt : rx_R} {d w mi pc : Nat} {lv : rx_L} {st : List Value} {h : rx_H} {P : Option Value → rx_H → Prop} (n pc' : Nat) (lv' : rx_L) (st' : List Value) (h' : rx_H) (e : rx_steps cds ms lk rt 0 d w mi n (pc, lv, st, h) = some (pc', lv', st', h')) (k : rx_T cds ms lk rt d w mi pc' lv' st' h' P) : rx_T cds ms lk rt d w mi pc lv st h P := rx_steps_T n (pc, lv, st, h) _ e k
section RXW
variable {cds : List (List Value)} {ms : List rx_M} {lk : rx_Lk} {rt : rx_R} {d w mi pc : Nat} {lv : rx_L} {r : List Value} {h : rx_H} {P : Option Value → rx_H → Prop} {M : rx_M}
theorem rx_ts_i {dflt lo hi off : Int} {offs : Array Int} {g : Nat} {x : Int32} (h1 : ¬ (x.toInt < lo ∨ hi < x.toInt)) (ho : offs[(x.toInt - lo).toNat]? = some off) (hg : (pc : Int) + off = (g : Int)) : rx_ts dflt lo hi offs pc lv (.int x :: r) h = some (g, lv, r, h) := by
  unfold rx_ts
  simp only [if_neg h1, ho]
  unfold rx_jp rx_nx
  rw [if_pos (by omega), hg]
  rfl
theorem rx_T.tsw {dflt lo hi : Int} {offs : Array Int} {x : Int32} (off : Int) (g : Nat) (hM : ms[mi]? = some M) (hf : rx_f2 (rx_Mt M) pc = some (.tableswitch dflt lo hi offs)) (h1 : ¬ (x.toInt < lo ∨ hi < x.toInt)) (ho : offs[(x.toInt - lo).toNat]? = some off) (hg : (pc : Int) + off = (g : Int)) (k : rx_T cds ms lk rt d w mi g lv r h P) : rx_T cds ms lk rt d w mi pc lv (.int x :: r) h P := rx_T.op hM hf rfl rfl (rx_ts_i h1 ho hg) k
theorem rx_T.iald {j : Int32} {a n : Nat} {f : Nat → Int32} (hM : ms[mi]? = some M) (hf : rx_f2 (rx_Mt M) pc = some .iaload) (ha : rx_ri rt h a = some (n, f)) (hj : vp_in j n) (k : rx_T cds ms lk rt d w mi (pc + 1) lv (.int (f j.toNatClampNeg) :: r) h P) : rx_T cds ms lk rt d w mi pc lv (.int j :: .ref a :: r) h P := rx_T.op hM hf rfl rfl (rx_ial_i ha hj) k
theorem rx_T.lald {j : Int32} {a n : Nat} {f : Nat → Int64} (hM : ms[mi]? = some M) (hf : rx_f2 (rx_Mt M) pc = some .laload) (ha : rx_rl h a = some (n, f)) (hj : vp_in j n) (k : rx_T cds ms lk rt d w mi (pc + 1) lv (.long (f j.toNatClampNeg) :: r) h P) : rx_T cds ms lk rt d w mi pc lv (.int j :: .ref a :: r) h P := rx_T.op hM hf rfl rfl (rx_lal_i ha hj) k
theorem rx_T.zald {j : Int32} {a n : Nat} {f : Nat → Int32} (hM : ms[mi]? = some M) (hf : rx_f2 (rx_Mt M) pc = some .baload) (ha : rx_rz h a = some (n, f)) (hj : vp_in j n) (k : rx_T cds ms lk rt d w mi (pc + 1) lv (.int (f j.toNatClampNeg) :: r) h P) : rx_T cds ms lk rt d w mi pc lv (.int j :: .ref a :: r) h P := rx_T.op hM hf rfl rfl (rx_zal_i ha hj) k
theorem rx_T.iast {x j : Int32} {a n : Nat} {f : Nat → Int32} (hM : ms[mi]? = some M) (hf : rx_f2 (rx_Mt M) pc = some .iastore) (ha : h[a]? = some (.inl (0, n, .inl f))) (hj : vp_in j n) (k : rx_T cds ms lk rt d w mi (pc + 1) lv r (h.set a (.inl (0, n, .inl (upd f j.toNatClampNeg x)))) P) : rx_T cds ms lk rt d w mi pc lv (.int x :: .int j :: .ref (a + 16) :: r) h P := rx_T.op hM hf rfl rfl (rx_ias_i ha hj) k
theorem rx_T.last {x : Int64} {j : Int32} {a n : Nat} {f : Nat → Int64} (hM : ms[mi]? = some M) (hf : rx_f2 (rx_Mt M) pc = some .lastore) (ha : h[a]? = some (.inl (1, n, .inr (.inl f)))) (hj : vp_in j n) (k : rx_T cds ms lk rt d w mi (pc + 1) lv r (h.set a (.inl (1, n, .inr (.inl (vp_updL f j.toNatClampNeg x))))) P) : rx_T cds ms lk rt d w mi pc lv (.long x :: .int j :: .ref (a + 16) :: r) h P := rx_T.op hM hf rfl rfl (rx_las_i ha hj) k
theorem rx_T.zast {x j : Int32} {a n : Nat} {f : Nat → Int32} (hM : ms[mi]? = some M) (hf : rx_f2 (rx_Mt M) pc = some .bastore) (ha : h[a]? = some (.inl (2, n, .inl f))) (hj : vp_in j n) (k : rx_T cds ms lk rt d w mi (pc + 1) lv r (h.set a (.inl (2, n, .inl (upd f j.toNatClampNeg (vp_nar .boolean x))))) P) : rx_T cds ms lk rt d w mi pc lv (.int x :: .int j :: .ref (a + 16) :: r) h P := rx_T.op hM hf rfl rfl (rx_zas_i ha hj) k
end RXW
