/-! RUNS WITHOUT FUEL: rx_T .. P: the run from here ends, with P -/
theorem rx_cold_i {h : rx_H} {k t : Nat} {x : vp_A} (e : h[k]? = some (.inl (t, x))) : rx_cold h (k + 16) t = some x := by
  unfold rx_cold rx_cell
  rw [if_neg (by omega), Nat.add_sub_cancel, e]
  exact if_pos rfl
theorem rx_ro_i {h : rx_H} {k : Nat} {x : Nat × List Value} (e : h[k]? = some (.inr x)) : rx_ro h (k + 16) = some x := by
  unfold rx_ro rx_cell
  rw [if_neg (by omega), Nat.add_sub_cancel, e]
section RXP
variable {cds : List (List Value)} {ms : List rx_M} {lk : rx_Lk} {rt : rx_R}
theorem rx_run_ret {f d w mi pc : Nat} {lv : rx_L} {st : List Value} {h : rx_H} {v : Option Value} {M : rx_M} {ins : Instr} (hM : ms[mi]? = some M) (hf : rx_f2 (rx_Mt M) pc = some ins) (hr : rx_ret M ins st = some v) : rx_run cds ms lk rt (f + 1) d w mi pc lv st h = some (v, h) := by
  rw [rx_run]
  simp only [hM, hf, hr]
theorem rx_run_call {f d w mi pc : Nat} {lv : rx_L} {st : List Value} {h : rx_H} {M N : rx_M} {ins : Instr} {j : Nat} {as rest : List Value} {v1 : Option Value} {h1 : rx_H} (hM : ms[mi]? = some M) (hf : rx_f2 (rx_Mt M) pc = some ins) (hr : rx_ret M ins st = none) (hc : rx_call ms lk M ins st h = some (j, as, rest)) (hN : ms[j]? = some N) (hw : 19 + rx_Ml N ≤ w) (e1 : rx_run cds ms lk rt f d (w - (19 + rx_Ml N)) j 0 (lv_args 0 as) [] h = some (v1, h1)) :
    rx_run cds ms lk rt (f + 1) (d + 1) w mi pc lv st h = rx_run cds ms lk rt f (d + 1) w mi (pc + 3) lv (v1.toList ++ rest) h1 := by
  rw [rx_run]
  simp only [hM, hf, hr, hc, hN, hw, e1, if_true]
theorem rx_run_op {f d w mi pc pc' : Nat} {lv lv' : rx_L} {st st' : List Value} {h h' : rx_H} {M : rx_M} {ins : Instr} (hM : ms[mi]? = some M) (hf : rx_f2 (rx_Mt M) pc = some ins) (hr : rx_ret M ins st = none) (hc : rx_call ms lk M ins st h = none) (ho : rx_opI cds lk rt d w M ins pc lv st h = some (pc', lv', st', h')) :
    rx_run cds ms lk rt (f + 1) d w mi pc lv st h = rx_run cds ms lk rt f d w mi pc' lv' st' h' := by
  rw [rx_run]
  simp only [hM, hf, hr, hc, ho]
theorem rx_run_e2 {f d w mi pc : Nat} {lv : rx_L} {st : List Value} {h : rx_H} {v : Option Value} {h' : rx_H} (e : rx_run cds ms lk rt (f + 1) d w mi pc lv st h = some (v, h')) :
    ∃ M ins, ms[mi]? = some M ∧ rx_f2 (rx_Mt M) pc = some ins ∧ ((rx_ret M ins st = some v ∧ h' = h) ∨
      (∃ j as rest N d' v1 h1, d = d' + 1 ∧ rx_ret M ins st = none ∧ rx_call ms lk M ins st h = some (j, as, rest) ∧ ms[j]? = some N ∧ 19 + rx_Ml N ≤ w ∧ rx_run cds ms lk rt f d' (w - (19 + rx_Ml N)) j 0 (lv_args 0 as) [] h = some (v1, h1) ∧ rx_run cds ms lk rt f d w mi (pc + 3) lv (v1.toList ++ rest) h1 = some (v, h')) ∨
      (∃ pc' lv' st' h1, rx_ret M ins st = none ∧ rx_call ms lk M ins st h = none ∧ rx_opI cds lk rt d w M ins pc lv st h = some (pc', lv', st', h1) ∧ rx_run cds ms lk rt f d w mi pc' lv' st' h1 = some (v, h'))) := by
  rw [rx_run] at e
  split at e
  · cases e
  · next M hM =>
    split at e
    · cases e
    · next ins hi =>
      refine ⟨M, ins, hM, hi, ?_⟩
      split at e
      · next v0 hr =>
        cases e
        exact Or.inl ⟨hr, rfl⟩
      · next hr =>
        split at e
        · next q hq =>
          obtain ⟨j, as, rest⟩ := q
          split at e
          · cases e
          · next d' =>
            split at e
            · cases e
            · next N hN =>
              split at e
              · next hw =>
                split at e
                · cases e
                · next z hz =>
                  obtain ⟨v1, h1⟩ := z
                  exact Or.inr (Or.inl ⟨j, as, rest, N, d', v1, h1, rfl, hr, hq, hN, hw, hz, e⟩)
              · cases e
        · next hq =>
          split at e
          · cases e
          · next q hq2 =>
            obtain ⟨pc', lv', st', h1⟩ := q
            exact Or.inr (Or.inr ⟨pc', lv', st', h1, hr, hq, hq2, e⟩)
/-- more fuel does no harm -/
theorem rx_fuel : ∀ (f k d w mi pc : Nat) (lv : rx_L) (st : List Value) (h : rx_H) (r : Option Value × rx_H), rx_run cds ms lk rt f d w mi pc lv st h = some r → rx_run cds ms lk rt (f + k) d w mi pc lv st h = some r
  | 0, _, _, _, _, _, _, _, _, _, e => by rw [rx_run] at e; cases e
  | f + 1, k, d, w, mi, pc, lv, st, h, (v, h'), e => by
    rw [show f + 1 + k = f + k + 1 by omega]
    obtain ⟨M, ins, hM, hf, ⟨hr, rfl⟩ | ⟨j, as, rest, N, d', v1, h1, rfl, hr, hc, hN, hw, e1, e2⟩ | ⟨pc', lv', st', h1, hr, hc, e1, e2⟩⟩ := rx_run_e2 e
    · exact rx_run_ret hM hf hr
    · rw [rx_run_call hM hf hr hc hN hw (rx_fuel f k _ _ _ _ _ _ _ _ e1)]
      exact rx_fuel f k _ _ _ _ _ _ _ _ e2
    · rw [rx_run_op hM hf hr hc e1]
      exact rx_fuel f k _ _ _ _ _ _ _ _ e2
def rx_T (cds : List (List Value)) (ms : List rx_M) (lk : rx_Lk) (rt : rx_R) (d w mi pc : Nat) (lv : rx_L) (st : List Value) (h : rx_H) (P : Option Value → rx_H → Prop) : Prop := ∃ (f : Nat) (v : Option Value) (h' : rx_H), rx_run cds ms lk rt f d w mi pc lv st h = some (v, h') ∧ P v h'
variable {d w mi pc : Nat} {lv : rx_L} {st : List Value} {h : rx_H} {P : Option Value → rx_H → Prop} {M : rx_M} {ins : Instr}
theorem rx_T.ret {v : Option Value} (hM : ms[mi]? = some M) (hf : rx_f2 (rx_Mt M) pc = some ins) (hr : rx_ret M ins st = some v) (hP : P v h) : rx_T cds ms lk rt d w mi pc lv st h P := ⟨1, v, h, rx_run_ret hM hf hr, hP⟩
theorem rx_T.op {pc' : Nat} {lv' : rx_L} {st' : List Value} {h' : rx_H} (hM : ms[mi]? = some M) (hf : rx_f2 (rx_Mt M) pc = some ins) (hr : rx_ret M ins st = none) (hc : rx_call ms lk M ins st h = none) (ho : rx_opI cds lk rt d w M ins pc lv st h = some (pc', lv', st', h')) (k : rx_T cds ms lk rt d w mi pc' lv' st' h' P) : rx_T cds ms lk rt d w mi pc lv st h P := by
  obtain ⟨f, v, h2, e, hp⟩ := k
  exact ⟨f + 1, v, h2, by rw [rx_run_op hM hf hr hc ho]; exact e, hp⟩
theorem rx_T.call {N : rx_M} {j : Nat} {as rest : List Value} {P1 : Option Value → rx_H → Prop} (hM : ms[mi]? = some M) (hf : rx_f2 (rx_Mt M) pc = some ins) (hr : rx_ret M ins st = none) (hc : rx_call ms lk M ins st h = some (j, as, rest)) (hN : ms[j]? = some N) (hw : 19 + rx_Ml N ≤ w)
    (k1 : rx_T cds ms lk rt d (w - (19 + rx_Ml N)) j 0 (lv_args 0 as) [] h P1) (k : ∀ (v1 : Option Value) (h1 : rx_H), P1 v1 h1 → rx_T cds ms lk rt (d + 1) w mi (pc + 3) lv (v1.toList ++ rest) h1 P) : rx_T cds ms lk rt (d + 1) w mi pc lv st h P := by
  obtain ⟨f1, v1, h1, e1, hp1⟩ := k1
  obtain ⟨f2, v2, h2, e2, hp2⟩ := k v1 h1 hp1
  refine ⟨f1 + f2 + 1, v2, h2, ?_, hp2⟩
  rw [rx_run_call hM hf hr hc hN hw (rx_fuel f1 f2 _ _ _ _ _ _ _ _ e1), Nat.add_comm f1 f2]
  exact rx_fuel f2 f1 _ _ _ _ _ _ _ _ e2
theorem rx_T.mono {P' : Option Value → rx_H → Prop} (k : rx_T cds ms lk rt d w mi pc lv st h P) (hp : ∀ v h', P v h' → P' v h') : rx_T cds ms lk rt d w mi pc lv st h P' := by
  obtain ⟨f, v, h2, e, hq⟩ := k
  exact ⟨f, v, h2, e, hp v h2 hq⟩
/-- a run that the kernel has done -/
theorem rx_T.of {f : Nat} {v : Option Value} {h' : rx_H} (e : rx_run cds ms lk rt f d w mi pc lv st h = some (v, h')) (hp : P v h') : rx_T cds ms lk rt d w mi pc lv st h P := ⟨f, v, h', e, hp⟩
/-- more frames, more words do no harm; more read-only arrays neither -/
theorem rx_opI_more {rt' : rx_R} (hrt : ∀ id q, rt id = some q → rt' id = some q) {d' w' : Nat} (hd : d ≤ d') (hw : w ≤ w') {r : rx_N} (e : rx_opI cds lk rt d w M ins pc lv st h = some r) : rx_opI cds lk rt' d' w' M ins pc lv st h = some r := by
  have hri : ∀ (a : Nat) (q : Nat × (Nat → Int32)), rx_ri rt h a = some q → rx_ri rt' h a = some q := fun a q hq => by
    unfold rx_ri at hq ⊢
    split at hq
    · next h1 => rw [if_pos h1]; exact hrt a q hq
    · next h1 => rw [if_neg h1]; exact hq
  have hln : ∀ (a n : Nat), rx_aln rt h a = some n → rx_aln rt' h a = some n := fun a n hq => by
    unfold rx_aln at hq ⊢
    split at hq
    · next h1 =>
      rw [if_pos h1]
      obtain ⟨q, hq1, hq2⟩ := Option.map_eq_some_iff.mp hq
      rw [hrt a q hq1]
      exact congrArg some hq2
    · next h1 => rw [if_neg h1]; exact hq
  cases ins
  case iaload =>
    obtain ⟨i, a, t, q, rfl, h1, h2, e9⟩ := rx_ial_e e
    have h3 := hri a q h1
    show rx_ial rt' pc lv (.int i :: .ref a :: t) h = some r
    have e : rx_ial rt pc lv (.int i :: .ref a :: t) h = some r := e
    unfold rx_ial at e ⊢
    simp only [h1] at e
    simp only [h3]
    exact e
  case arraylength =>
    obtain ⟨a, t, n, rfl, h1, e9⟩ := rx_al_e e
    have h3 := hln a n h1
    show rx_al rt' pc lv (.ref a :: t) h = some r
    have e : rx_al rt pc lv (.ref a :: t) h = some r := e
    unfold rx_al at e ⊢
    simp only [h1] at e
    simp only [h3]
    exact e
  case invokespecial ix =>
    obtain ⟨q, h1, h2, h3⟩ := rx_is_e e
    obtain ⟨a, t, rfl, h4, h5, e9⟩ := rx_oi_e h3
    show rx_is d' w' (rx_luv lk.2.2.1 (rx_Mo M) ix) pc lv (.ref a :: t) h = some r
    rw [h1, e9]
    unfold rx_is rx_oi
    simp only [h2, if_true]
    rw [if_pos ⟨⟨by omega, by omega⟩, h5⟩]
    rfl
  case invokestatic ix =>
    obtain ⟨q, h1, ⟨h2, h3⟩ | ⟨h2, h3⟩ | ⟨h2, h3⟩⟩ := rx_it_e e
    · obtain ⟨n, dp, sp, ka, kb, m0, m1, f, g, t, rfl, w1, w2, w3, w4, w5, w6, w7, w8, w9, w10, e9⟩ := rx_ac_e h3
      show rx_it d' w' (rx_luv lk.2.2.1 (rx_Mo M) ix) pc lv _ h = some r
      rw [h1, e9]
      unfold rx_it
      simp only [h2, if_true]
      unfold rx_ac
      simp only [rx_cold_i w1, rx_cold_i w2]
      rw [if_pos ⟨⟨by omega, by omega⟩, w5, w6, w7, w8, w9, w10⟩]
      rfl
    · obtain ⟨x, y, t, rfl, w1, w2, e9⟩ := rx_m4_e h3
      show rx_it d' w' (rx_luv lk.2.2.1 (rx_Mo M) ix) pc lv _ h = some r
      rw [h1, e9]
      unfold rx_it rx_m4
      simp only [h2]
      rw [if_neg (by decide), if_pos trivial, if_pos ⟨⟨by omega, by omega⟩, w2⟩]
      rfl
    · obtain ⟨x, y, t, rfl, w1, w2, e9⟩ := rx_m5_e h3
      show rx_it d' w' (rx_luv lk.2.2.1 (rx_Mo M) ix) pc lv _ h = some r
      rw [h1, e9]
      unfold rx_it rx_m5
      simp only [h2]
      rw [if_neg (by decide), if_neg (by decide), if_pos trivial, if_pos ⟨⟨by omega, by omega⟩, w2⟩]
      rfl
  all_goals exact e
theorem rx_run_more {rt' : rx_R} (hrt : ∀ id q, rt id = some q → rt' id = some q) : ∀ (f d w mi pc : Nat) (lv : rx_L) (st : List Value) (h : rx_H) (r : Option Value × rx_H), rx_run cds ms lk rt f d w mi pc lv st h = some r → ∀ d' w' : Nat, d ≤ d' → w ≤ w' → rx_run cds ms lk rt' f d' w' mi pc lv st h = some r
  | 0, _, _, _, _, _, _, _, _, e => by rw [rx_run] at e; cases e
  | f + 1, d, w, mi, pc, lv, st, h, (v, h'), e => by
    intro d' w' hd hw'
    obtain ⟨M, ins, hM, hf, ⟨hr, rfl⟩ | ⟨j, as, rest, N, d1, v1, h1, rfl, hr, hc, hN, hw, e1, e2⟩ | ⟨pc', lv', st', h1, hr, hc, e1, e2⟩⟩ := rx_run_e2 e
    · exact rx_run_ret hM hf hr
    · obtain ⟨d2, rfl⟩ : ∃ d2, d' = d2 + 1 := ⟨d' - 1, by omega⟩
      rw [rx_run_call hM hf hr hc hN (by omega) (rx_run_more hrt f _ _ _ _ _ _ _ _ e1 d2 (w' - (19 + rx_Ml N)) (by omega) (by omega))]
      exact rx_run_more hrt f _ _ _ _ _ _ _ _ e2 _ _ hd hw'
    · rw [rx_run_op hM hf hr hc (rx_opI_more hrt hd hw' e1)]
      exact rx_run_more hrt f _ _ _ _ _ _ _ _ e2 _ _ hd hw'
end RXP
