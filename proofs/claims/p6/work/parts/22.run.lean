/-- a run: fuel, calls that may stand open, words of locals that are left, method, pc, locals, stack, cells -/
def rx_run (cds : List (List Value)) (ms : List rx_M) (lk : rx_Lk) (rt : rx_R) : Nat → Nat → Nat → Nat → Nat → rx_L → List Value → rx_H → Option (Option Value × rx_H)
  | 0, _, _, _, _, _, _, _ => none
  | f + 1, d, w, mi, pc, lv, st, h => match ms[mi]? with
    | none => none
    | some M => match rx_f2 (rx_Mt M) pc with
      | none => none
      | some ins => match rx_ret M ins st with
        | some v => some (v, h)
        | none => match rx_call ms lk M ins st h with
          | some q => match d with
            | 0 => none
            | d' + 1 => match ms[q.1]? with
              | none => none
              | some N => if 19 + rx_Ml N ≤ w then match rx_run cds ms lk rt f d' (w - (19 + rx_Ml N)) q.1 0 (lv_args 0 q.2.1) [] h with
                  | none => none
                  | some z => rx_run cds ms lk rt f (d' + 1) w mi (pc + 3) lv (z.1.toList ++ q.2.2) z.2
                else none
          | none => match rx_opI cds lk rt d w M ins pc lv st h with
            | none => none
            | some q => rx_run cds ms lk rt f d w mi q.1 q.2.1 q.2.2.1 q.2.2.2
section RXR
variable {cds : List (List Value)} {ms : List rx_M} {lk : rx_Lk} {rt : rx_R}
theorem rx_run_e {f d w mi pc : Nat} {lv : rx_L} {st : List Value} {h : rx_H} {v : Option Value} {h' : rx_H} (e : rx_run cds ms lk rt (f + 1) d w mi pc lv st h = some (v, h')) :
    ∃ M ins, ms[mi]? = some M ∧ rx_f2 (rx_Mt M) pc = some ins ∧ ((rx_ret M ins st = some v ∧ h' = h) ∨
      (∃ j as rest N d' v1 h1, d = d' + 1 ∧ rx_call ms lk M ins st h = some (j, as, rest) ∧ ms[j]? = some N ∧ 19 + rx_Ml N ≤ w ∧ rx_run cds ms lk rt f d' (w - (19 + rx_Ml N)) j 0 (lv_args 0 as) [] h = some (v1, h1) ∧ rx_run cds ms lk rt f d w mi (pc + 3) lv (v1.toList ++ rest) h1 = some (v, h')) ∨
      (∃ pc' lv' st' h1, rx_opI cds lk rt d w M ins pc lv st h = some (pc', lv', st', h1) ∧ rx_run cds ms lk rt f d w mi pc' lv' st' h1 = some (v, h'))) := by
  rw [rx_run] at e
  split at e
  · cases e
  · next M hM =>
    split at e
    · cases e
    · next ins hi =>
      refine ⟨M, ins, hM, hi, ?_⟩
      split at e
      · next v0 hr =>
        cases e
        exact Or.inl ⟨hr, rfl⟩
      · split at e
        · next q hq =>
          obtain ⟨j, as, rest⟩ := q
          split at e
          · cases e
          · next d' =>
            split at e
            · cases e
            · next N hN =>
              split at e
              · next hw =>
                split at e
                · cases e
                · next z hz =>
                  obtain ⟨v1, h1⟩ := z
                  exact Or.inr (Or.inl ⟨j, as, rest, N, d', v1, h1, rfl, hq, hN, hw, hz, e⟩)
              · cases e
        · split at e
          · cases e
          · next q hq =>
            obtain ⟨pc', lv', st', h1⟩ := q
            exact Or.inr (Or.inr ⟨pc', lv', st', h1, hq, e⟩)
theorem rx_run_grow : ∀ (f d w mi pc : Nat) (lv : rx_L) (st : List Value) (h : rx_H) (v : Option Value) (h' : rx_H), rx_run cds ms lk rt f d w mi pc lv st h = some (v, h') → h.length ≤ h'.length ∧ rx_sz h ≤ rx_sz h'
  | 0, _, _, _, _, _, _, _, _, _, e => by rw [rx_run] at e; cases e
  | f + 1, d, w, mi, pc, lv, st, h, v, h', e => by
    obtain ⟨M, ins, -, -, ⟨-, rfl⟩ | ⟨j, as, rest, N, d', v1, h1, -, -, -, -, e1, e2⟩ | ⟨pc', lv', st', h1, e1, e2⟩⟩ := rx_run_e e
    · exact ⟨Nat.le_refl _, Nat.le_refl _⟩
    · have a1 := rx_run_grow _ _ _ _ _ _ _ _ _ _ e1
      have a2 := rx_run_grow _ _ _ _ _ _ _ _ _ _ e2
      exact ⟨Nat.le_trans a1.1 a2.1, Nat.le_trans a1.2 a2.2⟩
    · have a1 := rx_op_grow e1
      have a2 := rx_run_grow _ _ _ _ _ _ _ _ _ _ e2
      exact ⟨Nat.le_trans a1.1 a2.1, Nat.le_trans a1.2 a2.2⟩
end RXR
