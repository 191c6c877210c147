/-! n steps of one frame (a call is a step, run to its end with fuel F): for the kernel, which runs a stretch; the heap behind it is named by its projection -/
def rx_one1 (cds : List (List Value)) (ms : List rx_M) (lk : rx_Lk) (rt : rx_R) (F d w mi : Nat) (q : rx_N) : Option rx_N := match ms[mi]? with
  | none => none
  | some M => match rx_f2 (rx_Mt M) q.1 with
    | none => none
    | some ins => match rx_ret M ins q.2.2.1 with
      | some _ => none
      | none => match rx_call ms lk M ins q.2.2.1 q.2.2.2 with
        | some c => match d with
          | 0 => none
          | d' + 1 => match ms[c.1]? with
            | none => none
            | some N => if 19 + rx_Ml N ≤ w then match rx_run cds ms lk rt F d' (w - (19 + rx_Ml N)) c.1 0 (lv_args 0 c.2.1) [] q.2.2.2 with
                | none => none
                | some z => some (q.1 + 3, q.2.1, z.1.toList ++ c.2.2, z.2)
              else none
        | none => rx_opI cds lk rt d w M ins q.1 q.2.1 q.2.2.1 q.2.2.2
def rx_steps (cds : List (List Value)) (ms : List rx_M) (lk : rx_Lk) (rt : rx_R) (F d w mi : Nat) : Nat → rx_N → Option rx_N
  | 0, q => some q
  | n + 1, q => match rx_one1 cds ms lk rt F d w mi q with
    | none => none
    | some q' => rx_steps cds ms lk rt F d w mi n q'
section RXQ
variable {cds : List (List Value)} {ms : List rx_M} {lk : rx_Lk} {rt : rx_R} {F d w mi : Nat} {P : Option Value → rx_H → Prop}
theorem rx_one1_T {q q' : rx_N} (e : rx_one1 cds ms lk rt F d w mi q = some q') (k : rx_T cds ms lk rt d w mi q'.1 q'.2.1 q'.2.2.1 q'.2.2.2 P) : rx_T cds ms lk rt d w mi q.1 q.2.1 q.2.2.1 q.2.2.2 P := by
  unfold rx_one1 at e
  split at e
  · cases e
  · next M hM =>
    split at e
    · cases e
    · next ins hf =>
      split at e
      · cases e
      · next hr =>
        split at e
        · next c hc =>
          obtain ⟨j, as, rest⟩ := c
          split at e
          · cases e
          · next d' =>
            split at e
            · cases e
            · next N hN =>
              split at e
              · next hw =>
                split at e
                · cases e
                · next z hz =>
                  obtain ⟨v1, h1⟩ := z
                  cases e
                  exact rx_T.call hM hf hr hc hN hw (P1 := fun v h => v = v1 ∧ h = h1) ⟨F, v1, h1, hz, rfl, rfl⟩ (fun v2 h2 hp => by obtain ⟨rfl, rfl⟩ := hp; exact k)
              · cases e
        · next hc => exact rx_T.op hM hf hr hc e k
theorem rx_steps_T : ∀ (n : Nat) (q q' : rx_N), rx_steps cds ms lk rt F d w mi n q = some q' → rx_T cds ms lk rt d w mi q'.1 q'.2.1 q'.2.2.1 q'.2.2.2 P → rx_T cds ms lk rt d w mi q.1 q.2.1 q.2.2.1 q.2.2.2 P
  | 0, q, q', e, k => by
    unfold rx_steps at e
    cases e
    exact k
  | n + 1, q, q', e, k => by
    unfold rx_steps at e
    split at e
    · cases e
    · next q1 h1 => exact rx_one1_T h1 (rx_steps_T n q1 q' e k)
/-- the heap behind a stretch -/
def rx_hp (o : Option rx_N) : rx_H := match o with
  | some q => q.2.2.2
  | none => []
/-- a stretch that the kernel has run: where it stands is decided, its heap is named -/
theorem rx_T.stretch {n pc pc' : Nat} {lv lv' : rx_L} {st st' : List Value} {h : rx_H} (e : (rx_steps cds ms lk rt F d w mi n (pc, lv, st, h)).map (fun q => (q.1, q.2.1, q.2.2.1)) = some (pc', lv', st')) (k : rx_T cds ms lk rt d w mi pc' lv' st' (rx_hp (rx_steps cds ms lk rt F d w mi n (pc, lv, st, h))) P) : rx_T cds ms lk rt d w mi pc lv st h P := by
  obtain ⟨q, h1, h2⟩ := Option.map_eq_some_iff.mp e
  obtain ⟨a, b, c, g⟩ := q
  cases h2
  rw [h1] at k
  exact rx_steps_T n (pc, lv, st, h) _ h1 k
end RXQ
