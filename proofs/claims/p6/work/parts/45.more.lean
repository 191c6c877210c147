section RXO
variable {cds : List (List Value)} {ms : List rx_M} {lk : rx_Lk} {rt rt' : rx_R} {F d w mi : Nat} {P : Option Value → rx_H → Prop}
theorem rx_one1_more (hrt : ∀ id q, rt id = some q → rt' id = some q) {q q' : rx_N} (e : rx_one1 cds ms lk rt F d w mi q = some q') : rx_one1 cds ms lk rt' F d w mi q = some q' := by
  unfold rx_one1 at e
  split at e
  · cases e
  · next M hM =>
    split at e
    · cases e
    · next ins hf =>
      split at e
      · cases e
      · next hr =>
        split at e
        · next c hc =>
          obtain ⟨j, as, rest⟩ := c
          split at e
          · cases e
          · next d' =>
            split at e
            · cases e
            · next N hN =>
              split at e
              · next hw =>
                split at e
                · cases e
                · next z hz =>
                  have h1 := rx_run_more hrt _ _ _ _ _ _ _ _ _ hz _ _ (Nat.le_refl _) (Nat.le_refl _)
                  unfold rx_one1
                  simp only [hM, hf, hr, hc, hN, hw, h1, if_true]
                  exact e
              · cases e
        · next hc =>
          have h1 := rx_opI_more hrt (Nat.le_refl d) (Nat.le_refl w) e
          unfold rx_one1
          simp only [hM, hf, hr, hc]
          exact h1
theorem rx_steps_more (hrt : ∀ id q, rt id = some q → rt' id = some q) : ∀ (n : Nat) (q q' : rx_N), rx_steps cds ms lk rt F d w mi n q = some q' → rx_steps cds ms lk rt' F d w mi n q = some q'
  | 0, q, q', e => by unfold rx_steps at e ⊢; exact e
  | n + 1, q, q', e => by
    unfold rx_steps at e
    split at e
    · cases e
    · next q1 h1 =>
      unfold rx_steps
      rw [rx_one1_more hrt h1]
      exact rx_steps_more hrt n q1 q' e
/-- a stretch that the kernel has run without the script -/
theorem rx_T.stretch0 (hrt : ∀ id q, rt id = some q → rt' id = some q) {n pc pc' : Nat} {lv lv' : rx_L} {st st' : List Value} {h : rx_H} (e : (rx_steps cds ms lk rt F d w mi n (pc, lv, st, h)).map (fun q => (q.1, q.2.1, q.2.2.1)) = some (pc', lv', st')) (k : rx_T cds ms lk rt' d w mi pc' lv' st' (rx_hp (rx_steps cds ms lk rt F d w mi n (pc, lv, st, h))) P) : rx_T cds ms lk rt' d w mi pc lv st h P := by
  obtain ⟨q, h1, h2⟩ := Option.map_eq_some_iff.mp e
  obtain ⟨a, b, c, g⟩ := q
  cases h2
  rw [h1] at k
  exact rx_steps_T n (pc, lv, st, h) _ (rx_steps_more hrt n _ _ h1) k
end RXO
