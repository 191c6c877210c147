/-- the static tables alone, no script -/
def rx_rt0 : rx_R := fun id => if id = 0 then none else rx_rt 0 (fun _ => 0) id
theorem rx_rt0_in (L : Nat) (xs : Nat → Int32) : ∀ id q, rx_rt0 id = some q → rx_rt L xs id = some q := by
  intro id q h
  unfold rx_rt0 at h
  split at h
  · cases h
  · next h0 =>
    unfold rx_rt at h ⊢
    match id, h0, h with
    | 0, h0, h => exact absurd rfl h0
    | 1, h0, h => exact h
    | 2, h0, h => exact h
    | 3, h0, h => exact h
    | 4, h0, h => exact h
    | _ + 5, h0, h => cases h
/-- both objects are made: the law stands at its loop -/
def rx_s0 : Option rx_N := rx_steps rx_cds rx_ms rx_lk0 rx_rt0 1000 12 468 0 10 (0, [(0, .ref 0)], [], [])
def rx_hp0 : rx_H := rx_hp rx_s0
set_option maxRecDepth 1000000 in
theorem rx_s0_at : rx_s0.map (fun q => (q.1, q.2.1, q.2.2.1)) = some (18, [(3, .int 0), (2, .ref 53), (1, .ref 16), (0, .ref 0)], []) := by decide +kernel
set_option maxRecDepth 1000000 in
theorem rx_hp0_sz : rx_hp0.length ≤ 1000 ∧ rx_sz rx_hp0 ≤ 100000 := by decide +kernel
