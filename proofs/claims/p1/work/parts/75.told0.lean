/-! told(4 .. 7) on fresh objects: the class by the kernel, the reference in stretches -/
def rx_layX : rx_H := rx_lay0.take 37 ++ List.replicate 24 rx_psn
def rx_layM : rx_H := List.replicate 37 rx_psn ++ rx_lay0.drop 37
def rx_isO (o : Option rx_C) (ci : Nat) : Bool := match o with
  | some (.inr q) => Nat.beq q.1 ci
  | _ => false
def rx_prO (o : Option rx_C) : List Value := match o with
  | some (.inr q) => q.2
  | _ => []
theorem rx_isO_e {o : Option rx_C} {ci : Nat} (h : rx_isO o ci = true) : o = some (.inr (ci, rx_prO o)) := by
  unfold rx_isO at h
  split at h
  · next q =>
    obtain ⟨a, b⟩ := q
    have e := Nat.eq_of_beq_eq_true h
    simp only at e
    subst e
    rfl
  · cases h
def rx_isA (o : Option rx_C) (n : Nat) : Bool := match o with
  | some (.inl (0, m, .inl _)) => Nat.beq m n
  | _ => false
def rx_prA (o : Option rx_C) : Nat → Int32 := match o with
  | some (.inl (_, _, .inl f)) => f
  | _ => fun _ => 0
theorem rx_isA_e {o : Option rx_C} {n : Nat} (h : rx_isA o n = true) : o = some (.inl (0, n, .inl (rx_prA o))) := by
  unfold rx_isA at h
  split at h
  · next m f =>
    have e := Nat.eq_of_beq_eq_true h
    subst e
    rfl
  · cases h
theorem rx_T.rt0 {d w mi pc : Nat} {lv : rx_L} {st : List Value} {h : rx_H} {P : Option Value → rx_H → Prop} (L : Nat) (xs : Nat → Int32) (k : rx_T rx_cds rx_ms rx_lk0 rx_rt0 d w mi pc lv st h P) : rx_T rx_cds rx_ms rx_lk0 (rx_rt L xs) d w mi pc lv st h P := by
  obtain ⟨f, v, h', e, hp⟩ := k
  exact ⟨f, v, h', rx_run_more (rx_rt0_in L xs) _ _ _ _ _ _ _ _ _ e _ _ (Nat.le_refl _) (Nat.le_refl _), hp⟩
theorem rx_callv1 {ms : List rx_M} {lk : rx_Lk} {M : rx_M} {st : List Value} {h : rx_H} {N : rx_M} {j nest ix k ci : Nat} {as' as rest vs : List Value} (hl : rx_luv lk.2.2.1 (rx_Mo M) ix = some (j, nest)) (hN : ms[j]? = some N) (hk : rx_Mk N = 1) (hs : st = as.reverse ++ rest) (hal : as.length = rx_an N 1) (hr : (rest.map (fun v => v.category)).sum ≤ 8) (hsl : (lg_sl as).length ≤ rx_Ml N) (h1 : as = .ref (k + 16) :: as') (h2 : h[k]? = some (.inr (ci, vs))) (h3 : ci = rx_Mc N) : rx_call ms lk M (.invokevirtual ix) st h = some (j, as, rest) := by
  show rx_iv ms (rx_luv lk.2.2.1 (rx_Mo M) ix) 1 st h = _
  have e1 : st.take (rx_an N 1) = as.reverse := by rw [hs, ← hal, ← List.length_reverse, List.take_left]
  have e2 : st.drop (rx_an N 1) = rest := by rw [hs, ← hal, ← List.length_reverse, List.drop_left]
  unfold rx_iv
  rw [hl]
  simp only [hN]
  rw [e1, e2, List.reverse_reverse, if_pos]
  refine ⟨hk, ?_, hr, hsl, ?_⟩
  · rw [hs, ← hal, List.length_append, List.length_reverse]
    exact Nat.le_add_right _ _
  · rw [h1]
    unfold rx_rcv
    simp only [rx_ro_i h2]
    rw [h3]
    exact Nat.beq_refl _
theorem rx_layX_le : rx_le rx_layX rx_lay0 := by
  refine ⟨by decide +kernel, fun k c e => ?_⟩
  unfold rx_layX at e
  by_cases hk : k < 37
  · rw [List.getElem?_append_left (by simpa [rx_lay0] using hk), List.getElem?_take_of_lt hk] at e
    exact Or.inr e
  · rw [List.getElem?_append_right (by simp [rx_lay0]; omega)] at e
    have h1 := List.mem_of_getElem? e
    exact Or.inl (List.eq_of_mem_replicate h1)
theorem rx_layM_le {g : rx_H} (hl : g.length = 61) (hg : ∀ k, 37 ≤ k → g[k]? = rx_lay0[k]?) : rx_le rx_layM g := by
  refine ⟨by rw [hl]; decide +kernel, fun k c e => ?_⟩
  unfold rx_layM at e
  by_cases hk : k < 37
  · rw [List.getElem?_append_left (by simpa using hk)] at e
    have h1 := List.mem_of_getElem? e
    exact Or.inl (List.eq_of_mem_replicate h1)
  · rw [List.getElem?_append_right (by simp; omega), List.length_replicate, List.getElem?_drop, show 37 + (k - 37) = k by omega] at e
    exact Or.inr ((hg k (by omega)).trans e)
theorem rx_layX_psn {k : Nat} (h1 : 37 ≤ k) (h2 : k < 61) : rx_layX[k]? = some rx_psn := by
  have h3 : (List.replicate 24 rx_psn)[k - 37]? = some rx_psn := by rw [List.getElem?_replicate, if_pos (by omega)]
  have e : (rx_lay0.take 37).length = 37 := rfl
  unfold rx_layX
  rw [List.getElem?_append_right (by rw [e]; exact h1), e]
  exact h3
