/-! the reference's environment: what its methods keep, and a measure that falls where news comes -/
def rx_sum (t : Nat → Nat) : Nat → Nat
  | 0 => 0
  | n + 1 => rx_sum t n + t n
theorem rx_sum_le {t t' : Nat → Nat} : ∀ n : Nat, (∀ j, j < n → t' j ≤ t j) → rx_sum t' n ≤ rx_sum t n
  | 0, _ => Nat.le_refl _
  | n + 1, h => Nat.add_le_add (rx_sum_le n (fun j hj => h j (by omega))) (h n (by omega))
theorem rx_sum_lt {t t' : Nat → Nat} {c : Nat} : ∀ n : Nat, c < n → (∀ j, j < n → t' j ≤ t j) → t' c < t c → rx_sum t' n < rx_sum t n
  | 0, hc, _, _ => absurd hc (by omega)
  | n + 1, hc, h, hl => by
    unfold rx_sum
    by_cases e : c = n
    · subst e
      have := rx_sum_le c (fun j hj => h j (by omega))
      omega
    · have h1 := rx_sum_lt n (by omega) (fun j hj => h j (by omega)) hl
      have h2 := h n (by omega)
      omega
theorem rx_sum_eq {t t' : Nat → Nat} : ∀ n : Nat, (∀ j, j < n → t' j = t j) → rx_sum t' n = rx_sum t n
  | 0, _ => rfl
  | n + 1, h => by
    unfold rx_sum
    rw [rx_sum_eq n (fun j hj => h j (by omega)), h n (by omega)]
/-- what lies in a cell -/
def rx_gI (h : rx_H) (k : Nat) : Nat → Int32 := match h[k]? with
  | some (.inl (_, _, .inl f)) => f
  | _ => fun _ => 0
def rx_gL (h : rx_H) (k : Nat) : Nat → Int64 := match h[k]? with
  | some (.inl (_, _, .inr (.inl f))) => f
  | _ => fun _ => 0
def rx_gF (h : rx_H) (k j : Nat) : Int32 := match h[k]? with
  | some (.inr (_, vs)) => (match vs[j]? with
    | some (.int x) => x
    | _ => 0)
  | _ => 0
theorem rx_gI_of {h h' : rx_H} {k : Nat} (e : h'[k]? = h[k]?) : rx_gI h' k = rx_gI h k := by unfold rx_gI; rw [e]
theorem rx_gL_of {h h' : rx_H} {k : Nat} (e : h'[k]? = h[k]?) : rx_gL h' k = rx_gL h k := by unfold rx_gL; rw [e]
theorem rx_gF_of {h h' : rx_H} {k j : Nat} (e : h'[k]? = h[k]?) : rx_gF h' k j = rx_gF h k j := by unfold rx_gF; rw [e]
/-- bits that may still come (lines, circles); how far a length may still fall -/
def rx_tb (f : Nat → Int32) (k : Nat) : Nat := 4294967296 - (f k).toBitVec.toNat
def rx_tl (f : Nat → Int32) (k : Nat) : Nat := ((f k).toInt + 2147483648).toNat
def rx_MA (h : rx_H) : Nat := rx_sum (rx_tb (rx_gI h 46)) 144 + rx_sum (rx_tb (rx_gI h 47)) 1728 + rx_sum (rx_tl (rx_gI h 48)) 144
def rx_MU (h : rx_H) : Nat := rx_mu (rx_gL h 50) (rx_gI h 51) 22
/-- the measure does not grow; it fell -/
def rx_mle (h h' : rx_H) : Prop := rx_MA h' < rx_MA h ∨ (rx_MA h' = rx_MA h ∧ rx_MU h' ≤ rx_MU h)
def rx_mlt (h h' : rx_H) : Prop := rx_MA h' < rx_MA h ∨ (rx_MA h' = rx_MA h ∧ rx_MU h' < rx_MU h)
/-- the reference's frame -/
def rx_Fm (h h' : rx_H) : Prop := (∀ z, z < 37 ∨ (38 ≤ z ∧ z < 44) ∨ z = 45 → h'[z]? = h[z]?) ∧ (∀ j, j < 17 → rx_gF h' 37 j = rx_gF h 37 j) ∧ rx_mle h h' ∧ (¬ rx_gF h' 37 17 = 0 → ¬ rx_gF h 37 17 = 0 ∨ rx_mlt h h') ∧ (¬ rx_gF h' 37 20 = 0 → ¬ rx_gF h 37 20 = 0 ∨ rx_MA h' < rx_MA h)
theorem rx_Fm.refl (h : rx_H) : rx_Fm h h := ⟨fun _ _ => rfl, fun _ _ => rfl, Or.inr ⟨rfl, Nat.le_refl _⟩, Or.inl, Or.inl⟩
theorem rx_Fm.trans {a b c : rx_H} (h1 : rx_Fm a b) (h2 : rx_Fm b c) : rx_Fm a c := by
  obtain ⟨p1, p2, p3, p4, p5⟩ := h1
  obtain ⟨q1, q2, q3, q4, q5⟩ := h2
  unfold rx_mle rx_mlt at *
  refine ⟨fun z hz => (q1 z hz).trans (p1 z hz), fun j hj => (q2 j hj).trans (p2 j hj), ?_, fun hn => ?_, fun hn => ?_⟩
  · unfold rx_mle
    omega
  · unfold rx_mlt
    rcases q4 hn with z | z
    · rcases p4 z with y | y
      · exact Or.inl y
      · right
        omega
    · right
      omega
  · rcases q5 hn with z | z
    · rcases p5 z with y | y
      · exact Or.inl y
      · right
        omega
    · right
      omega
/-- circles do not depend on the order of their three points -/
def rx_sym (f : Nat → Int32) : Prop := ∀ a b c, a < 7 → b < 7 → c < 7 → f ((12 * a + b) * 12 + c) = f ((12 * b + a) * 12 + c) ∧ f ((12 * a + b) * 12 + c) = f ((12 * a + c) * 12 + b)
def rx_Xm (h : rx_H) : Prop := rx_gds (rx_gL h 50) (rx_gI h 51) ∧ rx_sym (rx_gI h 47)
def rx_Em : rx_E := (rx_I0, rx_tab0, fun k => Nat.beq k 52, fun _ _ => false, fun rt => ∀ id q, rx_rt0 id = some q → rt id = some q)
/-- only the row changed -/
theorem rx_Fm_row {h h' : rx_H} (e : ∀ z, ¬ z = 52 → h'[z]? = h[z]?) : rx_Fm h h' := by
  have a1 : rx_MA h' = rx_MA h := by
    unfold rx_MA
    rw [rx_gI_of (e 46 (by decide)), rx_gI_of (e 47 (by decide)), rx_gI_of (e 48 (by decide))]
  have a2 : rx_MU h' = rx_MU h := by
    unfold rx_MU
    rw [rx_gL_of (e 50 (by decide)), rx_gI_of (e 51 (by decide))]
  refine ⟨fun z hz => e z (by omega), fun j _ => rx_gF_of (e 37 (by decide)), Or.inr ⟨a1, by omega⟩, fun hn => Or.inl ?_, fun hn => Or.inl ?_⟩
  · rw [← rx_gF_of (e 37 (by decide))]
    exact hn
  · rw [← rx_gF_of (e 37 (by decide))]
    exact hn
theorem rx_Xm_row {h h' : rx_H} (e : ∀ z, ¬ z = 52 → h'[z]? = h[z]?) (hx : rx_Xm h) : rx_Xm h' := by
  unfold rx_Xm
  rw [rx_gL_of (e 50 (by decide)), rx_gI_of (e 51 (by decide)), rx_gI_of (e 47 (by decide))]
  exact hx
theorem rx_env_m : rx_env rx_Em rx_Xm rx_Fm := by
  refine ⟨rx_Fm.refl, fun a b c => rx_Fm.trans, fun h h' _ _ hw => ?_⟩
  rcases hw with rfl | ⟨k, c, h1, rfl⟩ | ⟨k, j, ci, fs, v, h1, h2, rfl⟩
  · exact ⟨rx_Fm.refl _, fun z => z⟩
  · have ek : k = 52 := Nat.eq_of_beq_eq_true h1
    subst ek
    have e : ∀ z, ¬ z = 52 → (h.set 52 c)[z]? = h[z]? := fun z hz => List.getElem?_set_ne (fun y => hz y.symm)
    exact ⟨rx_Fm_row e, rx_Xm_row e⟩
  · cases h1
abbrev rx_spm (sp : rx_Sp) : Prop := rx_spec rx_cds rx_ms rx_lk0 rx_Em rx_Xm rx_Fm sp
theorem rx_tok_m (L : Nat) (xs : Nat → Int32) : rx_tok rx_Em (rx_rt L xs) := rx_tok_x L xs
theorem rx_lat.gL {h : rx_H} {fs : Nat → Int64} {fb : Nat → Int32} {fr : Nat → Int64} (hl : rx_lat h fs fb fr) : rx_gL h 50 = fs ∧ rx_gI h 51 = fb ∧ rx_gL h 52 = fr := by
  obtain ⟨h1, h2, h3⟩ := hl
  refine ⟨?_, ?_, ?_⟩
  · unfold rx_gL; rw [h1]
  · unfold rx_gI; rw [h2]
  · unfold rx_gL; rw [h3]
theorem rx_lat_g {h : rx_H} (hh : rx_hin rx_I0 h) : rx_lat h (rx_gL h 50) (rx_gI h 51) (rx_gL h 52) := by
  obtain ⟨fs, fb, fr, hl⟩ := rx_lat_of hh
  obtain ⟨e1, e2, e3⟩ := hl.gL
  rw [e1, e2, e3]
  exact hl
