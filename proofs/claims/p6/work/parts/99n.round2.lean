section RXRB
variable {rt : rx_R} {d w : Nat} {P : Option Value → rx_H → Prop}
/-- the triples that round writes -/
def rx_cn (X Y : Nat → Int32) (n : Nat) (s : Int32) (a b c : Nat) : Prop := (a < n ∧ b < n ∧ c < n ∧ ¬ a = b ∧ ¬ b = c ∧ ¬ a = c) ∧ rx_c3 X Y s a b c
theorem rx_cn_12 {X Y : Nat → Int32} (hX : rx_bd X) (hY : rx_bd Y) {n : Nat} (hn : n ≤ 7) {s : Int32} {a b c : Nat} (h : rx_cn X Y n s a b c) : rx_cn X Y n s b a c := by
  obtain ⟨⟨h1, h2, h3, h4, h5, h6⟩, k1, k2, k3, k4⟩ := h
  exact ⟨⟨h2, h1, h3, fun z => h4 z.symm, h6, h5⟩, k2, k1, k3, by rw [← rx_pv_12 hX hY (by omega) (by omega) (by omega)]; exact k4⟩
theorem rx_cn_23 {X Y : Nat → Int32} (hX : rx_bd X) (hY : rx_bd Y) {n : Nat} (hn : n ≤ 7) {s : Int32} {a b c : Nat} (h : rx_cn X Y n s a b c) : rx_cn X Y n s a c b := by
  obtain ⟨⟨h1, h2, h3, h4, h5, h6⟩, k1, k2, k3, k4⟩ := h
  exact ⟨⟨h1, h3, h2, h6, fun z => h5 z.symm, h4⟩, k1, k3, k2, by rw [← rx_pv_23 hX hY (by omega) (by omega) (by omega)]; exact k4⟩
/-- closed over a < b < c, so over all orders -/
theorem rx_rcl {X Y f : Nat → Int32} (hX : rx_bd X) (hY : rx_bd Y) {n : Nat} (hn : n ≤ 7) {s : Int32} (hs : rx_sym f) (hc : ∀ a b c, a < b → b < c → c < n → rx_rc X Y f s a b c) {a b c : Nat} (h : rx_cn X Y n s a b c) : f ((12 * a + b) * 12 + c) ||| s = s := by
  have S12 : ∀ {a b c}, rx_cn X Y n s a b c → f ((12 * a + b) * 12 + c) = f ((12 * b + a) * 12 + c) := fun {a b c} q => (hs a b c (by have := q.1; omega) (by have := q.1; omega) (by have := q.1; omega)).1
  have S23 : ∀ {a b c}, rx_cn X Y n s a b c → f ((12 * a + b) * 12 + c) = f ((12 * a + c) * 12 + b) := fun {a b c} q => (hs a b c (by have := q.1; omega) (by have := q.1; omega) (by have := q.1; omega)).2
  have A : ∀ {a b c}, rx_cn X Y n s a b c → rx_cn X Y n s b a c := fun {a b c} q => rx_cn_12 hX hY hn q
  have B : ∀ {a b c}, rx_cn X Y n s a b c → rx_cn X Y n s a c b := fun {a b c} q => rx_cn_23 hX hY hn q
  have D : ∀ {a b c}, a < b → b < c → rx_cn X Y n s a b c → f ((12 * a + b) * 12 + c) ||| s = s := fun {a b c} p1 p2 q => hc a b c p1 p2 q.1.2.2.1 q.2
  obtain ⟨⟨h1, h2, h3, h4, h5, h6⟩, _⟩ := id h
  by_cases p1 : a < b
  · by_cases p2 : b < c
    · exact D p1 p2 h
    · by_cases p3 : a < c
      · rw [S23 h]
        exact D p3 (by omega) (B h)
      · rw [S23 h, S12 (B h)]
        exact D (by omega) (by omega) (A (B h))
  · by_cases p2 : a < c
    · rw [S12 h]
      exact D (by omega) p2 (A h)
    · by_cases p3 : b < c
      · rw [S12 h, S23 (A h)]
        exact D p3 (by omega) (B (A h))
      · rw [S23 h, S12 (B h), S23 (A (B h))]
        exact D (by omega) (by omega) (B (A (B h)))
/-- what holds while round writes circles -/
def rx_r2 (X Y f : Nat → Int32) (n : Nat) (s : Int32) (h0 : rx_H) (a b c : Nat) (h : rx_H) : Prop :=
  rx_hin rx_I0 h ∧ (∀ z, ¬ z = 37 → ¬ z = 47 → h[z]? = h0[z]?) ∧ (∀ j, ¬ j = 17 → rx_gF h 37 j = rx_gF h0 37 j) ∧ (∀ i, rx_gI h 47 i = f i ∨ (rx_gI h 47 i = s ∧ f i ||| s = s)) ∧
  (∀ a' b' c', a' < 7 → b' < 7 → c' < 7 → (rx_lx a' b' c' a b c ∧ rx_cn X Y n s a' b' c' → rx_gI h 47 ((12 * a' + b') * 12 + c') = s) ∧ (¬ (rx_lx a' b' c' a b c ∧ rx_cn X Y n s a' b' c') → rx_gI h 47 ((12 * a' + b') * 12 + c') = f ((12 * a' + b') * 12 + c'))) ∧
  (¬ rx_gF h 37 17 = 0 → ¬ rx_gF h0 37 17 = 0 ∨ ∃ i, i < 1728 ∧ rx_gI h 47 i = s ∧ ¬ f i = s ∧ f i ||| s = s)
theorem rx_r2.to {X Y f : Nat → Int32} {n : Nat} {s : Int32} {h0 h : rx_H} {a b c a2 b2 c2 : Nat} (H : rx_r2 X Y f n s h0 a b c h) (hk : ∀ a' b' c', rx_cn X Y n s a' b' c' → (rx_lx a' b' c' a2 b2 c2 ↔ rx_lx a' b' c' a b c)) : rx_r2 X Y f n s h0 a2 b2 c2 h := by
  obtain ⟨k1, k2, k3, k4, k5, k6⟩ := H
  refine ⟨k1, k2, k3, k4, fun a' b' c' p1 p2 p3 => ?_, k6⟩
  obtain ⟨q1, q2⟩ := k5 a' b' c' p1 p2 p3
  exact ⟨fun z => q1 ⟨(hk a' b' c' z.2).mp z.1, z.2⟩, fun z => q2 (fun y => z ⟨(hk a' b' c' y.2).mpr y.1, y.2⟩)⟩
theorem rx_gF_n {h h0 : rx_H} {n : Nat} (hh : rx_hin rx_I0 h) (e : ∀ j, ¬ j = 17 → rx_gF h 37 j = rx_gF h0 37 j) (en : rx_gF h0 37 1 = nI n) : ∃ vs, h[37]? = some (.inr (5, vs)) ∧ vs[1]? = some (.int (nI n)) := rx_gF_f hh ((e 1 (by decide)).trans en)
theorem rx_or_lt2 {x s : Int32} (hs : x ||| s = s) (hne : ¬ x = s) : rx_tb (fun _ => s) 0 < rx_tb (fun _ => x) 0 := by
  have hlt : x.toBitVec.toNat < s.toBitVec.toNat := by
    have q1 : s.toBitVec.toNat = x.toBitVec.toNat ||| s.toBitVec.toNat := by
      have := congrArg (fun x : Int32 => x.toBitVec.toNat) hs
      simp only [Int32.toBitVec_or, BitVec.toNat_or] at this
      exact this.symm
    have q2 : x.toBitVec.toNat ≤ x.toBitVec.toNat ||| s.toBitVec.toNat := Nat.left_le_or
    have q3 : ¬ x.toBitVec.toNat = s.toBitVec.toNat := fun z => hne (Int32.toBitVec_inj.mp (BitVec.eq_of_toNat_eq z))
    omega
  have b1 := s.toBitVec.isLt
  unfold rx_tb
  simp only
  omega
theorem rx_or_le2 {x s : Int32} (hs : x ||| s = s) : rx_tb (fun _ => s) 0 ≤ rx_tb (fun _ => x) 0 := by
  by_cases e : x = s
  · rw [e]
    exact Nat.le_refl _
  · exact Nat.le_of_lt (rx_or_lt2 hs e)
/-- one circle is written, news is set -/
theorem rx_r2.write {X Y f : Nat → Int32} {n : Nat} {s : Int32} {h0 h : rx_H} {vs : List Value} {g : Nat → Int32} {a b c : Nat} (hn : n ≤ 7) (H : rx_r2 X Y f n s h0 a b c h) (c1 : h[37]? = some (.inr (5, vs))) (hg : h[47]? = some (.inl (0, 1728, .inl g))) (hc : rx_cn X Y n s a b c) (hs : f ((12 * a + b) * 12 + c) ||| s = s) (hne : ¬ g ((12 * a + b) * 12 + c) = s) :
    rx_r2 X Y f n s h0 a b (c + 1) ((h.set 47 (.inl (0, 1728, .inl (upd g ((12 * a + b) * 12 + c) s)))).set 37 (.inr (5, vs.set 17 (.int 1)))) := by
  obtain ⟨k1, k2, k3, k4, k5, k6⟩ := H
  generalize ei : (12 * a + b) * 12 + c = i at *
  have hi : i < 1728 := by
    have := hc.1
    omega
  have eg := rx_gI_at hg
  rw [eg] at k4 k5 k6
  have h1 : rx_hin rx_I0 (h.set 47 (.inl (0, 1728, .inl (upd g i s)))) := rx_hin_set k1 (k := 47) rfl ⟨_, rfl, fun j _ => ⟨rxi_lo _, rxi_hi _⟩⟩
  have e1 : (h.set 47 (.inl (0, 1728, .inl (upd g i s))))[37]? = some (.inr (5, vs)) := (List.getElem?_set_ne (by decide)).trans c1
  have h2 := rx_hin_fld (i := 17) (x := 1) h1 e1 (fun fs hfs => by cases hfs; rfl) (by decide) (by decide)
  have s1 : ∀ z, ¬ z = 37 → ¬ z = 47 → ((h.set 47 (.inl (0, 1728, .inl (upd g i s)))).set 37 (.inr (5, vs.set 17 (.int 1))))[z]? = h[z]? := fun z z1 z2 => by
    rw [List.getElem?_set_ne (fun y => z1 y.symm), List.getElem?_set_ne (fun y => z2 y.symm)]
  have s2 : rx_gI ((h.set 47 (.inl (0, 1728, .inl (upd g i s)))).set 37 (.inr (5, vs.set 17 (.int 1)))) 47 = upd g i s := rx_gI_at (t := 0) (n := 1728) (by
    rw [List.getElem?_set_ne (by decide)]
    exact List.getElem?_set_self (List.getElem?_eq_some_iff.mp hg).1)
  have s3 : ∀ j, ¬ j = 17 → rx_gF ((h.set 47 (.inl (0, 1728, .inl (upd g i s)))).set 37 (.inr (5, vs.set 17 (.int 1)))) 37 j = rx_gF h 37 j := fun j hj => by
    rw [rx_gF_set e1 (fun z => hj z.symm)]
    exact rx_gF_of (List.getElem?_set_ne (by decide))
  have u1 : upd g i s i = s := if_pos rfl
  have u2 : ∀ j, ¬ j = i → upd g i s j = g j := fun j hj => if_neg hj
  have hfi : ¬ f i = s := by
    rcases k4 i with z | z
    · rw [← z]
      exact hne
    · exact absurd z.1 hne
  refine ⟨h2, fun z z1 z2 => (s1 z z1 z2).trans (k2 z z1 z2), fun j hj => (s3 j hj).trans (k3 j hj), fun j => ?_, fun a' b' c' p1 p2 p3 => ?_, fun _ => Or.inr ⟨i, hi, by rw [s2, u1], hfi, hs⟩⟩
  · rw [s2]
    by_cases ej : j = i
    · rw [ej, u1]
      exact Or.inr ⟨rfl, hs⟩
    · rw [u2 j ej]
      exact k4 j
  · rw [s2]
    obtain ⟨q1, q2⟩ := k5 a' b' c' p1 p2 p3
    have hcl := hc.1
    by_cases e : a' = a ∧ b' = b ∧ c' = c
    · obtain ⟨rfl, rfl, rfl⟩ := e
      rw [ei, u1]
      exact ⟨fun _ => rfl, fun z => absurd ⟨by unfold rx_lx; omega, hc⟩ z⟩
    · rw [u2 _ (by omega)]
      exact ⟨fun z => q1 ⟨by have := z.1; unfold rx_lx at *; omega, z.2⟩, fun z => q2 (fun y => z ⟨by have := y.1; unfold rx_lx at *; omega, y.2⟩)⟩
theorem rx_r2.skip {X Y f : Nat → Int32} {n : Nat} {s : Int32} {h0 h : rx_H} {a b c : Nat} (H : rx_r2 X Y f n s h0 a b c h) (ha : a < 7) (hb : b < 7) (hc : c < 7) (hq : rx_cn X Y n s a b c → rx_gI h 47 ((12 * a + b) * 12 + c) = s) : rx_r2 X Y f n s h0 a b (c + 1) h := by
  obtain ⟨k1, k2, k3, k4, k5, k6⟩ := H
  refine ⟨k1, k2, k3, k4, fun a' b' c' p1 p2 p3 => ?_, k6⟩
  obtain ⟨q1, q2⟩ := k5 a' b' c' p1 p2 p3
  by_cases e : a' = a ∧ b' = b ∧ c' = c
  · obtain ⟨rfl, rfl, rfl⟩ := e
    exact ⟨fun z => hq z.2, fun z => q2 (fun y => z ⟨by have := y.1; unfold rx_lx at *; omega, y.2⟩)⟩
  · exact ⟨fun z => q1 ⟨by have := z.1; unfold rx_lx at *; omega, z.2⟩, fun z => q2 (fun y => z ⟨by have := y.1; unfold rx_lx at *; omega, y.2⟩)⟩
/-- the end -/
theorem rx_r2.fin {n : Nat} {s : Int32} {h0 h : rx_H} (hn : n ≤ 7) (hh0 : rx_hin rx_I0 h0) (hx : rx_Xm h0) (H : rx_r2 (rx_gI h0 38) (rx_gI h0 39) (rx_gI h0 47) n s h0 n 0 0 h) : rx_hin rx_I0 h ∧ rx_Xm h ∧ rx_Fm h0 h := by
  obtain ⟨k1, k2, k3, k4, k5, k6⟩ := H
  obtain ⟨hX, hY⟩ := rx_bdX hh0
  have hle : ∀ i, rx_tb (rx_gI h 47) i ≤ rx_tb (rx_gI h0 47) i := fun i => by
    rcases k4 i with z | ⟨z1, z2⟩
    · unfold rx_tb
      rw [z]
      exact Nat.le_refl _
    · have := rx_or_le2 z2
      unfold rx_tb at *
      simp only at this
      rw [z1]
      exact this
  have hsum := rx_sum_le 1728 (fun j _ => hle j)
  have eMU : rx_MU h = rx_MU h0 := by
    unfold rx_MU
    rw [rx_gL_of (k2 50 (by decide) (by decide)), rx_gI_of (k2 51 (by decide) (by decide))]
  have eMA : rx_MA h ≤ rx_MA h0 := by
    unfold rx_MA
    rw [rx_gI_of (k2 46 (by decide) (by decide)), rx_gI_of (k2 48 (by decide) (by decide))]
    omega
  have gd : ∀ a' b' c', a' < 7 → b' < 7 → c' < 7 → (rx_cn (rx_gI h0 38) (rx_gI h0 39) n s a' b' c' ∧ rx_gI h 47 ((12 * a' + b') * 12 + c') = s) ∨ (¬ rx_cn (rx_gI h0 38) (rx_gI h0 39) n s a' b' c' ∧ rx_gI h 47 ((12 * a' + b') * 12 + c') = rx_gI h0 47 ((12 * a' + b') * 12 + c')) := by
    intro a' b' c' p1 p2 p3
    obtain ⟨q1, q2⟩ := k5 a' b' c' p1 p2 p3
    by_cases e : rx_cn (rx_gI h0 38) (rx_gI h0 39) n s a' b' c'
    · exact Or.inl ⟨e, q1 ⟨Or.inl e.1.1, e⟩⟩
    · exact Or.inr ⟨e, q2 (fun z => e z.2)⟩
  refine ⟨k1, ⟨?_, ?_⟩, ⟨fun z hz => k2 z (by omega) (by omega), fun j hj => k3 j (by omega), ?_, fun hnz => ?_, fun hnz => Or.inl ?_⟩⟩
  · rw [rx_gL_of (k2 50 (by decide) (by decide)), rx_gI_of (k2 51 (by decide) (by decide))]
    exact hx.1
  · intro a' b' c' p1 p2 p3
    obtain ⟨y1, y2⟩ := hx.2 a' b' c' p1 p2 p3
    constructor
    · rcases gd a' b' c' p1 p2 p3 with ⟨q1, q2⟩ | ⟨q1, q2⟩ <;> rcases gd b' a' c' p2 p1 p3 with ⟨r1, r2⟩ | ⟨r1, r2⟩
      · rw [q2, r2]
      · exact absurd (rx_cn_12 hX hY hn q1) r1
      · exact absurd (rx_cn_12 hX hY hn r1) q1
      · rw [q2, r2]
        exact y1
    · rcases gd a' b' c' p1 p2 p3 with ⟨q1, q2⟩ | ⟨q1, q2⟩ <;> rcases gd a' c' b' p1 p3 p2 with ⟨r1, r2⟩ | ⟨r1, r2⟩
      · rw [q2, r2]
      · exact absurd (rx_cn_23 hX hY hn q1) r1
      · exact absurd (rx_cn_23 hX hY hn r1) q1
      · rw [q2, r2]
        exact y2
  · unfold rx_mle
    omega
  · rcases k6 hnz with z | ⟨i, i1, i2, i3, i4⟩
    · exact Or.inl z
    · right
      left
      have hlt : rx_sum (rx_tb (rx_gI h 47)) 1728 < rx_sum (rx_tb (rx_gI h0 47)) 1728 := rx_sum_lt (c := i) 1728 i1 (fun j _ => hle j) (by
        have := rx_or_lt2 i4 i3
        unfold rx_tb at *
        simp only at this
        rw [i2]
        exact this)
      unfold rx_MA
      rw [rx_gI_of (k2 46 (by decide) (by decide)), rx_gI_of (k2 48 (by decide) (by decide))]
      omega
  · rw [← k3 20 (by decide)]
    exact hnz
end RXRB
