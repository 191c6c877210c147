section RXRL
variable {rt : rx_R}
/-- both states: POINTS, HYPOTHESES, THE DRAFT -/
def rx_Rl (h : rx_H) : Prop := ∃ n f c : Nat, n ≤ 7 ∧ f ≤ 30 ∧ c ≤ 8 ∧ (rx_gF h 1 2 = nI n ∧ rx_gF h 37 1 = nI n) ∧ (rx_gF h 0 3 = nI f ∧ rx_gF h 37 6 = nI f) ∧ (rx_gF h 0 7 = nI c ∧ rx_gF h 37 5 = nI c) ∧ rx_gF h 0 6 = nI (rx_pk (rx_p h) c) ∧ rx_same (rx_gI h 2) (rx_gI h 38) ∧ rx_same (rx_gI h 3) (rx_gI h 39)
def rx_Iv (h : rx_H) : Prop := rx_hin rx_I0 h ∧ rx_Xm h ∧ rx_Rl h
/-- one call on the class, then the same on the reference -/
def rx_L2 (rt : rx_R) (mx : Nat) (lx : rx_L) (mm : Nat) (lm : rx_L) (b : Bool) (h : rx_H) : Prop := ∀ w1 : Nat, 400 ≤ w1 → rx_T rx_cds rx_ms rx_lk0 rt 11 w1 mx 0 lx [] h (fun v1 h1 => ∃ x : Int32, v1 = some (.int x) ∧ rx_hin rx_I0 h1 ∧ ∀ w2 : Nat, 400 ≤ w2 → rx_T rx_cds rx_ms rx_lk0 rt 11 w2 mm 0 lm [] h1 (fun v2 h2 => ∃ y : Int32, v2 = some (.int y) ∧ (b = true → y = x) ∧ rx_Iv h2))
theorem rx_Xm_of {h h1 : rx_H} (hx : rx_Xm h) (e : ∀ z, 37 ≤ z → h1[z]? = h[z]?) : rx_Xm h1 := rx_Xm_z (h := h) (fun z hz => e z (by omega)) hx
theorem rx_p_eq {h h1 : rx_H} (e : h1[40]? = h[40]?) : rx_p h1 = rx_p h := by
  unfold rx_p
  rw [rx_gI_of e]
/-- what the reference starts from, behind the class's call -/
theorem rx_CM_of {h h1 : rx_H} {n f c : Nat} (hh1 : rx_hin rx_I0 h1) (hx : rx_Xm h) (hn : n ≤ 7) (hf : f ≤ 30) (hc : c ≤ 8) (e1 : rx_gF h 37 1 = nI n) (e6 : rx_gF h 37 6 = nI f) (e5 : rx_gF h 37 5 = nI c) (e : ∀ z, 37 ≤ z → h1[z]? = h[z]?) : rx_CM h1 n f c :=
  ⟨hh1, rx_Xm_of hx e, hn, hf, hc, (rx_gF_of (e 37 (by decide))).trans e1, (rx_gF_of (e 37 (by decide))).trans e6, (rx_gF_of (e 37 (by decide))).trans e5⟩
theorem rx_CX_of {h : rx_H} {f c : Nat} (hh : rx_hin rx_I0 h) (hf : f ≤ 30) (hc : c ≤ 8) (e3 : rx_gF h 0 3 = nI f) (e6 : rx_gF h 0 6 = nI (rx_pk (rx_p h) c)) (e7 : rx_gF h 0 7 = nI c) : rx_CX h f c (rx_p h) := ⟨hh, hf, hc, fun i hi => (rx_p_of hh (by omega)).2, e3, e6, e7⟩
/-- nothing of it changed -/
theorem rx_Rl.keep {h h1 h2 : rx_H} (R : rx_Rl h) (k : rx_KX h h1) (s : rx_DXs h h1) (g : rx_Fg h1 h2) : rx_Rl h2 := by
  obtain ⟨n, f, c, hn, hf, hc, ⟨a1, a2⟩, ⟨b1, b2⟩, ⟨c1, c2⟩, d1, e1, e2⟩ := R
  have z1 : ∀ z, z = 1 ∨ z = 2 ∨ z = 3 → h2[z]? = h[z]? := fun z hz => (g.1 z (by omega)).trans (k.1 z (by omega))
  have z2 : ∀ z, z = 38 ∨ z = 39 ∨ z = 40 → h2[z]? = h[z]? := fun z hz => (g.1 z (by omega)).trans (k.1 z (by omega))
  have z0 : h2[0]? = h1[0]? := g.1 0 (by omega)
  have z7 : h1[37]? = h[37]? := k.1 37 (by omega)
  refine ⟨n, f, c, hn, hf, hc, ⟨(rx_gF_of (z1 1 (by decide))).trans a1, (g.2 1 (by decide)).trans ((rx_gF_of z7).trans a2)⟩, ⟨(rx_gF_of z0).trans (k.2.trans b1), (g.2 6 (by decide)).trans ((rx_gF_of z7).trans b2)⟩, ⟨(rx_gF_of z0).trans (s.2.trans c1), (g.2 5 (by decide)).trans ((rx_gF_of z7).trans c2)⟩, ?_, ?_, ?_⟩
  · rw [rx_p_eq (z2 40 (by decide))]
    exact (rx_gF_of z0).trans (s.1.trans d1)
  · rw [rx_gI_of (z1 2 (by decide)), rx_gI_of (z2 38 (by decide))]
    exact e1
  · rw [rx_gI_of (z1 3 (by decide)), rx_gI_of (z2 39 (by decide))]
    exact e2
/-- THE DRAFT is emptied on both sides -/
theorem rx_Rl.mk0 {h : rx_H} {n f : Nat} (hn : n ≤ 7) (hf : f ≤ 30) (a : rx_gF h 1 2 = nI n ∧ rx_gF h 37 1 = nI n) (b : rx_gF h 0 3 = nI f ∧ rx_gF h 37 6 = nI f) (d : rx_DX0 h) (e : rx_gF h 37 5 = 0) (s1 : rx_same (rx_gI h 2) (rx_gI h 38)) (s2 : rx_same (rx_gI h 3) (rx_gI h 39)) : rx_Rl h := ⟨n, f, 0, hn, hf, by decide, a, b, ⟨d.2, e⟩, d.1, s1, s2⟩
theorem rx_Rl.clear {h h1 h2 : rx_H} (R : rx_Rl h) (k : rx_KX h h1) (s : rx_DX0 h1) (g : ∀ z, z < 37 ∨ (38 ≤ z ∧ z < 41) → h2[z]? = h1[z]?) (g1 : rx_gF h2 37 1 = rx_gF h1 37 1) (g6 : rx_gF h2 37 6 = rx_gF h1 37 6) (g5 : rx_gF h2 37 5 = 0) : rx_Rl h2 := by
  obtain ⟨n, f, c, hn, hf, hc, ⟨a1, a2⟩, ⟨b1, b2⟩, ⟨c1, c2⟩, d1, e1, e2⟩ := R
  have z1 : ∀ z, z = 1 ∨ z = 2 ∨ z = 3 → h2[z]? = h[z]? := fun z hz => (g z (by omega)).trans (k.1 z (by omega))
  have z2 : ∀ z, z = 38 ∨ z = 39 → h2[z]? = h[z]? := fun z hz => (g z (by omega)).trans (k.1 z (by omega))
  have z0 : h2[0]? = h1[0]? := g 0 (by omega)
  have z7 : h1[37]? = h[37]? := k.1 37 (by omega)
  refine rx_Rl.mk0 hn hf ⟨(rx_gF_of (z1 1 (by decide))).trans a1, g1.trans ((rx_gF_of z7).trans a2)⟩ ⟨(rx_gF_of z0).trans (k.2.trans b1), g6.trans ((rx_gF_of z7).trans b2)⟩ ⟨(rx_gF_of z0).trans s.1, (rx_gF_of z0).trans s.2⟩ g5 ?_ ?_
  · rw [rx_gI_of (z1 2 (by decide)), rx_gI_of (z2 38 (by decide))]
    exact e1
  · rw [rx_gI_of (z1 3 (by decide)), rx_gI_of (z2 39 (by decide))]
    exact e2
theorem rx_rm7_c {X Y X' Y' : Nat → Int32} {n : Nat} {x y : Int32} (h1 : rx_same X X') (h2 : rx_same Y Y') : rx_rm7 X Y n x y ↔ rx_rm7 X' Y' n x y := by
  constructor
  · intro r
    exact ⟨r.1, r.2.1, r.2.2.1, fun j hj => by have := r.1; rw [← h1 j (by omega), ← h2 j (by omega)]; exact r.2.2.2 j hj⟩
  · intro r
    exact ⟨r.1, r.2.1, r.2.2.1, fun j hj => by have := r.1; rw [h1 j (by omega), h2 j (by omega)]; exact r.2.2.2 j hj⟩
theorem rx_same_upd {X Y : Nat → Int32} {n : Nat} {x : Int32} (h : rx_same X Y) : rx_same (upd X n x) (upd Y n x) := fun j hj => by
  by_cases e : j = n
  · rw [show upd X n x j = x from if_pos e, show upd Y n x j = x from if_pos e]
  · rw [show upd X n x j = X j from if_neg e, show upd Y n x j = Y j from if_neg e]
    exact h j hj
set_option maxRecDepth 100000 in
set_option maxHeartbeats 4000000 in
theorem rx_l_point {x y : Int32} {h : rx_H} (hI : rx_Iv h) : rx_L2 rt 6 [(0, .ref 16), (1, .int x), (2, .int y)] 97 [(0, .ref 53), (1, .int x), (2, .int y)] true h := by
  obtain ⟨hh, hx, R⟩ := hI
  obtain ⟨n, f, c, hn, hf, hc, ⟨a1, a2⟩, ⟨b1, b2⟩, ⟨c1, c2⟩, d1, e1, e2⟩ := id R
  intro w1 hw1
  refine (rx_xpoint (d := 9) (f := f) hn hf (by omega) hh a1 b1).mono (fun v1 h1 p => ?_)
  rcases p with ⟨hq, rfl, hh1, hP⟩ | ⟨hq, rfl, rfl⟩
  · obtain ⟨p1, p2, p3, p4⟩ := hP
    have z : ∀ z, 37 ≤ z → h1[z]? = h[z]? := fun z hz => p1 z (by omega)
    have g8 := rx_gI_of (z 38 (by decide))
    have g9 := rx_gI_of (z 39 (by decide))
    refine ⟨_, rfl, hh1, fun w2 hw2 => ?_⟩
    refine (rx_mpoint (d := 11) (x := x) (y := y) (rx_CM_of hh1 hx hn hf hc a2 b2 c2 z)).mono (fun v2 h2 q => ?_)
    rcases q with ⟨_, rfl, hh2, hx2, q1, q2, q3, q4, q5, q6⟩ | ⟨hq2, _⟩
    · refine ⟨_, rfl, fun _ => rfl, hh2, hx2, n + 1, f, c, by have := hq.2.1; omega, hf, hc, ⟨(rx_gF_of (q1 1 (by decide))).trans p2, q2⟩, ⟨?_, ?_⟩, ⟨?_, ?_⟩, ?_, ?_, ?_⟩
      · rw [rx_gF_of (q1 0 (by decide)), rx_gF_of (p1 0 (by decide))]
        exact b1
      · rw [q4, rx_gF_of (z 37 (by decide))]
        exact b2
      · rw [rx_gF_of (q1 0 (by decide)), rx_gF_of (p1 0 (by decide))]
        exact c1
      · rw [q3, rx_gF_of (z 37 (by decide))]
        exact c2
      · rw [rx_p_eq (q1 40 (by decide)), rx_p_eq (z 40 (by decide)), rx_gF_of (q1 0 (by decide)), rx_gF_of (p1 0 (by decide))]
        exact d1
      · rw [rx_gI_of (q1 2 (by decide)), p3, q5, g8]
        exact rx_same_upd e1
      · rw [rx_gI_of (q1 3 (by decide)), p4, q6, g9]
        exact rx_same_upd e2
    · rw [g8, g9] at hq2
      exact absurd ⟨hq.1, (rx_rm7_c e1 e2).mp hq.2⟩ hq2
  · refine ⟨_, rfl, hh, fun w2 hw2 => ?_⟩
    refine (rx_mpoint (d := 11) (x := x) (y := y) (rx_CM_of hh hx hn hf hc a2 b2 c2 (fun _ _ => rfl))).mono (fun v2 h2 q => ?_)
    rcases q with ⟨hq2, _⟩ | ⟨_, rfl, hh2, hx2, hg⟩
    · exact absurd ⟨hq2.1, (rx_rm7_c e1 e2).mpr hq2.2⟩ hq
    · exact ⟨_, rfl, fun _ => rfl, hh2, hx2, R.keep ⟨fun _ _ => rfl, rfl⟩ ⟨rfl, rfl⟩ hg⟩
set_option maxRecDepth 100000 in
set_option maxHeartbeats 4000000 in
theorem rx_l_of {q : Int32} {h : rx_H} (hI : rx_Iv h) : rx_L2 rt 10 [(0, .ref 16), (1, .int q)] 98 [(0, .ref 53), (1, .int q)] true h := by
  obtain ⟨hh, hx, R⟩ := hI
  obtain ⟨n, f, c, hn, hf, hc, ⟨a1, a2⟩, ⟨b1, b2⟩, ⟨c1, c2⟩, d1, e1, e2⟩ := id R
  intro w1 hw1
  refine (rx_xof (d := 10) hn (by omega) (rx_CX_of hh hf hc b1 d1 c1) a1).mono (fun v1 h1 p => ?_)
  rcases p with ⟨a, ha, rfl, hc8, rfl, hh1, p1, p3, p6, p7⟩ | ⟨hq, rfl, rfl⟩
  · have z : ∀ z, 37 ≤ z → h1[z]? = h[z]? := fun z hz => p1 z (by omega)
    refine ⟨_, rfl, hh1, fun w2 hw2 => ?_⟩
    refine (rx_mof (d := 11) (q := nI a) (rx_CM_of hh1 hx hn hf hc a2 b2 c2 z)).mono (fun v2 h2 q => ?_)
    rcases q with ⟨a', ha', ea, _, rfl, hh2, hx2, q1, q2, q6, q5, q40⟩ | ⟨hq2, _⟩
    · have ea2 : a = a' := rx_nI_inj (by omega) (by omega) ea
      subst ea2
      have ep : ∀ i, rx_p h2 i = if i = c then a else rx_p h i := fun i => by
        unfold rx_p
        rw [q40, rx_gI_of (z 40 (by decide))]
        by_cases e : i = c
        · rw [if_pos e, show upd (rx_gI h 40) c (nI a) i = nI a from if_pos e, nI_toInt (by omega)]
          omega
        · rw [if_neg e, show upd (rx_gI h 40) c (nI a) i = rx_gI h 40 i from if_neg e]
      refine ⟨_, rfl, fun _ => rfl, hh2, hx2, n, f, c + 1, hn, hf, by omega, ⟨?_, ?_⟩, ⟨?_, ?_⟩, ⟨?_, q5⟩, ?_, ?_, ?_⟩
      · rw [rx_gF_of (q1 1 (by decide)), rx_gF_of (p1 1 (by decide))]
        exact a1
      · rw [q2, rx_gF_of (z 37 (by decide))]
        exact a2
      · rw [rx_gF_of (q1 0 (by decide)), p3]
        exact b1
      · rw [q6, rx_gF_of (z 37 (by decide))]
        exact b2
      · rw [rx_gF_of (q1 0 (by decide))]
        exact p7
      · rw [rx_gF_of (q1 0 (by decide)), p6]
        have e1 : rx_pk (rx_p h2) (c + 1) = rx_pk (rx_p h) c + a * 8 ^ c := by
          show rx_pk (rx_p h2) c + rx_p h2 c * 8 ^ c = _
          rw [ep c, if_pos rfl, rx_pk_c (p := rx_p h2) (q := rx_p h) c (fun i hi => by rw [ep i, if_neg (by omega)])]
        rw [e1]
      · rw [rx_gI_of (q1 2 (by decide)), rx_gI_of (p1 2 (by decide)), rx_gI_of (q1 38 (by decide)), rx_gI_of (p1 38 (by decide))]
        exact e1
      · rw [rx_gI_of (q1 3 (by decide)), rx_gI_of (p1 3 (by decide)), rx_gI_of (q1 39 (by decide)), rx_gI_of (p1 39 (by decide))]
        exact e2
    · exact absurd ⟨a, ha, rfl, hc8⟩ hq2
  · refine ⟨_, rfl, hh, fun w2 hw2 => ?_⟩
    refine (rx_mof (d := 11) (q := q) (rx_CM_of hh hx hn hf hc a2 b2 c2 (fun _ _ => rfl))).mono (fun v2 h2 q => ?_)
    rcases q with ⟨a', ha', ea, hc8, _⟩ | ⟨_, rfl, hh2, hx2, hg⟩
    · exact absurd ⟨a', ha', ea, hc8⟩ hq
    · exact ⟨_, rfl, fun _ => rfl, hh2, hx2, R.keep ⟨fun _ _ => rfl, rfl⟩ ⟨rfl, rfl⟩ hg⟩
theorem rx_HV_2 {h h1 : rx_H} {K c : Nat} (hh : rx_hin rx_I0 h) (hK : K ≤ 6) (hc : c = rx_po K) (hc8 : c ≤ 8) (e1 : rx_same (rx_gI h 2) (rx_gI h 38)) (e2 : rx_same (rx_gI h 3) (rx_gI h 39)) (z : ∀ z, 37 ≤ z → h1[z]? = h[z]?) : rx_HV (rx_gI h 2) (rx_gI h 3) K (rx_p h) ↔ rx_HV (rx_gI h1 38) (rx_gI h1 39) K (rx_p h1) := by
  rw [rx_gI_of (z 38 (by decide)), rx_gI_of (z 39 (by decide)), rx_p_eq (z 40 (by decide))]
  exact rx_HV_c e1 e2 hK (fun i hi => ⟨rfl, (rx_p_of hh (by omega)).2⟩)
theorem rx_nI_6 {K K2 : Nat} (h1 : K ≤ 6) (h2 : K2 ≤ 6) (e : nI K = nI K2) : K = K2 := rx_nI_inj (by omega) (by omega) e
set_option maxRecDepth 100000 in
set_option maxHeartbeats 4000000 in
theorem rx_l_isTrue {k : Int32} {h : rx_H} (ht : rx_tok rx_Em rt) (hI : rx_Iv h) : rx_L2 rt 12 [(0, .ref 16), (1, .int k)] 99 [(0, .ref 53), (1, .int k)] true h := by
  obtain ⟨hh, hx, R⟩ := hI
  obtain ⟨n, f, c, hn, hf, hc, ⟨a1, a2⟩, ⟨b1, b2⟩, ⟨c1, c2⟩, d1, e1, e2⟩ := id R
  intro w1 hw1
  refine (rx_xtrue (d := 6) (k := k) ht (by omega) (rx_CX_of hh hf hc b1 d1 c1)).mono (fun v1 h1 p => ?_)
  obtain ⟨hh1, hK1, hD1, hp⟩ := p
  have z : ∀ z, 37 ≤ z → h1[z]? = h[z]? := fun z hz => hK1.1 z (by omega)
  have ep := rx_p_eq (z 40 (by decide))
  have M := fun w2 (hw2 : 400 ≤ w2) => rx_mtrue (rt := rt) (d := 7) (w := w2) (k := k) (by omega) (rx_CM_of hh1 hx hn hf hc a2 b2 c2 z)
  have fin : ∀ h2 : rx_H, rx_Fg5 h1 h2 → rx_gF h2 37 5 = 0 → rx_Rl h2 := fun h2 g g5 => R.clear hK1 hD1 (fun z hz => g.1 z (by omega)) g.2.1 g.2.2 g5
  rcases hp with ⟨K, hK6, ek, hok, hv⟩ | ⟨hno, rfl⟩
  · have hvc := rx_HV_2 hh hK6 hok.1 hc e1 e2 z
    have key : ∀ x : Int32, v1 = some (.int x) → (x = 1 ∧ rx_HV (rx_gI h 2) (rx_gI h 3) K (rx_p h)) ∨ (x = 0 ∧ ¬ rx_HV (rx_gI h 2) (rx_gI h 3) K (rx_p h)) → ∃ x : Int32, v1 = some (.int x) ∧ rx_hin rx_I0 h1 ∧ ∀ w2 : Nat, 400 ≤ w2 → rx_T rx_cds rx_ms rx_lk0 rt 11 w2 99 0 [(0, .ref 53), (1, .int k)] [] h1 (fun v2 h2 => ∃ y : Int32, v2 = some (.int y) ∧ (true = true → y = x) ∧ rx_Iv h2) := by
      intro x ev hx2
      refine ⟨x, ev, hh1, fun w2 hw2 => (M w2 hw2).mono (fun v2 h2 q => ?_)⟩
      obtain ⟨q1, q2, q3, q4, q5⟩ := q
      rw [ep] at q5
      rcases q5 with ⟨K2, hK2, ek2, _, hv2⟩ | ⟨hno, _⟩
      · have eK := rx_nI_6 hK6 hK2 (ek.symm.trans ek2)
        subst eK
        rw [← ep, ← hvc] at hv2
        rcases hv2 with ⟨rfl, y2⟩ | ⟨rfl, y2⟩ <;> rcases hx2 with ⟨rfl, x2⟩ | ⟨rfl, x2⟩
        · exact ⟨_, rfl, fun _ => rfl, q1, q2, fin h2 q3 q4⟩
        · exact absurd y2 x2
        · exact absurd x2 y2
        · exact ⟨_, rfl, fun _ => rfl, q1, q2, fin h2 q3 q4⟩
      · exact absurd hok (hno K hK6 ek)
    rcases hv with ⟨rfl, y2⟩ | ⟨rfl, y2⟩
    · exact key 1 rfl (Or.inl ⟨rfl, y2⟩)
    · exact key 0 rfl (Or.inr ⟨rfl, y2⟩)
  · refine ⟨_, rfl, hh1, fun w2 hw2 => (M w2 hw2).mono (fun v2 h2 q => ?_)⟩
    obtain ⟨q1, q2, q3, q4, q5⟩ := q
    rw [ep] at q5
    rcases q5 with ⟨K2, hK2, ek2, hok, _⟩ | ⟨_, rfl⟩
    · exact absurd hok (hno K2 hK2 ek2)
    · exact ⟨_, rfl, fun _ => rfl, q1, q2, fin h2 q3 q4⟩
set_option maxRecDepth 100000 in
set_option maxHeartbeats 4000000 in
theorem rx_l_fact {k : Int32} {h : rx_H} (ht : rx_tok rx_Em rt) (hI : rx_Iv h) : rx_L2 rt 27 [(0, .ref 16), (1, .int k)] 109 [(0, .ref 53), (1, .int k)] true h := by
  obtain ⟨hh, hx, R⟩ := hI
  obtain ⟨n, f, c, hn, hf, hc, ⟨a1, a2⟩, ⟨b1, b2⟩, ⟨c1, c2⟩, d1, e1, e2⟩ := id R
  intro w1 hw1
  refine (rx_xfact (d := 6) (k := k) ht (by omega) (rx_CX_of hh hf hc b1 d1 c1)).mono (fun v1 h1 p => ?_)
  obtain ⟨hh1, hz1, hD1, hp⟩ := p
  have z : ∀ z, 37 ≤ z → h1[z]? = h[z]? := fun z hz => hz1 z (by omega)
  have ep := rx_p_eq (z 40 (by decide))
  have M := fun w2 (hw2 : 400 ≤ w2) => rx_mfact (rt := rt) (d := 7) (w := w2) (k := k) (by omega) (rx_CM_of hh1 hx hn hf hc a2 b2 c2 z)
  have fin : ∀ (h2 : rx_H) (f' : Nat), f' ≤ 30 → rx_gF h1 0 3 = nI f' → (∀ z, z < 37 ∨ (38 ≤ z ∧ z < 41) → h2[z]? = h1[z]?) → rx_gF h2 37 1 = rx_gF h1 37 1 → rx_gF h2 37 5 = 0 → rx_gF h2 37 6 = nI f' → rx_Rl h2 := by
    intro h2 f' hf' g3 g g1 g5 g6
    refine rx_Rl.mk0 hn hf' ⟨?_, ?_⟩ ⟨(rx_gF_of (g 0 (by omega))).trans g3, g6⟩ ⟨(rx_gF_of (g 0 (by omega))).trans hD1.1, (rx_gF_of (g 0 (by omega))).trans hD1.2⟩ g5 ?_ ?_
    · rw [rx_gF_of (g 1 (by omega)), rx_gF_of (hz1 1 (by omega))]
      exact a1
    · rw [g1, rx_gF_of (z 37 (by decide))]
      exact a2
    · rw [rx_gI_of (g 2 (by omega)), rx_gI_of (hz1 2 (by omega)), rx_gI_of (g 38 (by omega)), rx_gI_of (z 38 (by decide))]
      exact e1
    · rw [rx_gI_of (g 3 (by omega)), rx_gI_of (hz1 3 (by omega)), rx_gI_of (g 39 (by omega)), rx_gI_of (z 39 (by decide))]
      exact e2
  rcases hp with ⟨K, hK6, ek, hok, hf30, hv⟩ | ⟨hno, rfl, g3⟩
  · have hvc := rx_HV_2 hh hK6 hok.1 hc e1 e2 z
    rcases hv with ⟨rfl, y2, g3⟩ | ⟨rfl, y2, g3⟩
    · refine ⟨_, rfl, hh1, fun w2 hw2 => (M w2 hw2).mono (fun v2 h2 q => ?_)⟩
      obtain ⟨q1, q2, q3, q4, q5, q6⟩ := q
      rcases q6 with ⟨K2, hK2, ek2, _, _, hv2⟩ | ⟨hno, _⟩
      · have eK := rx_nI_6 hK6 hK2 (ek.symm.trans ek2)
        subst eK
        rw [← hvc] at hv2
        rcases hv2 with ⟨rfl, _, g6⟩ | ⟨_, n2, _⟩
        · exact ⟨_, rfl, fun _ => rfl, q1, q2, fin h2 (f + 1) (by omega) g3 q3 q4 q5 g6⟩
        · exact absurd y2 n2
      · rw [ep] at hno
        rcases hno with hno | hno
        · exact absurd hok (hno K hK6 ek)
        · exact absurd hf30 hno
    · refine ⟨_, rfl, hh1, fun w2 hw2 => (M w2 hw2).mono (fun v2 h2 q => ?_)⟩
      obtain ⟨q1, q2, q3, q4, q5, q6⟩ := q
      rcases q6 with ⟨K2, hK2, ek2, _, _, hv2⟩ | ⟨hno, _⟩
      · have eK := rx_nI_6 hK6 hK2 (ek.symm.trans ek2)
        subst eK
        rw [← hvc] at hv2
        rcases hv2 with ⟨_, n2, _⟩ | ⟨rfl, _, g6⟩
        · exact absurd n2 y2
        · exact ⟨_, rfl, fun _ => rfl, q1, q2, fin h2 f hf g3 q3 q4 q5 g6⟩
      · rw [ep] at hno
        rcases hno with hno | hno
        · exact absurd hok (hno K hK6 ek)
        · exact absurd hf30 hno
  · refine ⟨_, rfl, hh1, fun w2 hw2 => (M w2 hw2).mono (fun v2 h2 q => ?_)⟩
    obtain ⟨q1, q2, q3, q4, q5, q6⟩ := q
    rw [ep] at q6
    rcases q6 with ⟨K2, hK2, ek2, hok, hf30, _⟩ | ⟨_, rfl, g6⟩
    · rcases hno with hno | hno
      · exact absurd hok (hno K2 hK2 ek2)
      · exact absurd hf30 hno
    · exact ⟨_, rfl, fun _ => rfl, q1, q2, fin h2 f hf g3 q3 q4 q5 g6⟩
set_option maxRecDepth 100000 in
set_option maxHeartbeats 4000000 in
theorem rx_l_turn {k o : Int32} {h : rx_H} (ho : o = 0 ∨ o = 1) (hI : rx_Iv h) : rx_L2 rt 28 [(0, .ref 16), (1, .int k), (2, .int o)] 110 [(0, .ref 53), (1, .int k), (2, .int o)] true h := by
  obtain ⟨hh, hx, R⟩ := hI
  obtain ⟨n, f, c, hn, hf, hc, ⟨a1, a2⟩, ⟨b1, b2⟩, ⟨c1, c2⟩, d1, e1, e2⟩ := id R
  have ho2 : 0 ≤ (vp_nar .boolean o).toInt ∧ (vp_nar .boolean o).toInt ≤ 1 := by
    rcases ho with rfl | rfl <;> decide
  intro w1 hw1
  refine (rx_xturn2 (d := 11) (k := k) (o := o) (rx_CX_of hh hf hc b1 d1 c1)).mono (fun v1 h1 p => ?_)
  rcases p with ⟨rfl, hq, hh1, hK1, hs1⟩ | ⟨rfl, hq, rfl⟩
  · have z : ∀ z, 37 ≤ z → h1[z]? = h[z]? := fun z hz => hK1.1 z (by omega)
    refine ⟨_, rfl, hh1, fun w2 hw2 => (rx_mturn2 (d := 11) (k := k) ho2 (rx_CM_of hh1 hx hn hf hc a2 b2 c2 z)).mono (fun v2 h2 q => ?_)⟩
    obtain ⟨q1, q2, q3, q4⟩ := q
    rcases q1 with ⟨rfl, _⟩ | ⟨_, hq2⟩
    · exact ⟨_, rfl, fun _ => rfl, q2, q3, R.keep hK1 hs1 q4⟩
    · exact absurd hq hq2
  · refine ⟨_, rfl, hh, fun w2 hw2 => (rx_mturn2 (d := 11) (k := k) ho2 (rx_CM_of hh hx hn hf hc a2 b2 c2 (fun _ _ => rfl))).mono (fun v2 h2 q => ?_)⟩
    obtain ⟨q1, q2, q3, q4⟩ := q
    rcases q1 with ⟨_, hq2⟩ | ⟨rfl, _⟩
    · exact absurd hq2 hq
    · exact ⟨_, rfl, fun _ => rfl, q2, q3, R.keep ⟨fun _ _ => rfl, rfl⟩ ⟨rfl, rfl⟩ q4⟩
set_option maxRecDepth 100000 in
set_option maxHeartbeats 4000000 in
theorem rx_l_need {k : Int32} {h : rx_H} (ht : rx_tok rx_Em rt) (hI : rx_Iv h) : rx_L2 rt 82 [(0, .ref 16), (1, .int k)] 155 [(0, .ref 53), (1, .int k)] false h := by
  obtain ⟨hh, hx, R⟩ := hI
  obtain ⟨n, f, c, hn, hf, hc, ⟨a1, a2⟩, ⟨b1, b2⟩, ⟨c1, c2⟩, d1, e1, e2⟩ := id R
  intro w1 hw1
  refine (rx_xneed (d := 11) (k := k) ht (by decide) (by omega) hh).mono (fun v1 h1 p => ?_)
  obtain ⟨⟨x1, rfl⟩, hh1, hK1, hs1⟩ := p
  have z : ∀ z, 37 ≤ z → h1[z]? = h[z]? := fun z hz => hK1.1 z (by omega)
  have hx1 := rx_Xm_of hx z
  have en1 : rx_gF h1 37 1 = nI n := (rx_gF_of (z 37 (by decide))).trans a2
  refine ⟨_, rfl, hh1, fun w2 hw2 => (rx_mneed (d := 11) (k := k) ht (by decide) (by omega) hh1 hx1).mono (fun v2 h2 q => ?_)⟩
  obtain ⟨⟨y, rfl⟩, q1, q2, q3⟩ := q
  exact ⟨_, rfl, (fun e => by cases e), q1, q2, R.keep hK1 hs1 q3⟩
set_option maxRecDepth 100000 in
set_option maxHeartbeats 4000000 in
theorem rx_l_told {k : Int32} {h : rx_H} (ht : rx_tok rx_Em rt) (hI : rx_Iv h) : rx_L2 rt 89 [(0, .ref 16), (1, .int k)] 160 [(0, .ref 53), (1, .int k)] false h := by
  obtain ⟨hh, hx, R⟩ := hI
  obtain ⟨n, f, c, hn, hf, hc, ⟨a1, a2⟩, ⟨b1, b2⟩, ⟨c1, c2⟩, d1, e1, e2⟩ := id R
  intro w1 hw1
  refine (rx_xtold (d := 11) (k := k) ht (by decide) (by omega) hh).mono (fun v1 h1 p => ?_)
  obtain ⟨⟨x1, rfl⟩, hh1, hK1, hs1⟩ := p
  have z : ∀ z, 37 ≤ z → h1[z]? = h[z]? := fun z hz => hK1.1 z (by omega)
  have hx1 := rx_Xm_of hx z
  have en1 : rx_gF h1 37 1 = nI n := (rx_gF_of (z 37 (by decide))).trans a2
  refine ⟨_, rfl, hh1, fun w2 hw2 => (rx_mtold (d := 11) (k := k) ht (by decide) (by omega) hh1 hx1).mono (fun v2 h2 q => ?_)⟩
  obtain ⟨⟨y, rfl⟩, q1, q2, q3⟩ := q
  exact ⟨_, rfl, (fun e => by cases e), q1, q2, R.keep hK1 hs1 q3⟩
set_option maxRecDepth 100000 in
set_option maxHeartbeats 4000000 in
theorem rx_l_line {x y : Int32} {h : rx_H} (ht : rx_tok rx_Em rt) (hI : rx_Iv h) : rx_L2 rt 83 [(0, .ref 16), (1, .int x), (2, .int y)] 156 [(0, .ref 53), (1, .int x), (2, .int y)] false h := by
  obtain ⟨hh, hx, R⟩ := hI
  obtain ⟨n, f, c, hn, hf, hc, ⟨a1, a2⟩, ⟨b1, b2⟩, ⟨c1, c2⟩, d1, e1, e2⟩ := id R
  intro w1 hw1
  refine (rx_xline (d := 4) ht hn (by omega) hh a1).mono (fun v1 h1 p => ?_)
  obtain ⟨⟨x1, rfl⟩, hh1, hK1, hs1⟩ := p
  have z : ∀ z, 37 ≤ z → h1[z]? = h[z]? := fun z hz => hK1.1 z (by omega)
  have hx1 := rx_Xm_of hx z
  have en1 : rx_gF h1 37 1 = nI n := (rx_gF_of (z 37 (by decide))).trans a2
  refine ⟨_, rfl, hh1, fun w2 hw2 => (rx_mline (d := 2) ht hn (by omega) hh1 hx1 en1).mono (fun v2 h2 q => ?_)⟩
  obtain ⟨⟨y, rfl⟩, q1, q2, q3⟩ := q
  exact ⟨_, rfl, (fun e => by cases e), q1, q2, R.keep hK1 hs1 q3⟩
set_option maxRecDepth 100000 in
set_option maxHeartbeats 4000000 in
theorem rx_l_length {x y : Int32} {h : rx_H} (ht : rx_tok rx_Em rt) (hI : rx_Iv h) : rx_L2 rt 87 [(0, .ref 16), (1, .int x), (2, .int y)] 159 [(0, .ref 53), (1, .int x), (2, .int y)] false h := by
  obtain ⟨hh, hx, R⟩ := hI
  obtain ⟨n, f, c, hn, hf, hc, ⟨a1, a2⟩, ⟨b1, b2⟩, ⟨c1, c2⟩, d1, e1, e2⟩ := id R
  intro w1 hw1
  refine (rx_xlen (d := 4) ht hn (by omega) hh a1).mono (fun v1 h1 p => ?_)
  obtain ⟨⟨x1, rfl⟩, hh1, hK1, hs1⟩ := p
  have z : ∀ z, 37 ≤ z → h1[z]? = h[z]? := fun z hz => hK1.1 z (by omega)
  have hx1 := rx_Xm_of hx z
  have en1 : rx_gF h1 37 1 = nI n := (rx_gF_of (z 37 (by decide))).trans a2
  refine ⟨_, rfl, hh1, fun w2 hw2 => (rx_mlen (d := 2) ht hn (by omega) hh1 hx1 en1).mono (fun v2 h2 q => ?_)⟩
  obtain ⟨⟨y, rfl⟩, q1, q2, q3⟩ := q
  exact ⟨_, rfl, (fun e => by cases e), q1, q2, R.keep hK1 hs1 q3⟩
set_option maxRecDepth 100000 in
set_option maxHeartbeats 4000000 in
theorem rx_l_circle {x y z9 : Int32} {h : rx_H} (ht : rx_tok rx_Em rt) (hI : rx_Iv h) : rx_L2 rt 85 [(0, .ref 16), (1, .int x), (2, .int y), (3, .int z9)] 158 [(0, .ref 53), (1, .int x), (2, .int y), (3, .int z9)] false h := by
  obtain ⟨hh, hx, R⟩ := hI
  obtain ⟨n, f, c, hn, hf, hc, ⟨a1, a2⟩, ⟨b1, b2⟩, ⟨c1, c2⟩, d1, e1, e2⟩ := id R
  intro w1 hw1
  refine (rx_xcircle (d := 4) ht hn (by omega) hh a1).mono (fun v1 h1 p => ?_)
  obtain ⟨⟨x1, rfl⟩, hh1, hK1, hs1⟩ := p
  have z : ∀ z, 37 ≤ z → h1[z]? = h[z]? := fun z hz => hK1.1 z (by omega)
  have hx1 := rx_Xm_of hx z
  have en1 : rx_gF h1 37 1 = nI n := (rx_gF_of (z 37 (by decide))).trans a2
  refine ⟨_, rfl, hh1, fun w2 hw2 => (rx_mcircle (d := 2) ht hn (by omega) hh1 hx1 en1).mono (fun v2 h2 q => ?_)⟩
  obtain ⟨⟨y, rfl⟩, q1, q2, q3⟩ := q
  exact ⟨_, rfl, (fun e => by cases e), q1, q2, R.keep hK1 hs1 q3⟩
set_option maxRecDepth 100000 in
set_option maxHeartbeats 4000000 in
theorem rx_l_follows {k : Int32} {h : rx_H} (ht : rx_tok rx_Em rt) (hI : rx_Iv h) : rx_L2 rt 29 [(0, .ref 16), (1, .int k)] 111 [(0, .ref 53), (1, .int k)] false h := by
  obtain ⟨hh, hx, R⟩ := hI
  obtain ⟨n, f, c, hn, hf, hc, ⟨a1, a2⟩, ⟨b1, b2⟩, ⟨c1, c2⟩, d1, e1, e2⟩ := id R
  intro w1 hw1
  refine (rx_xfollows (d := 4) (k := k) ht (by omega) (rx_CX_of hh hf hc b1 d1 c1)).mono (fun v1 h1 p => ?_)
  obtain ⟨⟨x1, rfl⟩, hh1, hK1, hs1⟩ := p
  have z : ∀ z, 37 ≤ z → h1[z]? = h[z]? := fun z hz => hK1.1 z (by omega)
  have hx1 := rx_Xm_of hx z
  have en1 : rx_gF h1 37 1 = nI n := (rx_gF_of (z 37 (by decide))).trans a2
  refine ⟨_, rfl, hh1, fun w2 hw2 => (rx_mfollows (d := 11) (k := k) ht (by decide) (by omega) hh1 hx1).mono (fun v2 h2 q => ?_)⟩
  obtain ⟨⟨y, rfl⟩, q1, q2, q3, q4, q5, q6⟩ := q
  exact ⟨_, rfl, (fun e => by cases e), q1, q2, R.clear hK1 hs1 (fun z hz => q3 z (by omega)) q4 q5 q6⟩
set_option maxRecDepth 100000 in
set_option maxHeartbeats 4000000 in
theorem rx_l_needs {k : Int32} {h : rx_H} (ht : rx_tok rx_Em rt) (hI : rx_Iv h) : rx_L2 rt 81 [(0, .ref 16), (1, .int k)] 154 [(0, .ref 53), (1, .int k)] false h := by
  obtain ⟨hh, hx, R⟩ := hI
  obtain ⟨n, f, c, hn, hf, hc, ⟨a1, a2⟩, ⟨b1, b2⟩, ⟨c1, c2⟩, d1, e1, e2⟩ := id R
  intro w1 hw1
  refine (rx_xneeds (d := 4) (k := k) ht (by omega) (rx_CX_of hh hf hc b1 d1 c1)).mono (fun v1 h1 p => ?_)
  obtain ⟨⟨x1, rfl⟩, hh1, hK1, hs1⟩ := p
  have z : ∀ z, 37 ≤ z → h1[z]? = h[z]? := fun z hz => hK1.1 z (by omega)
  have hx1 := rx_Xm_of hx z
  have en1 : rx_gF h1 37 1 = nI n := (rx_gF_of (z 37 (by decide))).trans a2
  refine ⟨_, rfl, hh1, fun w2 hw2 => (rx_mneeds (d := 11) (k := k) ht (by decide) (by omega) hh1 hx1).mono (fun v2 h2 q => ?_)⟩
  obtain ⟨⟨y, rfl⟩, q1, q2, q3, q4, q5, q6⟩ := q
  exact ⟨_, rfl, (fun e => by cases e), q1, q2, R.clear hK1 hs1 (fun z hz => q3 z (by omega)) q4 q5 q6⟩
end RXRL
