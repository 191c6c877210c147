section RXPM
variable {rt : rx_R} {d w : Nat} {P : Option Value → rx_H → Prop}
/-- the reference's own state: POINTS n, HYPOTHESES f, c places in THE DRAFT -/
def rx_CM (h : rx_H) (n f c : Nat) : Prop := rx_hin rx_I0 h ∧ rx_Xm h ∧ n ≤ 7 ∧ f ≤ 30 ∧ c ≤ 8 ∧ rx_gF h 37 1 = nI n ∧ rx_gF h 37 6 = nI f ∧ rx_gF h 37 5 = nI c
/-- a field of the reference that is not compared is written -/
theorem rx_Fg_f {h h' : rx_H} {i : Nat} (hi : ¬ (i = 1 ∨ i = 5 ∨ i = 6)) (f : ∀ j, ¬ j = i → rx_gF h' 37 j = rx_gF h 37 j) (z : ∀ z, ¬ z = 37 → h'[z]? = h[z]?) : rx_Fg h h' := ⟨fun q hq => z q (by omega), fun j hj => f j (by omega)⟩
set_option maxRecDepth 100000 in
set_option maxHeartbeats 4000000 in
theorem rx_mp_l {n : Nat} {x y : Int32} {h : rx_H} (hn : n < 7) (hh : rx_hin rx_I0 h) (en : rx_gF h 37 1 = nI n) (Y : (∀ i, i < n → ¬ (rx_gI h 38 i = x ∧ rx_gI h 39 i = y)) → rx_T rx_cds rx_ms rx_lk0 rt d w 97 89 [(0, .ref 53), (1, .int x), (2, .int y)] [] h P) (No : ¬ (∀ i, i < n → ¬ (rx_gI h 38 i = x ∧ rx_gI h 39 i = y)) → P (some (.int (-1))) h) : ∀ (q j : Nat), j + q = n → (∀ i, i < j → ¬ (rx_gI h 38 i = x ∧ rx_gI h 39 i = y)) →
    rx_T rx_cds rx_ms rx_lk0 rt d w 97 53 [(3, .int (nI j)), (0, .ref 53), (1, .int x), (2, .int y)] [] h P := by
  intro q
  induction q with
  | zero =>
    intro j hj ha
    have ej : j = n := by omega
    subst ej
    refine rx_T.to 2 55 [(3, .int (nI j)), (0, .ref 53), (1, .int x), (2, .int y)] [.ref 53, .int (nI j)] h rfl ?_
    refine rx_T.gfF (M := rxm_97) (k := 37) rfl rfl rfl hh rfl rfl ?_
    rw [en]
    refine rx_T.op (M := rxm_97) (ins := .if_icmp .ge 31) rfl rfl rfl rfl (rx_b2_t 89 (decide_eq_true (nI_le (Nat.le_refl j) (by omega))) (by decide)) ?_
    refine rx_T.lv [(0, .ref 53), (1, .int x), (2, .int y)] ((((rx_lvl.nil _).cons rfl rfl).cons rfl rfl).cons rfl rfl) ?_
    exact Y ha
  | succ q ih =>
    intro j hj ha
    have hjn : j < n := by omega
    have nxt : ¬ (rx_gI h 38 j = x ∧ rx_gI h 39 j = y) → ∀ i, i < j + 1 → ¬ (rx_gI h 38 i = x ∧ rx_gI h 39 i = y) := fun z i hi => by
      by_cases e : i = j
      · rw [e]
        exact z
      · exact ha i (by omega)
    refine rx_T.to 2 55 [(3, .int (nI j)), (0, .ref 53), (1, .int x), (2, .int y)] [.ref 53, .int (nI j)] h rfl ?_
    refine rx_T.gfF (M := rxm_97) (k := 37) rfl rfl rfl hh rfl rfl ?_
    rw [en]
    refine rx_T.op (M := rxm_97) (ins := .if_icmp .ge 31) rfl rfl rfl rfl (rx_b2_f (decide_eq_false (nI_ge hjn (by omega))) (by decide)) ?_
    refine rx_T.to 1 62 [(3, .int (nI j)), (0, .ref 53), (1, .int x), (2, .int y)] [.ref 53] h rfl ?_
    refine rx_T.gfr (M := rxm_97) (k := 37) rfl rfl rfl hh rfl rfl ?_
    refine rx_T.to 1 66 [(3, .int (nI j)), (0, .ref 53), (1, .int x), (2, .int y)] [.int (nI j), .ref 54] h rfl ?_
    refine rx_T.iaR (M := rxm_97) (k := 38) rfl rfl hh rfl (show j < 12 by omega) (by decide) ?_
    refine rx_T.to 1 68 [(3, .int (nI j)), (0, .ref 53), (1, .int x), (2, .int y)] [.int x, .int (rx_gI h 38 (j))] h rfl ?_
    refine rx_T.br2 (M := rxm_97) 83 rfl rfl (by decide) (fun q => ?_) (fun q1 => ?_)
    · have z : ¬ rx_gI h 38 j = x := by simpa [rx_c2] using q
      refine rx_T.to 2 53 [(3, .int ((nI j) + Int32.ofInt 1)), (0, .ref 53), (1, .int x), (2, .int y)] [] h rfl ?_
      rw [show nI j + Int32.ofInt 1 = nI (j + 1) from nI_1 j]
      exact ih (j + 1) (by omega) (nxt (fun y => z y.1))
    · have z : rx_gI h 38 j = x := by simpa [rx_c2] using q1
      refine rx_T.to 1 72 [(3, .int (nI j)), (0, .ref 53), (1, .int x), (2, .int y)] [.ref 53] h rfl ?_
      refine rx_T.gfr (M := rxm_97) (k := 37) rfl rfl rfl hh rfl rfl ?_
      refine rx_T.to 1 76 [(3, .int (nI j)), (0, .ref 53), (1, .int x), (2, .int y)] [.int (nI j), .ref 55] h rfl ?_
      refine rx_T.iaR (M := rxm_97) (k := 39) rfl rfl hh rfl (show j < 12 by omega) (by decide) ?_
      refine rx_T.to 1 78 [(3, .int (nI j)), (0, .ref 53), (1, .int x), (2, .int y)] [.int y, .int (rx_gI h 39 (j))] h rfl ?_
      refine rx_T.br2 (M := rxm_97) 83 rfl rfl (by decide) (fun q => ?_) (fun q2 => ?_)
      · have z2 : ¬ rx_gI h 39 j = y := by simpa [rx_c2] using q
        refine rx_T.to 2 53 [(3, .int ((nI j) + Int32.ofInt 1)), (0, .ref 53), (1, .int x), (2, .int y)] [] h rfl ?_
        rw [show nI j + Int32.ofInt 1 = nI (j + 1) from nI_1 j]
        exact ih (j + 1) (by omega) (nxt (fun y => z2 y.2))
      · have z2 : rx_gI h 39 j = y := by simpa [rx_c2] using q2
        refine rx_T.to 1 82 [(3, .int (nI j)), (0, .ref 53), (1, .int x), (2, .int y)] [.int (-1)] h rfl ?_
        exact rx_T.ret (M := rxm_97) (v := some (.int (-1))) rfl rfl rfl (No (fun r => r j hjn ⟨z, z2⟩))
theorem rx_sub1 (n : Nat) : nI (n + 1) - 1 = nI n := by
  rw [← nI_1 n]
  exact Int32.add_sub_cancel _ _
set_option maxRecDepth 100000 in
set_option maxHeartbeats 4000000 in
theorem rx_mpoint {n f c : Nat} {x y : Int32} {h : rx_H} (H : rx_CM h n f c) : rx_T rx_cds rx_ms rx_lk0 rt d w 97 0 [(0, .ref 53), (1, .int x), (2, .int y)] [] h (fun v h' => ((f = 0 ∧ rx_rm7 (rx_gI h 38) (rx_gI h 39) n x y) ∧ v = some (.int (nI n)) ∧ rx_hin rx_I0 h' ∧ rx_Xm h' ∧ ((∀ z, ¬ (z = 37 ∨ z = 38 ∨ z = 39) → h'[z]? = h[z]?) ∧ rx_gF h' 37 1 = nI (n + 1) ∧ rx_gF h' 37 5 = rx_gF h 37 5 ∧ rx_gF h' 37 6 = rx_gF h 37 6 ∧ rx_gI h' 38 = upd (rx_gI h 38) n x ∧ rx_gI h' 39 = upd (rx_gI h 39) n y)) ∨ (¬ (f = 0 ∧ rx_rm7 (rx_gI h 38) (rx_gI h 39) n x y) ∧ v = some (.int (-1)) ∧ rx_hin rx_I0 h' ∧ rx_Xm h' ∧ rx_Fg h h')) := by
  have hh := H.1
  have hn := H.2.2.1
  have hf := H.2.2.2.1
  have k1 : ((Int16.ofInt (-1000)).toInt32).toInt = -1000 := by decide +kernel
  have k2 : ((Int16.ofInt 1000).toInt32).toInt = 1000 := by decide +kernel
  refine rx_T.to 2 2 [(0, .ref 53), (1, .int x), (2, .int y)] [.int 0, .ref 53] h rfl ?_
  refine rx_T.pfF (M := rxm_97) (k := 37) rfl rfl rfl hh rfl rfl rfl (by decide) (by decide) (fun h1 hh1 v1 f1 z1 => ?_)
  have hx1 := rx_Xm_z (h := h) (fun z hz => z1 z (by omega)) H.2.1
  have en1 : rx_gF h1 37 1 = nI n := (f1 1 (by decide)).trans H.2.2.2.2.2.1
  have ef1 : rx_gF h1 37 6 = nI f := (f1 6 (by decide)).trans H.2.2.2.2.2.2.1
  have g8 : rx_gI h1 38 = rx_gI h 38 := rx_gI_of (z1 38 (by decide))
  have g9 : rx_gI h1 39 = rx_gI h 39 := rx_gI_of (z1 39 (by decide))
  have no : ¬ (f = 0 ∧ rx_rm7 (rx_gI h 38) (rx_gI h 39) n x y) → rx_T rx_cds rx_ms rx_lk0 rt d w 97 49 [(0, .ref 53), (1, .int x), (2, .int y)] [] h1 (fun v h' => ((f = 0 ∧ rx_rm7 (rx_gI h 38) (rx_gI h 39) n x y) ∧ v = some (.int (nI n)) ∧ rx_hin rx_I0 h' ∧ rx_Xm h' ∧ ((∀ z, ¬ (z = 37 ∨ z = 38 ∨ z = 39) → h'[z]? = h[z]?) ∧ rx_gF h' 37 1 = nI (n + 1) ∧ rx_gF h' 37 5 = rx_gF h 37 5 ∧ rx_gF h' 37 6 = rx_gF h 37 6 ∧ rx_gI h' 38 = upd (rx_gI h 38) n x ∧ rx_gI h' 39 = upd (rx_gI h 39) n y)) ∨ (¬ (f = 0 ∧ rx_rm7 (rx_gI h 38) (rx_gI h 39) n x y) ∧ v = some (.int (-1)) ∧ rx_hin rx_I0 h' ∧ rx_Xm h' ∧ rx_Fg h h')) := by
    intro hq
    refine rx_T.to 1 50 [(0, .ref 53), (1, .int x), (2, .int y)] [.int (-1)] h1 rfl ?_
    exact rx_T.ret (M := rxm_97) (v := some (.int (-1))) rfl rfl rfl (Or.inr ⟨hq, rfl, hh1, hx1, rx_Fg_f (i := 0) (by decide) f1 z1⟩)
  refine rx_T.to 1 6 [(0, .ref 53), (1, .int x), (2, .int y)] [.ref 53] h1 rfl ?_
  refine rx_T.gfF (M := rxm_97) (k := 37) rfl rfl rfl hh1 rfl rfl ?_
  rw [en1]
  refine rx_T.to 1 11 [(0, .ref 53), (1, .int x), (2, .int y)] [.int (Int8.ofInt 7).toInt32, .int (nI n)] h1 rfl ?_
  refine rx_T.br2 (M := rxm_97) 49 rfl rfl (by decide) (fun q => no (fun r => ?_)) (fun q1 => ?_)
  · have z : nI n = (Int8.ofInt 7).toInt32 := of_decide_eq_true q
    have z2 := congrArg Int32.toInt z
    rw [nI_toInt (by omega), show ((Int8.ofInt 7).toInt32).toInt = 7 by decide +kernel] at z2
    have := r.2.1
    omega
  have n7 : n < 7 := by
    have z : ¬ nI n = (Int8.ofInt 7).toInt32 := of_decide_eq_false q1
    refine Nat.lt_of_le_of_ne hn (fun e => z ?_)
    rw [e]
    decide +kernel
  refine rx_T.to 2 18 [(0, .ref 53), (1, .int x), (2, .int y)] [.int (Int16.ofInt (-1000)).toInt32, .int x] h1 rfl ?_
  refine rx_T.br2 (M := rxm_97) 49 rfl rfl (by decide) (fun q => no (fun r => ?_)) (fun q2 => ?_)
  · have z := Int32.lt_iff_toInt_lt.mp (of_decide_eq_true q)
    rw [k1] at z
    have := r.2.2.1
    omega
  have x1 : ¬ x.toInt < -1000 := fun z => of_decide_eq_false q2 (Int32.lt_iff_toInt_lt.mpr (by rw [k1]; exact z))
  refine rx_T.to 2 25 [(0, .ref 53), (1, .int x), (2, .int y)] [.int (Int16.ofInt 1000).toInt32, .int x] h1 rfl ?_
  refine rx_T.br2 (M := rxm_97) 49 rfl rfl (by decide) (fun q => no (fun r => ?_)) (fun q3 => ?_)
  · have z := Int32.lt_iff_toInt_lt.mp (of_decide_eq_true q)
    rw [k2] at z
    have := r.2.2.1
    omega
  have x2 : ¬ 1000 < x.toInt := fun z => of_decide_eq_false q3 (Int32.lt_iff_toInt_lt.mpr (by rw [k2]; exact z))
  refine rx_T.to 2 32 [(0, .ref 53), (1, .int x), (2, .int y)] [.int (Int16.ofInt (-1000)).toInt32, .int y] h1 rfl ?_
  refine rx_T.br2 (M := rxm_97) 49 rfl rfl (by decide) (fun q => no (fun r => ?_)) (fun q4 => ?_)
  · have z := Int32.lt_iff_toInt_lt.mp (of_decide_eq_true q)
    rw [k1] at z
    have := r.2.2.2.1
    omega
  have y1 : ¬ y.toInt < -1000 := fun z => of_decide_eq_false q4 (Int32.lt_iff_toInt_lt.mpr (by rw [k1]; exact z))
  refine rx_T.to 2 39 [(0, .ref 53), (1, .int x), (2, .int y)] [.int (Int16.ofInt 1000).toInt32, .int y] h1 rfl ?_
  refine rx_T.br2 (M := rxm_97) 49 rfl rfl (by decide) (fun q => no (fun r => ?_)) (fun q5 => ?_)
  · have z := Int32.lt_iff_toInt_lt.mp (of_decide_eq_true q)
    rw [k2] at z
    have := r.2.2.2.1
    omega
  have y2 : ¬ 1000 < y.toInt := fun z => of_decide_eq_false q5 (Int32.lt_iff_toInt_lt.mpr (by rw [k2]; exact z))
  refine rx_T.to 1 43 [(0, .ref 53), (1, .int x), (2, .int y)] [.ref 53] h1 rfl ?_
  refine rx_T.gfF (M := rxm_97) (k := 37) rfl rfl rfl hh1 rfl rfl ?_
  rw [ef1]
  refine rx_T.br1 (M := rxm_97) 51 rfl rfl (by decide) (fun q6 => ?_) (fun q => no (fun r => ?_))
  · have z : (nI f).toInt ≤ 0 := Int32.le_iff_toInt_le.mp (of_decide_eq_true q6)
    rw [nI_toInt (by omega)] at z
    refine rx_T.to 2 53 [(3, .int (nI 0)), (0, .ref 53), (1, .int x), (2, .int y)] [] h1 rfl ?_
    refine rx_mp_l n7 hh1 en1 (fun hy => ?_) (fun hy => ?_) n 0 (by omega) (fun i hi => absurd hi (by omega))
    · rw [g8, g9] at hy
      refine rx_T.to 1 90 [(0, .ref 53), (1, .int x), (2, .int y)] [.ref 53] h1 rfl ?_
      refine rx_T.gfr (M := rxm_97) (k := 37) rfl rfl rfl hh1 rfl rfl ?_
      refine rx_T.to 1 94 [(0, .ref 53), (1, .int x), (2, .int y)] [.ref 53, .ref 54] h1 rfl ?_
      refine rx_T.gfF (M := rxm_97) (k := 37) rfl rfl rfl hh1 rfl rfl ?_
      rw [en1]
      refine rx_T.to 1 98 [(0, .ref 53), (1, .int x), (2, .int y)] [.int x, .int (nI n), .ref 54] h1 rfl ?_
      refine rx_T.iaW (M := rxm_97) (k := 38) rfl rfl hh1 rfl (show n < 12 by omega) (by decide) (by omega) (by omega) (fun h2 hh2 v2 z2 => ?_)
      have en2 : rx_gF h2 37 1 = nI n := (rx_gF_of (z2 37 (by decide))).trans en1
      refine rx_T.to 1 100 [(0, .ref 53), (1, .int x), (2, .int y)] [.ref 53] h2 rfl ?_
      refine rx_T.gfr (M := rxm_97) (k := 37) rfl rfl rfl hh2 rfl rfl ?_
      refine rx_T.to 1 104 [(0, .ref 53), (1, .int x), (2, .int y)] [.ref 53, .ref 55] h2 rfl ?_
      refine rx_T.gfF (M := rxm_97) (k := 37) rfl rfl rfl hh2 rfl rfl ?_
      rw [en2]
      refine rx_T.to 1 108 [(0, .ref 53), (1, .int x), (2, .int y)] [.int y, .int (nI n), .ref 55] h2 rfl ?_
      refine rx_T.iaW (M := rxm_97) (k := 39) rfl rfl hh2 rfl (show n < 12 by omega) (by decide) (by omega) (by omega) (fun h3 hh3 v3 z3 => ?_)
      have en3 : rx_gF h3 37 1 = nI n := (rx_gF_of (z3 37 (by decide))).trans en2
      refine rx_T.to 2 111 [(0, .ref 53), (1, .int x), (2, .int y)] [.ref 53, .ref 53] h3 rfl ?_
      refine rx_T.gfF (M := rxm_97) (k := 37) rfl rfl rfl hh3 rfl rfl ?_
      rw [en3]
      refine rx_T.to 2 116 [(0, .ref 53), (1, .int x), (2, .int y)] [.int ((nI n) + 1), .ref 53] h3 rfl ?_
      rw [show nI n + 1 = nI (n + 1) from nI_1 n]
      refine rx_T.pfF (M := rxm_97) (k := 37) rfl rfl rfl hh3 rfl rfl rfl (by rw [nI_toInt (by omega)]; omega) (by rw [nI_toInt (by omega)]; omega) (fun h4 hh4 v4 f4 z4 => ?_)
      refine rx_T.to 2 121 [(0, .ref 53), (1, .int x), (2, .int y)] [.int 0, .ref 53] h4 rfl ?_
      refine rx_T.pfF (M := rxm_97) (k := 37) rfl rfl rfl hh4 rfl rfl rfl (by decide) (by decide) (fun h5 hh5 v5 f5 z5 => ?_)
      have en5 : rx_gF h5 37 1 = nI (n + 1) := (f5 1 (by decide)).trans v4
      refine rx_T.to 1 125 [(0, .ref 53), (1, .int x), (2, .int y)] [.ref 53] h5 rfl ?_
      refine rx_T.gfF (M := rxm_97) (k := 37) rfl rfl rfl hh5 rfl rfl ?_
      rw [en5]
      refine rx_T.to 2 130 [(0, .ref 53), (1, .int x), (2, .int y)] [.int ((nI (n + 1)) - 1)] h5 rfl ?_
      rw [show nI (n + 1) - 1 = nI n from rx_sub1 n]
      refine rx_T.ret (M := rxm_97) (v := some (.int (nI n))) rfl rfl rfl (Or.inl ⟨⟨by omega, n7, ⟨by omega, by omega⟩, ⟨by omega, by omega⟩, hy⟩, rfl, hh5, rx_Xm_z (h := h1) (fun z hz => by rw [z5 z (by omega), z4 z (by omega), z3 z (by omega), z2 z (by omega)]) hx1, fun z hz => by rw [z5 z (by omega), z4 z (by omega), z3 z (by omega), z2 z (by omega), z1 z (by omega)], en5, ?_, ?_, ?_, ?_⟩)
      · rw [f5 5 (by decide), f4 5 (by decide), rx_gF_of (z3 37 (by decide)), rx_gF_of (z2 37 (by decide)), f1 5 (by decide)]
      · rw [f5 6 (by decide), f4 6 (by decide), rx_gF_of (z3 37 (by decide)), rx_gF_of (z2 37 (by decide)), f1 6 (by decide)]
      · rw [rx_gI_of (z5 38 (by decide)), rx_gI_of (z4 38 (by decide)), rx_gI_of (z3 38 (by decide)), v2, g8]
      · rw [rx_gI_of (z5 39 (by decide)), rx_gI_of (z4 39 (by decide)), v3, rx_gI_of (z2 39 (by decide)), g9]
    · rw [g8, g9] at hy
      exact Or.inr ⟨fun r => hy r.2.2.2.2, rfl, hh1, hx1, rx_Fg_f (i := 0) (by decide) f1 z1⟩
  · have z : ¬ (nI f).toInt ≤ 0 := fun z => of_decide_eq_false q (Int32.le_iff_toInt_le.mpr z)
    rw [nI_toInt (by omega)] at z
    have := r.1
    omega
set_option maxRecDepth 100000 in
set_option maxHeartbeats 4000000 in
theorem rx_mof {n f c : Nat} {q : Int32} {h : rx_H} (H : rx_CM h n f c) : rx_T rx_cds rx_ms rx_lk0 rt d w 98 0 [(0, .ref 53), (1, .int q)] [] h (fun v h' => (∃ a, a < n ∧ q = nI a ∧ c < 8 ∧ v = some (.int (nI (c + 1))) ∧ rx_hin rx_I0 h' ∧ rx_Xm h' ∧ (∀ z, ¬ (z = 37 ∨ z = 40) → h'[z]? = h[z]?) ∧ rx_gF h' 37 1 = rx_gF h 37 1 ∧ rx_gF h' 37 6 = rx_gF h 37 6 ∧ rx_gF h' 37 5 = nI (c + 1) ∧ rx_gI h' 40 = upd (rx_gI h 40) c (nI a)) ∨ (¬ (∃ a, a < n ∧ q = nI a ∧ c < 8) ∧ v = some (.int (-1)) ∧ rx_hin rx_I0 h' ∧ rx_Xm h' ∧ rx_Fg h h')) := by
  have hh := H.1
  have hn := H.2.2.1
  have hc := H.2.2.2.2.1
  refine rx_T.to 2 2 [(0, .ref 53), (1, .int q)] [.int 0, .ref 53] h rfl ?_
  refine rx_T.pfF (M := rxm_98) (k := 37) rfl rfl rfl hh rfl rfl rfl (by decide) (by decide) (fun h1 hh1 v1 f1 z1 => ?_)
  have hx1 := rx_Xm_z (h := h) (fun z hz => z1 z (by omega)) H.2.1
  have en1 : rx_gF h1 37 1 = nI n := (f1 1 (by decide)).trans H.2.2.2.2.2.1
  have ef1 : rx_gF h1 37 6 = nI f := (f1 6 (by decide)).trans H.2.2.2.2.2.2.1
  have ec1 : rx_gF h1 37 5 = nI c := (f1 5 (by decide)).trans H.2.2.2.2.2.2.2
  have no : ¬ (∃ a, a < n ∧ q = nI a ∧ c < 8) → rx_T rx_cds rx_ms rx_lk0 rt d w 98 26 [(0, .ref 53), (1, .int q)] [] h1 (fun v h' => (∃ a, a < n ∧ q = nI a ∧ c < 8 ∧ v = some (.int (nI (c + 1))) ∧ rx_hin rx_I0 h' ∧ rx_Xm h' ∧ (∀ z, ¬ (z = 37 ∨ z = 40) → h'[z]? = h[z]?) ∧ rx_gF h' 37 1 = rx_gF h 37 1 ∧ rx_gF h' 37 6 = rx_gF h 37 6 ∧ rx_gF h' 37 5 = nI (c + 1) ∧ rx_gI h' 40 = upd (rx_gI h 40) c (nI a)) ∨ (¬ (∃ a, a < n ∧ q = nI a ∧ c < 8) ∧ v = some (.int (-1)) ∧ rx_hin rx_I0 h' ∧ rx_Xm h' ∧ rx_Fg h h')) := by
    intro hq
    refine rx_T.to 1 27 [(0, .ref 53), (1, .int q)] [.int (-1)] h1 rfl ?_
    exact rx_T.ret (M := rxm_98) (v := some (.int (-1))) rfl rfl rfl (Or.inr ⟨hq, rfl, hh1, hx1, rx_Fg_f (i := 0) (by decide) f1 z1⟩)
  refine rx_T.to 1 6 [(0, .ref 53), (1, .int q)] [.int q] h1 rfl ?_
  refine rx_T.br1 (M := rxm_98) 26 rfl rfl (by decide) (fun q0 => no (fun r => ?_)) (fun q1 => ?_)
  · obtain ⟨a, ha, rfl, _⟩ := r
    have z : (nI a).toInt < 0 := Int32.lt_iff_toInt_lt.mp (of_decide_eq_true q0)
    rw [nI_toInt (by omega)] at z
    omega
  have z1' : ¬ q.toInt < 0 := fun z => of_decide_eq_false q1 (Int32.lt_iff_toInt_lt.mpr z)
  refine rx_T.to 2 11 [(0, .ref 53), (1, .int q)] [.ref 53, .int q] h1 rfl ?_
  refine rx_T.gfF (M := rxm_98) (k := 37) rfl rfl rfl hh1 rfl rfl ?_
  rw [en1]
  refine rx_T.br2 (M := rxm_98) 26 rfl rfl (by decide) (fun q0 => no (fun r => ?_)) (fun q2 => ?_)
  · obtain ⟨a, ha, rfl, _⟩ := r
    have z : (nI n).toInt ≤ (nI a).toInt := Int32.le_iff_toInt_le.mp (of_decide_eq_true q0)
    rw [nI_toInt (by omega), nI_toInt (by omega)] at z
    omega
  have z2' : ¬ (nI n).toInt ≤ q.toInt := fun z => of_decide_eq_false q2 (Int32.le_iff_toInt_le.mpr z)
  rw [nI_toInt (by omega)] at z2'
  obtain ⟨a, rfl, ha⟩ := rx_nIof (n := 6) (x := q) (by omega) (by omega)
  rw [nI_toInt (by omega)] at z2'
  refine rx_T.to 1 18 [(0, .ref 53), (1, .int (nI a))] [.ref 53] h1 rfl ?_
  refine rx_T.gfF (M := rxm_98) (k := 37) rfl rfl rfl hh1 rfl rfl ?_
  rw [ec1]
  refine rx_T.to 1 23 [(0, .ref 53), (1, .int (nI a))] [.int (Int8.ofInt 8).toInt32, .int (nI c)] h1 rfl ?_
  refine rx_T.br2 (M := rxm_98) 28 rfl rfl (by decide) (fun q3 => ?_) (fun q0 => no (fun r => ?_))
  · have hc8 : c < 8 := by
      have z : ¬ nI c = (Int8.ofInt 8).toInt32 := by simpa [rx_c2] using q3
      refine Nat.lt_of_le_of_ne hc (fun e => z ?_)
      rw [e]
      decide +kernel
    refine rx_T.to 1 29 [(0, .ref 53), (1, .int (nI a))] [.ref 53] h1 rfl ?_
    refine rx_T.gfr (M := rxm_98) (k := 37) rfl rfl rfl hh1 rfl rfl ?_
    refine rx_T.to 1 33 [(0, .ref 53), (1, .int (nI a))] [.ref 53, .ref 56] h1 rfl ?_
    refine rx_T.gfF (M := rxm_98) (k := 37) rfl rfl rfl hh1 rfl rfl ?_
    rw [ec1]
    refine rx_T.to 1 37 [(0, .ref 53), (1, .int (nI a))] [.int (nI a), .int (nI c), .ref 56] h1 rfl ?_
    refine rx_T.iaW (M := rxm_98) (k := 40) rfl rfl hh1 rfl (show c < 8 by omega) (by decide) (by rw [nI_toInt (by omega)]; omega) (by rw [nI_toInt (by omega)]; omega) (fun h2 hh2 v2 z2 => ?_)
    have ec2 : rx_gF h2 37 5 = nI c := (rx_gF_of (z2 37 (by decide))).trans ec1
    refine rx_T.to 2 40 [(0, .ref 53), (1, .int (nI a))] [.ref 53, .ref 53] h2 rfl ?_
    refine rx_T.gfF (M := rxm_98) (k := 37) rfl rfl rfl hh2 rfl rfl ?_
    rw [ec2]
    refine rx_T.to 2 45 [(0, .ref 53), (1, .int (nI a))] [.int ((nI c) + 1), .ref 53] h2 rfl ?_
    rw [show nI c + 1 = nI (c + 1) from nI_1 c]
    refine rx_T.pfF (M := rxm_98) (k := 37) rfl rfl rfl hh2 rfl rfl rfl (by rw [nI_toInt (by omega)]; omega) (by rw [nI_toInt (by omega)]; omega) (fun h3 hh3 v3 f3 z3 => ?_)
    refine rx_T.to 1 49 [(0, .ref 53), (1, .int (nI a))] [.ref 53] h3 rfl ?_
    refine rx_T.gfF (M := rxm_98) (k := 37) rfl rfl rfl hh3 rfl rfl ?_
    rw [v3]
    refine rx_T.ret (M := rxm_98) (v := some (.int (nI (c + 1)))) rfl rfl rfl (Or.inl ⟨a, by omega, rfl, hc8, rfl, hh3, rx_Xm_z (h := h1) (fun z hz => by rw [z3 z (by omega), z2 z (by omega)]) hx1, fun z hz => by rw [z3 z (by omega), z2 z (by omega), z1 z (by omega)], ?_, ?_, v3, ?_⟩)
    · rw [f3 1 (by decide), rx_gF_of (z2 37 (by decide)), f1 1 (by decide)]
    · rw [f3 6 (by decide), rx_gF_of (z2 37 (by decide)), f1 6 (by decide)]
    · rw [rx_gI_of (z3 40 (by decide)), v2, rx_gI_of (z1 40 (by decide))]
  · obtain ⟨_, _, _, r⟩ := r
    have z : nI c = (Int8.ofInt 8).toInt32 := by simpa [rx_c2] using q0
    have z2 := congrArg Int32.toInt z
    rw [nI_toInt (by omega), show ((Int8.ofInt 8).toInt32).toInt = 8 by decide +kernel] at z2
    omega
theorem rx_01e {x : Int32} (h1 : 0 ≤ x.toInt) (h2 : x.toInt ≤ 1) : x = 0 ∨ x = 1 := by
  have h4 : x.toInt = 0 ∨ x.toInt = 1 := by omega
  rcases h4 with h | h
  · exact Or.inl (Int32.toInt_inj.mp h)
  · exact Or.inr (Int32.toInt_inj.mp h)
theorem rx_and01 {x y : Int32} (h1 : 0 ≤ x.toInt) (h2 : x.toInt ≤ 1) (h3 : 0 ≤ y.toInt) (h4 : y.toInt ≤ 1) : 0 ≤ (x &&& y).toInt ∧ (x &&& y).toInt ≤ 1 := by
  rcases rx_01e h1 h2 with rfl | rfl <;> rcases rx_01e h3 h4 with rfl | rfl <;> decide
theorem rx_fitb {x : Int32} (h1 : 0 ≤ x.toInt) (h2 : x.toInt ≤ 1) : rx_fit .boolean (.int x) = true := by
  rcases rx_01e h1 h2 with rfl | rfl <;> rfl
set_option maxRecDepth 100000 in
set_option maxHeartbeats 4000000 in
theorem rx_mturn2 {n f c : Nat} {k o : Int32} {h : rx_H} (ho : 0 ≤ (vp_nar .boolean o).toInt ∧ (vp_nar .boolean o).toInt ≤ 1) (H : rx_CM h n f c) : rx_T rx_cds rx_ms rx_lk0 rt d w 110 0 [(0, .ref 53), (1, .int k), (2, .int o)] [] h (fun v h' => ((v = some (.int 1) ∧ (∃ a, a < f ∧ k = nI a)) ∨ (v = some (.int 0) ∧ ¬ (∃ a, a < f ∧ k = nI a))) ∧ rx_hin rx_I0 h' ∧ rx_Xm h' ∧ rx_Fg h h') := by
  have hh := H.1
  have hf := H.2.2.2.1
  refine rx_T.to 2 2 [(0, .ref 53), (1, .int k), (2, .int o)] [.int 0, .ref 53] h rfl ?_
  refine rx_T.pfF (M := rxm_110) (k := 37) rfl rfl rfl hh rfl rfl rfl (by decide) (by decide) (fun h1 hh1 v1 f1 z1 => ?_)
  have hx1 := rx_Xm_z (h := h) (fun z hz => z1 z (by omega)) H.2.1
  have en1 : rx_gF h1 37 1 = nI n := (f1 1 (by decide)).trans H.2.2.2.2.2.1
  have ef1 : rx_gF h1 37 6 = nI f := (f1 6 (by decide)).trans H.2.2.2.2.2.2.1
  have ec1 : rx_gF h1 37 5 = nI c := (f1 5 (by decide)).trans H.2.2.2.2.2.2.2
  have hg1 : rx_Fg h h1 := rx_Fg_f (i := 0) (by decide) f1 z1
  have no : ¬ (∃ a, a < f ∧ k = nI a) → rx_T rx_cds rx_ms rx_lk0 rt d w 110 17 [(0, .ref 53), (1, .int k), (2, .int o)] [] h1 (fun v h' => ((v = some (.int 1) ∧ (∃ a, a < f ∧ k = nI a)) ∨ (v = some (.int 0) ∧ ¬ (∃ a, a < f ∧ k = nI a))) ∧ rx_hin rx_I0 h' ∧ rx_Xm h' ∧ rx_Fg h h') := by
    intro hq
    refine rx_T.to 1 18 [(0, .ref 53), (1, .int k), (2, .int o)] [.int 0] h1 rfl ?_
    exact rx_T.ret (M := rxm_110) (v := some (.int 0)) rfl rfl rfl ⟨Or.inr ⟨rfl, hq⟩, hh1, hx1, hg1⟩
  refine rx_T.to 1 6 [(0, .ref 53), (1, .int k), (2, .int o)] [.int k] h1 rfl ?_
  refine rx_T.br1 (M := rxm_110) 17 rfl rfl (by decide) (fun q0 => no (fun r => ?_)) (fun q1 => ?_)
  · obtain ⟨a, ha, rfl⟩ := r
    have z : (nI a).toInt < 0 := Int32.lt_iff_toInt_lt.mp (of_decide_eq_true q0)
    rw [nI_toInt (by omega)] at z
    omega
  have z1' : ¬ k.toInt < 0 := fun z => of_decide_eq_false q1 (Int32.lt_iff_toInt_lt.mpr z)
  refine rx_T.to 2 11 [(0, .ref 53), (1, .int k), (2, .int o)] [.ref 53, .int k] h1 rfl ?_
  refine rx_T.gfF (M := rxm_110) (k := 37) rfl rfl rfl hh1 rfl rfl ?_
  rw [ef1]
  refine rx_T.br2 (M := rxm_110) 19 rfl rfl (by decide) (fun q2 => ?_) (fun q0 => no (fun r => ?_))
  · have z : k.toInt < (nI f).toInt := Int32.lt_iff_toInt_lt.mp (of_decide_eq_true q2)
    rw [nI_toInt (by omega)] at z
    obtain ⟨a, rfl, ha⟩ := rx_nIof (n := 30) (x := k) (by omega) (by omega)
    rw [nI_toInt (by omega)] at z
    have rest : ∀ g : Int32, 0 ≤ g.toInt ∧ g.toInt ≤ 1 → rx_T rx_cds rx_ms rx_lk0 rt d w 110 40 [(0, .ref 53), (1, .int (nI a)), (2, .int o)] [.int g, .ref 53] h1 (fun v h' => ((v = some (.int 1) ∧ (∃ b, b < f ∧ nI a = nI b)) ∨ (v = some (.int 0) ∧ ¬ (∃ b, b < f ∧ nI a = nI b))) ∧ rx_hin rx_I0 h' ∧ rx_Xm h' ∧ rx_Fg h h') := by
      intro g hg
      refine rx_T.pfF (M := rxm_110) (k := 37) rfl rfl rfl hh1 rfl rfl (rx_fitb hg.1 hg.2) hg.1 hg.2 (fun h2 hh2 v2 f2 z2 => ?_)
      refine rx_T.to 1 44 [(0, .ref 53), (1, .int (nI a)), (2, .int o)] [.ref 53] h2 rfl ?_
      refine rx_T.gfr (M := rxm_110) (k := 37) rfl rfl rfl hh2 rfl rfl ?_
      refine rx_T.to 2 49 [(0, .ref 53), (1, .int (nI a)), (2, .int o)] [.int o, .int (nI a), .ref 59] h2 rfl ?_
      refine rx_T.zaW (M := rxm_110) (k := 43) rfl rfl hh2 rfl (show a < 40 by omega) (by decide) ho (fun h3 hh3 z3 => ?_)
      refine rx_T.to 1 51 [(0, .ref 53), (1, .int (nI a)), (2, .int o)] [.int 1] h3 rfl ?_
      exact rx_T.ret (M := rxm_110) (v := some (.int 1)) rfl rfl rfl ⟨Or.inl ⟨rfl, a, by omega, rfl⟩, hh3, rx_Xm_z (h := h1) (fun z hz => by rw [z3 z (by omega), z2 z (by omega)]) hx1, hg1.trans ⟨fun z hz => by rw [z3 z (by omega), z2 z (by omega)], fun j hj => by rw [rx_gF_of (z3 37 (by decide)), f2 j (by omega)]⟩⟩
    refine rx_T.to 2 21 [(0, .ref 53), (1, .int (nI a)), (2, .int o)] [.ref 53, .ref 53] h1 rfl ?_
    refine rx_T.gfF (M := rxm_110) (k := 37) rfl rfl rfl hh1 rfl rfl ?_
    have hb := rx_bF (h := h1) (k := 37) (j := 13) hh1 rfl rfl
    refine rx_T.to 1 25 [(0, .ref 53), (1, .int (nI a)), (2, .int o)] [.ref 53, .int (rx_gF h1 37 13), .ref 53] h1 rfl ?_
    refine rx_T.gfr (M := rxm_110) (k := 37) rfl rfl rfl hh1 rfl rfl ?_
    refine rx_T.to 1 29 [(0, .ref 53), (1, .int (nI a)), (2, .int o)] [.int (nI a), .ref 59, .int (rx_gF h1 37 13), .ref 53] h1 rfl ?_
    refine rx_T.zaR (M := rxm_110) (k := 43) rfl rfl hh1 rfl (show a < 40 by omega) (by decide) (fun e e1 e2 => ?_)
    refine rx_T.to 1 31 [(0, .ref 53), (1, .int (nI a)), (2, .int o)] [.int o, .int e, .int (rx_gF h1 37 13), .ref 53] h1 rfl ?_
    refine rx_T.br2 (M := rxm_110) 38 rfl rfl (by decide) (fun _ => ?_) (fun _ => ?_)
    · refine rx_T.to 2 40 [(0, .ref 53), (1, .int (nI a)), (2, .int o)] [.int ((rx_gF h1 37 13) &&& 0), .ref 53] h1 rfl ?_
      exact rest _ (rx_and01 (y := 0) hb.1 hb.2 (by decide) (by decide))
    · refine rx_T.to 3 40 [(0, .ref 53), (1, .int (nI a)), (2, .int o)] [.int ((rx_gF h1 37 13) &&& 1), .ref 53] h1 rfl ?_
      exact rest _ (rx_and01 (y := 1) hb.1 hb.2 (by decide) (by decide))
  · obtain ⟨a, ha, rfl⟩ := r
    have z : ¬ (nI a).toInt < (nI f).toInt := fun z => of_decide_eq_false q0 (Int32.lt_iff_toInt_lt.mpr z)
    rw [nI_toInt (by omega), nI_toInt (by omega)] at z
    omega
set_option maxRecDepth 100000 in
set_option maxHeartbeats 4000000 in
theorem rx_mtrue {n f c : Nat} {k : Int32} {h : rx_H} (hw : 120 ≤ w) (H : rx_CM h n f c) : rx_T rx_cds rx_ms rx_lk0 rt (d + 4) w 99 0 [(0, .ref 53), (1, .int k)] [] h (fun v h' => rx_hin rx_I0 h' ∧ rx_Xm h' ∧ rx_Fg5 h h' ∧ rx_gF h' 37 5 = 0 ∧ ((∃ K, K ≤ 6 ∧ k = nI K ∧ rx_OK K c (rx_p h) ∧ ((v = some (.int 1) ∧ rx_HV (rx_gI h 38) (rx_gI h 39) K (rx_p h)) ∨ (v = some (.int 0) ∧ ¬ rx_HV (rx_gI h 38) (rx_gI h 39) K (rx_p h)))) ∨ ((∀ K, K ≤ 6 → k = nI K → ¬ rx_OK K c (rx_p h)) ∧ v = some (.int (-1))))) := by
  have hh := H.1
  have hc := H.2.2.2.2.1
  refine rx_T.to 2 2 [(0, .ref 53), (1, .int k)] [.int 0, .ref 53] h rfl ?_
  refine rx_T.pfF (M := rxm_99) (k := 37) rfl rfl rfl hh rfl rfl rfl (by decide) (by decide) (fun h1 hh1 v1 f1 z1 => ?_)
  have hx1 := rx_Xm_z (h := h) (fun z hz => z1 z (by omega)) H.2.1
  have en1 : rx_gF h1 37 1 = nI n := (f1 1 (by decide)).trans H.2.2.2.2.2.1
  have ef1 : rx_gF h1 37 6 = nI f := (f1 6 (by decide)).trans H.2.2.2.2.2.2.1
  have ec1 : rx_gF h1 37 5 = nI c := (f1 5 (by decide)).trans H.2.2.2.2.2.2.2
  obtain ⟨vs, c1, d2, d3⟩ := rx_get_o hh1 (k := 37) rfl
  obtain ⟨v5, c5, y5, rfl, _⟩ := d3 5 _ rfl
  have e5 := (rx_fk_at c1 c5).symm.trans ec1
  subst e5
  have ep : rx_p h1 = rx_p h := by unfold rx_p; rw [rx_gI_of (z1 40 (by decide))]
  have g8 : rx_gI h1 38 = rx_gI h 38 := rx_gI_of (z1 38 (by decide))
  have g9 : rx_gI h1 39 = rx_gI h 39 := rx_gI_of (z1 39 (by decide))
  refine rx_T.to 2 7 [(0, .ref 53), (1, .int k)] [.int k, .ref 53] h1 rfl ?_
  refine rx_T.callm (M := rxm_99) (N := rxm_100) (j := 100) (nest := 0) (as' := [.int k]) (rest := []) rfl rfl rfl rfl rfl rfl rfl rfl (Nat.le_of_ble_eq_true rfl) (Nat.le_of_ble_eq_true rfl) hh1 (show 19 + 6 ≤ w by omega) (rx_isFact (d := d + 2) (show 20 ≤ w - (19 + 6) by omega) hc hh1 c1 c5) ?_
  intro v2 g2 hp
  obtain ⟨e2, hp⟩ := hp
  rw [e2]
  rw [ep] at hp
  rcases hp with ⟨K, hK6, rfl, hok, rfl⟩ | ⟨hno, rfl⟩
  · refine rx_T.to 2 12 [(2, .int 1), (0, .ref 53), (1, .int (nI K))] [.int 1] h1 rfl ?_
    refine rx_T.op (M := rxm_99) (ins := .ifCond .eq 15) rfl rfl rfl rfl (rx_b1_f (by decide) (by decide)) ?_
    refine rx_T.to 2 17 [(2, .int 1), (0, .ref 53), (1, .int (nI K))] [.int (nI K), .ref 53] h1 rfl ?_
    refine rx_T.callm (M := rxm_99) (N := rxm_102) (j := 102) (nest := 0) (as' := [.int (nI K)]) (rest := []) rfl rfl rfl rfl rfl rfl rfl rfl (Nat.le_of_ble_eq_true rfl) (Nat.le_of_ble_eq_true rfl) hh1 (show 19 + 2 ≤ w by omega) (rx_mholds (d := d + 0) hK6 (show 90 ≤ w - (19 + 2) by omega) hh1) ?_
    intro v3 g3 hp
    obtain ⟨hp, e3⟩ := hp
    rw [e3]
    rw [ep, g8, g9] at hp
    rcases hp with ⟨rfl, hv⟩ | ⟨rfl, hv⟩
    · refine rx_T.op (M := rxm_99) (ins := .ifCond .eq 7) rfl rfl rfl rfl (rx_b1_f (by decide) (by decide)) ?_
      refine rx_T.to 5 31 [(3, .int 1), (2, .int 1), (0, .ref 53), (1, .int (nI K))] [.int 0, .ref 53] h1 rfl ?_
      refine rx_T.pfF (M := rxm_99) (k := 37) rfl rfl rfl hh1 rfl rfl rfl (by decide) (by decide) (fun h4 hh4 v4 f4 z4 => ?_)
      refine rx_T.to 1 35 [(3, .int 1), (2, .int 1), (0, .ref 53), (1, .int (nI K))] [.int 1] h4 rfl ?_
      refine rx_T.op (M := rxm_99) (ins := .ifCond .ne 7) rfl rfl rfl rfl (rx_b1_t 42 (by decide) (by decide)) ?_
      refine rx_T.to 1 43 [(3, .int 1), (2, .int 1), (0, .ref 53), (1, .int (nI K))] [.int 1] h4 rfl ?_
      refine rx_T.op (M := rxm_99) (ins := .ifCond .eq 7) rfl rfl rfl rfl (rx_b1_f (by decide) (by decide)) ?_
      refine rx_T.to 2 51 [(3, .int 1), (2, .int 1), (0, .ref 53), (1, .int (nI K))] [.int 1] h4 rfl ?_
      exact rx_T.ret (M := rxm_99) (v := some (.int 1)) rfl rfl rfl ⟨hh4, rx_Xm_z (h := h1) (fun z hz => z4 z (by omega)) hx1, ⟨fun z hz => (z4 z (by omega)).trans (z1 z (by omega)), (f4 1 (by decide)).trans (f1 1 (by decide)), (f4 6 (by decide)).trans (f1 6 (by decide))⟩, v4, Or.inl ⟨K, hK6, rfl, hok, Or.inl ⟨rfl, hv⟩⟩⟩
    · refine rx_T.op (M := rxm_99) (ins := .ifCond .eq 7) rfl rfl rfl rfl (rx_b1_t 27 (by decide) (by decide)) ?_
      refine rx_T.to 4 31 [(3, .int 0), (2, .int 1), (0, .ref 53), (1, .int (nI K))] [.int 0, .ref 53] h1 rfl ?_
      refine rx_T.pfF (M := rxm_99) (k := 37) rfl rfl rfl hh1 rfl rfl rfl (by decide) (by decide) (fun h4 hh4 v4 f4 z4 => ?_)
      refine rx_T.to 1 35 [(3, .int 0), (2, .int 1), (0, .ref 53), (1, .int (nI K))] [.int 1] h4 rfl ?_
      refine rx_T.op (M := rxm_99) (ins := .ifCond .ne 7) rfl rfl rfl rfl (rx_b1_t 42 (by decide) (by decide)) ?_
      refine rx_T.to 1 43 [(3, .int 0), (2, .int 1), (0, .ref 53), (1, .int (nI K))] [.int 0] h4 rfl ?_
      refine rx_T.op (M := rxm_99) (ins := .ifCond .eq 7) rfl rfl rfl rfl (rx_b1_t 50 (by decide) (by decide)) ?_
      refine rx_T.to 1 51 [(3, .int 0), (2, .int 1), (0, .ref 53), (1, .int (nI K))] [.int 0] h4 rfl ?_
      exact rx_T.ret (M := rxm_99) (v := some (.int 0)) rfl rfl rfl ⟨hh4, rx_Xm_z (h := h1) (fun z hz => z4 z (by omega)) hx1, ⟨fun z hz => (z4 z (by omega)).trans (z1 z (by omega)), (f4 1 (by decide)).trans (f1 1 (by decide)), (f4 6 (by decide)).trans (f1 6 (by decide))⟩, v4, Or.inl ⟨K, hK6, rfl, hok, Or.inr ⟨rfl, hv⟩⟩⟩
  · refine rx_T.to 2 12 [(2, .int 0), (0, .ref 53), (1, .int k)] [.int 0] h1 rfl ?_
    refine rx_T.op (M := rxm_99) (ins := .ifCond .eq 15) rfl rfl rfl rfl (rx_b1_t 27 (by decide) (by decide)) ?_
    refine rx_T.to 4 31 [(3, .int 0), (2, .int 0), (0, .ref 53), (1, .int k)] [.int 0, .ref 53] h1 rfl ?_
    refine rx_T.pfF (M := rxm_99) (k := 37) rfl rfl rfl hh1 rfl rfl rfl (by decide) (by decide) (fun h4 hh4 v4 f4 z4 => ?_)
    refine rx_T.to 1 35 [(3, .int 0), (2, .int 0), (0, .ref 53), (1, .int k)] [.int 0] h4 rfl ?_
    refine rx_T.op (M := rxm_99) (ins := .ifCond .ne 7) rfl rfl rfl rfl (rx_b1_f (by decide) (by decide)) ?_
    refine rx_T.to 2 51 [(3, .int 0), (2, .int 0), (0, .ref 53), (1, .int k)] [.int (-1)] h4 rfl ?_
    exact rx_T.ret (M := rxm_99) (v := some (.int (-1))) rfl rfl rfl ⟨hh4, rx_Xm_z (h := h1) (fun z hz => z4 z (by omega)) hx1, ⟨fun z hz => (z4 z (by omega)).trans (z1 z (by omega)), (f4 1 (by decide)).trans (f1 1 (by decide)), (f4 6 (by decide)).trans (f1 6 (by decide))⟩, v4, Or.inr ⟨hno, rfl⟩⟩
end RXPM
