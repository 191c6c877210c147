section RXRA
variable {rt : rx_R} {d w : Nat} {P : Option Value → rx_H → Prop}
/-- the reference's cross -/
def rx_cr (X Y : Nat → Int32) (a b c e : Nat) : Int64 := (X b - X a).toInt64 * (Y e - Y c).toInt64 - (Y b - Y a).toInt64 * (X e - X c).toInt64
def rx_pv (X Y : Nat → Int32) (a b c : Nat) : Int32 := if rx_cr X Y a b a c = 0 then 0 else 1
theorem rx_sb64 {x y : Int32} (h1 : -1000 ≤ x.toInt) (h2 : x.toInt ≤ 1000) (h3 : -1000 ≤ y.toInt) (h4 : y.toInt ≤ 1000) : (x - y).toInt64 = Int64.ofInt (x.toInt - y.toInt) := by
  rw [← Int64.ofInt_int32ToInt, rxi_sub h1 h2 h3 h4 (by decide) (by decide)]
def rx_bd (X : Nat → Int32) : Prop := ∀ j, j < 12 → -1000 ≤ (X j).toInt ∧ (X j).toInt ≤ 1000
/-- cross by whole numbers -/
theorem rx_cr_i {X Y : Nat → Int32} (hX : rx_bd X) (hY : rx_bd Y) {a b c e : Nat} (ha : a < 12) (hb : b < 12) (hc : c < 12) (he : e < 12) : rx_cr X Y a b c e = Int64.ofInt (((X b).toInt - (X a).toInt) * ((Y e).toInt - (Y c).toInt) - ((Y b).toInt - (Y a).toInt) * ((X e).toInt - (X c).toInt)) := by
  unfold rx_cr
  rw [rx_sb64 (hX b hb).1 (hX b hb).2 (hX a ha).1 (hX a ha).2, rx_sb64 (hY e he).1 (hY e he).2 (hY c hc).1 (hY c hc).2, rx_sb64 (hY b hb).1 (hY b hb).2 (hY a ha).1 (hY a ha).2, rx_sb64 (hX e he).1 (hX e he).2 (hX c hc).1 (hX c hc).2]
  simp only [Int64.ofInt_sub, Int64.ofInt_mul]
theorem rx_ne64 {x y : Int} (h : x = -y) : (Int64.ofInt x = 0) ↔ (Int64.ofInt y = 0) := by
  rw [h, Int64.ofInt_neg]
  constructor
  · intro z
    have := congrArg (fun q : Int64 => -q) z
    simp only [Int64.neg_neg] at this
    rw [this]
    decide +kernel
  · intro z
    rw [z]
    decide +kernel
theorem rx_pv_12 {X Y : Nat → Int32} (hX : rx_bd X) (hY : rx_bd Y) {a b c : Nat} (ha : a < 12) (hb : b < 12) (hc : c < 12) : rx_pv X Y a b c = rx_pv X Y b a c := by
  unfold rx_pv
  rw [rx_cr_i hX hY ha hb ha hc, rx_cr_i hX hY hb ha hb hc]
  have := rx_ne64 (x := ((X b).toInt - (X a).toInt) * ((Y c).toInt - (Y a).toInt) - ((Y b).toInt - (Y a).toInt) * ((X c).toInt - (X a).toInt)) (y := ((X a).toInt - (X b).toInt) * ((Y c).toInt - (Y b).toInt) - ((Y a).toInt - (Y b).toInt) * ((X c).toInt - (X b).toInt)) (by grind)
  by_cases q : Int64.ofInt (((X b).toInt - (X a).toInt) * ((Y c).toInt - (Y a).toInt) - ((Y b).toInt - (Y a).toInt) * ((X c).toInt - (X a).toInt)) = 0
  · rw [if_pos q, if_pos (this.mp q)]
  · rw [if_neg q, if_neg (fun z => q (this.mpr z))]
theorem rx_pv_23 {X Y : Nat → Int32} (hX : rx_bd X) (hY : rx_bd Y) {a b c : Nat} (ha : a < 12) (hb : b < 12) (hc : c < 12) : rx_pv X Y a b c = rx_pv X Y a c b := by
  unfold rx_pv
  rw [rx_cr_i hX hY ha hb ha hc, rx_cr_i hX hY ha hc ha hb]
  have := rx_ne64 (x := ((X b).toInt - (X a).toInt) * ((Y c).toInt - (Y a).toInt) - ((Y b).toInt - (Y a).toInt) * ((X c).toInt - (X a).toInt)) (y := ((X c).toInt - (X a).toInt) * ((Y b).toInt - (Y a).toInt) - ((Y c).toInt - (Y a).toInt) * ((X b).toInt - (X a).toInt)) (by grind)
  by_cases q : Int64.ofInt (((X b).toInt - (X a).toInt) * ((Y c).toInt - (Y a).toInt) - ((Y b).toInt - (Y a).toInt) * ((X c).toInt - (X a).toInt)) = 0
  · rw [if_pos q, if_pos (this.mp q)]
  · rw [if_neg q, if_neg (fun z => q (this.mpr z))]
theorem rx_bdX {h : rx_H} (hh : rx_hin rx_I0 h) : rx_bd (rx_gI h 38) ∧ rx_bd (rx_gI h 39) := by
  obtain ⟨f, e1, e2⟩ := rx_get_a (k := 38) hh rfl
  obtain ⟨g, e3, e4⟩ := rx_get_a (k := 39) hh rfl
  rw [rx_gI_at e1, rx_gI_at e3]
  exact ⟨e2, e4⟩
set_option maxRecDepth 100000 in
set_option maxHeartbeats 4000000 in
theorem rx_cross {a b c e : Nat} {h : rx_H} (ha : a < 12) (hb : b < 12) (hc : c < 12) (he : e < 12) (hh : rx_hin rx_I0 h) : rx_T rx_cds rx_ms rx_lk0 rt d w 105 0 [(0, .ref 53), (1, .int (nI a)), (2, .int (nI b)), (3, .int (nI c)), (4, .int (nI e))] [] h (fun v h' => v = some (.long (rx_cr (rx_gI h 38) (rx_gI h 39) a b c e)) ∧ h' = h) := by
  obtain ⟨fx, x1, x2⟩ := rx_get_a (k := 38) hh rfl
  obtain ⟨fy, y1, y2⟩ := rx_get_a (k := 39) hh rfl
  rw [rx_gI_at x1, rx_gI_at y1]
  refine rx_T.to 1 1 [(0, .ref 53), (1, .int (nI a)), (2, .int (nI b)), (3, .int (nI c)), (4, .int (nI e))] [.ref 53] h rfl ?_
  refine rx_T.gfr (M := rxm_105) (k := 37) rfl rfl rfl hh rfl rfl ?_
  refine rx_T.to 1 5 [(0, .ref 53), (1, .int (nI a)), (2, .int (nI b)), (3, .int (nI c)), (4, .int (nI e))] [.int (nI b), .ref 54] h rfl ?_
  refine rx_T.iald (M := rxm_105) rfl rfl (rx_ri_i (k := 38) x1) (vp_in_nI (show b < 12 by omega) (by decide)) ?_
  rw [nI_clamp (show b < 2 ^ 31 by omega)]
  refine rx_T.to 1 7 [(0, .ref 53), (1, .int (nI a)), (2, .int (nI b)), (3, .int (nI c)), (4, .int (nI e))] [.ref 53, .int (fx b)] h rfl ?_
  refine rx_T.gfr (M := rxm_105) (k := 37) rfl rfl rfl hh rfl rfl ?_
  refine rx_T.to 1 11 [(0, .ref 53), (1, .int (nI a)), (2, .int (nI b)), (3, .int (nI c)), (4, .int (nI e))] [.int (nI a), .ref 54, .int (fx b)] h rfl ?_
  refine rx_T.iald (M := rxm_105) rfl rfl (rx_ri_i (k := 38) x1) (vp_in_nI (show a < 12 by omega) (by decide)) ?_
  rw [nI_clamp (show a < 2 ^ 31 by omega)]
  refine rx_T.to 3 15 [(0, .ref 53), (1, .int (nI a)), (2, .int (nI b)), (3, .int (nI c)), (4, .int (nI e))] [.ref 53, .long (((fx b) - (fx a))).toInt64] h rfl ?_
  refine rx_T.gfr (M := rxm_105) (k := 37) rfl rfl rfl hh rfl rfl ?_
  refine rx_T.to 1 20 [(0, .ref 53), (1, .int (nI a)), (2, .int (nI b)), (3, .int (nI c)), (4, .int (nI e))] [.int (nI e), .ref 55, .long (((fx b) - (fx a))).toInt64] h rfl ?_
  refine rx_T.iald (M := rxm_105) rfl rfl (rx_ri_i (k := 39) y1) (vp_in_nI (show e < 12 by omega) (by decide)) ?_
  rw [nI_clamp (show e < 2 ^ 31 by omega)]
  refine rx_T.to 1 22 [(0, .ref 53), (1, .int (nI a)), (2, .int (nI b)), (3, .int (nI c)), (4, .int (nI e))] [.ref 53, .int (fy e), .long (((fx b) - (fx a))).toInt64] h rfl ?_
  refine rx_T.gfr (M := rxm_105) (k := 37) rfl rfl rfl hh rfl rfl ?_
  refine rx_T.to 1 26 [(0, .ref 53), (1, .int (nI a)), (2, .int (nI b)), (3, .int (nI c)), (4, .int (nI e))] [.int (nI c), .ref 55, .int (fy e), .long (((fx b) - (fx a))).toInt64] h rfl ?_
  refine rx_T.iald (M := rxm_105) rfl rfl (rx_ri_i (k := 39) y1) (vp_in_nI (show c < 12 by omega) (by decide)) ?_
  rw [nI_clamp (show c < 2 ^ 31 by omega)]
  refine rx_T.to 4 31 [(0, .ref 53), (1, .int (nI a)), (2, .int (nI b)), (3, .int (nI c)), (4, .int (nI e))] [.ref 53, .long ((((fx b) - (fx a))).toInt64 * (((fy e) - (fy c))).toInt64)] h rfl ?_
  refine rx_T.gfr (M := rxm_105) (k := 37) rfl rfl rfl hh rfl rfl ?_
  refine rx_T.to 1 35 [(0, .ref 53), (1, .int (nI a)), (2, .int (nI b)), (3, .int (nI c)), (4, .int (nI e))] [.int (nI b), .ref 55, .long ((((fx b) - (fx a))).toInt64 * (((fy e) - (fy c))).toInt64)] h rfl ?_
  refine rx_T.iald (M := rxm_105) rfl rfl (rx_ri_i (k := 39) y1) (vp_in_nI (show b < 12 by omega) (by decide)) ?_
  rw [nI_clamp (show b < 2 ^ 31 by omega)]
  refine rx_T.to 1 37 [(0, .ref 53), (1, .int (nI a)), (2, .int (nI b)), (3, .int (nI c)), (4, .int (nI e))] [.ref 53, .int (fy b), .long ((((fx b) - (fx a))).toInt64 * (((fy e) - (fy c))).toInt64)] h rfl ?_
  refine rx_T.gfr (M := rxm_105) (k := 37) rfl rfl rfl hh rfl rfl ?_
  refine rx_T.to 1 41 [(0, .ref 53), (1, .int (nI a)), (2, .int (nI b)), (3, .int (nI c)), (4, .int (nI e))] [.int (nI a), .ref 55, .int (fy b), .long ((((fx b) - (fx a))).toInt64 * (((fy e) - (fy c))).toInt64)] h rfl ?_
  refine rx_T.iald (M := rxm_105) rfl rfl (rx_ri_i (k := 39) y1) (vp_in_nI (show a < 12 by omega) (by decide)) ?_
  rw [nI_clamp (show a < 2 ^ 31 by omega)]
  refine rx_T.to 3 45 [(0, .ref 53), (1, .int (nI a)), (2, .int (nI b)), (3, .int (nI c)), (4, .int (nI e))] [.ref 53, .long (((fy b) - (fy a))).toInt64, .long ((((fx b) - (fx a))).toInt64 * (((fy e) - (fy c))).toInt64)] h rfl ?_
  refine rx_T.gfr (M := rxm_105) (k := 37) rfl rfl rfl hh rfl rfl ?_
  refine rx_T.to 1 50 [(0, .ref 53), (1, .int (nI a)), (2, .int (nI b)), (3, .int (nI c)), (4, .int (nI e))] [.int (nI e), .ref 54, .long (((fy b) - (fy a))).toInt64, .long ((((fx b) - (fx a))).toInt64 * (((fy e) - (fy c))).toInt64)] h rfl ?_
  refine rx_T.iald (M := rxm_105) rfl rfl (rx_ri_i (k := 38) x1) (vp_in_nI (show e < 12 by omega) (by decide)) ?_
  rw [nI_clamp (show e < 2 ^ 31 by omega)]
  refine rx_T.to 1 52 [(0, .ref 53), (1, .int (nI a)), (2, .int (nI b)), (3, .int (nI c)), (4, .int (nI e))] [.ref 53, .int (fx e), .long (((fy b) - (fy a))).toInt64, .long ((((fx b) - (fx a))).toInt64 * (((fy e) - (fy c))).toInt64)] h rfl ?_
  refine rx_T.gfr (M := rxm_105) (k := 37) rfl rfl rfl hh rfl rfl ?_
  refine rx_T.to 1 56 [(0, .ref 53), (1, .int (nI a)), (2, .int (nI b)), (3, .int (nI c)), (4, .int (nI e))] [.int (nI c), .ref 54, .int (fx e), .long (((fy b) - (fy a))).toInt64, .long ((((fx b) - (fx a))).toInt64 * (((fy e) - (fy c))).toInt64)] h rfl ?_
  refine rx_T.iald (M := rxm_105) rfl rfl (rx_ri_i (k := 38) x1) (vp_in_nI (show c < 12 by omega) (by decide)) ?_
  rw [nI_clamp (show c < 2 ^ 31 by omega)]
  refine rx_T.to 4 61 [(0, .ref 53), (1, .int (nI a)), (2, .int (nI b)), (3, .int (nI c)), (4, .int (nI e))] [.long (((((fx b) - (fx a))).toInt64 * (((fy e) - (fy c))).toInt64) - ((((fy b) - (fy a))).toInt64 * (((fx e) - (fx c))).toInt64))] h rfl ?_
  exact rx_T.ret (M := rxm_105) (v := some (.long (rx_cr fx fy a b c e))) rfl rfl rfl ⟨rfl, rfl⟩
set_option maxRecDepth 100000 in
set_option maxHeartbeats 4000000 in
theorem rx_isProper {a b c : Nat} {h : rx_H} (ha : a < 12) (hb : b < 12) (hc : c < 12) (hw : 24 ≤ w) (hh : rx_hin rx_I0 h) : rx_T rx_cds rx_ms rx_lk0 rt (d + 1) w 104 0 [(0, .ref 53), (1, .int (nI a)), (2, .int (nI b)), (3, .int (nI c))] [] h (fun v h' => v = some (.int (rx_pv (rx_gI h 38) (rx_gI h 39) a b c)) ∧ h' = h) := by
  refine rx_T.to 5 5 [(0, .ref 53), (1, .int (nI a)), (2, .int (nI b)), (3, .int (nI c))] [.int (nI c), .int (nI a), .int (nI b), .int (nI a), .ref 53] h rfl ?_
  refine rx_T.callm (M := rxm_104) (N := rxm_105) (j := 105) (nest := 0) (as' := [.int (nI a), .int (nI b), .int (nI a), .int (nI c)]) (rest := []) rfl rfl rfl rfl rfl rfl rfl rfl (Nat.le_of_ble_eq_true rfl) (Nat.le_of_ble_eq_true rfl) hh (show 19 + 5 ≤ w by omega) (rx_cross (by omega) (by omega) (by omega) (by omega) hh) ?_
  intro v1 h1 hp
  obtain ⟨rfl, rfl⟩ := hp
  refine rx_T.to 2 10 [(0, .ref 53), (1, .int (nI a)), (2, .int (nI b)), (3, .int (nI c))] [.int (lg_cmp (rx_cr (rx_gI h1 38) (rx_gI h1 39) a b a c) ((Int64.ofNat 0)))] h1 rfl ?_
  refine rx_T.br1 (M := rxm_104) 17 rfl rfl (by decide) (fun q => ?_) (fun q => ?_)
  · have q0 := (rx_cmp0 _).mp (of_decide_eq_true q)
    refine rx_T.to 1 18 [(0, .ref 53), (1, .int (nI a)), (2, .int (nI b)), (3, .int (nI c))] [.int 0] h1 rfl ?_
    exact rx_T.ret (M := rxm_104) (v := some (.int 0)) rfl rfl rfl ⟨by unfold rx_pv; rw [if_pos q0], rfl⟩
  · have q0 : ¬ rx_cr (rx_gI h1 38) (rx_gI h1 39) a b a c = 0 := fun z => of_decide_eq_false q ((rx_cmp0 _).mpr z)
    refine rx_T.to 2 18 [(0, .ref 53), (1, .int (nI a)), (2, .int (nI b)), (3, .int (nI c))] [.int 1] h1 rfl ?_
    exact rx_T.ret (M := rxm_104) (v := some (.int 1)) rfl rfl rfl ⟨by unfold rx_pv; rw [if_neg q0], rfl⟩
theorem rx_ix144 (a b c : Nat) (ha : a < 12) (hb : b < 12) (hc : c < 12) : ((Int8.ofInt 12).toInt32 * nI a + nI b) * (Int8.ofInt 12).toInt32 + nI c = nI ((12 * a + b) * 12 + c) := by
  rw [rx_ix12 a b ha hb, show (Int8.ofInt 12).toInt32 = nI 12 by decide +kernel, rx_mulI (12 * a + b) 12 (by omega) (by omega) (by decide), nI_add]
set_option maxRecDepth 100000 in
set_option maxHeartbeats 4000000 in
theorem rx_circleOf {a b c : Nat} {h : rx_H} (ha : a < 12) (hb : b < 12) (hc : c < 12) (hh : rx_hin rx_I0 h) : rx_T rx_cds rx_ms rx_lk0 rt d w 123 0 [(0, .ref 53), (1, .int (nI a)), (2, .int (nI b)), (3, .int (nI c))] [] h (fun v h' => v = some (.int (rx_gI h 47 ((12 * a + b) * 12 + c))) ∧ h' = h) := by
  obtain ⟨f, e1, e2⟩ := rx_get_a (k := 47) hh rfl
  rw [rx_gI_at e1]
  refine rx_T.to 1 1 [(0, .ref 53), (1, .int (nI a)), (2, .int (nI b)), (3, .int (nI c))] [.ref 53] h rfl ?_
  refine rx_T.gfr (M := rxm_123) (k := 37) rfl rfl rfl hh rfl rfl ?_
  refine rx_T.to 9 15 [(0, .ref 53), (1, .int (nI a)), (2, .int (nI b)), (3, .int (nI c))] [.int (((((Int8.ofInt 12).toInt32 * (nI a)) + (nI b)) * (Int8.ofInt 12).toInt32) + (nI c)), .ref 63] h rfl ?_
  rw [rx_ix144 a b c ha hb hc]
  refine rx_T.iald (M := rxm_123) rfl rfl (rx_ri_i (k := 47) e1) (vp_in_nI (show (12 * a + b) * 12 + c < 1728 by omega) (by decide)) ?_
  rw [nI_clamp (show (12 * a + b) * 12 + c < 2 ^ 31 by omega)]
  exact rx_T.ret (M := rxm_123) (v := some (.int (f ((12 * a + b) * 12 + c)))) rfl rfl rfl ⟨rfl, rfl⟩
/-- three points of a set that lie on no line -/
def rx_c3 (X Y : Nat → Int32) (s : Int32) (a b c : Nat) : Prop := ¬ rx_hb s (nI a) = 0 ∧ ¬ rx_hb s (nI b) = 0 ∧ ¬ rx_hb s (nI c) = 0 ∧ ¬ rx_pv X Y a b c = 0
def rx_lx (a' b' c' a b c : Nat) : Prop := a' < a ∨ (a' = a ∧ (b' < b ∨ (b' = b ∧ c' < c)))
def rx_rc (X Y f : Nat → Int32) (s : Int32) (a b c : Nat) : Prop := rx_c3 X Y s a b c → f ((12 * a + b) * 12 + c) ||| s = s
def rx_rI (X Y f : Nat → Int32) (n : Nat) (s0 : Int32) (a b c : Nat) (s m : Int32) : Prop := (m = 1 ∧ s0.toBitVec.toNat < s.toBitVec.toNat) ∨ (m = 0 ∧ s = s0 ∧ ∀ a' b' c', a' < b' → b' < c' → c' < n → rx_lx a' b' c' a b c → rx_rc X Y f s a' b' c')
theorem rx_rI.to {X Y f : Nat → Int32} {n : Nat} {s0 s m : Int32} {a b c a2 b2 c2 : Nat} (h : rx_rI X Y f n s0 a b c s m) (hk : ∀ a' b' c', a' < b' → b' < c' → c' < n → rx_lx a' b' c' a2 b2 c2 → rx_lx a' b' c' a b c) : rx_rI X Y f n s0 a2 b2 c2 s m := by
  rcases h with h | ⟨h1, h2, h3⟩
  · exact Or.inl h
  · exact Or.inr ⟨h1, h2, fun a' b' c' p1 p2 p3 p4 => h3 a' b' c' p1 p2 p3 (hk a' b' c' p1 p2 p3 p4)⟩
set_option maxRecDepth 100000 in
set_option maxHeartbeats 4000000 in
theorem rx_rd_c {n a b : Nat} {s0 : Int32} {h : rx_H} {vs : List Value} (hab : a < b) (hb : b < n) (hn : n ≤ 7) (hw : 50 ≤ w) (hh : rx_hin rx_I0 h) (c1 : h[37]? = some (.inr (5, vs))) (c2 : vs[1]? = some (.int (nI n))) (K : ∀ s m, rx_rI (rx_gI h 38) (rx_gI h 39) (rx_gI h 47) n s0 a (b + 1) 0 s m → rx_T rx_cds rx_ms rx_lk0 rt (d + 2) w 122 129 [(5, .int (nI b)), (4, .int (nI a)), (3, .int m), (2, .int s), (0, .ref 53)] [] h P) : ∀ (q c : Nat) (s m : Int32), b < c → c + q = n → rx_rI (rx_gI h 38) (rx_gI h 39) (rx_gI h 47) n s0 a b c s m →
    rx_T rx_cds rx_ms rx_lk0 rt (d + 2) w 122 43 [(6, .int (nI c)), (5, .int (nI b)), (4, .int (nI a)), (3, .int m), (2, .int s), (0, .ref 53)] [] h P := by
  intro q
  induction q with
  | zero =>
    intro c s m hbc hc hi
    have ec : c = n := by omega
    subst ec
    refine rx_T.to 2 46 [(6, .int (nI c)), (5, .int (nI b)), (4, .int (nI a)), (3, .int m), (2, .int s), (0, .ref 53)] [.ref 53, .int (nI c)] h rfl ?_
    refine rx_T.gf (M := rxm_122) (k := 37) rfl rfl rfl c1 c2 ?_
    refine rx_T.op (M := rxm_122) (ins := .if_icmp .ge 80) rfl rfl rfl rfl (rx_b2_t 129 (decide_eq_true (nI_le (Nat.le_refl c) (by omega))) (by decide)) ?_
    refine rx_T.lv [(5, .int (nI b)), (4, .int (nI a)), (3, .int m), (2, .int s), (0, .ref 53)] ((((((rx_lvl.nil _).cons rfl rfl).cons rfl rfl).cons rfl rfl).cons rfl rfl).cons rfl rfl) ?_
    exact K s m (hi.to (fun a' b' c' p1 p2 p3 p4 => by unfold rx_lx at *; omega))
  | succ q ih =>
    intro c s m hbc hc hi
    have hcn : c < n := by omega
    have next : ∀ s' m', rx_rI (rx_gI h 38) (rx_gI h 39) (rx_gI h 47) n s0 a b (c + 1) s' m' → rx_T rx_cds rx_ms rx_lk0 rt (d + 2) w 122 123 [(6, .int (nI c)), (5, .int (nI b)), (4, .int (nI a)), (3, .int m'), (2, .int s'), (0, .ref 53)] [] h P := by
      intro s' m' hi'
      refine rx_T.to 2 43 [(6, .int ((nI c) + Int32.ofInt 1)), (5, .int (nI b)), (4, .int (nI a)), (3, .int m'), (2, .int s'), (0, .ref 53)] [] h rfl ?_
      rw [show nI c + Int32.ofInt 1 = nI (c + 1) from nI_1 c]
      exact ih (c + 1) s' m' (by omega) (by omega) hi'
    have skip : rx_rc (rx_gI h 38) (rx_gI h 39) (rx_gI h 47) s a b c → rx_T rx_cds rx_ms rx_lk0 rt (d + 2) w 122 123 [(6, .int (nI c)), (5, .int (nI b)), (4, .int (nI a)), (3, .int m), (2, .int s), (0, .ref 53)] [] h P := by
      intro hj
      refine next s m ?_
      rcases hi with hi | ⟨e1, e2, e3⟩
      · exact Or.inl hi
      · refine Or.inr ⟨e1, e2, fun a' b' c' p1 p2 p3 p4 => ?_⟩
        by_cases e : a' = a ∧ b' = b ∧ c' = c
        · rw [e.1, e.2.1, e.2.2]
          exact hj
        · exact e3 a' b' c' p1 p2 p3 (by unfold rx_lx at *; omega)
    refine rx_T.to 2 46 [(6, .int (nI c)), (5, .int (nI b)), (4, .int (nI a)), (3, .int m), (2, .int s), (0, .ref 53)] [.ref 53, .int (nI c)] h rfl ?_
    refine rx_T.gf (M := rxm_122) (k := 37) rfl rfl rfl c1 c2 ?_
    refine rx_T.op (M := rxm_122) (ins := .if_icmp .ge 80) rfl rfl rfl rfl (rx_b2_f (decide_eq_false (nI_ge hcn (by omega))) (by decide)) ?_
    refine rx_T.to 2 55 [(6, .int (nI c)), (5, .int (nI b)), (4, .int (nI a)), (3, .int m), (2, .int s), (0, .ref 53)] [.int (nI a), .int s] h rfl ?_
    refine rx_T.call (M := rxm_122) (N := rxm_121) (j := 121) (as := [.int s, .int (nI a)]) (rest := []) rfl rfl rfl rfl rfl (show 19 + 2 ≤ w by omega) rx_has_t ?_
    intro v1 h2 hp
    obtain ⟨rfl, rfl⟩ := hp
    refine rx_T.br1 (M := rxm_122) (x := rx_hb s (nI a)) 123 rfl rfl (by decide) (fun q1 => skip (fun z => absurd (of_decide_eq_true q1) z.1)) (fun q1 => ?_)
    refine rx_T.to 2 64 [(6, .int (nI c)), (5, .int (nI b)), (4, .int (nI a)), (3, .int m), (2, .int s), (0, .ref 53)] [.int (nI b), .int s] h2 rfl ?_
    refine rx_T.call (M := rxm_122) (N := rxm_121) (j := 121) (as := [.int s, .int (nI b)]) (rest := []) rfl rfl rfl rfl rfl (show 19 + 2 ≤ w by omega) rx_has_t ?_
    intro v2 h3 hp
    obtain ⟨rfl, rfl⟩ := hp
    refine rx_T.br1 (M := rxm_122) (x := rx_hb s (nI b)) 123 rfl rfl (by decide) (fun q2 => skip (fun z => absurd (of_decide_eq_true q2) z.2.1)) (fun q2 => ?_)
    refine rx_T.to 2 73 [(6, .int (nI c)), (5, .int (nI b)), (4, .int (nI a)), (3, .int m), (2, .int s), (0, .ref 53)] [.int (nI c), .int s] h3 rfl ?_
    refine rx_T.call (M := rxm_122) (N := rxm_121) (j := 121) (as := [.int s, .int (nI c)]) (rest := []) rfl rfl rfl rfl rfl (show 19 + 2 ≤ w by omega) rx_has_t ?_
    intro v3 h4 hp
    obtain ⟨rfl, rfl⟩ := hp
    refine rx_T.br1 (M := rxm_122) (x := rx_hb s (nI c)) 123 rfl rfl (by decide) (fun q3 => skip (fun z => absurd (of_decide_eq_true q3) z.2.2.1)) (fun q3 => ?_)
    refine rx_T.to 4 86 [(6, .int (nI c)), (5, .int (nI b)), (4, .int (nI a)), (3, .int m), (2, .int s), (0, .ref 53)] [.int (nI c), .int (nI b), .int (nI a), .ref 53] h4 rfl ?_
    refine rx_T.callm (M := rxm_122) (N := rxm_104) (j := 104) (nest := 0) (as' := [.int (nI a), .int (nI b), .int (nI c)]) (rest := []) rfl rfl rfl rfl rfl rfl rfl rfl (Nat.le_of_ble_eq_true rfl) (Nat.le_of_ble_eq_true rfl) hh (show 19 + 4 ≤ w by omega) (rx_isProper (by omega) (by omega) (by omega) (show 24 ≤ w - (19 + 4) by omega) hh) ?_
    intro v4 h5 hp
    obtain ⟨rfl, rfl⟩ := hp
    refine rx_T.br1 (M := rxm_122) (x := rx_pv (rx_gI h5 38) (rx_gI h5 39) a b c) 123 rfl rfl (by decide) (fun q4 => skip (fun z => absurd (of_decide_eq_true q4) z.2.2.2)) (fun q4 => ?_)
    refine rx_T.to 4 99 [(6, .int (nI c)), (5, .int (nI b)), (4, .int (nI a)), (3, .int m), (2, .int s), (0, .ref 53)] [.int (nI c), .int (nI b), .int (nI a), .ref 53] h5 rfl ?_
    refine rx_T.callm (M := rxm_122) (N := rxm_123) (j := 123) (nest := 0) (as' := [.int (nI a), .int (nI b), .int (nI c)]) (rest := []) rfl rfl rfl rfl rfl rfl rfl rfl (Nat.le_of_ble_eq_true rfl) (Nat.le_of_ble_eq_true rfl) hh (show 19 + 4 ≤ w by omega) (rx_circleOf (by omega) (by omega) (by omega) hh) ?_
    intro v5 h6 hp
    obtain ⟨rfl, rfl⟩ := hp
    refine rx_T.to 3 105 [(6, .int (nI c)), (5, .int (nI b)), (4, .int (nI a)), (3, .int m), (2, .int s), (0, .ref 53)] [.int s, .int ((rx_gI h6 47 ((12 * a + b) * 12 + c)) ||| s)] h6 rfl ?_
    refine rx_T.br2 (M := rxm_122) 123 rfl rfl (by decide) (fun q5 => skip (fun _ => of_decide_eq_true q5)) (fun q5 => ?_)
    refine rx_T.to 5 116 [(6, .int (nI c)), (5, .int (nI b)), (4, .int (nI a)), (3, .int m), (2, .int s), (0, .ref 53)] [.int (nI c), .int (nI b), .int (nI a), .ref 53, .int s] h6 rfl ?_
    refine rx_T.callm (M := rxm_122) (N := rxm_123) (j := 123) (nest := 0) (as' := [.int (nI a), .int (nI b), .int (nI c)]) (rest := [.int s]) rfl rfl rfl rfl rfl rfl rfl rfl (Nat.le_of_ble_eq_true rfl) (Nat.le_of_ble_eq_true rfl) hh (show 19 + 4 ≤ w by omega) (rx_circleOf (by omega) (by omega) (by omega) hh) ?_
    intro v6 h7 hp
    obtain ⟨rfl, rfl⟩ := hp
    refine rx_T.to 4 123 [(3, .int 1), (2, .int (s ||| (rx_gI h7 47 ((12 * a + b) * 12 + c)))), (6, .int (nI c)), (5, .int (nI b)), (4, .int (nI a)), (0, .ref 53)] [] h7 rfl ?_
    refine rx_T.lv [(6, .int (nI c)), (5, .int (nI b)), (4, .int (nI a)), (3, .int 1), (2, .int (s ||| (rx_gI h7 47 ((12 * a + b) * 12 + c)))), (0, .ref 53)] (((((((rx_lvl.nil _).cons rfl rfl).cons rfl rfl).cons rfl rfl).cons rfl rfl).cons rfl rfl).cons rfl rfl) ?_
    refine next _ 1 (Or.inl ⟨rfl, ?_⟩)
    have hlt := rx_or_lt (of_decide_eq_false q5)
    rcases hi with ⟨_, hi⟩ | ⟨_, e2, _⟩
    · omega
    · rw [← e2]
      exact hlt
set_option maxRecDepth 100000 in
set_option maxHeartbeats 4000000 in
theorem rx_rd_b {n a : Nat} {s0 : Int32} {h : rx_H} {vs : List Value} (ha : a < n) (hn : n ≤ 7) (hw : 50 ≤ w) (hh : rx_hin rx_I0 h) (c1 : h[37]? = some (.inr (5, vs))) (c2 : vs[1]? = some (.int (nI n))) (K : ∀ s m, rx_rI (rx_gI h 38) (rx_gI h 39) (rx_gI h 47) n s0 (a + 1) 0 0 s m → rx_T rx_cds rx_ms rx_lk0 rt (d + 2) w 122 135 [(4, .int (nI a)), (3, .int m), (2, .int s), (0, .ref 53)] [] h P) : ∀ (q b : Nat) (s m : Int32), a < b → b + q = n → rx_rI (rx_gI h 38) (rx_gI h 39) (rx_gI h 47) n s0 a b 0 s m →
    rx_T rx_cds rx_ms rx_lk0 rt (d + 2) w 122 28 [(5, .int (nI b)), (4, .int (nI a)), (3, .int m), (2, .int s), (0, .ref 53)] [] h P := by
  intro q
  induction q with
  | zero =>
    intro b s m hab hb hi
    have eb : b = n := by omega
    subst eb
    refine rx_T.to 2 31 [(5, .int (nI b)), (4, .int (nI a)), (3, .int m), (2, .int s), (0, .ref 53)] [.ref 53, .int (nI b)] h rfl ?_
    refine rx_T.gf (M := rxm_122) (k := 37) rfl rfl rfl c1 c2 ?_
    refine rx_T.op (M := rxm_122) (ins := .if_icmp .ge 101) rfl rfl rfl rfl (rx_b2_t 135 (decide_eq_true (nI_le (Nat.le_refl b) (by omega))) (by decide)) ?_
    refine rx_T.lv [(4, .int (nI a)), (3, .int m), (2, .int s), (0, .ref 53)] (((((rx_lvl.nil _).cons rfl rfl).cons rfl rfl).cons rfl rfl).cons rfl rfl) ?_
    exact K s m (hi.to (fun a' b' c' p1 p2 p3 p4 => by unfold rx_lx at *; omega))
  | succ q ih =>
    intro b s m hab hb hi
    have hbn : b < n := by omega
    refine rx_T.to 2 31 [(5, .int (nI b)), (4, .int (nI a)), (3, .int m), (2, .int s), (0, .ref 53)] [.ref 53, .int (nI b)] h rfl ?_
    refine rx_T.gf (M := rxm_122) (k := 37) rfl rfl rfl c1 c2 ?_
    refine rx_T.op (M := rxm_122) (ins := .if_icmp .ge 101) rfl rfl rfl rfl (rx_b2_f (decide_eq_false (nI_ge hbn (by omega))) (by decide)) ?_
    refine rx_T.to 4 43 [(6, .int ((nI b) + 1)), (5, .int (nI b)), (4, .int (nI a)), (3, .int m), (2, .int s), (0, .ref 53)] [] h rfl ?_
    rw [show nI b + 1 = nI (b + 1) from nI_1 b]
    refine rx_rd_c hab hbn hn hw hh c1 c2 (fun s' m' hi' => ?_) (n - (b + 1)) (b + 1) s m (by omega) (by omega) (hi.to (fun a' b' c' p1 p2 p3 p4 => by unfold rx_lx at *; omega))
    refine rx_T.to 2 28 [(5, .int ((nI b) + Int32.ofInt 1)), (4, .int (nI a)), (3, .int m'), (2, .int s'), (0, .ref 53)] [] h rfl ?_
    rw [show nI b + Int32.ofInt 1 = nI (b + 1) from nI_1 b]
    exact ih (b + 1) s' m' (by omega) (by omega) hi'
set_option maxRecDepth 100000 in
set_option maxHeartbeats 4000000 in
theorem rx_rd_a {n : Nat} {s0 : Int32} {h : rx_H} {vs : List Value} (hn : n ≤ 7) (hw : 50 ≤ w) (hh : rx_hin rx_I0 h) (c1 : h[37]? = some (.inr (5, vs))) (c2 : vs[1]? = some (.int (nI n))) (K : ∀ s m, rx_rI (rx_gI h 38) (rx_gI h 39) (rx_gI h 47) n s0 n 0 0 s m → rx_T rx_cds rx_ms rx_lk0 rt (d + 2) w 122 4 [(3, .int m), (2, .int s), (0, .ref 53)] [] h P) : ∀ (q a : Nat) (s m : Int32), a + q = n → rx_rI (rx_gI h 38) (rx_gI h 39) (rx_gI h 47) n s0 a 0 0 s m →
    rx_T rx_cds rx_ms rx_lk0 rt (d + 2) w 122 13 [(4, .int (nI a)), (3, .int m), (2, .int s), (0, .ref 53)] [] h P := by
  intro q
  induction q with
  | zero =>
    intro a s m ha hi
    have ea : a = n := by omega
    subst ea
    refine rx_T.to 2 16 [(4, .int (nI a)), (3, .int m), (2, .int s), (0, .ref 53)] [.ref 53, .int (nI a)] h rfl ?_
    refine rx_T.gf (M := rxm_122) (k := 37) rfl rfl rfl c1 c2 ?_
    refine rx_T.op (M := rxm_122) (ins := .if_icmp .ge 122) rfl rfl rfl rfl (rx_b2_t 141 (decide_eq_true (nI_le (Nat.le_refl a) (by omega))) (by decide)) ?_
    refine rx_T.to 1 4 [(4, .int (nI a)), (3, .int m), (2, .int s), (0, .ref 53)] [] h rfl ?_
    refine rx_T.lv [(3, .int m), (2, .int s), (0, .ref 53)] ((((rx_lvl.nil _).cons rfl rfl).cons rfl rfl).cons rfl rfl) ?_
    exact K s m hi
  | succ q ih =>
    intro a s m ha hi
    have han : a < n := by omega
    refine rx_T.to 2 16 [(4, .int (nI a)), (3, .int m), (2, .int s), (0, .ref 53)] [.ref 53, .int (nI a)] h rfl ?_
    refine rx_T.gf (M := rxm_122) (k := 37) rfl rfl rfl c1 c2 ?_
    refine rx_T.op (M := rxm_122) (ins := .if_icmp .ge 122) rfl rfl rfl rfl (rx_b2_f (decide_eq_false (nI_ge han (by omega))) (by decide)) ?_
    refine rx_T.to 4 28 [(5, .int ((nI a) + 1)), (4, .int (nI a)), (3, .int m), (2, .int s), (0, .ref 53)] [] h rfl ?_
    rw [show nI a + 1 = nI (a + 1) from nI_1 a]
    refine rx_rd_b han hn hw hh c1 c2 (fun s' m' hi' => ?_) (n - (a + 1)) (a + 1) s m (by omega) (by omega) (hi.to (fun a' b' c' p1 p2 p3 p4 => by unfold rx_lx at *; omega))
    refine rx_T.to 2 13 [(4, .int ((nI a) + Int32.ofInt 1)), (3, .int m'), (2, .int s'), (0, .ref 53)] [] h rfl ?_
    rw [show nI a + Int32.ofInt 1 = nI (a + 1) from nI_1 a]
    exact ih (a + 1) s' m' (by omega) hi'
set_option maxRecDepth 100000 in
set_option maxHeartbeats 4000000 in
theorem rx_rd_w {n : Nat} {h : rx_H} {vs : List Value} (hn : n ≤ 7) (hw : 50 ≤ w) (hh : rx_hin rx_I0 h) (c1 : h[37]? = some (.inr (5, vs))) (c2 : vs[1]? = some (.int (nI n))) (K : ∀ s, (∀ a b c, a < b → b < c → c < n → rx_rc (rx_gI h 38) (rx_gI h 39) (rx_gI h 47) s a b c) → rx_T rx_cds rx_ms rx_lk0 rt (d + 2) w 122 144 [(2, .int s), (0, .ref 53)] [] h P) : ∀ (z : Nat) (s : Int32), 4294967296 - s.toBitVec.toNat ≤ z →
    rx_T rx_cds rx_ms rx_lk0 rt (d + 2) w 122 4 [(3, .int 1), (2, .int s), (0, .ref 53)] [] h P := by
  intro z
  induction z with
  | zero =>
    intro s hz
    exact absurd s.toBitVec.isLt (by omega)
  | succ z ih =>
    intro s hz
    refine rx_T.to 1 5 [(3, .int 1), (2, .int s), (0, .ref 53)] [.int 1] h rfl ?_
    refine rx_T.op (M := rxm_122) (ins := .ifCond .eq 139) rfl rfl rfl rfl (rx_b1_f (by decide) (by decide)) ?_
    refine rx_T.to 4 13 [(4, .int (nI 0)), (3, .int 0), (2, .int s), (0, .ref 53)] [] h rfl ?_
    refine rx_rd_a (s0 := s) hn hw hh c1 c2 (fun s' m' hi => ?_) n 0 s 0 (by omega) (Or.inr ⟨rfl, rfl, fun a' b' c' _ _ _ p => absurd p (by unfold rx_lx; omega)⟩)
    rcases hi with ⟨rfl, hlt⟩ | ⟨rfl, rfl, hcl⟩
    · have := s'.toBitVec.isLt
      exact ih s' (by omega)
    · refine rx_T.to 1 5 [(3, .int 0), (2, .int s'), (0, .ref 53)] [.int 0] h rfl ?_
      refine rx_T.op (M := rxm_122) (ins := .ifCond .eq 139) rfl rfl rfl rfl (rx_b1_t 144 (by decide) (by decide)) ?_
      refine rx_T.lv [(2, .int s'), (0, .ref 53)] (((rx_lvl.nil _).cons rfl rfl).cons rfl rfl) ?_
      exact K s' (fun a b c p1 p2 p3 => hcl a b c p1 p2 p3 (by unfold rx_lx; omega))
end RXRA
