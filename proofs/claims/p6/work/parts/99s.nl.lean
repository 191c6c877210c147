section RXNL
variable {rt : rx_R} {d w : Nat} {P : Option Value → rx_H → Prop}
/-- numberLines: the columns alone change -/
def rx_Fl (h h' : rx_H) : Prop := (∀ z, ¬ z = 37 → ¬ z = 49 → h'[z]? = h[z]?) ∧ (∀ j, ¬ j = 19 → rx_gF h' 37 j = rx_gF h 37 j)
theorem rx_Fl.refl (h : rx_H) : rx_Fl h h := ⟨fun _ _ _ => rfl, fun _ _ => rfl⟩
theorem rx_Fl.trans {a b c : rx_H} (h1 : rx_Fl a b) (h2 : rx_Fl b c) : rx_Fl a c := ⟨fun z z1 z2 => (h2.1 z z1 z2).trans (h1.1 z z1 z2), fun j hj => (h2.2 j hj).trans (h1.2 j hj)⟩
/-- so many pairs begin below a -/
def rx_tt (a : Nat) : Nat := [0, 6, 11, 15, 18, 20, 21, 21].getD a 21
theorem rx_tt_1 : ∀ a : Nat, a < 7 → ∀ b : Nat, b < 7 → a < b → rx_tt a + (b - a - 1) ≤ 20 := by decide
theorem rx_tt_2 : ∀ a : Nat, a < 7 → rx_tt a + (7 - a - 1) ≤ rx_tt (a + 1) := by decide
theorem rx_tt_3 : ∀ a : Nat, a < 8 → rx_tt a ≤ 21 := by decide
set_option maxRecDepth 100000 in
set_option maxHeartbeats 4000000 in
theorem rx_nl_e {n a b c : Nat} {h : rx_H} {vs : List Value} (ha : a < 7) (hb : b < 7) (hc : c < n) (hn : n ≤ 7) (hw : 30 ≤ w) (hh : rx_hin rx_I0 h) (c1 : h[37]? = some (.inr (5, vs))) (c2 : vs[1]? = some (.int (nI n))) (K : ∀ f : Int32, -1 ≤ (f).toInt → (f).toInt ≤ 20 → rx_T rx_cds rx_ms rx_lk0 rt (d + 1) w 115 131 [(4, .int (nI c)), (3, .int f), (2, .int (nI b)), (1, .int (nI a)), (0, .ref 53)] [] h P) : ∀ (q e : Nat) (f : Int32), e + q = n → -1 ≤ (f).toInt → (f).toInt ≤ 20 →
    rx_T rx_cds rx_ms rx_lk0 rt (d + 1) w 115 51 [(5, .int (nI e)), (4, .int (nI c)), (3, .int f), (2, .int (nI b)), (1, .int (nI a)), (0, .ref 53)] [] h P := by
  intro q
  induction q with
  | zero =>
    intro e f he h1f h2f
    have ee : e = n := by omega
    subst ee
    refine rx_T.to 2 54 [(5, .int (nI e)), (4, .int (nI c)), (3, .int f), (2, .int (nI b)), (1, .int (nI a)), (0, .ref 53)] [.ref 53, .int (nI e)] h rfl ?_
    refine rx_T.gf (M := rxm_115) (k := 37) rfl rfl rfl c1 c2 ?_
    refine rx_T.op (M := rxm_115) (ins := .if_icmp .ge 74) rfl rfl rfl rfl (rx_b2_t 131 (decide_eq_true (nI_le (Nat.le_refl e) (by omega))) (by decide)) ?_
    refine rx_T.lv [(4, .int (nI c)), (3, .int f), (2, .int (nI b)), (1, .int (nI a)), (0, .ref 53)] ((((((rx_lvl.nil _).cons rfl rfl).cons rfl rfl).cons rfl rfl).cons rfl rfl).cons rfl rfl) ?_
    exact K f h1f h2f
  | succ q ih =>
    intro e f he h1f h2f
    have hen : e < n := by omega
    have next : ∀ f' : Int32, -1 ≤ (f').toInt → (f').toInt ≤ 20 → rx_T rx_cds rx_ms rx_lk0 rt (d + 1) w 115 125 [(5, .int (nI e)), (4, .int (nI c)), (3, .int f'), (2, .int (nI b)), (1, .int (nI a)), (0, .ref 53)] [] h P := by
      intro f' p1 p2
      refine rx_T.to 2 51 [(5, .int ((nI e) + Int32.ofInt 1)), (4, .int (nI c)), (3, .int f'), (2, .int (nI b)), (1, .int (nI a)), (0, .ref 53)] [] h rfl ?_
      rw [show nI e + Int32.ofInt 1 = nI (e + 1) from nI_1 e]
      exact ih (e + 1) f' (by omega) p1 p2
    have at94 : rx_T rx_cds rx_ms rx_lk0 rt (d + 1) w 115 94 [(5, .int (nI e)), (4, .int (nI c)), (3, .int f), (2, .int (nI b)), (1, .int (nI a)), (0, .ref 53)] [] h P := by
      refine rx_T.to 3 99 [(5, .int (nI e)), (4, .int (nI c)), (3, .int f), (2, .int (nI b)), (1, .int (nI a)), (0, .ref 53)] [.int (nI e), .int (nI c), .ref 53] h rfl ?_
      refine rx_T.callm (M := rxm_115) (N := rxm_116) (j := 116) (nest := 0) (as' := [.int (nI c), .int (nI e)]) (rest := []) rfl rfl rfl rfl rfl rfl rfl rfl (Nat.le_of_ble_eq_true rfl) (Nat.le_of_ble_eq_true rfl) hh (show 19 + 3 ≤ w by omega) (rx_lineOf (by omega) (by omega) hh) ?_
      intro v1 h1 hp
      obtain ⟨rfl, rfl⟩ := hp
      refine rx_T.to 3 105 [(5, .int (nI e)), (4, .int (nI c)), (3, .int f), (2, .int (nI b)), (1, .int (nI a)), (0, .ref 53)] [.int (nI b), .int (nI a), .ref 53, .int (rx_gI h1 46 (12 * c + e))] h1 rfl ?_
      refine rx_T.callm (M := rxm_115) (N := rxm_116) (j := 116) (nest := 0) (as' := [.int (nI a), .int (nI b)]) (rest := [.int (rx_gI h1 46 (12 * c + e))]) rfl rfl rfl rfl rfl rfl rfl rfl (Nat.le_of_ble_eq_true rfl) (Nat.le_of_ble_eq_true rfl) hh (show 19 + 3 ≤ w by omega) (rx_lineOf (by omega) (by omega) hh) ?_
      intro v2 h2 hp
      obtain ⟨rfl, rfl⟩ := hp
      refine rx_T.br2 (M := rxm_115) 125 rfl rfl (by decide) (fun _ => next f h1f h2f) (fun _ => ?_)
      obtain ⟨g, g1, g2⟩ := rx_get_a (k := 49) hh rfl
      refine rx_T.to 1 112 [(5, .int (nI e)), (4, .int (nI c)), (3, .int f), (2, .int (nI b)), (1, .int (nI a)), (0, .ref 53)] [.ref 53] h2 rfl ?_
      refine rx_T.gfr (M := rxm_115) (k := 37) rfl rfl rfl hh rfl rfl ?_
      refine rx_T.to 5 123 [(5, .int (nI e)), (4, .int (nI c)), (3, .int f), (2, .int (nI b)), (1, .int (nI a)), (0, .ref 53)] [.int (((Int8.ofInt 12).toInt32 * (nI c)) + (nI e)), .ref 65] h2 rfl ?_
      rw [rx_ix12 c e (by omega) (by omega)]
      refine rx_T.iald (M := rxm_115) rfl rfl (rx_ri_i (k := 49) g1) (vp_in_nI (show 12 * c + e < 144 by omega) (by decide)) ?_
      rw [nI_clamp (show 12 * c + e < 2 ^ 31 by omega)]
      refine rx_T.to 1 125 [(3, .int (g (12 * c + e))), (5, .int (nI e)), (4, .int (nI c)), (2, .int (nI b)), (1, .int (nI a)), (0, .ref 53)] [] h2 rfl ?_
      refine rx_T.lv [(5, .int (nI e)), (4, .int (nI c)), (3, .int (g (12 * c + e))), (2, .int (nI b)), (1, .int (nI a)), (0, .ref 53)] (((((((rx_lvl.nil _).cons rfl rfl).cons rfl rfl).cons rfl rfl).cons rfl rfl).cons rfl rfl).cons rfl rfl) ?_
      have b := g2 (12 * c + e) (by omega)
      exact next _ (by omega) b.2
    have at82 : rx_T rx_cds rx_ms rx_lk0 rt (d + 1) w 115 82 [(5, .int (nI e)), (4, .int (nI c)), (3, .int f), (2, .int (nI b)), (1, .int (nI a)), (0, .ref 53)] [] h P := by
      refine rx_T.to 4 91 [(6, .int 1), (5, .int (nI e)), (4, .int (nI c)), (3, .int f), (2, .int (nI b)), (1, .int (nI a)), (0, .ref 53)] [.int 1] h rfl ?_
      refine rx_T.op (M := rxm_115) (ins := .ifCond .eq 34) rfl rfl rfl rfl (rx_b1_f (by decide) (by decide)) ?_
      refine rx_T.lv [(5, .int (nI e)), (4, .int (nI c)), (3, .int f), (2, .int (nI b)), (1, .int (nI a)), (0, .ref 53)] (((((((rx_lvl.nil _).cons rfl rfl).cons rfl rfl).cons rfl rfl).cons rfl rfl).cons rfl rfl).cons rfl rfl) ?_
      exact at94
    have at86 : rx_T rx_cds rx_ms rx_lk0 rt (d + 1) w 115 86 [(5, .int (nI e)), (4, .int (nI c)), (3, .int f), (2, .int (nI b)), (1, .int (nI a)), (0, .ref 53)] [] h P := by
      refine rx_T.to 3 91 [(6, .int 0), (5, .int (nI e)), (4, .int (nI c)), (3, .int f), (2, .int (nI b)), (1, .int (nI a)), (0, .ref 53)] [.int 0] h rfl ?_
      refine rx_T.op (M := rxm_115) (ins := .ifCond .eq 34) rfl rfl rfl rfl (rx_b1_t 125 (by decide) (by decide)) ?_
      refine rx_T.lv [(5, .int (nI e)), (4, .int (nI c)), (3, .int f), (2, .int (nI b)), (1, .int (nI a)), (0, .ref 53)] (((((((rx_lvl.nil _).cons rfl rfl).cons rfl rfl).cons rfl rfl).cons rfl rfl).cons rfl rfl).cons rfl rfl) ?_
      exact next f h1f h2f
    refine rx_T.to 2 54 [(5, .int (nI e)), (4, .int (nI c)), (3, .int f), (2, .int (nI b)), (1, .int (nI a)), (0, .ref 53)] [.ref 53, .int (nI e)] h rfl ?_
    refine rx_T.gf (M := rxm_115) (k := 37) rfl rfl rfl c1 c2 ?_
    refine rx_T.op (M := rxm_115) (ins := .if_icmp .ge 74) rfl rfl rfl rfl (rx_b2_f (decide_eq_false (nI_ge hen (by omega))) (by decide)) ?_
    refine rx_T.to 1 61 [(5, .int (nI e)), (4, .int (nI c)), (3, .int f), (2, .int (nI b)), (1, .int (nI a)), (0, .ref 53)] [.int f] h rfl ?_
    refine rx_T.br1 (M := rxm_115) 131 rfl rfl (by decide) (fun _ => ?_) (fun _ => ?_)
    · refine rx_T.lv [(4, .int (nI c)), (3, .int f), (2, .int (nI b)), (1, .int (nI a)), (0, .ref 53)] ((((((rx_lvl.nil _).cons rfl rfl).cons rfl rfl).cons rfl rfl).cons rfl rfl).cons rfl rfl) ?_
      exact K f h1f h2f
    · refine rx_T.to 2 67 [(5, .int (nI e)), (4, .int (nI c)), (3, .int f), (2, .int (nI b)), (1, .int (nI a)), (0, .ref 53)] [.int (nI a), .int (nI c)] h rfl ?_
      refine rx_T.br2 (M := rxm_115) 82 rfl rfl (by decide) (fun _ => at82) (fun _ => ?_)
      refine rx_T.to 2 73 [(5, .int (nI e)), (4, .int (nI c)), (3, .int f), (2, .int (nI b)), (1, .int (nI a)), (0, .ref 53)] [.int (nI a), .int (nI c)] h rfl ?_
      refine rx_T.br2 (M := rxm_115) 86 rfl rfl (by decide) (fun _ => at86) (fun _ => ?_)
      refine rx_T.to 2 79 [(5, .int (nI e)), (4, .int (nI c)), (3, .int f), (2, .int (nI b)), (1, .int (nI a)), (0, .ref 53)] [.int (nI b), .int (nI e)] h rfl ?_
      refine rx_T.br2 (M := rxm_115) 86 rfl rfl (by decide) (fun _ => at86) (fun _ => at82)
set_option maxRecDepth 100000 in
set_option maxHeartbeats 4000000 in
theorem rx_nl_c {n a b : Nat} {h : rx_H} {vs : List Value} (ha : a < 7) (hb : b < 7) (hn : n ≤ 7) (hw : 30 ≤ w) (hh : rx_hin rx_I0 h) (c1 : h[37]? = some (.inr (5, vs))) (c2 : vs[1]? = some (.int (nI n))) (K : ∀ f : Int32, -1 ≤ (f).toInt → (f).toInt ≤ 20 → rx_T rx_cds rx_ms rx_lk0 rt (d + 1) w 115 137 [(3, .int f), (2, .int (nI b)), (1, .int (nI a)), (0, .ref 53)] [] h P) : ∀ (q c : Nat) (f : Int32), c + q = n → -1 ≤ (f).toInt → (f).toInt ≤ 20 →
    rx_T rx_cds rx_ms rx_lk0 rt (d + 1) w 115 32 [(4, .int (nI c)), (3, .int f), (2, .int (nI b)), (1, .int (nI a)), (0, .ref 53)] [] h P := by
  intro q
  induction q with
  | zero =>
    intro c f hc h1f h2f
    have ec : c = n := by omega
    subst ec
    refine rx_T.to 2 35 [(4, .int (nI c)), (3, .int f), (2, .int (nI b)), (1, .int (nI a)), (0, .ref 53)] [.ref 53, .int (nI c)] h rfl ?_
    refine rx_T.gf (M := rxm_115) (k := 37) rfl rfl rfl c1 c2 ?_
    refine rx_T.op (M := rxm_115) (ins := .if_icmp .ge 99) rfl rfl rfl rfl (rx_b2_t 137 (decide_eq_true (nI_le (Nat.le_refl c) (by omega))) (by decide)) ?_
    refine rx_T.lv [(3, .int f), (2, .int (nI b)), (1, .int (nI a)), (0, .ref 53)] (((((rx_lvl.nil _).cons rfl rfl).cons rfl rfl).cons rfl rfl).cons rfl rfl) ?_
    exact K f h1f h2f
  | succ q ih =>
    intro c f hc h1f h2f
    have hcn : c < n := by omega
    refine rx_T.to 2 35 [(4, .int (nI c)), (3, .int f), (2, .int (nI b)), (1, .int (nI a)), (0, .ref 53)] [.ref 53, .int (nI c)] h rfl ?_
    refine rx_T.gf (M := rxm_115) (k := 37) rfl rfl rfl c1 c2 ?_
    refine rx_T.op (M := rxm_115) (ins := .if_icmp .ge 99) rfl rfl rfl rfl (rx_b2_f (decide_eq_false (nI_ge hcn (by omega))) (by decide)) ?_
    refine rx_T.to 1 42 [(4, .int (nI c)), (3, .int f), (2, .int (nI b)), (1, .int (nI a)), (0, .ref 53)] [.int f] h rfl ?_
    refine rx_T.br1 (M := rxm_115) 137 rfl rfl (by decide) (fun _ => ?_) (fun _ => ?_)
    · refine rx_T.lv [(3, .int f), (2, .int (nI b)), (1, .int (nI a)), (0, .ref 53)] (((((rx_lvl.nil _).cons rfl rfl).cons rfl rfl).cons rfl rfl).cons rfl rfl) ?_
      exact K f h1f h2f
    · refine rx_T.to 4 51 [(5, .int ((nI c) + 1)), (4, .int (nI c)), (3, .int f), (2, .int (nI b)), (1, .int (nI a)), (0, .ref 53)] [] h rfl ?_
      rw [show nI c + 1 = nI (c + 1) from nI_1 c]
      refine rx_nl_e ha hb hcn hn hw hh c1 c2 (fun f' p1 p2 => ?_) (n - (c + 1)) (c + 1) f (by omega) h1f h2f
      refine rx_T.to 2 32 [(4, .int ((nI c) + Int32.ofInt 1)), (3, .int f'), (2, .int (nI b)), (1, .int (nI a)), (0, .ref 53)] [] h rfl ?_
      rw [show nI c + Int32.ofInt 1 = nI (c + 1) from nI_1 c]
      exact ih (c + 1) f' (by omega) p1 p2
set_option maxRecDepth 100000 in
set_option maxHeartbeats 4000000 in
theorem rx_nl_s {a b : Nat} {f : Int32} {h : rx_H} (ha : a < 7) (hb : b < 7) (h1f : 0 ≤ f.toInt) (h2f : f.toInt ≤ 20) (hh : rx_hin rx_I0 h) (K : ∀ h', rx_hin rx_I0 h' → rx_Fl h h' → rx_gF h' 37 19 = rx_gF h 37 19 → rx_T rx_cds rx_ms rx_lk0 rt (d + 1) w 115 180 [(2, .int (nI b)), (1, .int (nI a)), (0, .ref 53)] [] h' P) : rx_T rx_cds rx_ms rx_lk0 rt (d + 1) w 115 156 [(3, .int f), (2, .int (nI b)), (1, .int (nI a)), (0, .ref 53)] [] h P := by
  obtain ⟨g, g1, g2⟩ := rx_get_a (k := 49) hh rfl
  refine rx_T.to 1 157 [(3, .int f), (2, .int (nI b)), (1, .int (nI a)), (0, .ref 53)] [.ref 53] h rfl ?_
  refine rx_T.gfr (M := rxm_115) (k := 37) rfl rfl rfl hh rfl rfl ?_
  refine rx_T.to 6 167 [(3, .int f), (2, .int (nI b)), (1, .int (nI a)), (0, .ref 53)] [.int f, .int (((Int8.ofInt 12).toInt32 * (nI a)) + (nI b)), .ref 65] h rfl ?_
  rw [rx_ix12 a b (by omega) (by omega)]
  refine rx_T.iast (M := rxm_115) (a := 49) rfl rfl g1 (vp_in_nI (show 12 * a + b < 144 by omega) (by decide)) ?_
  have hh2 := rx_hin_set hh (k := 49) (c := .inl (0, 144, .inl (upd g (nI (12 * a + b)).toNatClampNeg f))) rfl ⟨_, rfl, fun j hj => rx_upd_b h1f h2f (g2 j hj)⟩
  have e2 : ∀ z, ¬ z = 49 → (h.set 49 (.inl (0, 144, .inl (upd g (nI (12 * a + b)).toNatClampNeg f))))[z]? = h[z]? := fun z hz => List.getElem?_set_ne (fun y => hz y.symm)
  generalize h.set 49 (.inl (0, 144, .inl (upd g (nI (12 * a + b)).toNatClampNeg f))) = h2 at *
  obtain ⟨k, k1, k2⟩ := rx_get_a (k := 49) hh2 rfl
  refine rx_T.to 1 169 [(3, .int f), (2, .int (nI b)), (1, .int (nI a)), (0, .ref 53)] [.ref 53] h2 rfl ?_
  refine rx_T.gfr (M := rxm_115) (k := 37) rfl rfl rfl hh2 rfl rfl ?_
  refine rx_T.to 6 179 [(3, .int f), (2, .int (nI b)), (1, .int (nI a)), (0, .ref 53)] [.int f, .int (((Int8.ofInt 12).toInt32 * (nI b)) + (nI a)), .ref 65] h2 rfl ?_
  rw [rx_ix12 b a (by omega) (by omega)]
  refine rx_T.iast (M := rxm_115) (a := 49) rfl rfl k1 (vp_in_nI (show 12 * b + a < 144 by omega) (by decide)) ?_
  have hh3 := rx_hin_set hh2 (k := 49) (c := .inl (0, 144, .inl (upd k (nI (12 * b + a)).toNatClampNeg f))) rfl ⟨_, rfl, fun j hj => rx_upd_b h1f h2f (k2 j hj)⟩
  have e3 : ∀ z, ¬ z = 49 → (h2.set 49 (.inl (0, 144, .inl (upd k (nI (12 * b + a)).toNatClampNeg f))))[z]? = h2[z]? := fun z hz => List.getElem?_set_ne (fun y => hz y.symm)
  generalize h2.set 49 (.inl (0, 144, .inl (upd k (nI (12 * b + a)).toNatClampNeg f))) = h3 at *
  refine rx_T.lv [(2, .int (nI b)), (1, .int (nI a)), (0, .ref 53)] ((((rx_lvl.nil _).cons rfl rfl).cons rfl rfl).cons rfl rfl) ?_
  exact K h3 hh3 ⟨fun z _ z2 => (e3 z z2).trans (e2 z z2), fun j _ => rx_gF_of ((e3 37 (by decide)).trans (e2 37 (by decide)))⟩ (rx_gF_of ((e3 37 (by decide)).trans (e2 37 (by decide))))
set_option maxRecDepth 100000 in
set_option maxHeartbeats 4000000 in
theorem rx_nl_b {n a : Nat} {h0 : rx_H} (hn : n ≤ 7) (hw : 30 ≤ w) (ha : a < n) (en : rx_gF h0 37 1 = nI n) (K : ∀ h m, rx_hin rx_I0 h → rx_Fl h0 h → rx_gF h 37 19 = nI m → m ≤ rx_tt (a + 1) → rx_T rx_cds rx_ms rx_lk0 rt (d + 1) w 115 186 [(1, .int (nI a)), (0, .ref 53)] [] h P) : ∀ (q b : Nat) (h : rx_H) (m : Nat), a < b → b + q = n → rx_hin rx_I0 h → rx_Fl h0 h → rx_gF h 37 19 = nI m → m ≤ rx_tt a + (b - a - 1) →
    rx_T rx_cds rx_ms rx_lk0 rt (d + 1) w 115 19 [(2, .int (nI b)), (1, .int (nI a)), (0, .ref 53)] [] h P := by
  intro q
  induction q with
  | zero =>
    intro b h m hab hb hh hF em hm
    have eb : b = n := by omega
    subst eb
    have en1 : rx_gF h 37 1 = nI b := (hF.2 1 (by decide)).trans en
    obtain ⟨vs, c1, c2⟩ := rx_gF_f hh en1
    refine rx_T.to 2 21 [(2, .int (nI b)), (1, .int (nI a)), (0, .ref 53)] [.ref 53, .int (nI b)] h rfl ?_
    refine rx_T.gf (M := rxm_115) (k := 37) rfl rfl rfl c1 c2 ?_
    refine rx_T.op (M := rxm_115) (ins := .if_icmp .ge 162) rfl rfl rfl rfl (rx_b2_t 186 (decide_eq_true (nI_le (Nat.le_refl b) (by omega))) (by decide)) ?_
    refine rx_T.lv [(1, .int (nI a)), (0, .ref 53)] (((rx_lvl.nil _).cons rfl rfl).cons rfl rfl) ?_
    exact K h m hh hF em (by have := rx_tt_2 a (by omega); omega)
  | succ q ih =>
    intro b h m hab hb hh hF em hm
    have hbn : b < n := by omega
    have hm20 : m ≤ 20 := by have := rx_tt_1 a (by omega) b (by omega) hab; omega
    have next : ∀ h' m', rx_hin rx_I0 h' → rx_Fl h0 h' → rx_gF h' 37 19 = nI m' → m' ≤ m + 1 → rx_T rx_cds rx_ms rx_lk0 rt (d + 1) w 115 180 [(2, .int (nI b)), (1, .int (nI a)), (0, .ref 53)] [] h' P := by
      intro h' m' hh' hF' em' hm'
      refine rx_T.to 2 19 [(2, .int ((nI b) + Int32.ofInt 1)), (1, .int (nI a)), (0, .ref 53)] [] h' rfl ?_
      rw [show nI b + Int32.ofInt 1 = nI (b + 1) from nI_1 b]
      exact ih (b + 1) h' m' (by omega) (by omega) hh' hF' em' (by omega)
    have en1 : rx_gF h 37 1 = nI n := (hF.2 1 (by decide)).trans en
    obtain ⟨vs, c1, c2⟩ := rx_gF_f hh en1
    refine rx_T.to 2 21 [(2, .int (nI b)), (1, .int (nI a)), (0, .ref 53)] [.ref 53, .int (nI b)] h rfl ?_
    refine rx_T.gf (M := rxm_115) (k := 37) rfl rfl rfl c1 c2 ?_
    refine rx_T.op (M := rxm_115) (ins := .if_icmp .ge 162) rfl rfl rfl rfl (rx_b2_f (decide_eq_false (nI_ge hbn (by omega))) (by decide)) ?_
    refine rx_T.to 4 32 [(4, .int (nI 0)), (3, .int (-1)), (2, .int (nI b)), (1, .int (nI a)), (0, .ref 53)] [] h rfl ?_
    refine rx_nl_c (by omega) (by omega) hn hw hh c1 c2 (fun f h1f h2f => ?_) n 0 (-1) (by omega) (by decide) (by decide)
    refine rx_T.to 1 138 [(3, .int f), (2, .int (nI b)), (1, .int (nI a)), (0, .ref 53)] [.int f] h rfl ?_
    refine rx_T.br1 (M := rxm_115) 156 rfl rfl (by decide) (fun q0 => ?_) (fun q0 => ?_)
    · have q1 : 0 ≤ f.toInt := Int32.le_iff_toInt_le.mp (of_decide_eq_true q0)
      exact rx_nl_s (by omega) (by omega) q1 h2f hh (fun h' a1 a2 a3 => next h' m a1 (hF.trans a2) (a3.trans em) (by omega))
    · obtain ⟨ws, w1, d2, w3⟩ := rx_get_o hh (k := 37) rfl
      rw [c1] at w1
      cases w1
      obtain ⟨v, d3, y, rfl, _, _⟩ := w3 19 _ rfl
      have ey := rx_gF_at c1 d3
      rw [em] at ey
      subst ey
      refine rx_T.to 1 142 [(3, .int f), (2, .int (nI b)), (1, .int (nI a)), (0, .ref 53)] [.ref 53] h rfl ?_
      refine rx_T.gf (M := rxm_115) (k := 37) rfl rfl rfl c1 d3 ?_
      refine rx_T.to 3 148 [(3, .int (nI m)), (2, .int (nI b)), (1, .int (nI a)), (0, .ref 53)] [.ref 53, .ref 53] h rfl ?_
      refine rx_T.gf (M := rxm_115) (k := 37) rfl rfl rfl c1 d3 ?_
      refine rx_T.to 2 153 [(3, .int (nI m)), (2, .int (nI b)), (1, .int (nI a)), (0, .ref 53)] [.int ((nI m) + 1), .ref 53] h rfl ?_
      refine rx_T.pf (M := rxm_115) (k := 37) rfl rfl rfl c1 (by rw [d2]; decide) rfl ?_
      refine rx_T.lv [(3, .int (nI m)), (2, .int (nI b)), (1, .int (nI a)), (0, .ref 53)] (((((rx_lvl.nil _).cons rfl rfl).cons rfl rfl).cons rfl rfl).cons rfl rfl) ?_
      have e1 : nI m + 1 = nI (m + 1) := nI_1 m
      have hh2 := rx_hin_fld (i := 19) (x := nI m + 1) hh c1 (fun fs hfs => by cases hfs; rfl) (by rw [e1, nI_toInt (by omega)]; omega) (by rw [e1, nI_toInt (by omega)]; omega)
      have f2 := rx_gF_new (x := nI m + 1) c1 (show 19 < vs.length by rw [d2]; decide)
      have hF2 : rx_Fl h (h.set 37 (.inr (5, vs.set 19 (.int (nI m + 1))))) := ⟨fun z z1 _ => List.getElem?_set_ne (fun y => z1 y.symm), fun j hj => rx_gF_set c1 (fun y => hj y.symm)⟩
      refine rx_nl_s (by omega) (by omega) (by rw [nI_toInt (by omega)]; omega) (by rw [nI_toInt (by omega)]; omega) hh2 (fun h' a1 a2 a3 => next h' (m + 1) a1 ((hF.trans hF2).trans a2) (a3.trans (f2.trans e1)) (Nat.le_refl _))
set_option maxRecDepth 100000 in
set_option maxHeartbeats 4000000 in
theorem rx_nl_a {n : Nat} {h0 : rx_H} (hn : n ≤ 7) (hw : 30 ≤ w) (en : rx_gF h0 37 1 = nI n) : ∀ (q a : Nat) (h : rx_H) (m : Nat), a + q = n → rx_hin rx_I0 h → rx_Fl h0 h → rx_gF h 37 19 = nI m → m ≤ rx_tt a →
    rx_T rx_cds rx_ms rx_lk0 rt (d + 1) w 115 7 [(1, .int (nI a)), (0, .ref 53)] [] h (fun v h' => v = none ∧ rx_hin rx_I0 h' ∧ rx_Fl h0 h') := by
  intro q
  induction q with
  | zero =>
    intro a h m ha hh hF em hm
    have ea : a = n := by omega
    subst ea
    have en1 : rx_gF h 37 1 = nI a := (hF.2 1 (by decide)).trans en
    obtain ⟨vs, c1, c2⟩ := rx_gF_f hh en1
    refine rx_T.to 2 9 [(1, .int (nI a)), (0, .ref 53)] [.ref 53, .int (nI a)] h rfl ?_
    refine rx_T.gf (M := rxm_115) (k := 37) rfl rfl rfl c1 c2 ?_
    refine rx_T.op (M := rxm_115) (ins := .if_icmp .ge 180) rfl rfl rfl rfl (rx_b2_t 192 (decide_eq_true (nI_le (Nat.le_refl a) (by omega))) (by decide)) ?_
    exact rx_T.ret (M := rxm_115) (v := none) rfl rfl rfl ⟨rfl, hh, hF⟩
  | succ q ih =>
    intro a h m ha hh hF em hm
    have han : a < n := by omega
    have en1 : rx_gF h 37 1 = nI n := (hF.2 1 (by decide)).trans en
    obtain ⟨vs, c1, c2⟩ := rx_gF_f hh en1
    refine rx_T.to 2 9 [(1, .int (nI a)), (0, .ref 53)] [.ref 53, .int (nI a)] h rfl ?_
    refine rx_T.gf (M := rxm_115) (k := 37) rfl rfl rfl c1 c2 ?_
    refine rx_T.op (M := rxm_115) (ins := .if_icmp .ge 180) rfl rfl rfl rfl (rx_b2_f (decide_eq_false (nI_ge han (by omega))) (by decide)) ?_
    refine rx_T.to 4 19 [(2, .int ((nI a) + 1)), (1, .int (nI a)), (0, .ref 53)] [] h rfl ?_
    rw [show nI a + 1 = nI (a + 1) from nI_1 a]
    refine rx_nl_b hn hw han en (fun h' m' hh' hF' em' hm' => ?_) (n - (a + 1)) (a + 1) h m (by omega) (by omega) hh hF em (by omega)
    refine rx_T.to 2 7 [(1, .int ((nI a) + Int32.ofInt 1)), (0, .ref 53)] [] h' rfl ?_
    rw [show nI a + Int32.ofInt 1 = nI (a + 1) from nI_1 a]
    exact ih (a + 1) h' m' (by omega) hh' hF' em' hm'
set_option maxRecDepth 100000 in
set_option maxHeartbeats 4000000 in
theorem rx_nl {h : rx_H} (hw : 30 ≤ w) (hh : rx_hin rx_I0 h) : rx_T rx_cds rx_ms rx_lk0 rt (d + 1) w 115 0 [(0, .ref 53)] [] h (fun v h' => v = none ∧ rx_hin rx_I0 h' ∧ rx_Fl h h') := by
  obtain ⟨n, hn, vs, c1, c2⟩ := rx_gFn hh
  obtain ⟨ws, w1, d2, w3⟩ := rx_get_o hh (k := 37) rfl
  rw [c1] at w1
  cases w1
  refine rx_T.to 2 2 [(0, .ref 53)] [.int 0, .ref 53] h rfl ?_
  refine rx_T.pf (M := rxm_115) (k := 37) rfl rfl rfl c1 (by rw [d2]; decide) rfl ?_
  have hh2 := rx_hin_fld (i := 19) (x := 0) hh c1 (fun fs hfs => by cases hfs; rfl) (by decide) (by decide)
  have f2 := rx_gF_new (x := 0) c1 (show 19 < vs.length by rw [d2]; decide)
  have hF2 : rx_Fl h (h.set 37 (.inr (5, vs.set 19 (.int 0)))) := ⟨fun z z1 _ => List.getElem?_set_ne (fun y => z1 y.symm), fun j hj => rx_gF_set c1 (fun y => hj y.symm)⟩
  refine rx_T.to 2 7 [(1, .int (nI 0)), (0, .ref 53)] [] _ rfl ?_
  exact rx_nl_a hn hw (rx_gF_at c1 c2) n 0 _ 0 (by omega) hh2 hF2 f2 (Nat.zero_le _)
end RXNL
