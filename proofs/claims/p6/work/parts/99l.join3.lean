section RXJ3
variable {rt : rx_R} {d w : Nat} {P : Option Value → rx_H → Prop}
set_option maxRecDepth 100000 in
set_option maxHeartbeats 4000000 in
theorem rx_j2_b {f : Nat → Int32} {n a : Nat} {s : Int32} {h0 : rx_H} (hn : n ≤ 7) (ha : a < n) (hw : 30 ≤ w) (hcl : ∀ a b, a < n → b < n → rx_jc f s a b) (K : ∀ h, rx_j2 f n h0 (a + 1) 0 h → rx_T rx_cds rx_ms rx_lk0 rt (d + 1) w 120 192 [(4, .int (nI a)), (2, .int s), (0, .ref 53)] [] h P) : ∀ (q b : Nat) (h : rx_H), b + q = n → rx_j2 f n h0 a b h →
    rx_T rx_cds rx_ms rx_lk0 rt (d + 1) w 120 116 [(5, .int (nI b)), (4, .int (nI a)), (2, .int s), (0, .ref 53)] [] h P := by
  intro q
  induction q with
  | zero =>
    intro b h hb hj
    have eb : b = n := by omega
    subst eb
    obtain ⟨hh, hx, hF, hf, hu⟩ := hj
    obtain ⟨vs, c1, c2⟩ := rx_gF_f hh hf
    refine rx_T.to 2 119 [(5, .int (nI b)), (4, .int (nI a)), (2, .int s), (0, .ref 53)] [.ref 53, .int (nI b)] h rfl ?_
    refine rx_T.gf (M := rxm_120) (k := 37) rfl rfl rfl c1 c2 ?_
    refine rx_T.op (M := rxm_120) (ins := .if_icmp .ge 70) rfl rfl rfl rfl (rx_b2_t 192 (decide_eq_true (nI_le (Nat.le_refl b) (by omega))) (by decide)) ?_
    exact rx_T.lv [(4, .int (nI a)), (2, .int s), (0, .ref 53)] ((((rx_lvl.nil _).cons rfl rfl).cons rfl rfl).cons rfl rfl) (K h ⟨hh, hx, hF, hf, fun a' b' p1 p2 p3 => hu a' b' p1 p2 (by omega)⟩)
  | succ q ih =>
    intro b h hb hj
    have hbn : b < n := by omega
    have next : ∀ h', rx_j2 f n h0 a (b + 1) h' → rx_T rx_cds rx_ms rx_lk0 rt (d + 1) w 120 186 [(5, .int (nI b)), (4, .int (nI a)), (2, .int s), (0, .ref 53)] [] h' P := by
      intro h' hj'
      refine rx_T.to 2 116 [(5, .int (nI b + Int32.ofInt 1)), (4, .int (nI a)), (2, .int s), (0, .ref 53)] [] h' rfl ?_
      rw [show nI b + Int32.ofInt 1 = nI (b + 1) from nI_1 b]
      exact ih (b + 1) h' (by omega) hj'
    obtain ⟨hh, hx, hF, hf, hu⟩ := hj
    have skip := next h ⟨hh, hx, hF, hf, fun a' b' p1 p2 p3 => hu a' b' p1 p2 (by omega)⟩
    obtain ⟨vs, c1, c2⟩ := rx_gF_f hh hf
    refine rx_T.to 2 119 [(5, .int (nI b)), (4, .int (nI a)), (2, .int s), (0, .ref 53)] [.ref 53, .int (nI b)] h rfl ?_
    refine rx_T.gf (M := rxm_120) (k := 37) rfl rfl rfl c1 c2 ?_
    refine rx_T.op (M := rxm_120) (ins := .if_icmp .ge 70) rfl rfl rfl rfl (rx_b2_f (decide_eq_false (nI_ge hbn (by omega))) (by decide)) ?_
    refine rx_T.to 2 129 [(5, .int (nI b)), (4, .int (nI a)), (2, .int s), (0, .ref 53)] [.int (nI b), .int (nI a)] h rfl ?_
    refine rx_T.br2 (M := rxm_120) 186 rfl rfl (by decide) (fun _ => skip) (fun h1 => ?_)
    have hab : ¬ a = b := fun z => of_decide_eq_false h1 (by rw [z])
    refine rx_T.to 2 135 [(5, .int (nI b)), (4, .int (nI a)), (2, .int s), (0, .ref 53)] [.int (nI a), .int s] h rfl ?_
    refine rx_T.call (M := rxm_120) (N := rxm_121) (j := 121) (as := [.int s, .int (nI a)]) (rest := []) rfl rfl rfl rfl rfl (show 19 + 2 ≤ w by omega) rx_has_t ?_
    intro v1 h2 hp
    obtain ⟨rfl, rfl⟩ := hp
    refine rx_T.br1 (M := rxm_120) (x := rx_hb s (nI a)) 186 rfl rfl (by decide) (fun _ => skip) (fun h3 => ?_)
    refine rx_T.to 2 144 [(5, .int (nI b)), (4, .int (nI a)), (2, .int s), (0, .ref 53)] [.int (nI b), .int s] h2 rfl ?_
    refine rx_T.call (M := rxm_120) (N := rxm_121) (j := 121) (as := [.int s, .int (nI b)]) (rest := []) rfl rfl rfl rfl rfl (show 19 + 2 ≤ w by omega) rx_has_t ?_
    intro v2 h4 hp
    obtain ⟨rfl, rfl⟩ := hp
    refine rx_T.br1 (M := rxm_120) (x := rx_hb s (nI b)) 186 rfl rfl (by decide) (fun _ => skip) (fun h5 => ?_)
    refine rx_T.to 3 155 [(5, .int (nI b)), (4, .int (nI a)), (2, .int s), (0, .ref 53)] [.int (nI b), .int (nI a), .ref 53] h4 rfl ?_
    refine rx_T.callm (M := rxm_120) (N := rxm_116) (j := 116) (nest := 0) (as' := [.int (nI a), .int (nI b)]) (rest := []) rfl rfl rfl rfl rfl rfl rfl rfl (Nat.le_of_ble_eq_true rfl) (Nat.le_of_ble_eq_true rfl) hh (show 19 + 3 ≤ w by omega) (rx_lineOf (by omega) (by omega) hh) ?_
    intro v3 h6 hp
    obtain ⟨rfl, rfl⟩ := hp
    obtain ⟨g, g1, g2⟩ := rx_get_a (k := 46) hh rfl
    have gi := rx_gI_at g1
    refine rx_T.to 1 159 [(5, .int (nI b)), (4, .int (nI a)), (2, .int s), (0, .ref 53)] [.int s, .int (rx_gI h6 46 (12 * a + b))] h6 rfl ?_
    refine rx_T.br2 (M := rxm_120) 186 rfl rfl (by decide) (fun _ => skip) (fun h7 => ?_)
    have hne : ¬ g (12 * a + b) = s := by
      rw [← gi]
      exact of_decide_eq_false h7
    have hor : g (12 * a + b) ||| s = s := by
      have q1 := hcl a b ha hbn hab (of_decide_eq_false h3) (of_decide_eq_false h5)
      rw [← hu a b ha hbn (Or.inr ⟨rfl, Nat.le_refl b⟩), gi] at q1
      exact q1
    refine rx_T.to 1 163 [(5, .int (nI b)), (4, .int (nI a)), (2, .int s), (0, .ref 53)] [.ref 53] h6 rfl ?_
    refine rx_T.gfr (M := rxm_120) (k := 37) rfl rfl rfl hh rfl rfl ?_
    refine rx_T.to 6 175 [(5, .int (nI b)), (4, .int (nI a)), (2, .int s), (0, .ref 53)] [.int s, .int ((Int8.ofInt 12).toInt32 * nI a + nI b), .ref 62] h6 rfl ?_
    rw [rx_ix12 a b (by omega) (by omega)]
    refine rx_T.iast (M := rxm_120) (a := 46) rfl rfl g1 (vp_in_nI (show 12 * a + b < 144 by omega) (by decide)) ?_
    rw [nI_clamp (show 12 * a + b < 2 ^ 31 by omega)]
    obtain ⟨ws, d1, d2, d3⟩ := rx_get_o hh (k := 37) rfl
    rw [c1] at d1
    cases d1
    have k1 : (h6.set 46 (.inl (0, 144, .inl (upd g (12 * a + b) s))))[37]? = some (.inr (5, vs)) := (List.getElem?_set_ne (by decide)).trans c1
    have k2 : ((h6.set 46 (.inl (0, 144, .inl (upd g (12 * a + b) s)))).set 37 (.inr (5, vs.set 20 (.int 1))))[37]? = some (.inr (5, vs.set 20 (.int 1))) := List.getElem?_set_self (List.getElem?_eq_some_iff.mp k1).1
    refine rx_T.to 2 178 [(5, .int (nI b)), (4, .int (nI a)), (2, .int s), (0, .ref 53)] [.int 1, .ref 53] _ rfl ?_
    refine rx_T.pf (M := rxm_120) (k := 37) rfl rfl rfl k1 (by rw [d2]; decide) rfl ?_
    refine rx_T.to 2 183 [(5, .int (nI b)), (4, .int (nI a)), (2, .int s), (0, .ref 53)] [.int 1, .ref 53] _ rfl ?_
    refine rx_T.pf (M := rxm_120) (k := 37) rfl rfl rfl k2 (by rw [List.length_set, d2]; decide) rfl ?_
    obtain ⟨e1, e2, e3, e4, e5⟩ := rx_jstep (show 12 * a + b < 144 by omega) hh hx c1 g1 hor hne _ rfl
    refine next _ ⟨e1, e2, hF.trans e3, e4.trans hf, fun a' b' p1 p2 p3 => ?_⟩
    rw [e5, ← hu a' b' p1 p2 (by omega), gi]
    exact if_neg (by omega)
set_option maxRecDepth 100000 in
set_option maxHeartbeats 4000000 in
theorem rx_j2_a {f : Nat → Int32} {n : Nat} {s : Int32} {h0 : rx_H} (hn : n ≤ 7) (hw : 30 ≤ w) (hcl : ∀ a b, a < n → b < n → rx_jc f s a b) : ∀ (q a : Nat) (h : rx_H), a + q = n → rx_j2 f n h0 a 0 h →
    rx_T rx_cds rx_ms rx_lk0 rt (d + 1) w 120 104 [(4, .int (nI a)), (2, .int s), (0, .ref 53)] [] h (fun v h' => rx_pin none v ∧ rx_hin rx_I0 h' ∧ rx_Xm h' ∧ rx_Fm h0 h') := by
  intro q
  induction q with
  | zero =>
    intro a h ha hj
    have ea : a = n := by omega
    subst ea
    obtain ⟨hh, hx, hF, hf, hu⟩ := hj
    obtain ⟨vs, c1, c2⟩ := rx_gF_f hh hf
    refine rx_T.to 2 107 [(4, .int (nI a)), (2, .int s), (0, .ref 53)] [.ref 53, .int (nI a)] h rfl ?_
    refine rx_T.gf (M := rxm_120) (k := 37) rfl rfl rfl c1 c2 ?_
    refine rx_T.op (M := rxm_120) (ins := .if_icmp .ge 88) rfl rfl rfl rfl (rx_b2_t 198 (decide_eq_true (nI_le (Nat.le_refl a) (by omega))) (by decide)) ?_
    exact rx_T.ret (M := rxm_120) (v := none) rfl rfl rfl ⟨trivial, hh, hx, hF⟩
  | succ q ih =>
    intro a h ha hj
    have han : a < n := by omega
    obtain ⟨vs, c1, c2⟩ := rx_gF_f hj.1 hj.2.2.2.1
    refine rx_T.to 2 107 [(4, .int (nI a)), (2, .int s), (0, .ref 53)] [.ref 53, .int (nI a)] h rfl ?_
    refine rx_T.gf (M := rxm_120) (k := 37) rfl rfl rfl c1 c2 ?_
    refine rx_T.op (M := rxm_120) (ins := .if_icmp .ge 88) rfl rfl rfl rfl (rx_b2_f (decide_eq_false (nI_ge han (by omega))) (by decide)) ?_
    refine rx_T.to 2 116 [(5, .int (nI 0)), (4, .int (nI a)), (2, .int s), (0, .ref 53)] [] h rfl ?_
    refine rx_j2_b hn han hw hcl (fun h' hj' => ?_) n 0 h (by omega) hj
    refine rx_T.to 2 104 [(4, .int (nI a + Int32.ofInt 1)), (2, .int s), (0, .ref 53)] [] h' rfl ?_
    rw [show nI a + Int32.ofInt 1 = nI (a + 1) from nI_1 a]
    exact ih (a + 1) h' (by omega) hj'
def rx_s_join : rx_Sp := (120, [.inr (.inl (53, 53)), .inl (-2147483648, 2147483647)], none, 1, 30)
set_option maxRecDepth 100000 in
set_option maxHeartbeats 4000000 in
theorem rx_sp_join : rx_spm rx_s_join := by
  intro rt d w as h ht hd hw has hh hx
  have hd : 1 ≤ d := hd
  have hw : 30 ≤ w := hw
  obtain ⟨v0, as0, rfl, k0, has0⟩ := rx_asin_e has
  obtain ⟨v1, as1, rfl, ⟨x, rfl, _⟩, has1⟩ := rx_asin_e has0
  have e0 := rx_ref_e k0
  subst e0
  have e1 := rx_asin_nil has1
  subst e1
  obtain ⟨d', rfl⟩ : ∃ d', d = d' + 1 := ⟨d - 1, by omega⟩
  obtain ⟨n, hn, vs, c1, c2⟩ := rx_gFn hh
  show rx_T rx_cds rx_ms rx_lk0 rt (d' + 1) w 120 0 [(0, .ref 53), (1, .int x)] [] h _
  refine rx_T.to 4 4 [(3, .int 1), (2, .int x), (0, .ref 53), (1, .int x)] [] h rfl ?_
  refine rx_T.lv [(3, .int 1), (2, .int x), (0, .ref 53)] ((((rx_lvl.nil _).cons rfl rfl).cons rfl rfl).cons rfl rfl) ?_
  refine rx_jn_w hn hw hh c1 c2 (fun s hcl => ?_) 4294967296 x (by omega)
  refine rx_T.to 2 104 [(4, .int (nI 0)), (2, .int s), (0, .ref 53)] [] h rfl ?_
  exact rx_j2_a hn hw hcl n 0 h (by omega) ⟨hh, hx, rx_Fm.refl h, rx_gF_at c1 c2, fun _ _ _ _ _ => rfl⟩
end RXJ3
