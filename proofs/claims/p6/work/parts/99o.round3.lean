section RXRC
variable {rt : rx_R} {d w : Nat} {P : Option Value → rx_H → Prop}
theorem nI_inj7 {a b : Nat} (ha : a < 7) (hb : b < 7) (e : nI a = nI b) : a = b := by
  have h2 := congrArg Int32.toInt e
  rw [nI_toInt (by omega), nI_toInt (by omega)] at h2
  omega
set_option maxRecDepth 100000 in
set_option maxHeartbeats 4000000 in
theorem rx_r2_c {n a b : Nat} {s : Int32} {h0 : rx_H} (ha : a < n) (hb : b < n) (hn : n ≤ 7) (hw : 50 ≤ w) (en : rx_gF h0 37 1 = nI n) (hcl : ∀ a b c, rx_cn (rx_gI h0 38) (rx_gI h0 39) n s a b c → rx_gI h0 47 ((12 * a + b) * 12 + c) ||| s = s) (K : ∀ h, rx_r2 (rx_gI h0 38) (rx_gI h0 39) (rx_gI h0 47) n s h0 a (b + 1) 0 h → rx_T rx_cds rx_ms rx_lk0 rt (d + 2) w 122 286 [(5, .int (nI b)), (4, .int (nI a)), (2, .int s), (0, .ref 53)] [] h P) : ∀ (q c : Nat) (h : rx_H), c + q = n → rx_r2 (rx_gI h0 38) (rx_gI h0 39) (rx_gI h0 47) n s h0 a b c h →
    rx_T rx_cds rx_ms rx_lk0 rt (d + 2) w 122 171 [(6, .int (nI c)), (5, .int (nI b)), (4, .int (nI a)), (2, .int s), (0, .ref 53)] [] h P := by
  intro q
  induction q with
  | zero =>
    intro c h hc hj
    have ec : c = n := by omega
    subst ec
    have hh := hj.1
    have k2 := hj.2.1
    have k3 := hj.2.2.1
    obtain ⟨vs, c1, c2⟩ := rx_gF_n hh k3 en
    refine rx_T.to 2 174 [(6, .int (nI c)), (5, .int (nI b)), (4, .int (nI a)), (2, .int s), (0, .ref 53)] [.ref 53, .int (nI c)] h rfl ?_
    refine rx_T.gf (M := rxm_122) (k := 37) rfl rfl rfl c1 c2 ?_
    refine rx_T.op (M := rxm_122) (ins := .if_icmp .ge 109) rfl rfl rfl rfl (rx_b2_t 286 (decide_eq_true (nI_le (Nat.le_refl c) (by omega))) (by decide)) ?_
    refine rx_T.lv [(5, .int (nI b)), (4, .int (nI a)), (2, .int s), (0, .ref 53)] (((((rx_lvl.nil _).cons rfl rfl).cons rfl rfl).cons rfl rfl).cons rfl rfl) ?_
    exact K h (hj.to (fun a' b' c' z => by have := z.1; unfold rx_lx; omega))
  | succ q ih =>
    intro c h hc hj
    have hcn : c < n := by omega
    have next : ∀ h', rx_r2 (rx_gI h0 38) (rx_gI h0 39) (rx_gI h0 47) n s h0 a b (c + 1) h' → rx_T rx_cds rx_ms rx_lk0 rt (d + 2) w 122 280 [(6, .int (nI c)), (5, .int (nI b)), (4, .int (nI a)), (2, .int s), (0, .ref 53)] [] h' P := by
      intro h' hj'
      refine rx_T.to 2 171 [(6, .int ((nI c) + Int32.ofInt 1)), (5, .int (nI b)), (4, .int (nI a)), (2, .int s), (0, .ref 53)] [] h' rfl ?_
      rw [show nI c + Int32.ofInt 1 = nI (c + 1) from nI_1 c]
      exact ih (c + 1) h' (by omega) hj'
    have hh := hj.1
    have k2 := hj.2.1
    have k3 := hj.2.2.1
    obtain ⟨vs, c1, c2⟩ := rx_gF_n hh k3 en
    have skip : ∀ h2 : rx_H, h2 = h → (rx_cn (rx_gI h0 38) (rx_gI h0 39) n s a b c → rx_gI h 47 ((12 * a + b) * 12 + c) = s) → rx_T rx_cds rx_ms rx_lk0 rt (d + 2) w 122 280 [(6, .int (nI c)), (5, .int (nI b)), (4, .int (nI a)), (2, .int s), (0, .ref 53)] [] h2 P := fun h2 e2 hq => by
      subst e2
      exact next h2 (hj.skip (by omega) (by omega) (by omega) hq)
    refine rx_T.to 2 174 [(6, .int (nI c)), (5, .int (nI b)), (4, .int (nI a)), (2, .int s), (0, .ref 53)] [.ref 53, .int (nI c)] h rfl ?_
    refine rx_T.gf (M := rxm_122) (k := 37) rfl rfl rfl c1 c2 ?_
    refine rx_T.op (M := rxm_122) (ins := .if_icmp .ge 109) rfl rfl rfl rfl (rx_b2_f (decide_eq_false (nI_ge hcn (by omega))) (by decide)) ?_
    refine rx_T.to 2 184 [(6, .int (nI c)), (5, .int (nI b)), (4, .int (nI a)), (2, .int s), (0, .ref 53)] [.int (nI b), .int (nI a)] h rfl ?_
    refine rx_T.br2 (M := rxm_122) 280 rfl rfl (by decide) (fun q => skip _ rfl (fun z => absurd (nI_inj7 (by omega) (by omega) (of_decide_eq_true q)) z.1.2.2.2.1)) (fun d1 => ?_)
    refine rx_T.to 2 191 [(6, .int (nI c)), (5, .int (nI b)), (4, .int (nI a)), (2, .int s), (0, .ref 53)] [.int (nI c), .int (nI b)] h rfl ?_
    refine rx_T.br2 (M := rxm_122) 280 rfl rfl (by decide) (fun q => skip _ rfl (fun z => absurd (nI_inj7 (by omega) (by omega) (of_decide_eq_true q)) z.1.2.2.2.2.1)) (fun d2 => ?_)
    refine rx_T.to 2 198 [(6, .int (nI c)), (5, .int (nI b)), (4, .int (nI a)), (2, .int s), (0, .ref 53)] [.int (nI c), .int (nI a)] h rfl ?_
    refine rx_T.br2 (M := rxm_122) 280 rfl rfl (by decide) (fun q => skip _ rfl (fun z => absurd (nI_inj7 (by omega) (by omega) (of_decide_eq_true q)) z.1.2.2.2.2.2)) (fun d3 => ?_)
    refine rx_T.to 2 204 [(6, .int (nI c)), (5, .int (nI b)), (4, .int (nI a)), (2, .int s), (0, .ref 53)] [.int (nI a), .int s] h rfl ?_
    refine rx_T.call (M := rxm_122) (N := rxm_121) (j := 121) (as := [.int s, .int (nI a)]) (rest := []) rfl rfl rfl rfl rfl (show 19 + 2 ≤ w by omega) rx_has_t ?_
    intro v0 g0 hp
    obtain ⟨rfl, eg0⟩ := hp
    rw [eg0]
    refine rx_T.br1 (M := rxm_122) (x := rx_hb s (nI a)) 280 rfl rfl (by decide) (fun q => skip _ rfl (fun z => absurd (of_decide_eq_true q) z.2.1)) (fun q0 => ?_)
    refine rx_T.to 2 213 [(6, .int (nI c)), (5, .int (nI b)), (4, .int (nI a)), (2, .int s), (0, .ref 53)] [.int (nI b), .int s] h rfl ?_
    refine rx_T.call (M := rxm_122) (N := rxm_121) (j := 121) (as := [.int s, .int (nI b)]) (rest := []) rfl rfl rfl rfl rfl (show 19 + 2 ≤ w by omega) rx_has_t ?_
    intro v1 g1 hp
    obtain ⟨rfl, eg1⟩ := hp
    rw [eg1]
    refine rx_T.br1 (M := rxm_122) (x := rx_hb s (nI b)) 280 rfl rfl (by decide) (fun q => skip _ rfl (fun z => absurd (of_decide_eq_true q) z.2.2.1)) (fun q1 => ?_)
    refine rx_T.to 2 222 [(6, .int (nI c)), (5, .int (nI b)), (4, .int (nI a)), (2, .int s), (0, .ref 53)] [.int (nI c), .int s] h rfl ?_
    refine rx_T.call (M := rxm_122) (N := rxm_121) (j := 121) (as := [.int s, .int (nI c)]) (rest := []) rfl rfl rfl rfl rfl (show 19 + 2 ≤ w by omega) rx_has_t ?_
    intro v2 g2 hp
    obtain ⟨rfl, eg2⟩ := hp
    rw [eg2]
    refine rx_T.br1 (M := rxm_122) (x := rx_hb s (nI c)) 280 rfl rfl (by decide) (fun q => skip _ rfl (fun z => absurd (of_decide_eq_true q) z.2.2.2.1)) (fun q2 => ?_)
    refine rx_T.to 4 235 [(6, .int (nI c)), (5, .int (nI b)), (4, .int (nI a)), (2, .int s), (0, .ref 53)] [.int (nI c), .int (nI b), .int (nI a), .ref 53] h rfl ?_
    refine rx_T.callm (M := rxm_122) (N := rxm_104) (j := 104) (nest := 0) (as' := [.int (nI a), .int (nI b), .int (nI c)]) (rest := []) rfl rfl rfl rfl rfl rfl rfl rfl (Nat.le_of_ble_eq_true rfl) (Nat.le_of_ble_eq_true rfl) hh (show 19 + 4 ≤ w by omega) (rx_isProper (by omega) (by omega) (by omega) (show 24 ≤ w - (19 + 4) by omega) hh) ?_
    intro v4 g4 hp
    obtain ⟨rfl, eg4⟩ := hp
    rw [eg4, rx_gI_of (k2 38 (by decide) (by decide)), rx_gI_of (k2 39 (by decide) (by decide))]
    refine rx_T.br1 (M := rxm_122) (x := rx_pv (rx_gI h0 38) (rx_gI h0 39) a b c) 280 rfl rfl (by decide) (fun q => skip _ rfl (fun z => absurd (of_decide_eq_true q) z.2.2.2.2)) (fun q4 => ?_)
    refine rx_T.to 4 248 [(6, .int (nI c)), (5, .int (nI b)), (4, .int (nI a)), (2, .int s), (0, .ref 53)] [.int (nI c), .int (nI b), .int (nI a), .ref 53] h rfl ?_
    refine rx_T.callm (M := rxm_122) (N := rxm_123) (j := 123) (nest := 0) (as' := [.int (nI a), .int (nI b), .int (nI c)]) (rest := []) rfl rfl rfl rfl rfl rfl rfl rfl (Nat.le_of_ble_eq_true rfl) (Nat.le_of_ble_eq_true rfl) hh (show 19 + 4 ≤ w by omega) (rx_circleOf (by omega) (by omega) (by omega) hh) ?_
    intro v5 g5 hp
    obtain ⟨rfl, eg5⟩ := hp
    rw [eg5]
    refine rx_T.to 1 252 [(6, .int (nI c)), (5, .int (nI b)), (4, .int (nI a)), (2, .int s), (0, .ref 53)] [.int s, .int (rx_gI h 47 ((12 * a + b) * 12 + c))] h rfl ?_
    refine rx_T.br2 (M := rxm_122) 280 rfl rfl (by decide) (fun q => skip _ rfl (fun _ => of_decide_eq_true q)) (fun q5 => ?_)
    have hcn3 : rx_cn (rx_gI h0 38) (rx_gI h0 39) n s a b c := ⟨⟨ha, hb, hcn, fun z => of_decide_eq_false d1 (by rw [z]), fun z => of_decide_eq_false d2 (by rw [z]), fun z => of_decide_eq_false d3 (by rw [z])⟩, of_decide_eq_false q0, of_decide_eq_false q1, of_decide_eq_false q2, of_decide_eq_false q4⟩
    obtain ⟨g, g1, g2⟩ := rx_get_a (k := 47) hh rfl
    have gi := rx_gI_at g1
    have hne : ¬ g ((12 * a + b) * 12 + c) = s := by
      rw [← gi]
      exact of_decide_eq_false q5
    refine rx_T.to 1 256 [(6, .int (nI c)), (5, .int (nI b)), (4, .int (nI a)), (2, .int s), (0, .ref 53)] [.ref 53] h rfl ?_
    refine rx_T.gfr (M := rxm_122) (k := 37) rfl rfl rfl hh rfl rfl ?_
    refine rx_T.to 10 274 [(6, .int (nI c)), (5, .int (nI b)), (4, .int (nI a)), (2, .int s), (0, .ref 53)] [.int s, .int (((((Int8.ofInt 12).toInt32 * (nI a)) + (nI b)) * (Int8.ofInt 12).toInt32) + (nI c)), .ref 63] h rfl ?_
    rw [rx_ix144 a b c (by omega) (by omega) (by omega)]
    refine rx_T.iast (M := rxm_122) (a := 47) rfl rfl g1 (vp_in_nI (show (12 * a + b) * 12 + c < 1728 by omega) (by decide)) ?_
    rw [nI_clamp (show (12 * a + b) * 12 + c < 2 ^ 31 by omega)]
    obtain ⟨ws, w1, w2, w3⟩ := rx_get_o hh (k := 37) rfl
    rw [c1] at w1
    cases w1
    have e1 : (h.set 47 (.inl (0, 1728, .inl (upd g ((12 * a + b) * 12 + c) s))))[37]? = some (.inr (5, vs)) := (List.getElem?_set_ne (by decide)).trans c1
    refine rx_T.to 2 277 [(6, .int (nI c)), (5, .int (nI b)), (4, .int (nI a)), (2, .int s), (0, .ref 53)] [.int 1, .ref 53] _ rfl ?_
    refine rx_T.pf (M := rxm_122) (k := 37) rfl rfl rfl e1 (by rw [w2]; decide) rfl ?_
    exact next _ (hj.write hn c1 g1 hcn3 (hcl a b c hcn3) hne)
set_option maxRecDepth 100000 in
set_option maxHeartbeats 4000000 in
theorem rx_r2_b {n a : Nat} {s : Int32} {h0 : rx_H} (ha : a < n) (hn : n ≤ 7) (hw : 50 ≤ w) (en : rx_gF h0 37 1 = nI n) (hcl : ∀ a b c, rx_cn (rx_gI h0 38) (rx_gI h0 39) n s a b c → rx_gI h0 47 ((12 * a + b) * 12 + c) ||| s = s) (K : ∀ h, rx_r2 (rx_gI h0 38) (rx_gI h0 39) (rx_gI h0 47) n s h0 (a + 1) 0 0 h → rx_T rx_cds rx_ms rx_lk0 rt (d + 2) w 122 292 [(4, .int (nI a)), (2, .int s), (0, .ref 53)] [] h P) : ∀ (q b : Nat) (h : rx_H), b + q = n → rx_r2 (rx_gI h0 38) (rx_gI h0 39) (rx_gI h0 47) n s h0 a b 0 h →
    rx_T rx_cds rx_ms rx_lk0 rt (d + 2) w 122 159 [(5, .int (nI b)), (4, .int (nI a)), (2, .int s), (0, .ref 53)] [] h P := by
  intro q
  induction q with
  | zero =>
    intro b h hb hj
    have eb : b = n := by omega
    subst eb
    have hh := hj.1
    have k2 := hj.2.1
    have k3 := hj.2.2.1
    obtain ⟨vs, c1, c2⟩ := rx_gF_n hh k3 en
    refine rx_T.to 2 162 [(5, .int (nI b)), (4, .int (nI a)), (2, .int s), (0, .ref 53)] [.ref 53, .int (nI b)] h rfl ?_
    refine rx_T.gf (M := rxm_122) (k := 37) rfl rfl rfl c1 c2 ?_
    refine rx_T.op (M := rxm_122) (ins := .if_icmp .ge 127) rfl rfl rfl rfl (rx_b2_t 292 (decide_eq_true (nI_le (Nat.le_refl b) (by omega))) (by decide)) ?_
    refine rx_T.lv [(4, .int (nI a)), (2, .int s), (0, .ref 53)] ((((rx_lvl.nil _).cons rfl rfl).cons rfl rfl).cons rfl rfl) ?_
    exact K h (hj.to (fun a' b' c' z => by have := z.1; unfold rx_lx; omega))
  | succ q ih =>
    intro b h hb hj
    have hbn : b < n := by omega
    have hh := hj.1
    have k2 := hj.2.1
    have k3 := hj.2.2.1
    obtain ⟨vs, c1, c2⟩ := rx_gF_n hh k3 en
    refine rx_T.to 2 162 [(5, .int (nI b)), (4, .int (nI a)), (2, .int s), (0, .ref 53)] [.ref 53, .int (nI b)] h rfl ?_
    refine rx_T.gf (M := rxm_122) (k := 37) rfl rfl rfl c1 c2 ?_
    refine rx_T.op (M := rxm_122) (ins := .if_icmp .ge 127) rfl rfl rfl rfl (rx_b2_f (decide_eq_false (nI_ge hbn (by omega))) (by decide)) ?_
    refine rx_T.to 2 171 [(6, .int (nI 0)), (5, .int (nI b)), (4, .int (nI a)), (2, .int s), (0, .ref 53)] [] h rfl ?_
    refine rx_r2_c ha hbn hn hw en hcl (fun h' hj' => ?_) n 0 h (by omega) hj
    refine rx_T.to 2 159 [(5, .int ((nI b) + Int32.ofInt 1)), (4, .int (nI a)), (2, .int s), (0, .ref 53)] [] h' rfl ?_
    rw [show nI b + Int32.ofInt 1 = nI (b + 1) from nI_1 b]
    exact ih (b + 1) h' (by omega) hj'
set_option maxRecDepth 100000 in
set_option maxHeartbeats 4000000 in
theorem rx_r2_a {n : Nat} {s : Int32} {h0 : rx_H} (hh0 : rx_hin rx_I0 h0) (hx : rx_Xm h0) (hn : n ≤ 7) (hw : 50 ≤ w) (en : rx_gF h0 37 1 = nI n) (hcl : ∀ a b c, rx_cn (rx_gI h0 38) (rx_gI h0 39) n s a b c → rx_gI h0 47 ((12 * a + b) * 12 + c) ||| s = s) : ∀ (q a : Nat) (h : rx_H), a + q = n → rx_r2 (rx_gI h0 38) (rx_gI h0 39) (rx_gI h0 47) n s h0 a 0 0 h →
    rx_T rx_cds rx_ms rx_lk0 rt (d + 2) w 122 147 [(4, .int (nI a)), (2, .int s), (0, .ref 53)] [] h (fun v h' => rx_pin none v ∧ rx_hin rx_I0 h' ∧ rx_Xm h' ∧ rx_Fm h0 h') := by
  intro q
  induction q with
  | zero =>
    intro a h ha hj
    have ea : a = n := by omega
    subst ea
    have hh := hj.1
    have k2 := hj.2.1
    have k3 := hj.2.2.1
    obtain ⟨vs, c1, c2⟩ := rx_gF_n hh k3 en
    refine rx_T.to 2 150 [(4, .int (nI a)), (2, .int s), (0, .ref 53)] [.ref 53, .int (nI a)] h rfl ?_
    refine rx_T.gf (M := rxm_122) (k := 37) rfl rfl rfl c1 c2 ?_
    refine rx_T.op (M := rxm_122) (ins := .if_icmp .ge 145) rfl rfl rfl rfl (rx_b2_t 298 (decide_eq_true (nI_le (Nat.le_refl a) (by omega))) (by decide)) ?_
    exact rx_T.ret (M := rxm_122) (v := none) rfl rfl rfl ⟨trivial, rx_r2.fin hn hh0 hx hj⟩
  | succ q ih =>
    intro a h ha hj
    have han : a < n := by omega
    have hh := hj.1
    have k2 := hj.2.1
    have k3 := hj.2.2.1
    obtain ⟨vs, c1, c2⟩ := rx_gF_n hh k3 en
    refine rx_T.to 2 150 [(4, .int (nI a)), (2, .int s), (0, .ref 53)] [.ref 53, .int (nI a)] h rfl ?_
    refine rx_T.gf (M := rxm_122) (k := 37) rfl rfl rfl c1 c2 ?_
    refine rx_T.op (M := rxm_122) (ins := .if_icmp .ge 145) rfl rfl rfl rfl (rx_b2_f (decide_eq_false (nI_ge han (by omega))) (by decide)) ?_
    refine rx_T.to 2 159 [(5, .int (nI 0)), (4, .int (nI a)), (2, .int s), (0, .ref 53)] [] h rfl ?_
    refine rx_r2_b han hn hw en hcl (fun h' hj' => ?_) n 0 h (by omega) hj
    refine rx_T.to 2 147 [(4, .int ((nI a) + Int32.ofInt 1)), (2, .int s), (0, .ref 53)] [] h' rfl ?_
    rw [show nI a + Int32.ofInt 1 = nI (a + 1) from nI_1 a]
    exact ih (a + 1) h' (by omega) hj'
def rx_s_round : rx_Sp := (122, [.inr (.inl (53, 53)), .inl (-2147483648, 2147483647)], none, 2, 60)
set_option maxRecDepth 100000 in
set_option maxHeartbeats 4000000 in
theorem rx_sp_round : rx_spm rx_s_round := by
  intro rt d w as h ht hd hw has hh hx
  have hd : 2 ≤ d := hd
  have hw : 60 ≤ w := hw
  obtain ⟨v0, as0, rfl, k0, has0⟩ := rx_asin_e has
  obtain ⟨v1, as1, rfl, ⟨x, rfl, _⟩, has1⟩ := rx_asin_e has0
  have e0 := rx_ref_e k0
  subst e0
  have e1 := rx_asin_nil has1
  subst e1
  obtain ⟨d', rfl⟩ : ∃ d', d = d' + 2 := ⟨d - 2, by omega⟩
  obtain ⟨n, hn, vs, c1, c2⟩ := rx_gFn hh
  obtain ⟨hX, hY⟩ := rx_bdX hh
  show rx_T rx_cds rx_ms rx_lk0 rt (d' + 2) w 122 0 [(0, .ref 53), (1, .int x)] [] h _
  refine rx_T.to 4 4 [(3, .int 1), (2, .int x), (0, .ref 53), (1, .int x)] [] h rfl ?_
  refine rx_T.lv [(3, .int 1), (2, .int x), (0, .ref 53)] ((((rx_lvl.nil _).cons rfl rfl).cons rfl rfl).cons rfl rfl) ?_
  refine rx_rd_w hn (by omega) hh c1 c2 (fun s hcl => ?_) 4294967296 x (by omega)
  refine rx_T.to 2 147 [(4, .int (nI 0)), (2, .int s), (0, .ref 53)] [] h rfl ?_
  refine rx_r2_a hh hx hn (by omega) (rx_gF_at c1 c2) (fun a b c z => rx_rcl hX hY hn hx.2 hcl z) n 0 h (by omega) ⟨hh, fun _ _ _ => rfl, fun _ _ => rfl, fun _ => Or.inl rfl, fun a' b' c' _ _ _ => ⟨fun z => absurd z.1 (by unfold rx_lx; omega), fun _ => rfl⟩, Or.inl⟩
end RXRC
