section RXBG
variable {rt : rx_R} {d w : Nat} {P : Option Value → rx_H → Prop}
/-- begin: what is put in stays -/
def rx_Fb (h h' : rx_H) : Prop := (∀ z, z < 37 ∨ (38 ≤ z ∧ z < 46) → h'[z]? = h[z]?) ∧ (∀ j, ¬ j = 19 → ¬ j = 20 → rx_gF h' 37 j = rx_gF h 37 j)
abbrev rx_bits3 (a b c : Nat) : Int32 := ((1 <<< (nI a &&& 31)) ||| (1 <<< (nI b &&& 31))) ||| (1 <<< (nI c &&& 31))
def rx_bc (X Y : Nat → Int32) (a b c : Nat) : Prop := ¬ a = b ∧ ¬ b = c ∧ ¬ a = c ∧ ¬ rx_pv X Y a b c = 0
def rx_bg2 (X Y f : Nat → Int32) (n : Nat) (h0 : rx_H) (a b c : Nat) (h : rx_H) : Prop :=
  rx_hin rx_I0 h ∧ (∀ z, ¬ (z = 46 ∨ z = 47 ∨ z = 48) → h[z]? = h0[z]?) ∧
  (∀ a' b' c', a' < 7 → b' < 7 → c' < 7 → (rx_lx a' b' c' a b c ∧ (a' < n ∧ b' < n ∧ c' < n) → (rx_bc X Y a' b' c' → rx_gI h 47 ((12 * a' + b') * 12 + c') = rx_bits3 a' b' c') ∧ (¬ rx_bc X Y a' b' c' → rx_gI h 47 ((12 * a' + b') * 12 + c') = 0)) ∧ (¬ (rx_lx a' b' c' a b c ∧ (a' < n ∧ b' < n ∧ c' < n)) → rx_gI h 47 ((12 * a' + b') * 12 + c') = f ((12 * a' + b') * 12 + c')))
theorem rx_bg2.to {X Y f : Nat → Int32} {n : Nat} {h0 h : rx_H} {a b c a2 b2 c2 : Nat} (H : rx_bg2 X Y f n h0 a b c h) (hk : ∀ a' b' c', a' < n ∧ b' < n ∧ c' < n → (rx_lx a' b' c' a2 b2 c2 ↔ rx_lx a' b' c' a b c)) : rx_bg2 X Y f n h0 a2 b2 c2 h := by
  obtain ⟨k1, k2, k5⟩ := H
  refine ⟨k1, k2, fun a' b' c' p1 p2 p3 => ?_⟩
  obtain ⟨q1, q2⟩ := k5 a' b' c' p1 p2 p3
  exact ⟨fun z => q1 ⟨(hk a' b' c' z.2).mp z.1, z.2⟩, fun z => q2 (fun y => z ⟨(hk a' b' c' y.2).mpr y.1, y.2⟩)⟩
/-- a line or a length is written -/
theorem rx_bg2.oth {X Y f : Nat → Int32} {n : Nat} {h0 h h' : rx_H} {a b c k : Nat} (hk : k = 46 ∨ k = 48) (H : rx_bg2 X Y f n h0 a b c h) (hh' : rx_hin rx_I0 h') (e : ∀ z, ¬ z = k → h'[z]? = h[z]?) : rx_bg2 X Y f n h0 a b c h' := by
  obtain ⟨k1, k2, k5⟩ := H
  refine ⟨hh', fun z hz => (e z (by omega)).trans (k2 z hz), ?_⟩
  rw [rx_gI_of (e 47 (by omega))]
  exact k5
theorem rx_bg2.write {X Y f : Nat → Int32} {n : Nat} {h0 h : rx_H} {g : Nat → Int32} {a b c : Nat} {v : Int32} (ha : a < 7) (hb : b < 7) (hc : c < 7) (hn : a < n ∧ b < n ∧ c < n) (H : rx_bg2 X Y f n h0 a b c h) (hg : h[47]? = some (.inl (0, 1728, .inl g))) (h1 : rx_bc X Y a b c → v = rx_bits3 a b c) (h2 : ¬ rx_bc X Y a b c → v = 0) :
    rx_bg2 X Y f n h0 a b (c + 1) (h.set 47 (.inl (0, 1728, .inl (upd g ((12 * a + b) * 12 + c) v)))) := by
  obtain ⟨k1, k2, k5⟩ := H
  have eg := rx_gI_at hg
  rw [eg] at k5
  have s2 : rx_gI (h.set 47 (.inl (0, 1728, .inl (upd g ((12 * a + b) * 12 + c) v)))) 47 = upd g ((12 * a + b) * 12 + c) v := rx_gI_at (t := 0) (n := 1728) (List.getElem?_set_self (List.getElem?_eq_some_iff.mp hg).1)
  refine ⟨rx_hin_set k1 (k := 47) rfl ⟨_, rfl, fun j _ => ⟨rxi_lo _, rxi_hi _⟩⟩, fun z hz => (List.getElem?_set_ne (by omega)).trans (k2 z hz), fun a' b' c' p1 p2 p3 => ?_⟩
  rw [s2]
  obtain ⟨q1, q2⟩ := k5 a' b' c' p1 p2 p3
  by_cases e : a' = a ∧ b' = b ∧ c' = c
  · obtain ⟨rfl, rfl, rfl⟩ := e
    rw [show upd g ((12 * a' + b') * 12 + c') v ((12 * a' + b') * 12 + c') = v from if_pos rfl]
    exact ⟨fun _ => ⟨h1, h2⟩, fun z => absurd ⟨by unfold rx_lx; omega, hn⟩ z⟩
  · rw [show upd g ((12 * a + b) * 12 + c) v ((12 * a' + b') * 12 + c') = g ((12 * a' + b') * 12 + c') from if_neg (by omega)]
    exact ⟨fun z => q1 ⟨by have := z.1; unfold rx_lx at *; omega, z.2⟩, fun z => q2 (fun y => z ⟨by have := y.1; unfold rx_lx at *; omega, y.2⟩)⟩
theorem rx_bc_12 {X Y : Nat → Int32} (hX : rx_bd X) (hY : rx_bd Y) {a b c : Nat} (ha : a < 7) (hb : b < 7) (hc : c < 7) (h : rx_bc X Y a b c) : rx_bc X Y b a c := ⟨fun z => h.1 z.symm, h.2.2.1, h.2.1, by rw [← rx_pv_12 hX hY (by omega) (by omega) (by omega)]; exact h.2.2.2⟩
theorem rx_bc_23 {X Y : Nat → Int32} (hX : rx_bd X) (hY : rx_bd Y) {a b c : Nat} (ha : a < 7) (hb : b < 7) (hc : c < 7) (h : rx_bc X Y a b c) : rx_bc X Y a c b := ⟨h.2.2.1, fun z => h.2.1 z.symm, h.1, by rw [← rx_pv_23 hX hY (by omega) (by omega) (by omega)]; exact h.2.2.2⟩
theorem rx_bits_12 (a b c : Nat) : rx_bits3 a b c = rx_bits3 b a c := by
  unfold rx_bits3
  rw [Int32.or_comm (1 <<< (nI a &&& 31))]
theorem rx_bits_23 (a b c : Nat) : rx_bits3 a b c = rx_bits3 a c b := by
  unfold rx_bits3
  rw [Int32.or_assoc, Int32.or_comm (1 <<< (nI b &&& 31)), ← Int32.or_assoc]
theorem rx_bg2.sym {n : Nat} {h0 h : rx_H} (hh0 : rx_hin rx_I0 h0) (hs : rx_sym (rx_gI h0 47)) (H : rx_bg2 (rx_gI h0 38) (rx_gI h0 39) (rx_gI h0 47) n h0 n 0 0 h) : rx_sym (rx_gI h 47) := by
  obtain ⟨k1, k2, k5⟩ := H
  obtain ⟨hX, hY⟩ := rx_bdX hh0
  intro a b c p1 p2 p3
  obtain ⟨y1, y2⟩ := hs a b c p1 p2 p3
  obtain ⟨q1, q2⟩ := k5 a b c p1 p2 p3
  obtain ⟨r1, r2⟩ := k5 b a c p2 p1 p3
  obtain ⟨s1, s2⟩ := k5 a c b p1 p3 p2
  by_cases e : a < n ∧ b < n ∧ c < n
  · obtain ⟨q3, q4⟩ := q1 ⟨Or.inl e.1, e⟩
    obtain ⟨r3, r4⟩ := r1 ⟨Or.inl e.2.1, e.2.1, e.1, e.2.2⟩
    obtain ⟨s3, s4⟩ := s1 ⟨Or.inl e.1, e.1, e.2.2, e.2.1⟩
    by_cases f : rx_bc (rx_gI h0 38) (rx_gI h0 39) a b c
    · rw [q3 f, r3 (rx_bc_12 hX hY p1 p2 p3 f), s3 (rx_bc_23 hX hY p1 p2 p3 f)]
      exact ⟨rx_bits_12 a b c, rx_bits_23 a b c⟩
    · rw [q4 f, r4 (fun z => f (rx_bc_12 hX hY p2 p1 p3 z)), s4 (fun z => f (rx_bc_23 hX hY p1 p3 p2 z))]
      exact ⟨rfl, rfl⟩
  · rw [q2 (fun z => e z.2), r2 (fun z => e ⟨z.2.2.1, z.2.1, z.2.2.2⟩), s2 (fun z => e ⟨z.2.1, z.2.2.2, z.2.2.1⟩)]
    exact ⟨y1, y2⟩
set_option maxRecDepth 100000 in
set_option maxHeartbeats 4000000 in
theorem rx_bg_c {n a b : Nat} {h0 : rx_H} (ha : a < n) (hb : b < n) (hn : n ≤ 7) (hw : 60 ≤ w) (en : rx_gF h0 37 1 = nI n) (K : ∀ h, rx_bg2 (rx_gI h0 38) (rx_gI h0 39) (rx_gI h0 47) n h0 a (b + 1) 0 h → rx_T rx_cds rx_ms rx_lk0 rt (d + 2) w 114 171 [(2, .int (nI b)), (1, .int (nI a)), (0, .ref 53)] [] h P) : ∀ (q c : Nat) (h : rx_H), c + q = n → rx_bg2 (rx_gI h0 38) (rx_gI h0 39) (rx_gI h0 47) n h0 a b c h →
    rx_T rx_cds rx_ms rx_lk0 rt (d + 2) w 114 89 [(3, .int (nI c)), (2, .int (nI b)), (1, .int (nI a)), (0, .ref 53)] [] h P := by
  intro q
  induction q with
  | zero =>
    intro c h hc hj
    have ec : c = n := by omega
    subst ec
    have hh := hj.1
    have k2 := hj.2.1
    obtain ⟨vs, c1, c2⟩ := rx_gF_f hh ((rx_gF_of (k2 37 (by decide))).trans en)
    refine rx_T.to 2 91 [(3, .int (nI c)), (2, .int (nI b)), (1, .int (nI a)), (0, .ref 53)] [.ref 53, .int (nI c)] h rfl ?_
    refine rx_T.gf (M := rxm_114) (k := 37) rfl rfl rfl c1 c2 ?_
    refine rx_T.op (M := rxm_114) (ins := .if_icmp .ge 77) rfl rfl rfl rfl (rx_b2_t 171 (decide_eq_true (nI_le (Nat.le_refl c) (by omega))) (by decide)) ?_
    refine rx_T.lv [(2, .int (nI b)), (1, .int (nI a)), (0, .ref 53)] ((((rx_lvl.nil _).cons rfl rfl).cons rfl rfl).cons rfl rfl) ?_
    exact K h (hj.to (fun a' b' c' z => by unfold rx_lx; omega))
  | succ q ih =>
    intro c h hc hj
    have hcn : c < n := by omega
    have next : ∀ h', rx_bg2 (rx_gI h0 38) (rx_gI h0 39) (rx_gI h0 47) n h0 a b (c + 1) h' → rx_T rx_cds rx_ms rx_lk0 rt (d + 2) w 114 165 [(3, .int (nI c)), (2, .int (nI b)), (1, .int (nI a)), (0, .ref 53)] [] h' P := by
      intro h' hj'
      refine rx_T.to 2 89 [(3, .int ((nI c) + Int32.ofInt 1)), (2, .int (nI b)), (1, .int (nI a)), (0, .ref 53)] [] h' rfl ?_
      rw [show nI c + Int32.ofInt 1 = nI (c + 1) from nI_1 c]
      exact ih (c + 1) h' (by omega) hj'
    have hh := hj.1
    have k2 := hj.2.1
    obtain ⟨vs, c1, c2⟩ := rx_gF_f hh ((rx_gF_of (k2 37 (by decide))).trans en)
    refine rx_T.to 2 91 [(3, .int (nI c)), (2, .int (nI b)), (1, .int (nI a)), (0, .ref 53)] [.ref 53, .int (nI c)] h rfl ?_
    refine rx_T.gf (M := rxm_114) (k := 37) rfl rfl rfl c1 c2 ?_
    refine rx_T.op (M := rxm_114) (ins := .if_icmp .ge 77) rfl rfl rfl rfl (rx_b2_f (decide_eq_false (nI_ge hcn (by omega))) (by decide)) ?_
    have at126 : ¬ rx_bc (rx_gI h0 38) (rx_gI h0 39) a b c → rx_T rx_cds rx_ms rx_lk0 rt (d + 2) w 114 126 [(3, .int (nI c)), (2, .int (nI b)), (1, .int (nI a)), (0, .ref 53)] [] h P := by
      intro hcnd
      refine rx_T.to 2 129 [(4, .int 0), (3, .int (nI c)), (2, .int (nI b)), (1, .int (nI a)), (0, .ref 53)] [] h rfl ?_
      obtain ⟨g, g1, g2⟩ := rx_get_a (k := 47) hh rfl
      refine rx_T.to 1 130 [(4, .int 0), (3, .int (nI c)), (2, .int (nI b)), (1, .int (nI a)), (0, .ref 53)] [.ref 53] h rfl ?_
      refine rx_T.gfr (M := rxm_114) (k := 37) rfl rfl rfl hh rfl rfl ?_
      refine rx_T.to 10 146 [(4, .int 0), (3, .int (nI c)), (2, .int (nI b)), (1, .int (nI a)), (0, .ref 53)] [.int 0, .int (((((Int8.ofInt 12).toInt32 * (nI a)) + (nI b)) * (Int8.ofInt 12).toInt32) + (nI c)), .ref 63] h rfl ?_
      rw [rx_ix144 a b c (by omega) (by omega) (by omega)]
      refine rx_T.op (M := rxm_114) (ins := .ifCond .eq 17) rfl rfl rfl rfl (rx_b1_t 163 (by decide) (by decide)) ?_
      refine rx_T.to 1 164 [(4, .int 0), (3, .int (nI c)), (2, .int (nI b)), (1, .int (nI a)), (0, .ref 53)] [.int 0, .int (nI ((12 * a + b) * 12 + c)), .ref 63] h rfl ?_
      refine rx_T.iast (M := rxm_114) (a := 47) rfl rfl g1 (vp_in_nI (show (12 * a + b) * 12 + c < 1728 by omega) (by decide)) ?_
      rw [nI_clamp (show (12 * a + b) * 12 + c < 2 ^ 31 by omega)]
      refine rx_T.lv [(3, .int (nI c)), (2, .int (nI b)), (1, .int (nI a)), (0, .ref 53)] (((((rx_lvl.nil _).cons rfl rfl).cons rfl rfl).cons rfl rfl).cons rfl rfl) ?_
      exact next _ (hj.write (by omega) (by omega) (by omega) ⟨ha, hb, hcn⟩ g1 (fun z => absurd z hcnd) (fun _ => rfl))
    have at122 : rx_bc (rx_gI h0 38) (rx_gI h0 39) a b c → rx_T rx_cds rx_ms rx_lk0 rt (d + 2) w 114 122 [(3, .int (nI c)), (2, .int (nI b)), (1, .int (nI a)), (0, .ref 53)] [] h P := by
      intro hcnd
      refine rx_T.to 3 129 [(4, .int 1), (3, .int (nI c)), (2, .int (nI b)), (1, .int (nI a)), (0, .ref 53)] [] h rfl ?_
      obtain ⟨g, g1, g2⟩ := rx_get_a (k := 47) hh rfl
      refine rx_T.to 1 130 [(4, .int 1), (3, .int (nI c)), (2, .int (nI b)), (1, .int (nI a)), (0, .ref 53)] [.ref 53] h rfl ?_
      refine rx_T.gfr (M := rxm_114) (k := 37) rfl rfl rfl hh rfl rfl ?_
      refine rx_T.to 10 146 [(4, .int 1), (3, .int (nI c)), (2, .int (nI b)), (1, .int (nI a)), (0, .ref 53)] [.int 1, .int (((((Int8.ofInt 12).toInt32 * (nI a)) + (nI b)) * (Int8.ofInt 12).toInt32) + (nI c)), .ref 63] h rfl ?_
      rw [rx_ix144 a b c (by omega) (by omega) (by omega)]
      refine rx_T.op (M := rxm_114) (ins := .ifCond .eq 17) rfl rfl rfl rfl (rx_b1_f (by decide) (by decide)) ?_
      refine rx_T.to 12 164 [(4, .int 1), (3, .int (nI c)), (2, .int (nI b)), (1, .int (nI a)), (0, .ref 53)] [.int (((1 <<< ((nI a) &&& 31)) ||| (1 <<< ((nI b) &&& 31))) ||| (1 <<< ((nI c) &&& 31))), .int (nI ((12 * a + b) * 12 + c)), .ref 63] h rfl ?_
      refine rx_T.iast (M := rxm_114) (a := 47) rfl rfl g1 (vp_in_nI (show (12 * a + b) * 12 + c < 1728 by omega) (by decide)) ?_
      rw [nI_clamp (show (12 * a + b) * 12 + c < 2 ^ 31 by omega)]
      refine rx_T.lv [(3, .int (nI c)), (2, .int (nI b)), (1, .int (nI a)), (0, .ref 53)] (((((rx_lvl.nil _).cons rfl rfl).cons rfl rfl).cons rfl rfl).cons rfl rfl) ?_
      exact next _ (hj.write (by omega) (by omega) (by omega) ⟨ha, hb, hcn⟩ g1 (fun _ => rfl) (fun z => absurd hcnd z))
    refine rx_T.to 2 99 [(3, .int (nI c)), (2, .int (nI b)), (1, .int (nI a)), (0, .ref 53)] [.int (nI b), .int (nI a)] h rfl ?_
    refine rx_T.br2 (M := rxm_114) 126 rfl rfl (by decide) (fun q => at126 (fun z => z.1 (nI_inj7 (by omega) (by omega) (of_decide_eq_true q)))) (fun d1 => ?_)
    refine rx_T.to 2 104 [(3, .int (nI c)), (2, .int (nI b)), (1, .int (nI a)), (0, .ref 53)] [.int (nI c), .int (nI b)] h rfl ?_
    refine rx_T.br2 (M := rxm_114) 126 rfl rfl (by decide) (fun q => at126 (fun z => z.2.1 (nI_inj7 (by omega) (by omega) (of_decide_eq_true q)))) (fun d2 => ?_)
    refine rx_T.to 2 109 [(3, .int (nI c)), (2, .int (nI b)), (1, .int (nI a)), (0, .ref 53)] [.int (nI c), .int (nI a)] h rfl ?_
    refine rx_T.br2 (M := rxm_114) 126 rfl rfl (by decide) (fun q => at126 (fun z => z.2.2.1 (nI_inj7 (by omega) (by omega) (of_decide_eq_true q)))) (fun d3 => ?_)
    refine rx_T.to 4 116 [(3, .int (nI c)), (2, .int (nI b)), (1, .int (nI a)), (0, .ref 53)] [.int (nI c), .int (nI b), .int (nI a), .ref 53] h rfl ?_
    refine rx_T.callm (M := rxm_114) (N := rxm_104) (j := 104) (nest := 0) (as' := [.int (nI a), .int (nI b), .int (nI c)]) (rest := []) rfl rfl rfl rfl rfl rfl rfl rfl (Nat.le_of_ble_eq_true rfl) (Nat.le_of_ble_eq_true rfl) hh (show 19 + 4 ≤ w by omega) (rx_isProper (by omega) (by omega) (by omega) (show 24 ≤ w - (19 + 4) by omega) hh) ?_
    intro v4 g4 hp
    obtain ⟨rfl, eg4⟩ := hp
    rw [eg4, rx_gI_of (k2 38 (by decide)), rx_gI_of (k2 39 (by decide))]
    refine rx_T.br1 (M := rxm_114) (x := rx_pv (rx_gI h0 38) (rx_gI h0 39) a b c) 126 rfl rfl (by decide) (fun q => at126 (fun z => z.2.2.2 (of_decide_eq_true q))) (fun q4 => at122 ⟨fun z => of_decide_eq_false d1 (by rw [z]), fun z => of_decide_eq_false d2 (by rw [z]), fun z => of_decide_eq_false d3 (by rw [z]), of_decide_eq_false q4⟩)
set_option maxRecDepth 100000 in
set_option maxHeartbeats 4000000 in
theorem rx_bg_b {n a : Nat} {h0 : rx_H} (han : a < n) (hn : n ≤ 7) (hw : 60 ≤ w) (en : rx_gF h0 37 1 = nI n) (K : ∀ h, rx_bg2 (rx_gI h0 38) (rx_gI h0 39) (rx_gI h0 47) n h0 (a + 1) 0 0 h → rx_T rx_cds rx_ms rx_lk0 rt (d + 2) w 114 177 [(1, .int (nI a)), (0, .ref 53)] [] h P) : ∀ (q b : Nat) (h : rx_H), b + q = n → rx_bg2 (rx_gI h0 38) (rx_gI h0 39) (rx_gI h0 47) n h0 a b 0 h →
    rx_T rx_cds rx_ms rx_lk0 rt (d + 2) w 114 12 [(2, .int (nI b)), (1, .int (nI a)), (0, .ref 53)] [] h P := by
  intro q
  induction q with
  | zero =>
    intro b h hb hj
    have eb : b = n := by omega
    subst eb
    have hh := hj.1
    have k2 := hj.2.1
    obtain ⟨vs, c1, c2⟩ := rx_gF_f hh ((rx_gF_of (k2 37 (by decide))).trans en)
    refine rx_T.to 2 14 [(2, .int (nI b)), (1, .int (nI a)), (0, .ref 53)] [.ref 53, .int (nI b)] h rfl ?_
    refine rx_T.gf (M := rxm_114) (k := 37) rfl rfl rfl c1 c2 ?_
    refine rx_T.op (M := rxm_114) (ins := .if_icmp .ge 160) rfl rfl rfl rfl (rx_b2_t 177 (decide_eq_true (nI_le (Nat.le_refl b) (by omega))) (by decide)) ?_
    refine rx_T.lv [(1, .int (nI a)), (0, .ref 53)] (((rx_lvl.nil _).cons rfl rfl).cons rfl rfl) ?_
    exact K h (hj.to (fun a' b' c' z => by unfold rx_lx; omega))
  | succ q ih =>
    intro b h hb hj
    have hbn : b < n := by omega
    have at46 : rx_hin rx_I0 h → ∀ v : Int32, rx_T rx_cds rx_ms rx_lk0 rt (d + 2) w 114 46 [(2, .int (nI b)), (1, .int (nI a)), (0, .ref 53)] [.int v, .int (nI (12 * a + b)), .ref 62] h P := by
      intro hh v
      refine rx_T.iaW (M := rxm_114) (k := 46) rfl rfl hh rfl (show (12 * a + b) < 144 by omega) (by decide) (rxi_lo _) (rxi_hi _) (fun h1 hh1 v1 z1 => ?_)
      have hj1 := hj.oth (Or.inl rfl) hh1 z1
      have at86 : ∀ v2 : Int32, rx_T rx_cds rx_ms rx_lk0 rt (d + 2) w 114 86 [(2, .int (nI b)), (1, .int (nI a)), (0, .ref 53)] [.int v2, .int (nI (12 * a + b)), .ref 64] h1 P := by
        intro v2
        refine rx_T.iaW (M := rxm_114) (k := 48) rfl rfl hh1 rfl (show (12 * a + b) < 144 by omega) (by decide) (rxi_lo _) (rxi_hi _) (fun h2 hh2 v2 z2 => ?_)
        have hj2 := hj1.oth (Or.inr rfl) hh2 z2
        refine rx_T.to 2 89 [(3, .int (nI 0)), (2, .int (nI b)), (1, .int (nI a)), (0, .ref 53)] [] h2 rfl ?_
        refine rx_bg_c han hbn hn hw en (fun h3 hj3 => ?_) n 0 h2 (by omega) hj2
        refine rx_T.to 2 12 [(2, .int ((nI b) + Int32.ofInt 1)), (1, .int (nI a)), (0, .ref 53)] [] h3 rfl ?_
        rw [show nI b + Int32.ofInt 1 = nI (b + 1) from nI_1 b]
        exact ih (b + 1) h3 (by omega) hj3
      refine rx_T.to 1 48 [(2, .int (nI b)), (1, .int (nI a)), (0, .ref 53)] [.ref 53] h1 rfl ?_
      refine rx_T.gfr (M := rxm_114) (k := 37) rfl rfl rfl hh1 rfl rfl ?_
      refine rx_T.to 7 59 [(2, .int (nI b)), (1, .int (nI a)), (0, .ref 53)] [.int (nI b), .int (nI a), .int (((Int8.ofInt 12).toInt32 * (nI a)) + (nI b)), .ref 64] h1 rfl ?_
      rw [rx_ix12 a b (by omega) (by omega)]
      refine rx_T.br2 (M := rxm_114) 66 rfl rfl (by decide) (fun _ => ?_) (fun _ => ?_)
      · refine rx_T.to 2 68 [(2, .int (nI b)), (1, .int (nI a)), (0, .ref 53)] [.int (nI b), .int (nI a), .int (nI (12 * a + b)), .ref 64] h1 rfl ?_
        refine rx_T.br2 (M := rxm_114) 80 rfl rfl (by decide) (fun _ => ?_) (fun _ => ?_)
        · refine rx_T.to 5 86 [(2, .int (nI b)), (1, .int (nI a)), (0, .ref 53)] [.int (((Int8.ofInt 12).toInt32 * (nI b)) + (nI a)), .int (nI (12 * a + b)), .ref 64] h1 rfl ?_
          exact at86 _
        · refine rx_T.to 6 86 [(2, .int (nI b)), (1, .int (nI a)), (0, .ref 53)] [.int (((Int8.ofInt 12).toInt32 * (nI a)) + (nI b)), .int (nI (12 * a + b)), .ref 64] h1 rfl ?_
          exact at86 _
      · refine rx_T.to 2 86 [(2, .int (nI b)), (1, .int (nI a)), (0, .ref 53)] [.int (-1), .int (nI (12 * a + b)), .ref 64] h1 rfl ?_
        exact at86 _
    have hh := hj.1
    have k2 := hj.2.1
    obtain ⟨vs, c1, c2⟩ := rx_gF_f hh ((rx_gF_of (k2 37 (by decide))).trans en)
    refine rx_T.to 2 14 [(2, .int (nI b)), (1, .int (nI a)), (0, .ref 53)] [.ref 53, .int (nI b)] h rfl ?_
    refine rx_T.gf (M := rxm_114) (k := 37) rfl rfl rfl c1 c2 ?_
    refine rx_T.op (M := rxm_114) (ins := .if_icmp .ge 160) rfl rfl rfl rfl (rx_b2_f (decide_eq_false (nI_ge hbn (by omega))) (by decide)) ?_
    refine rx_T.to 1 21 [(2, .int (nI b)), (1, .int (nI a)), (0, .ref 53)] [.ref 53] h rfl ?_
    refine rx_T.gfr (M := rxm_114) (k := 37) rfl rfl rfl hh rfl rfl ?_
    refine rx_T.to 7 32 [(2, .int (nI b)), (1, .int (nI a)), (0, .ref 53)] [.int (nI b), .int (nI a), .int (((Int8.ofInt 12).toInt32 * (nI a)) + (nI b)), .ref 62] h rfl ?_
    rw [rx_ix12 a b (by omega) (by omega)]
    refine rx_T.br2 (M := rxm_114) 39 rfl rfl (by decide) (fun _ => ?_) (fun _ => ?_)
    · refine rx_T.to 7 46 [(2, .int (nI b)), (1, .int (nI a)), (0, .ref 53)] [.int ((1 <<< ((nI a) &&& 31)) ||| (1 <<< ((nI b) &&& 31))), .int (nI (12 * a + b)), .ref 62] h rfl ?_
      exact at46 hh _
    · refine rx_T.to 2 46 [(2, .int (nI b)), (1, .int (nI a)), (0, .ref 53)] [.int 0, .int (nI (12 * a + b)), .ref 62] h rfl ?_
      exact at46 hh _
set_option maxRecDepth 100000 in
set_option maxHeartbeats 4000000 in
theorem rx_bg_a {n : Nat} {h0 : rx_H} (hh0 : rx_hin rx_I0 h0) (hx0 : rx_Xm h0) (hn : n ≤ 7) (hw : 60 ≤ w) (en : rx_gF h0 37 1 = nI n) : ∀ (q a : Nat) (h : rx_H), a + q = n → rx_bg2 (rx_gI h0 38) (rx_gI h0 39) (rx_gI h0 47) n h0 a 0 0 h →
    rx_T rx_cds rx_ms rx_lk0 rt (d + 2) w 114 2 [(1, .int (nI a)), (0, .ref 53)] [] h (fun v h' => (v = none ∧ rx_gF h' 37 20 = 0) ∧ rx_hin rx_I0 h' ∧ rx_Xm h' ∧ rx_Fb h0 h') := by
  intro q
  induction q with
  | zero =>
    intro a h ha hj
    have ea : a = n := by omega
    subst ea
    have hh := hj.1
    have k2 := hj.2.1
    obtain ⟨vs, c1, c2⟩ := rx_gF_f hh ((rx_gF_of (k2 37 (by decide))).trans en)
    refine rx_T.to 2 4 [(1, .int (nI a)), (0, .ref 53)] [.ref 53, .int (nI a)] h rfl ?_
    refine rx_T.gf (M := rxm_114) (k := 37) rfl rfl rfl c1 c2 ?_
    refine rx_T.op (M := rxm_114) (ins := .if_icmp .ge 176) rfl rfl rfl rfl (rx_b2_t 183 (decide_eq_true (nI_le (Nat.le_refl a) (by omega))) (by decide)) ?_
    refine rx_T.lv [(0, .ref 53)] ((rx_lvl.nil _).cons rfl rfl) ?_
    refine rx_T.to 1 184 [(0, .ref 53)] [.ref 53] h rfl ?_
    refine rx_T.callm (M := rxm_114) (N := rxm_115) (j := 115) (nest := 0) (as' := []) (rest := []) rfl rfl rfl rfl rfl rfl rfl rfl (Nat.le_of_ble_eq_true rfl) (Nat.le_of_ble_eq_true rfl) hh (show 19 + 7 ≤ w by omega) (rx_nl (show 30 ≤ w - (19 + 7) by omega) hh) ?_
    intro v1 h1 hp
    obtain ⟨rfl, hh1, hF1⟩ := hp
    refine rx_T.to 1 188 [(0, .ref 53)] [.ref 53] h1 rfl ?_
    refine rx_T.callm (M := rxm_114) (N := rxm_117) (j := 117) (nest := 0) (as' := []) (rest := []) rfl rfl rfl rfl rfl rfl rfl rfl (Nat.le_of_ble_eq_true rfl) (Nat.le_of_ble_eq_true rfl) hh1 (show 19 + 3 ≤ w by omega) (rx_startLattice hh1) ?_
    intro v2 h2 hp
    obtain ⟨rfl, hh2, hF2, fs, fb, fr, hl2, hg2⟩ := hp
    obtain ⟨ws, d1, d2, _⟩ := rx_get_o hh2 (k := 37) rfl
    obtain ⟨e1, e2, _⟩ := hl2.gL
    refine rx_T.to 2 193 [(0, .ref 53)] [.int 0, .ref 53] h2 rfl ?_
    refine rx_T.pf (M := rxm_114) (k := 37) rfl rfl rfl d1 (by rw [d2]; decide) rfl ?_
    have s1 : ∀ z, ¬ z = 37 → (h2.set 37 (.inr (5, ws.set 20 (.int 0))))[z]? = h2[z]? := fun z hz => List.getElem?_set_ne (fun y => hz y.symm)
    refine rx_T.ret (M := rxm_114) (v := none) rfl rfl rfl ⟨⟨rfl, rx_gF_new d1 (by rw [d2]; decide)⟩, rx_hin_fld (i := 20) (x := 0) hh2 d1 (fun fs hfs => by cases hfs; rfl) (by decide) (by decide), ⟨?_, ?_⟩, ⟨fun z hz => ?_, fun j j1 j2 => ?_⟩⟩
    · rw [rx_gL_of (s1 50 (by decide)), rx_gI_of (s1 51 (by decide)), e1, e2]
      exact hg2
    · rw [rx_gI_of (s1 47 (by decide)), rx_gI_of (hF2 47 (by decide)), rx_gI_of (hF1.1 47 (by decide) (by decide))]
      exact hj.sym hh0 hx0.2
    · rw [s1 z (by omega), hF2 z (by omega), hF1.1 z (by omega) (by omega), k2 z (by omega)]
    · rw [rx_gF_set d1 (fun y => j2 y.symm), rx_gF_of (hF2 37 (by decide)), hF1.2 j j1, rx_gF_of (k2 37 (by decide))]
  | succ q ih =>
    intro a h ha hj
    have han : a < n := by omega
    have hh := hj.1
    have k2 := hj.2.1
    obtain ⟨vs, c1, c2⟩ := rx_gF_f hh ((rx_gF_of (k2 37 (by decide))).trans en)
    refine rx_T.to 2 4 [(1, .int (nI a)), (0, .ref 53)] [.ref 53, .int (nI a)] h rfl ?_
    refine rx_T.gf (M := rxm_114) (k := 37) rfl rfl rfl c1 c2 ?_
    refine rx_T.op (M := rxm_114) (ins := .if_icmp .ge 176) rfl rfl rfl rfl (rx_b2_f (decide_eq_false (nI_ge han (by omega))) (by decide)) ?_
    refine rx_T.to 2 12 [(2, .int (nI 0)), (1, .int (nI a)), (0, .ref 53)] [] h rfl ?_
    refine rx_bg_b han hn hw en (fun h' hj' => ?_) n 0 h (by omega) hj
    refine rx_T.to 2 2 [(1, .int ((nI a) + Int32.ofInt 1)), (0, .ref 53)] [] h' rfl ?_
    rw [show nI a + Int32.ofInt 1 = nI (a + 1) from nI_1 a]
    exact ih (a + 1) h' (by omega) hj'
set_option maxRecDepth 100000 in
set_option maxHeartbeats 4000000 in
theorem rx_begin {h : rx_H} (hw : 60 ≤ w) (hh : rx_hin rx_I0 h) (hx : rx_Xm h) : rx_T rx_cds rx_ms rx_lk0 rt (d + 2) w 114 0 [(0, .ref 53)] [] h (fun v h' => (v = none ∧ rx_gF h' 37 20 = 0) ∧ rx_hin rx_I0 h' ∧ rx_Xm h' ∧ rx_Fb h h') := by
  obtain ⟨n, hn, vs, c1, c2⟩ := rx_gFn hh
  refine rx_T.to 2 2 [(1, .int (nI 0)), (0, .ref 53)] [] h rfl ?_
  exact rx_bg_a hh hx hn hw (rx_gF_at c1 c2) n 0 h (by omega) ⟨hh, fun _ _ => rfl, fun a' b' c' _ _ _ => ⟨fun z => absurd z.1 (by unfold rx_lx; omega), fun _ => rfl⟩⟩
end RXBG
