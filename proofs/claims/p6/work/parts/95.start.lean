def rx_st_t1 : List rx_Rw := [(0, ([(0, .inr (.inl (21, 21)))], []), (520, [0]), 1000000, []),
  (1, ([(0, .inr (.inl (21, 21)))], [(.inr (.inl (21, 21)), some (.inl 0))]), (519, [0]), 1000000, []),
  (2, ([(0, .inr (.inl (21, 21)))], [(.inr (.inl (21, 21)), some (.inl 0)), (.inr (.inl (21, 21)), some (.inl 0))]), (518, [0]), 1000000, []),
  (5, ([(0, .inr (.inl (21, 21)))], [(.inr (.inl (17, 17)), none), (.inr (.inl (21, 21)), some (.inl 0))]), (517, [0]), 1000000, []),
  (8, ([(0, .inr (.inl (21, 21)))], [(.inl (0, 7), none), (.inr (.inl (21, 21)), some (.inl 0))]), (516, [0]), 1000000, []),
  (11, ([(0, .inr (.inl (21, 21)))], []), (515, [0]), 1000000, []),
  (12, ([(0, .inr (.inl (21, 21)))], [(.inr (.inl (21, 21)), some (.inl 0))]), (514, [0]), 1000000, []),
  (13, ([(0, .inr (.inl (21, 21)))], [(.inl (0, 0), none), (.inr (.inl (21, 21)), some (.inl 0))]), (513, [0]), 1000000, []),
  (16, ([(0, .inr (.inl (21, 21)))], []), (512, [0]), 1000000, []),
  (17, ([(0, .inr (.inl (21, 21)))], [(.inr (.inl (21, 21)), some (.inl 0))]), (511, [0]), 1000000, []),
  (20, ([(0, .inr (.inl (21, 21)))], [(.inr (.inl (22, 22)), none)]), (510, [0]), 0, []),
  (23, ([(0, .inr (.inl (21, 21)))], []), (509, [0]), 1000000, []),
  (24, ([(0, .inr (.inl (21, 21)))], [(.inl (0, 0), none)]), (508, [0]), 1000000, []),
  (25, ([(0, .inr (.inl (21, 21))), (1, .inl (0, 21))], []), (507, [-23]), 1000000, []),
  (26, ([(0, .inr (.inl (21, 21))), (1, .inl (0, 21))], [(.inl (0, 21), some (.inl 1))]), (506, [-23]), 1000000, []),
  (28, ([(0, .inr (.inl (21, 21))), (1, .inl (0, 21))], [(.inl (21, 21), none), (.inl (0, 21), some (.inl 1))]), (505, [-23]), 1000000, []),
  (31, ([(0, .inr (.inl (21, 21))), (1, .inl (0, 20))], []), (504, [-23]), 1000000, []),
  (32, ([(0, .inr (.inl (21, 21))), (1, .inl (0, 20))], [(.inr (.inl (21, 21)), some (.inl 0))]), (503, [-23]), 1000000, []),
  (35, ([(0, .inr (.inl (21, 21))), (1, .inl (0, 20))], [(.inr (.inl (46, 46)), none)]), (502, [-23]), 1000000, []),
  (36, ([(0, .inr (.inl (21, 21))), (1, .inl (0, 20))], [(.inl (0, 20), some (.inl 1)), (.inr (.inl (46, 46)), none)]), (501, [-23]), 1000000, []),
  (39, ([(0, .inr (.inl (21, 21))), (1, .inl (0, 20))], [(.inr (.inl (2, 2)), none), (.inl (0, 20), some (.inl 1)), (.inr (.inl (46, 46)), none)]), (500, [-23]), 1000000, []),
  (40, ([(0, .inr (.inl (21, 21))), (1, .inl (0, 20))], [(.inl (0, 20), some (.inl 1)), (.inr (.inl (2, 2)), none), (.inl (0, 20), some (.inl 1)), (.inr (.inl (46, 46)), none)]), (499, [-23]), 1000000, []),
  (41, ([(0, .inr (.inl (21, 21))), (1, .inl (0, 20))], [(.inl (3, 96), none), (.inl (0, 20), some (.inl 1)), (.inr (.inl (46, 46)), none)]), (498, [-23]), 1000000, []),
  (42, ([(0, .inr (.inl (21, 21))), (1, .inl (0, 20))], []), (497, [-23]), 1000000, []),
  (43, ([(0, .inr (.inl (21, 21))), (1, .inl (0, 20))], [(.inr (.inl (21, 21)), some (.inl 0))]), (496, [-23]), 1000000, []),
  (46, ([(0, .inr (.inl (21, 21))), (1, .inl (0, 20))], [(.inr (.inl (47, 47)), none)]), (495, [-23]), 1000000, []),
  (47, ([(0, .inr (.inl (21, 21))), (1, .inl (0, 20))], [(.inl (0, 20), some (.inl 1)), (.inr (.inl (47, 47)), none)]), (494, [-23]), 1000000, []),
  (48, ([(0, .inr (.inl (21, 21))), (1, .inl (0, 20))], [(.inl (0, 20), some (.inl 1)), (.inl (0, 20), some (.inl 1)), (.inr (.inl (47, 47)), none)]), (493, [-23]), 1000000, []),
  (49, ([(0, .inr (.inl (21, 21))), (1, .inl (0, 20))], []), (492, [-23]), 1000000, []),
  (50, ([(0, .inr (.inl (21, 21))), (1, .inl (0, 20))], [(.inr (.inl (21, 21)), some (.inl 0))]), (491, [-23]), 1000000, []),
  (53, ([(0, .inr (.inl (21, 21))), (1, .inl (0, 20))], [(.inr (.inl (48, 48)), none)]), (490, [-23]), 1000000, []),
  (54, ([(0, .inr (.inl (21, 21))), (1, .inl (0, 20))], [(.inl (0, 20), some (.inl 1)), (.inr (.inl (48, 48)), none)]), (489, [-23]), 1000000, []),
  (55, ([(0, .inr (.inl (21, 21))), (1, .inl (0, 20))], [(.inl (0, 20), some (.inl 1)), (.inl (0, 20), some (.inl 1)), (.inr (.inl (48, 48)), none)]), (488, [-23]), 1000000, []),
  (56, ([(0, .inr (.inl (21, 21))), (1, .inl (0, 20))], []), (487, [-23]), 1000000, []),
  (59, ([(0, .inr (.inl (21, 21))), (1, .inl (1, 21))], []), (508, [-23]), 1000000, []),
  (62, ([(0, .inr (.inl (21, 21))), (1, .inl (21, 21))], []), (3, [0]), 1000000, []),
  (63, ([(0, .inr (.inl (21, 21))), (1, .inl (21, 21))], [(.inl (0, 0), none)]), (2, [0]), 1000000, []),
  (64, ([(0, .inr (.inl (21, 21))), (1, .inl (0, 0))], []), (1, [0]), 2000000, [])]
def rx_st_t2 : List rx_Rw := [(103, ([(0, .inr (.inl (21, 21)))], []), (16, []), 1000000, []),
  (104, ([(0, .inr (.inl (21, 21)))], [(.inr (.inl (21, 21)), some (.inl 0))]), (15, []), 1000000, []),
  (105, ([(0, .inr (.inl (21, 21)))], [(.inr (.inl (21, 21)), some (.inl 0)), (.inr (.inl (21, 21)), some (.inl 0))]), (14, []), 1000000, []),
  (108, ([(0, .inr (.inl (21, 21)))], [(.inr (.inl (51, 51)), none), (.inr (.inl (21, 21)), some (.inl 0))]), (13, []), 1000000, []),
  (111, ([(0, .inr (.inl (21, 21)))], [(.inl (0, 679), none), (.inr (.inl (21, 21)), some (.inl 0))]), (12, []), 1000000, []),
  (114, ([(0, .inr (.inl (21, 21)))], []), (11, []), 1000000, []),
  (115, ([(0, .inr (.inl (21, 21)))], [(.inr (.inl (21, 21)), some (.inl 0))]), (10, []), 1000000, []),
  (118, ([(0, .inr (.inl (21, 21)))], [(.inr (.inl (51, 51)), none)]), (9, []), 1000000, []),
  (121, ([(0, .inr (.inl (21, 21)))], [(.inr (.inl (52, 52)), none)]), (8, []), 1000000, []),
  (122, ([(0, .inr (.inl (21, 21)))], [(.inl (0, 0), none), (.inr (.inl (52, 52)), none)]), (7, []), 1000000, []),
  (123, ([(0, .inr (.inl (21, 21)))], [(.inr (.inl (21, 21)), some (.inl 0)), (.inl (0, 0), none), (.inr (.inl (52, 52)), none)]), (6, []), 1000000, []),
  (126, ([(0, .inr (.inl (21, 21)))], [(.inr (.inl (50, 50)), none), (.inl (0, 0), none), (.inr (.inl (52, 52)), none)]), (5, []), 1000000, []),
  (127, ([(0, .inr (.inl (21, 21)))], [(.inl (0, 0), none), (.inr (.inl (50, 50)), none), (.inl (0, 0), none), (.inr (.inl (52, 52)), none)]), (4, []), 1000000, []),
  (128, ([(0, .inr (.inl (21, 21)))], [(.inr (.inl (21, 21)), some (.inl 0)), (.inl (0, 0), none), (.inr (.inl (50, 50)), none), (.inl (0, 0), none), (.inr (.inl (52, 52)), none)]), (3, []), 1000000, []),
  (131, ([(0, .inr (.inl (21, 21)))], [(.inl (0, 679), none), (.inl (0, 0), none), (.inr (.inl (50, 50)), none), (.inl (0, 0), none), (.inr (.inl (52, 52)), none)]), (2, []), 1000000, []),
  (134, ([(0, .inr (.inl (21, 21)))], []), (1, []), 1000000, [])]
set_option maxRecDepth 100000 in
set_option maxHeartbeats 4000000 in
theorem rx_st_k2 {rt : rx_R} {d w : Nat} (ht : rx_tok rx_Ex rt) (hd : 3 ≤ d) (hw : 100 ≤ w) {lv : rx_L} {h : rx_H} (hl : rx_lk lv 0 = some (.ref 21)) (hh : rx_hin rx_I0 h) : rx_T rx_cds rx_ms rx_lk0 rt d w 41 103 lv [] h (fun v h' => rx_pin none v ∧ rx_hin rx_I0 h' ∧ True ∧ rx_Fx h h') :=
  rx_key (E := rx_Ex) (sps := []) (V := []) (tb := rx_st_t2) (D := 3) (W := 100) rx_msl rx_env_x rx_fn (by decide +kernel) ht hd hw (fun q hq e => by
    have h1 : rx_st_t2.all (fun q => !(Nat.beq q.2.2.2.1 2000000)) = true := by decide +kernel
    have h2 := List.all_eq_true.mp h1 q hq
    rw [e] at h2
    cases h2) _ List.mem_cons_self lv [] h ⟨(fun j y hy => by
      rcases rx_ag_c hy with ⟨e1, e2⟩ | ⟨_, hy⟩
      · simp only at e1 e2
        subst e1 e2
        exact ⟨_, hl, _, rfl, Nat.le_refl _, Nat.le_refl _⟩
      · cases hy), trivial⟩ (fun r hr => by cases hr) hh trivial
theorem rx_tri : ∀ i : Nat, i < 35 → 7 ≤ (rx_s3v.getD i 0).toInt ∧ (rx_s3v.getD i 0).toInt ≤ 112 := by decide +kernel
set_option maxRecDepth 100000 in
set_option maxHeartbeats 4000000 in
theorem rx_st_loop {rt : rx_R} {d w : Nat} (ht : rx_tok rx_Ex rt) (hd : 3 ≤ d + 1) (hw : 100 ≤ w) : ∀ (m i : Nat) (lv : rx_L) (h : rx_H), i + m = 35 → rx_lk lv 0 = some (.ref 21) → rx_lk lv 1 = some (.int (nI i)) → rx_hin rx_I0 h → rx_T rx_cds rx_ms rx_lk0 rt (d + 1) w 41 64 lv [] h (fun v h' => rx_pin none v ∧ rx_hin rx_I0 h' ∧ True ∧ rx_Fx h h') := by
  have hrt : rt 3 = some (35, fun j => rx_s3v.getD j 0) := ht.1 3 _ rfl
  intro m
  induction m with
  | zero =>
    intro i lv h hi h0 h1 hh
    have ei : i = 35 := by omega
    subst ei
    refine rx_T.il1 (M := rxm_41) (k := 1) rfl rfl h1 ?_
    refine rx_T.to 1 68 lv [.ref 3, .int (nI 35)] h rfl ?_
    refine rx_T.op (M := rxm_41) (ins := .arraylength) rfl rfl rfl rfl (show rx_al rt 68 lv [.ref 3, .int (nI 35)] h = some (69, lv, [.int (Int32.ofNat 35), .int (nI 35)], h) by unfold rx_al rx_aln; simp only [hrt]; rfl) ?_
    refine rx_T.op (M := rxm_41) (ins := .if_icmp .ge 34) rfl rfl rfl rfl (rx_b2_t 103 (by decide +kernel) (by decide)) ?_
    exact rx_st_k2 ht hd hw h0 hh
  | succ m ih =>
    intro i lv h hi h0 h1 hh
    have hi35 : i < 35 := by omega
    refine rx_T.il1 (M := rxm_41) (k := 1) rfl rfl h1 ?_
    refine rx_T.to 1 68 lv [.ref 3, .int (nI i)] h rfl ?_
    refine rx_T.op (M := rxm_41) (ins := .arraylength) rfl rfl rfl rfl (show rx_al rt 68 lv [.ref 3, .int (nI i)] h = some (69, lv, [.int (Int32.ofNat 35), .int (nI i)], h) by unfold rx_al rx_aln; simp only [hrt]; rfl) ?_
    refine rx_T.op (M := rxm_41) (ins := .if_icmp .ge 34) rfl rfl rfl rfl (rx_b2_f (decide_eq_false (show ¬ nI 35 ≤ nI i from nI_ge hi35 (by decide))) (by decide)) ?_
    refine rx_T.to 1 75 lv [.ref 3] h rfl ?_
    refine rx_T.il1 (M := rxm_41) (k := 1) rfl rfl h1 ?_
    refine rx_T.iald (M := rxm_41) (n := 35) (f := fun j => rx_s3v.getD j 0) rfl rfl (by unfold rx_ri; rw [if_pos (by decide)]; exact hrt) (vp_in_nI hi35 (by decide)) ?_
    rw [nI_clamp (by omega)]
    obtain ⟨t1, t2⟩ := rx_tri i hi35
    refine rx_T.is1 (M := rxm_41) (k := 2) rfl rfl (by decide) ?_
    have l0 : rx_lk (rx_s1 lv 2 (.int (rx_s3v.getD i 0))) 0 = some (.ref 21) := rx_lk_s1 (by decide) (fun z => absurd z (by decide)) h0
    have l1 : rx_lk (rx_s1 lv 2 (.int (rx_s3v.getD i 0))) 1 = some (.int (nI i)) := rx_lk_s1 (w := .int (nI i)) (by decide) (fun _ => (by decide : ¬ (1 : Nat) = 2)) h1
    have l2 : rx_lk (rx_s1 lv 2 (.int (rx_s3v.getD i 0))) 2 = some (.int (rx_s3v.getD i 0)) := rx_lk_s _ _ _
    show rx_T rx_cds rx_ms rx_lk0 rt (d + 1) w 41 78 (rx_s1 lv 2 (.int (rx_s3v.getD i 0))) [] h _
    generalize rx_s1 lv 2 (.int (rx_s3v.getD i 0)) = lv2 at l0 l1 l2 ⊢
    obtain ⟨vs, c1, c2, c3⟩ := rx_get_o (k := 5) hh rfl
    obtain ⟨x7, f7, g7⟩ := c3 7 _ rfl
    have e7 := rx_ref_e g7
    subst e7
    refine rx_T.al1 (M := rxm_41) (k := 0) rfl rfl l0 ?_
    refine rx_T.gf (M := rxm_41) (k := 5) rfl rfl rfl c1 f7 ?_
    refine rx_T.il1 (M := rxm_41) (k := 2) rfl rfl l2 ?_
    refine rx_T.al1 (M := rxm_41) (k := 0) rfl rfl l0 ?_
    refine rx_T.il1 (M := rxm_41) (k := 2) rfl rfl l2 ?_
    refine rx_T.call (M := rxm_41) (N := rxm_44) (j := 44) (as := [.ref 21, .int (rx_s3v.getD i 0)]) (rest := [.int (rx_s3v.getD i 0), .ref 49]) rfl rfl rfl (rx_callv (k := 5) rfl rfl rfl rfl rfl (Nat.le_of_ble_eq_true rfl) (Nat.le_of_ble_eq_true rfl) rfl c1 rfl) rfl (show 19 + 5 ≤ w by omega) ((rx_isp  ht hh i hi35).more (by omega) (show 60 ≤ w - (19 + 5) by omega)) ?_
    intro v1 h9 hp
    obtain ⟨p1, p2, _, p4⟩ := hp
    match v1, p1 with
    | some y, p1 =>
      obtain ⟨b, rfl, b1, b2⟩ := p1
      obtain ⟨f, q1, q2⟩ := rx_get_a (k := 33) p2 rfl
      have hin : vp_in (rx_s3v.getD i 0) 256 := (rx_ix_in (a := 7) (b := 112) (by decide) t1 t2).1
      have fin : ∀ z : Int32, rx_T rx_cds rx_ms rx_lk0 rt (d + 1) w 41 96 lv2 [.int z, .int (rx_s3v.getD i 0), .ref 49] h9 (fun v h' => rx_pin none v ∧ rx_hin rx_I0 h' ∧ True ∧ rx_Fx h h') := by
        intro z
        refine rx_T.iast (M := rxm_41) (a := 33) rfl rfl q1 hin ?_
        refine rx_T.ii (M := rxm_41) rfl rfl l1 (by decide) ?_
        refine rx_T.to 1 64 _ [] _ rfl ?_
        rw [show nI i + Int32.ofInt 1 = nI (i + 1) from nI_1 i]
        refine (ih (i + 1) _ _ (by omega) (rx_lk_s1 (by decide) (fun _ => (by decide : ¬ (1 : Nat) = 2)) l0) (rx_lk_s _ _ _) (rx_hin_set p2 (k := 33) rfl ⟨_, rfl, fun j _ => ⟨rxi_lo _, rxi_hi _⟩⟩)).mono (fun v h' q => ⟨q.1, q.2.1, trivial, (p4.trans (rx_Fx.set (by decide))).trans q.2.2.2⟩)
      show rx_T rx_cds rx_ms rx_lk0 rt (d + 1) w 41 88 lv2 [.int b, .int (rx_s3v.getD i 0), .ref 49] h9 (fun v h' => rx_pin none v ∧ rx_hin rx_I0 h' ∧ True ∧ rx_Fx h h')
      refine rx_T.br1 (M := rxm_41) 95 rfl rfl (by decide) (fun _ => ?_) (fun _ => ?_)
      · refine rx_T.to 1 96 lv2 [.int 0, .int (rx_s3v.getD i 0), .ref 49] h9 rfl ?_
        exact fin 0
      · refine rx_T.il1 (M := rxm_41) (k := 2) rfl rfl l2 ?_
        refine rx_T.to 1 96 lv2 [.int (rx_s3v.getD i 0), .int (rx_s3v.getD i 0), .ref 49] h9 rfl ?_
        exact fin _
    | none, p1 => exact absurd p1 (fun z => z)
set_option maxRecDepth 100000 in
set_option maxHeartbeats 4000000 in
theorem rx_sp_start : rx_spx rxya_1 := by
  intro rt d w as h ht hd hw has hh _
  have hd : 3 ≤ d := hd
  have hw : 100 ≤ w := hw
  obtain ⟨v0, as0, rfl, h0, has0⟩ := rx_asin_e has
  have e0 := rx_ref_e h0
  subst e0
  have e1 := rx_asin_nil has0
  subst e1
  obtain ⟨d', rfl⟩ : ∃ d', d = d' + 1 := ⟨d - 1, by omega⟩
  refine rx_key (E := rx_Ex) (sps := [rxya_23]) (V := [1]) (tb := rx_st_t1) (D := 3) (W := 100) rx_msl rx_env_x (rx_fc (rxyc_23 ) rx_fn) (by decide +kernel) ht hd hw (fun q hq e => ?_) _ List.mem_cons_self _ [] h ⟨rx_alocs_in [.inr (.inl (21, 21))] [.ref 21] 0 ⟨h0, trivial⟩, trivial⟩ (fun r hr => by cases hr) hh trivial
  intro lv st h2 hs hr hh2 _
  have h1 : rx_st_t1.all (fun q => !(Nat.beq q.2.2.2.1 2000000) || (Nat.beq q.1 64 && rx_sle (rx_qs q) ([(0, .inr (.inl (21, 21))), (1, .inl (0, 0))], []))) = true := by decide +kernel
  have h3 := List.all_eq_true.mp h1 q hq
  rw [e] at h3
  simp only [Bool.or_eq_true, Bool.and_eq_true] at h3
  rcases h3 with h3 | ⟨h3, h4⟩
  · cases h3
  · have e2 := Nat.eq_of_beq_eq_true h3
    rw [e2]
    have h5 := rx_sle_in hs h4
    obtain ⟨w0, k0, k1⟩ := h5.1 0 _ rfl
    obtain ⟨w1, k2, x, rfl, k3, k4⟩ := h5.1 1 _ rfl
    have e3 := rx_ref_e k1
    subst e3
    have e4 : x = nI 0 := Int32.toInt_inj.mp (Int.le_antisymm k4 k3)
    subst e4
    have e5 := rx_kin_nil h5.2
    subst e5
    exact rx_st_loop  ht hd hw 35 0 lv h2 rfl k0 k2 hh2
