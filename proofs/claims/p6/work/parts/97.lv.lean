/-! LOCALS THAT ARE NEVER LOOKED AT: a run over some locals (no two of one number) does the same over all locals that say the same of these -/
def rx_lvl (lv lu : rx_L) : Prop := (∀ q ∈ lv, rx_lk lv q.1 = some q.2) ∧ ∀ (i : Nat) (v : Value), rx_lk lv i = some v → rx_lk lu i = some v
theorem rx_lvl.f {lv lu : rx_L} (hl : rx_lvl lv lu) (p : Nat × Value → Bool) (i : Nat) (w : Value) (hp : ∀ q, p q = true → ¬ q.1 = i) : rx_lvl ((i, w) :: lv.filter p) ((i, w) :: lu.filter p) := by
  have key : ∀ (j : Nat) (v : Value), rx_lk (lv.filter p) j = some v → rx_lk lv j = some v ∧ p (j, v) = true := by
    intro j v h
    have h1 := List.mem_filter.mp (rx_lk_mem h)
    exact ⟨hl.1 (j, v) h1.1, h1.2⟩
  refine ⟨fun q hq => ?_, fun j v h => ?_⟩
  · rcases List.mem_cons.mp hq with rfl | hq
    · exact rx_lk_s _ _ _
    · have h1 := List.mem_filter.mp hq
      rw [rx_lk_c (fun z => hp q h1.2 z.symm)]
      exact rx_lk_f p q.1 q.2 h1.2 lv (hl.1 q h1.1)
  · by_cases e : i = j
    · subst e
      rw [rx_lk_s] at h
      rw [rx_lk_s]
      exact h
    · rw [rx_lk_c e] at h
      rw [rx_lk_c e]
      obtain ⟨h1, h2⟩ := key j v h
      exact rx_lk_f p j v h2 lu (hl.2 j v h1)
theorem rx_lvl.s1 {lv lu : rx_L} (hl : rx_lvl lv lu) (i : Nat) (w : Value) : rx_lvl (rx_s1 lv i w) (rx_s1 lu i w) := hl.f _ i w (fun q h => by
  simp only [Bool.and_eq_true, Bool.not_eq_true', beq_eq_false_iff_ne] at h
  exact h.1)
theorem rx_lvl.s2 {lv lu : rx_L} (hl : rx_lvl lv lu) (i : Nat) (w : Value) : rx_lvl (rx_s2 lv i w) (rx_s2 lu i w) := hl.f _ i w (fun q h => by
  simp only [Bool.and_eq_true, Bool.not_eq_true', beq_eq_false_iff_ne] at h
  exact h.1)
set_option maxHeartbeats 4000000 in
set_option maxRecDepth 100000 in
theorem rx_op_lvl {cds : List (List Value)} {lk : rx_Lk} {rt : rx_R} {d w : Nat} {M : rx_M} {ins : Instr} {pc pc' : Nat} {lv lv' lu : rx_L} {st st' : List Value} {h h' : rx_H} (hl : rx_lvl lv lu) (hop : rx_opI cds lk rt d w M ins pc lv st h = some (pc', lv', st', h')) : ∃ lu' : rx_L, rx_opI cds lk rt d w M ins pc lu st h = some (pc', lu', st', h') ∧ rx_lvl lv' lu' := by
  cases ins
  case iconst n =>
    cases rx_nx_e hop
    refine ⟨lu, ?_, hl⟩
    rfl
  case bipush n =>
    cases rx_nx_e hop
    refine ⟨lu, ?_, hl⟩
    rfl
  case sipush n =>
    cases rx_nx_e hop
    refine ⟨lu, ?_, hl⟩
    rfl
  case lconst n =>
    cases rx_nx_e hop
    refine ⟨lu, ?_, hl⟩
    rfl
  case ldc ix =>
    obtain ⟨v, ho, e⟩ := rx_kc_e hop
    cases e
    refine ⟨lu, ?_, hl⟩
    show rx_kc _ _ pc lu st h = _
    rw [ho]
    rfl
  case ldc_w ix =>
    obtain ⟨v, ho, e⟩ := rx_kc_e hop
    cases e
    refine ⟨lu, ?_, hl⟩
    show rx_kc _ _ pc lu st h = _
    rw [ho]
    rfl
  case ldc2_w ix =>
    obtain ⟨v, ho, e⟩ := rx_kc_e hop
    cases e
    refine ⟨lu, ?_, hl⟩
    show rx_kc _ _ pc lu st h = _
    rw [ho]
    rfl
  case getstatic ix =>
    obtain ⟨v, ho, e⟩ := rx_kc_e hop
    cases e
    refine ⟨lu, ?_, hl⟩
    show rx_kc _ _ pc lu st h = _
    rw [ho]
    rfl
  case iload_n k =>
    obtain ⟨x, hk, e⟩ := rx_li_e hop
    cases e
    refine ⟨lu, ?_, hl⟩
    show rx_li lu _ _ st h = _
    unfold rx_li
    rw [hl.2 _ _ hk]
    rfl
  case iload i =>
    obtain ⟨x, hk, e⟩ := rx_li_e hop
    cases e
    refine ⟨lu, ?_, hl⟩
    show rx_li lu _ _ st h = _
    unfold rx_li
    rw [hl.2 _ _ hk]
    rfl
  case lload_n k =>
    obtain ⟨x, hk, e⟩ := rx_ll_e hop
    cases e
    refine ⟨lu, ?_, hl⟩
    show rx_ll lu _ _ st h = _
    unfold rx_ll
    rw [hl.2 _ _ hk]
    rfl
  case lload i =>
    obtain ⟨x, hk, e⟩ := rx_ll_e hop
    cases e
    refine ⟨lu, ?_, hl⟩
    show rx_ll lu _ _ st h = _
    unfold rx_ll
    rw [hl.2 _ _ hk]
    rfl
  case aload_n k =>
    obtain ⟨x, hk, e⟩ := rx_la_e hop
    cases e
    refine ⟨lu, ?_, hl⟩
    show rx_la lu _ _ st h = _
    unfold rx_la
    rw [hl.2 _ _ hk]
    rfl
  case aload i =>
    obtain ⟨x, hk, e⟩ := rx_la_e hop
    cases e
    refine ⟨lu, ?_, hl⟩
    show rx_la lu _ _ st h = _
    unfold rx_la
    rw [hl.2 _ _ hk]
    rfl
  case istore_n k =>
    obtain ⟨x, t, rfl, hi, e⟩ := rx_si_e hop
    cases e
    exact ⟨_, if_pos hi, rx_lvl.s1 hl _ _⟩
  case istore i =>
    obtain ⟨x, t, rfl, hi, e⟩ := rx_si_e hop
    cases e
    exact ⟨_, if_pos hi, rx_lvl.s1 hl _ _⟩
  case lstore_n k =>
    obtain ⟨x, t, rfl, hi, e⟩ := rx_sl_e hop
    cases e
    exact ⟨_, if_pos hi, rx_lvl.s2 hl _ _⟩
  case lstore i =>
    obtain ⟨x, t, rfl, hi, e⟩ := rx_sl_e hop
    cases e
    exact ⟨_, if_pos hi, rx_lvl.s2 hl _ _⟩
  case astore_n k =>
    obtain ⟨x, t, rfl, hi, e⟩ := rx_sa_e hop
    cases e
    exact ⟨_, if_pos hi, rx_lvl.s1 hl _ _⟩
  case astore i =>
    obtain ⟨x, t, rfl, hi, e⟩ := rx_sa_e hop
    cases e
    exact ⟨_, if_pos hi, rx_lvl.s1 hl _ _⟩
  case iinc i n =>
    obtain ⟨x, hk, hi, e⟩ := rx_in_e hop
    cases e
    refine ⟨_, ?_, rx_lvl.s1 hl i _⟩
    show rx_in _ i n pc lu st h = _
    unfold rx_in
    rw [hl.2 _ _ hk]
    exact if_pos hi
  case iadd =>
    obtain ⟨x, y, t, rfl, e⟩ := rx_2i_e hop
    cases e
    refine ⟨lu, ?_, hl⟩
    rfl
  case isub =>
    obtain ⟨x, y, t, rfl, e⟩ := rx_2i_e hop
    cases e
    refine ⟨lu, ?_, hl⟩
    rfl
  case imul =>
    obtain ⟨x, y, t, rfl, e⟩ := rx_2i_e hop
    cases e
    refine ⟨lu, ?_, hl⟩
    rfl
  case iand =>
    obtain ⟨x, y, t, rfl, e⟩ := rx_2i_e hop
    cases e
    refine ⟨lu, ?_, hl⟩
    rfl
  case ior =>
    obtain ⟨x, y, t, rfl, e⟩ := rx_2i_e hop
    cases e
    refine ⟨lu, ?_, hl⟩
    rfl
  case ixor =>
    obtain ⟨x, y, t, rfl, e⟩ := rx_2i_e hop
    cases e
    refine ⟨lu, ?_, hl⟩
    rfl
  case ishl =>
    obtain ⟨x, y, t, rfl, e⟩ := rx_2i_e hop
    cases e
    refine ⟨lu, ?_, hl⟩
    rfl
  case ishr =>
    obtain ⟨x, y, t, rfl, e⟩ := rx_2i_e hop
    cases e
    refine ⟨lu, ?_, hl⟩
    rfl
  case iushr =>
    obtain ⟨x, y, t, rfl, e⟩ := rx_2i_e hop
    cases e
    refine ⟨lu, ?_, hl⟩
    rfl
  case ladd =>
    obtain ⟨x, y, t, rfl, e⟩ := rx_2l_e hop
    cases e
    refine ⟨lu, ?_, hl⟩
    rfl
  case lsub =>
    obtain ⟨x, y, t, rfl, e⟩ := rx_2l_e hop
    cases e
    refine ⟨lu, ?_, hl⟩
    rfl
  case lmul =>
    obtain ⟨x, y, t, rfl, e⟩ := rx_2l_e hop
    cases e
    refine ⟨lu, ?_, hl⟩
    rfl
  case land =>
    obtain ⟨x, y, t, rfl, e⟩ := rx_2l_e hop
    cases e
    refine ⟨lu, ?_, hl⟩
    rfl
  case lor =>
    obtain ⟨x, y, t, rfl, e⟩ := rx_2l_e hop
    cases e
    refine ⟨lu, ?_, hl⟩
    rfl
  case lxor =>
    obtain ⟨x, y, t, rfl, e⟩ := rx_2l_e hop
    cases e
    refine ⟨lu, ?_, hl⟩
    rfl
  case idiv =>
    obtain ⟨x, y, t, rfl, h0, e⟩ := rx_dv_e hop
    cases e
    refine ⟨lu, ?_, hl⟩
    exact if_neg h0
  case irem =>
    obtain ⟨x, y, t, rfl, h0, e⟩ := rx_dv_e hop
    cases e
    refine ⟨lu, ?_, hl⟩
    exact if_neg h0
  case ldiv =>
    obtain ⟨x, y, t, rfl, h0, e⟩ := rx_dl_e hop
    cases e
    refine ⟨lu, ?_, hl⟩
    exact if_neg h0
  case lrem =>
    obtain ⟨x, y, t, rfl, h0, e⟩ := rx_dl_e hop
    cases e
    refine ⟨lu, ?_, hl⟩
    exact if_neg h0
  case ineg =>
    obtain ⟨x, t, rfl, e⟩ := rx_1i_e hop
    cases e
    refine ⟨lu, ?_, hl⟩
    rfl
  case i2l =>
    obtain ⟨x, t, rfl, e⟩ := rx_1i_e hop
    cases e
    refine ⟨lu, ?_, hl⟩
    rfl
  case lneg =>
    obtain ⟨x, t, rfl, e⟩ := rx_1l_e hop
    cases e
    refine ⟨lu, ?_, hl⟩
    rfl
  case l2i =>
    obtain ⟨x, t, rfl, e⟩ := rx_1l_e hop
    cases e
    refine ⟨lu, ?_, hl⟩
    rfl
  case lushr =>
    obtain ⟨x, y, t, rfl, e⟩ := rx_us_e hop
    cases e
    refine ⟨lu, ?_, hl⟩
    rfl
  case lcmp =>
    obtain ⟨x, y, t, rfl, e⟩ := rx_cm_e hop
    cases e
    refine ⟨lu, ?_, hl⟩
    rfl
  case dup =>
    obtain ⟨a, t, rfl, h1, e⟩ := rx_d0_e hop
    cases e
    refine ⟨lu, ?_, hl⟩
    exact if_pos h1
  case pop =>
    obtain ⟨a, t, rfl, h1, e⟩ := rx_pp_e hop
    cases e
    refine ⟨lu, ?_, hl⟩
    exact if_pos h1
  case dup_x1 =>
    obtain ⟨a, b, t, rfl, h1, h2, e⟩ := rx_d1_e hop
    cases e
    refine ⟨lu, ?_, hl⟩
    exact if_pos ⟨h1, h2⟩
  case dup_x2 =>
    obtain ⟨a, b, d9, t, rfl, h1, h2, h3, e⟩ := rx_d2_e hop
    cases e
    refine ⟨lu, ?_, hl⟩
    exact if_pos ⟨h1, h2, h3⟩
  case dup2 =>
    obtain ⟨a, b, t, rfl, h1, h2, e⟩ := rx_dd_e hop
    cases e
    refine ⟨lu, ?_, hl⟩
    exact if_pos ⟨h1, h2⟩
  case ifCond cond off =>
    obtain ⟨x, t, rfl, q, hg, ⟨hc, e⟩ | ⟨hc, e⟩⟩ := rx_b1_e hop
    · cases e; exact ⟨lu, rx_b1_t _ hc hg, hl⟩
    · cases e; exact ⟨lu, rx_b1_f hc (by omega), hl⟩
  case if_icmp cond off =>
    obtain ⟨x, y, t, rfl, q, hg, ⟨hc, e⟩ | ⟨hc, e⟩⟩ := rx_b2_e hop
    · cases e; exact ⟨lu, rx_b2_t _ hc hg, hl⟩
    · cases e; exact ⟨lu, rx_b2_f hc (by omega), hl⟩
  case goto off =>
    obtain ⟨q, hg, e⟩ := rx_jp_e hop
    cases e
    exact ⟨lu, rx_jp_i hg, hl⟩
  case tableswitch dflt lo hi offs =>
    obtain ⟨x, t, rfl, ⟨h1, q, hg, e⟩ | ⟨h1, h2, off, q, h3, hg, e⟩⟩ := rx_ts_e hop
    · cases e; exact ⟨lu, rx_tsd_i h1 hg, hl⟩
    · cases e; exact ⟨lu, rx_ts_i (fun z => z.elim h1 h2) h3 hg, hl⟩
  case lookupswitch dflt ps =>
    obtain ⟨x, t, rfl, h1, q, hg, e⟩ := rx_ls_e hop
    cases e
    refine ⟨lu, ?_, hl⟩
    show rx_ls dflt ps pc lu (.int x :: st') h = _
    unfold rx_ls
    simp only [h1, if_true]
    exact rx_jp_i hg
  case iaload =>
    obtain ⟨i, a, t, q, rfl, h1, h2, e⟩ := rx_ial_e hop
    cases e
    exact ⟨lu, rx_ial_i h1 h2, hl⟩
  case laload =>
    obtain ⟨i, a, t, q, rfl, h1, h2, e⟩ := rx_lal_e hop
    cases e
    exact ⟨lu, rx_lal_i h1 h2, hl⟩
  case baload =>
    obtain ⟨i, a, t, q, rfl, h1, h2, e⟩ := rx_zal_e hop
    cases e
    exact ⟨lu, rx_zal_i h1 h2, hl⟩
  case aaload =>
    obtain ⟨i, a, t, q, k, rfl, h1, h2, h3, e⟩ := rx_qal_e hop
    cases e
    refine ⟨lu, ?_, hl⟩
    show rx_qal pc lu (.int i :: .ref a :: t) h = _
    unfold rx_qal
    simp only [h1, rx_ok_i h2, if_true, h3]
    rfl
  case iastore =>
    obtain ⟨x, i, k, t, n, f, rfl, h1, h2, h3, e⟩ := rx_ias_e hop
    cases e
    exact ⟨lu, rx_ias_i h1 h3, hl⟩
  case lastore =>
    obtain ⟨x, i, k, t, n, f, rfl, h1, h2, h3, e⟩ := rx_las_e hop
    cases e
    exact ⟨lu, rx_las_i h1 h3, hl⟩
  case bastore =>
    obtain ⟨x, i, k, t, n, f, rfl, h1, h2, h3, e⟩ := rx_zas_e hop
    cases e
    exact ⟨lu, rx_zas_i h1 h3, hl⟩
  case arraylength =>
    obtain ⟨a, t, n, rfl, h1, e⟩ := rx_al_e hop
    cases e
    refine ⟨lu, ?_, hl⟩
    show rx_al rt pc lu (.ref a :: t) h = _
    unfold rx_al
    simp only [h1]
    rfl
  case getfield ix =>
    obtain ⟨k, t, q, fs, v, rfl, h1, h2, h3, e⟩ := rx_gf_e hop
    cases e
    obtain ⟨ci, k2, ty, fl⟩ := q
    exact ⟨lu, rx_gf_i h1 h2 h3, hl⟩
  case putfield ix =>
    obtain ⟨v, k, t, q, fs, rfl, h1, h2, h3, h4, h5, h6, e⟩ := rx_pf_e hop
    cases e
    obtain ⟨ci, k2, ty, fl⟩ := q
    exact ⟨lu, rx_pf_i h1 h2 h4 h5 h6, hl⟩
  case new ix =>
    obtain ⟨ci, fs, h1, h2, e⟩ := rx_nw_e hop
    cases e
    refine ⟨lu, ?_, hl⟩
    show rx_nw _ cds pc lu st h = _
    unfold rx_nw
    simp only [h1, h2]
    rfl
  case newarray a =>
    obtain ⟨q, n, t, h1, rfl, h2, h3, e⟩ := rx_na_e hop
    cases e
    refine ⟨lu, ?_, hl⟩
    show rx_na _ pc lu (.int n :: t) h = _
    unfold rx_na
    simp only [h1]
    rw [if_neg (fun z => z.elim h2 (fun y => Nat.not_lt.mpr h3 y))]
    rfl
  case multianewarray ix n =>
    obtain ⟨k, n, t, ho, rfl, rfl, hn0, hk0, hn1, hk1, e⟩ := rx_mn_e hop
    cases e
    refine ⟨lu, ?_, hl⟩
    show rx_mn _ 2 pc lu (.int k :: .int n :: t) h = _
    unfold rx_mn
    simp only [ho]
    rw [if_pos ⟨trivial, hn0, hk0, hn1, hk1⟩]
    rfl
  case invokespecial ix =>
    obtain ⟨q, h1, h2, h3⟩ := rx_is_e hop
    obtain ⟨a, t, rfl, h4, h5, e⟩ := rx_oi_e h3
    cases e
    refine ⟨lu, ?_, hl⟩
    show rx_is d w _ pc lu _ h = _
    rw [h1]
    unfold rx_is rx_oi
    simp only [h2, if_true]
    rw [if_pos ⟨h4, h5⟩]
    rfl
  case invokestatic ix =>
    obtain ⟨q, h1, ⟨h2, h3⟩ | ⟨h2, h3⟩ | ⟨h2, h3⟩⟩ := rx_it_e hop
    · obtain ⟨n, dp, sp, ka, kb, m0, m1, f, f2, t, rfl, w1, w2, w3, w4, w5, w6, w7, w8, w9, w10, e⟩ := rx_ac_e h3
      cases e
      refine ⟨lu, ?_, hl⟩
      show rx_it d w _ pc lu _ h = _
      rw [h1]
      unfold rx_it
      simp only [h2, if_true]
      unfold rx_ac
      simp only [rx_cold_i w1, rx_cold_i w2]
      rw [if_pos ⟨w4, w5, w6, w7, w8, w9, w10⟩]
      rfl
    · obtain ⟨x, y, t, rfl, w1, w2, e⟩ := rx_m4_e h3
      cases e
      refine ⟨lu, ?_, hl⟩
      show rx_it d w _ pc lu _ h = _
      rw [h1]
      unfold rx_it rx_m4
      simp only [h2]
      rw [if_neg (by decide), if_pos trivial, if_pos ⟨w1, w2⟩]
      rfl
    · obtain ⟨x, y, t, rfl, w1, w2, e⟩ := rx_m5_e h3
      cases e
      refine ⟨lu, ?_, hl⟩
      show rx_it d w _ pc lu _ h = _
      rw [h1]
      unfold rx_it rx_m5
      simp only [h2]
      rw [if_neg (by decide), if_neg (by decide), if_pos trivial, if_pos ⟨w1, w2⟩]
      rfl
  all_goals exact absurd hop (fun z => by cases z)
theorem rx_run_lvl {cds : List (List Value)} {ms : List rx_M} {lk : rx_Lk} {rt : rx_R} : ∀ (f d w mi pc : Nat) (lv : rx_L) (st : List Value) (h : rx_H) (r : Option Value × rx_H), rx_run cds ms lk rt f d w mi pc lv st h = some r → ∀ lu : rx_L, rx_lvl lv lu → rx_run cds ms lk rt f d w mi pc lu st h = some r
  | 0, _, _, _, _, _, _, _, _, e => by rw [rx_run] at e; cases e
  | f + 1, d, w, mi, pc, lv, st, h, (v, h'), e => by
    intro lu hl
    obtain ⟨M, ins, hM, hf, ⟨hr, rfl⟩ | ⟨j, as, rest, N, d1, v1, h1, rfl, hr, hc, hN, hw, e1, e2⟩ | ⟨pc', lv', st', h1, hr, hc, e1, e2⟩⟩ := rx_run_e2 e
    · exact rx_run_ret hM hf hr
    · rw [rx_run_call hM hf hr hc hN hw e1]
      exact rx_run_lvl f _ _ _ _ _ _ _ _ e2 lu hl
    · obtain ⟨lu', a1, a2⟩ := rx_op_lvl hl e1
      rw [rx_run_op hM hf hr hc a1]
      exact rx_run_lvl f _ _ _ _ _ _ _ _ e2 lu' a2
/-- locals as they are wanted -/
theorem rx_T.lv {cds : List (List Value)} {ms : List rx_M} {lk : rx_Lk} {rt : rx_R} {d w mi pc : Nat} {lu : rx_L} {st : List Value} {h : rx_H} {P : Option Value → rx_H → Prop} (lv : rx_L) (hl : rx_lvl lv lu) (k : rx_T cds ms lk rt d w mi pc lv st h P) : rx_T cds ms lk rt d w mi pc lu st h P := by
  obtain ⟨f, v, h', e, hp⟩ := k
  exact ⟨f, v, h', rx_run_lvl f _ _ _ _ _ _ _ _ e lu hl, hp⟩
theorem rx_lvl.nil (lu : rx_L) : rx_lvl [] lu := ⟨(fun q h => by cases h), (fun i v h => by cases h)⟩
theorem rx_lvl.cons {lv lu : rx_L} {i : Nat} {v : Value} (hl : rx_lvl lv lu) (h1 : rx_lk lu i = some v) (h2 : rx_lk lv i = none) : rx_lvl ((i, v) :: lv) lu := by
  refine ⟨fun q hq => ?_, fun j x h => ?_⟩
  · rcases List.mem_cons.mp hq with rfl | hq
    · exact rx_lk_s _ _ _
    · have h3 := hl.1 q hq
      rw [rx_lk_c (fun z => by
        have z : i = q.1 := z
        rw [← z, h2] at h3
        cases h3)]
      exact h3
  · by_cases e : i = j
    · subst e
      rw [rx_lk_s] at h
      cases h
      exact h1
    · rw [rx_lk_c e] at h
      exact hl.2 j x h
