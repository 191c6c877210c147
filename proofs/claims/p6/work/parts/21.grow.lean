set_option maxHeartbeats 4000000 in
set_option maxRecDepth 100000 in
/-- the cells only grow -/
theorem rx_op_grow {cds : List (List Value)} {lk : rx_Lk} {rt : rx_R} {d w : Nat} {M : rx_M} {ins : Instr} {pc pc' : Nat} {lv lv' : rx_L} {st st' : List Value} {h h' : rx_H} (hop : rx_opI cds lk rt d w M ins pc lv st h = some (pc', lv', st', h')) : h.length ≤ h'.length ∧ rx_sz h ≤ rx_sz h' := by
  cases ins
  case iconst n =>
    cases rx_nx_e hop
    exact ⟨Nat.le_refl _, Nat.le_refl _⟩
  case bipush n =>
    cases rx_nx_e hop
    exact ⟨Nat.le_refl _, Nat.le_refl _⟩
  case sipush n =>
    cases rx_nx_e hop
    exact ⟨Nat.le_refl _, Nat.le_refl _⟩
  case lconst n =>
    cases rx_nx_e hop
    exact ⟨Nat.le_refl _, Nat.le_refl _⟩
  case ldc ix =>
    obtain ⟨v, ho, e⟩ := rx_kc_e hop
    cases e
    exact ⟨Nat.le_refl _, Nat.le_refl _⟩
  case ldc_w ix =>
    obtain ⟨v, ho, e⟩ := rx_kc_e hop
    cases e
    exact ⟨Nat.le_refl _, Nat.le_refl _⟩
  case ldc2_w ix =>
    obtain ⟨v, ho, e⟩ := rx_kc_e hop
    cases e
    exact ⟨Nat.le_refl _, Nat.le_refl _⟩
  case getstatic ix =>
    obtain ⟨v, ho, e⟩ := rx_kc_e hop
    cases e
    exact ⟨Nat.le_refl _, Nat.le_refl _⟩
  case iload_n k =>
    obtain ⟨x, hk, e⟩ := rx_li_e hop
    cases e
    exact ⟨Nat.le_refl _, Nat.le_refl _⟩
  case iload i =>
    obtain ⟨x, hk, e⟩ := rx_li_e hop
    cases e
    exact ⟨Nat.le_refl _, Nat.le_refl _⟩
  case lload_n k =>
    obtain ⟨x, hk, e⟩ := rx_ll_e hop
    cases e
    exact ⟨Nat.le_refl _, Nat.le_refl _⟩
  case lload i =>
    obtain ⟨x, hk, e⟩ := rx_ll_e hop
    cases e
    exact ⟨Nat.le_refl _, Nat.le_refl _⟩
  case aload_n k =>
    obtain ⟨x, hk, e⟩ := rx_la_e hop
    cases e
    exact ⟨Nat.le_refl _, Nat.le_refl _⟩
  case aload i =>
    obtain ⟨x, hk, e⟩ := rx_la_e hop
    cases e
    exact ⟨Nat.le_refl _, Nat.le_refl _⟩
  case istore_n k =>
    obtain ⟨x, t, rfl, hi, e⟩ := rx_si_e hop
    cases e
    exact ⟨Nat.le_refl _, Nat.le_refl _⟩
  case istore i =>
    obtain ⟨x, t, rfl, hi, e⟩ := rx_si_e hop
    cases e
    exact ⟨Nat.le_refl _, Nat.le_refl _⟩
  case lstore_n k =>
    obtain ⟨x, t, rfl, hi, e⟩ := rx_sl_e hop
    cases e
    exact ⟨Nat.le_refl _, Nat.le_refl _⟩
  case lstore i =>
    obtain ⟨x, t, rfl, hi, e⟩ := rx_sl_e hop
    cases e
    exact ⟨Nat.le_refl _, Nat.le_refl _⟩
  case astore_n k =>
    obtain ⟨x, t, rfl, hi, e⟩ := rx_sa_e hop
    cases e
    exact ⟨Nat.le_refl _, Nat.le_refl _⟩
  case astore i =>
    obtain ⟨x, t, rfl, hi, e⟩ := rx_sa_e hop
    cases e
    exact ⟨Nat.le_refl _, Nat.le_refl _⟩
  case iinc i n =>
    obtain ⟨x, hk, hi, e⟩ := rx_in_e hop
    cases e
    exact ⟨Nat.le_refl _, Nat.le_refl _⟩
  case iadd =>
    obtain ⟨x, y, t, rfl, e⟩ := rx_2i_e hop
    cases e
    exact ⟨Nat.le_refl _, Nat.le_refl _⟩
  case isub =>
    obtain ⟨x, y, t, rfl, e⟩ := rx_2i_e hop
    cases e
    exact ⟨Nat.le_refl _, Nat.le_refl _⟩
  case imul =>
    obtain ⟨x, y, t, rfl, e⟩ := rx_2i_e hop
    cases e
    exact ⟨Nat.le_refl _, Nat.le_refl _⟩
  case iand =>
    obtain ⟨x, y, t, rfl, e⟩ := rx_2i_e hop
    cases e
    exact ⟨Nat.le_refl _, Nat.le_refl _⟩
  case ior =>
    obtain ⟨x, y, t, rfl, e⟩ := rx_2i_e hop
    cases e
    exact ⟨Nat.le_refl _, Nat.le_refl _⟩
  case ixor =>
    obtain ⟨x, y, t, rfl, e⟩ := rx_2i_e hop
    cases e
    exact ⟨Nat.le_refl _, Nat.le_refl _⟩
  case ishl =>
    obtain ⟨x, y, t, rfl, e⟩ := rx_2i_e hop
    cases e
    exact ⟨Nat.le_refl _, Nat.le_refl _⟩
  case ishr =>
    obtain ⟨x, y, t, rfl, e⟩ := rx_2i_e hop
    cases e
    exact ⟨Nat.le_refl _, Nat.le_refl _⟩
  case iushr =>
    obtain ⟨x, y, t, rfl, e⟩ := rx_2i_e hop
    cases e
    exact ⟨Nat.le_refl _, Nat.le_refl _⟩
  case ladd =>
    obtain ⟨x, y, t, rfl, e⟩ := rx_2l_e hop
    cases e
    exact ⟨Nat.le_refl _, Nat.le_refl _⟩
  case lsub =>
    obtain ⟨x, y, t, rfl, e⟩ := rx_2l_e hop
    cases e
    exact ⟨Nat.le_refl _, Nat.le_refl _⟩
  case lmul =>
    obtain ⟨x, y, t, rfl, e⟩ := rx_2l_e hop
    cases e
    exact ⟨Nat.le_refl _, Nat.le_refl _⟩
  case land =>
    obtain ⟨x, y, t, rfl, e⟩ := rx_2l_e hop
    cases e
    exact ⟨Nat.le_refl _, Nat.le_refl _⟩
  case lor =>
    obtain ⟨x, y, t, rfl, e⟩ := rx_2l_e hop
    cases e
    exact ⟨Nat.le_refl _, Nat.le_refl _⟩
  case lxor =>
    obtain ⟨x, y, t, rfl, e⟩ := rx_2l_e hop
    cases e
    exact ⟨Nat.le_refl _, Nat.le_refl _⟩
  case idiv =>
    obtain ⟨x, y, t, rfl, h0, e⟩ := rx_dv_e hop
    cases e
    exact ⟨Nat.le_refl _, Nat.le_refl _⟩
  case irem =>
    obtain ⟨x, y, t, rfl, h0, e⟩ := rx_dv_e hop
    cases e
    exact ⟨Nat.le_refl _, Nat.le_refl _⟩
  case ldiv =>
    obtain ⟨x, y, t, rfl, h0, e⟩ := rx_dl_e hop
    cases e
    exact ⟨Nat.le_refl _, Nat.le_refl _⟩
  case lrem =>
    obtain ⟨x, y, t, rfl, h0, e⟩ := rx_dl_e hop
    cases e
    exact ⟨Nat.le_refl _, Nat.le_refl _⟩
  case ineg =>
    obtain ⟨x, t, rfl, e⟩ := rx_1i_e hop
    cases e
    exact ⟨Nat.le_refl _, Nat.le_refl _⟩
  case i2l =>
    obtain ⟨x, t, rfl, e⟩ := rx_1i_e hop
    cases e
    exact ⟨Nat.le_refl _, Nat.le_refl _⟩
  case lneg =>
    obtain ⟨x, t, rfl, e⟩ := rx_1l_e hop
    cases e
    exact ⟨Nat.le_refl _, Nat.le_refl _⟩
  case l2i =>
    obtain ⟨x, t, rfl, e⟩ := rx_1l_e hop
    cases e
    exact ⟨Nat.le_refl _, Nat.le_refl _⟩
  case lushr =>
    obtain ⟨x, y, t, rfl, e⟩ := rx_us_e hop
    cases e
    exact ⟨Nat.le_refl _, Nat.le_refl _⟩
  case lcmp =>
    obtain ⟨x, y, t, rfl, e⟩ := rx_cm_e hop
    cases e
    exact ⟨Nat.le_refl _, Nat.le_refl _⟩
  case dup =>
    obtain ⟨a, t, rfl, h1, e⟩ := rx_d0_e hop
    cases e
    exact ⟨Nat.le_refl _, Nat.le_refl _⟩
  case pop =>
    obtain ⟨a, t, rfl, h1, e⟩ := rx_pp_e hop
    cases e
    exact ⟨Nat.le_refl _, Nat.le_refl _⟩
  case dup_x1 =>
    obtain ⟨a, b, t, rfl, h1, h2, e⟩ := rx_d1_e hop
    cases e
    exact ⟨Nat.le_refl _, Nat.le_refl _⟩
  case dup_x2 =>
    obtain ⟨a, b, d9, t, rfl, h1, h2, h3, e⟩ := rx_d2_e hop
    cases e
    exact ⟨Nat.le_refl _, Nat.le_refl _⟩
  case dup2 =>
    obtain ⟨a, b, t, rfl, h1, h2, e⟩ := rx_dd_e hop
    cases e
    exact ⟨Nat.le_refl _, Nat.le_refl _⟩
  case ifCond cond off =>
    obtain ⟨x, t, rfl, g, hg, ⟨hc, e⟩ | ⟨hc, e⟩⟩ := rx_b1_e hop
    · cases e; exact ⟨Nat.le_refl _, Nat.le_refl _⟩
    · cases e; exact ⟨Nat.le_refl _, Nat.le_refl _⟩
  case if_icmp cond off =>
    obtain ⟨x, y, t, rfl, g, hg, ⟨hc, e⟩ | ⟨hc, e⟩⟩ := rx_b2_e hop
    · cases e; exact ⟨Nat.le_refl _, Nat.le_refl _⟩
    · cases e; exact ⟨Nat.le_refl _, Nat.le_refl _⟩
  case goto off =>
    obtain ⟨g, hg, e⟩ := rx_jp_e hop
    cases e
    exact ⟨Nat.le_refl _, Nat.le_refl _⟩
  case tableswitch dflt lo hi offs =>
    obtain ⟨x, t, rfl, ⟨h1, g, hg, e⟩ | ⟨h1, h2, off, g, h3, hg, e⟩⟩ := rx_ts_e hop
    · cases e; exact ⟨Nat.le_refl _, Nat.le_refl _⟩
    · cases e; exact ⟨Nat.le_refl _, Nat.le_refl _⟩
  case lookupswitch dflt ps =>
    obtain ⟨x, t, rfl, h1, g, hg, e⟩ := rx_ls_e hop
    cases e
    exact ⟨Nat.le_refl _, Nat.le_refl _⟩
  case iaload =>
    obtain ⟨i, a, t, q, rfl, h1, h2, e⟩ := rx_ial_e hop
    cases e
    exact ⟨Nat.le_refl _, Nat.le_refl _⟩
  case laload =>
    obtain ⟨i, a, t, q, rfl, h1, h2, e⟩ := rx_lal_e hop
    cases e
    exact ⟨Nat.le_refl _, Nat.le_refl _⟩
  case baload =>
    obtain ⟨i, a, t, q, rfl, h1, h2, e⟩ := rx_zal_e hop
    cases e
    exact ⟨Nat.le_refl _, Nat.le_refl _⟩
  case aaload =>
    obtain ⟨i, a, t, q, k, rfl, h1, h2, h3, e⟩ := rx_qal_e hop
    cases e
    exact ⟨Nat.le_refl _, Nat.le_refl _⟩
  case iastore =>
    obtain ⟨x, i, k, t, n, f, rfl, h1, h2, h3, e⟩ := rx_ias_e hop
    cases e
    exact ⟨by rw [List.length_set]; exact Nat.le_refl _, Nat.le_of_eq (rx_sz_set h k _ _ h1 (by rfl)).symm⟩
  case lastore =>
    obtain ⟨x, i, k, t, n, f, rfl, h1, h2, h3, e⟩ := rx_las_e hop
    cases e
    exact ⟨by rw [List.length_set]; exact Nat.le_refl _, Nat.le_of_eq (rx_sz_set h k _ _ h1 (by rfl)).symm⟩
  case bastore =>
    obtain ⟨x, i, k, t, n, f, rfl, h1, h2, h3, e⟩ := rx_zas_e hop
    cases e
    exact ⟨by rw [List.length_set]; exact Nat.le_refl _, Nat.le_of_eq (rx_sz_set h k _ _ h1 (by rfl)).symm⟩
  case arraylength =>
    obtain ⟨a, t, n, rfl, h1, e⟩ := rx_al_e hop
    cases e
    exact ⟨Nat.le_refl _, Nat.le_refl _⟩
  case getfield ix =>
    obtain ⟨k, t, q, fs, v, rfl, h1, h2, h3, e⟩ := rx_gf_e hop
    cases e
    exact ⟨Nat.le_refl _, Nat.le_refl _⟩
  case putfield ix =>
    obtain ⟨v, k, t, q, fs, rfl, h1, h2, h3, h4, h5, h6, e⟩ := rx_pf_e hop
    cases e
    exact ⟨by rw [List.length_set]; exact Nat.le_refl _, Nat.le_of_eq (rx_sz_set h k _ _ h2 (by simp [rx_sz1])).symm⟩
  case new ix =>
    obtain ⟨ci, fs, h1, h2, e⟩ := rx_nw_e hop
    cases e
    exact ⟨by simp, by rw [rx_sz_app]; exact Nat.le_add_right _ _⟩
  case newarray a =>
    obtain ⟨q, n, t, h1, rfl, h2, h3, e⟩ := rx_na_e hop
    cases e
    exact ⟨by simp, by rw [rx_sz_app]; exact Nat.le_add_right _ _⟩
  case multianewarray ix n =>
    obtain ⟨k, n, t, ho, rfl, rfl, hn0, hk0, hn1, hk1, e⟩ := rx_mn_e hop
    cases e
    exact ⟨by simp, by rw [rx_sz_app]; exact Nat.le_add_right _ _⟩
  case invokespecial ix =>
    obtain ⟨q, h1, h2, h3⟩ := rx_is_e hop
    obtain ⟨a, t, rfl, h4, h5, e⟩ := rx_oi_e h3
    cases e
    exact ⟨Nat.le_refl _, Nat.le_refl _⟩
  case invokestatic ix =>
    obtain ⟨q, h1, ⟨h2, h3⟩ | ⟨h2, h3⟩ | ⟨h2, h3⟩⟩ := rx_it_e hop
    · obtain ⟨n, dp, sp, ka, kb, m0, m1, f, g, t, rfl, w1, w2, w3, w4, w5, w6, w7, w8, w9, w10, e⟩ := rx_ac_e h3
      cases e
      exact ⟨by rw [List.length_set]; exact Nat.le_refl _, Nat.le_of_eq (rx_sz_set h ka _ _ w2 (by rfl)).symm⟩
    · obtain ⟨x, y, t, rfl, w1, w2, e⟩ := rx_m4_e h3
      cases e; exact ⟨Nat.le_refl _, Nat.le_refl _⟩
    · obtain ⟨x, y, t, rfl, w1, w2, e⟩ := rx_m5_e h3
      cases e; exact ⟨Nat.le_refl _, Nat.le_refl _⟩
  all_goals exact absurd hop (fun z => by cases z)
