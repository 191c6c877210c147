set_option maxHeartbeats 4000000 in
set_option maxRecDepth 100000 in
/-- no cell more: the same room -/
theorem rx_op_len {cds : List (List Value)} {lk : rx_Lk} {rt : rx_R} {d w : Nat} {M : rx_M} {ins : Instr} {pc pc' : Nat} {lv lv' : rx_L} {st st' : List Value} {h h' : rx_H} (hop : rx_opI cds lk rt d w M ins pc lv st h = some (pc', lv', st', h')) : h.length ≤ h'.length ∧ (h'.length = h.length → rx_sz h' = rx_sz h) := by
  cases ins
  case iconst n =>
    cases rx_nx_e hop
    exact ⟨Nat.le_refl _, fun _ => rfl⟩
  case bipush n =>
    cases rx_nx_e hop
    exact ⟨Nat.le_refl _, fun _ => rfl⟩
  case sipush n =>
    cases rx_nx_e hop
    exact ⟨Nat.le_refl _, fun _ => rfl⟩
  case lconst n =>
    cases rx_nx_e hop
    exact ⟨Nat.le_refl _, fun _ => rfl⟩
  case ldc ix =>
    obtain ⟨v, ho, e⟩ := rx_kc_e hop
    cases e
    exact ⟨Nat.le_refl _, fun _ => rfl⟩
  case ldc_w ix =>
    obtain ⟨v, ho, e⟩ := rx_kc_e hop
    cases e
    exact ⟨Nat.le_refl _, fun _ => rfl⟩
  case ldc2_w ix =>
    obtain ⟨v, ho, e⟩ := rx_kc_e hop
    cases e
    exact ⟨Nat.le_refl _, fun _ => rfl⟩
  case getstatic ix =>
    obtain ⟨v, ho, e⟩ := rx_kc_e hop
    cases e
    exact ⟨Nat.le_refl _, fun _ => rfl⟩
  case iload_n k =>
    obtain ⟨x, hk, e⟩ := rx_li_e hop
    cases e
    exact ⟨Nat.le_refl _, fun _ => rfl⟩
  case iload i =>
    obtain ⟨x, hk, e⟩ := rx_li_e hop
    cases e
    exact ⟨Nat.le_refl _, fun _ => rfl⟩
  case lload_n k =>
    obtain ⟨x, hk, e⟩ := rx_ll_e hop
    cases e
    exact ⟨Nat.le_refl _, fun _ => rfl⟩
  case lload i =>
    obtain ⟨x, hk, e⟩ := rx_ll_e hop
    cases e
    exact ⟨Nat.le_refl _, fun _ => rfl⟩
  case aload_n k =>
    obtain ⟨x, hk, e⟩ := rx_la_e hop
    cases e
    exact ⟨Nat.le_refl _, fun _ => rfl⟩
  case aload i =>
    obtain ⟨x, hk, e⟩ := rx_la_e hop
    cases e
    exact ⟨Nat.le_refl _, fun _ => rfl⟩
  case istore_n k =>
    obtain ⟨x, t, rfl, hi, e⟩ := rx_si_e hop
    cases e
    exact ⟨Nat.le_refl _, fun _ => rfl⟩
  case istore i =>
    obtain ⟨x, t, rfl, hi, e⟩ := rx_si_e hop
    cases e
    exact ⟨Nat.le_refl _, fun _ => rfl⟩
  case lstore_n k =>
    obtain ⟨x, t, rfl, hi, e⟩ := rx_sl_e hop
    cases e
    exact ⟨Nat.le_refl _, fun _ => rfl⟩
  case lstore i =>
    obtain ⟨x, t, rfl, hi, e⟩ := rx_sl_e hop
    cases e
    exact ⟨Nat.le_refl _, fun _ => rfl⟩
  case astore_n k =>
    obtain ⟨x, t, rfl, hi, e⟩ := rx_sa_e hop
    cases e
    exact ⟨Nat.le_refl _, fun _ => rfl⟩
  case astore i =>
    obtain ⟨x, t, rfl, hi, e⟩ := rx_sa_e hop
    cases e
    exact ⟨Nat.le_refl _, fun _ => rfl⟩
  case iinc i n =>
    obtain ⟨x, hk, hi, e⟩ := rx_in_e hop
    cases e
    exact ⟨Nat.le_refl _, fun _ => rfl⟩
  case iadd =>
    obtain ⟨x, y, t, rfl, e⟩ := rx_2i_e hop
    cases e
    exact ⟨Nat.le_refl _, fun _ => rfl⟩
  case isub =>
    obtain ⟨x, y, t, rfl, e⟩ := rx_2i_e hop
    cases e
    exact ⟨Nat.le_refl _, fun _ => rfl⟩
  case imul =>
    obtain ⟨x, y, t, rfl, e⟩ := rx_2i_e hop
    cases e
    exact ⟨Nat.le_refl _, fun _ => rfl⟩
  case iand =>
    obtain ⟨x, y, t, rfl, e⟩ := rx_2i_e hop
    cases e
    exact ⟨Nat.le_refl _, fun _ => rfl⟩
  case ior =>
    obtain ⟨x, y, t, rfl, e⟩ := rx_2i_e hop
    cases e
    exact ⟨Nat.le_refl _, fun _ => rfl⟩
  case ixor =>
    obtain ⟨x, y, t, rfl, e⟩ := rx_2i_e hop
    cases e
    exact ⟨Nat.le_refl _, fun _ => rfl⟩
  case ishl =>
    obtain ⟨x, y, t, rfl, e⟩ := rx_2i_e hop
    cases e
    exact ⟨Nat.le_refl _, fun _ => rfl⟩
  case ishr =>
    obtain ⟨x, y, t, rfl, e⟩ := rx_2i_e hop
    cases e
    exact ⟨Nat.le_refl _, fun _ => rfl⟩
  case iushr =>
    obtain ⟨x, y, t, rfl, e⟩ := rx_2i_e hop
    cases e
    exact ⟨Nat.le_refl _, fun _ => rfl⟩
  case ladd =>
    obtain ⟨x, y, t, rfl, e⟩ := rx_2l_e hop
    cases e
    exact ⟨Nat.le_refl _, fun _ => rfl⟩
  case lsub =>
    obtain ⟨x, y, t, rfl, e⟩ := rx_2l_e hop
    cases e
    exact ⟨Nat.le_refl _, fun _ => rfl⟩
  case lmul =>
    obtain ⟨x, y, t, rfl, e⟩ := rx_2l_e hop
    cases e
    exact ⟨Nat.le_refl _, fun _ => rfl⟩
  case land =>
    obtain ⟨x, y, t, rfl, e⟩ := rx_2l_e hop
    cases e
    exact ⟨Nat.le_refl _, fun _ => rfl⟩
  case lor =>
    obtain ⟨x, y, t, rfl, e⟩ := rx_2l_e hop
    cases e
    exact ⟨Nat.le_refl _, fun _ => rfl⟩
  case lxor =>
    obtain ⟨x, y, t, rfl, e⟩ := rx_2l_e hop
    cases e
    exact ⟨Nat.le_refl _, fun _ => rfl⟩
  case idiv =>
    obtain ⟨x, y, t, rfl, h0, e⟩ := rx_dv_e hop
    cases e
    exact ⟨Nat.le_refl _, fun _ => rfl⟩
  case irem =>
    obtain ⟨x, y, t, rfl, h0, e⟩ := rx_dv_e hop
    cases e
    exact ⟨Nat.le_refl _, fun _ => rfl⟩
  case ldiv =>
    obtain ⟨x, y, t, rfl, h0, e⟩ := rx_dl_e hop
    cases e
    exact ⟨Nat.le_refl _, fun _ => rfl⟩
  case lrem =>
    obtain ⟨x, y, t, rfl, h0, e⟩ := rx_dl_e hop
    cases e
    exact ⟨Nat.le_refl _, fun _ => rfl⟩
  case ineg =>
    obtain ⟨x, t, rfl, e⟩ := rx_1i_e hop
    cases e
    exact ⟨Nat.le_refl _, fun _ => rfl⟩
  case i2l =>
    obtain ⟨x, t, rfl, e⟩ := rx_1i_e hop
    cases e
    exact ⟨Nat.le_refl _, fun _ => rfl⟩
  case lneg =>
    obtain ⟨x, t, rfl, e⟩ := rx_1l_e hop
    cases e
    exact ⟨Nat.le_refl _, fun _ => rfl⟩
  case l2i =>
    obtain ⟨x, t, rfl, e⟩ := rx_1l_e hop
    cases e
    exact ⟨Nat.le_refl _, fun _ => rfl⟩
  case lushr =>
    obtain ⟨x, y, t, rfl, e⟩ := rx_us_e hop
    cases e
    exact ⟨Nat.le_refl _, fun _ => rfl⟩
  case lcmp =>
    obtain ⟨x, y, t, rfl, e⟩ := rx_cm_e hop
    cases e
    exact ⟨Nat.le_refl _, fun _ => rfl⟩
  case dup =>
    obtain ⟨a, t, rfl, h1, e⟩ := rx_d0_e hop
    cases e
    exact ⟨Nat.le_refl _, fun _ => rfl⟩
  case pop =>
    obtain ⟨a, t, rfl, h1, e⟩ := rx_pp_e hop
    cases e
    exact ⟨Nat.le_refl _, fun _ => rfl⟩
  case dup_x1 =>
    obtain ⟨a, b, t, rfl, h1, h2, e⟩ := rx_d1_e hop
    cases e
    exact ⟨Nat.le_refl _, fun _ => rfl⟩
  case dup_x2 =>
    obtain ⟨a, b, d9, t, rfl, h1, h2, h3, e⟩ := rx_d2_e hop
    cases e
    exact ⟨Nat.le_refl _, fun _ => rfl⟩
  case dup2 =>
    obtain ⟨a, b, t, rfl, h1, h2, e⟩ := rx_dd_e hop
    cases e
    exact ⟨Nat.le_refl _, fun _ => rfl⟩
  case ifCond cond off =>
    obtain ⟨x, t, rfl, g, hg, ⟨hc, e⟩ | ⟨hc, e⟩⟩ := rx_b1_e hop
    · cases e; exact ⟨Nat.le_refl _, fun _ => rfl⟩
    · cases e; exact ⟨Nat.le_refl _, fun _ => rfl⟩
  case if_icmp cond off =>
    obtain ⟨x, y, t, rfl, g, hg, ⟨hc, e⟩ | ⟨hc, e⟩⟩ := rx_b2_e hop
    · cases e; exact ⟨Nat.le_refl _, fun _ => rfl⟩
    · cases e; exact ⟨Nat.le_refl _, fun _ => rfl⟩
  case goto off =>
    obtain ⟨g, hg, e⟩ := rx_jp_e hop
    cases e
    exact ⟨Nat.le_refl _, fun _ => rfl⟩
  case tableswitch dflt lo hi offs =>
    obtain ⟨x, t, rfl, ⟨h1, g, hg, e⟩ | ⟨h1, h2, off, g, h3, hg, e⟩⟩ := rx_ts_e hop
    · cases e; exact ⟨Nat.le_refl _, fun _ => rfl⟩
    · cases e; exact ⟨Nat.le_refl _, fun _ => rfl⟩
  case lookupswitch dflt ps =>
    obtain ⟨x, t, rfl, h1, g, hg, e⟩ := rx_ls_e hop
    cases e
    exact ⟨Nat.le_refl _, fun _ => rfl⟩
  case iaload =>
    obtain ⟨i, a, t, q, rfl, h1, h2, e⟩ := rx_ial_e hop
    cases e
    exact ⟨Nat.le_refl _, fun _ => rfl⟩
  case laload =>
    obtain ⟨i, a, t, q, rfl, h1, h2, e⟩ := rx_lal_e hop
    cases e
    exact ⟨Nat.le_refl _, fun _ => rfl⟩
  case baload =>
    obtain ⟨i, a, t, q, rfl, h1, h2, e⟩ := rx_zal_e hop
    cases e
    exact ⟨Nat.le_refl _, fun _ => rfl⟩
  case aaload =>
    obtain ⟨i, a, t, q, k, rfl, h1, h2, h3, e⟩ := rx_qal_e hop
    cases e
    exact ⟨Nat.le_refl _, fun _ => rfl⟩
  case iastore =>
    obtain ⟨x, i, k, t, n, f, rfl, h1, h2, h3, e⟩ := rx_ias_e hop
    cases e
    exact ⟨by rw [List.length_set]; exact Nat.le_refl _, fun _ => rx_sz_set h k _ _ h1 (by rfl)⟩
  case lastore =>
    obtain ⟨x, i, k, t, n, f, rfl, h1, h2, h3, e⟩ := rx_las_e hop
    cases e
    exact ⟨by rw [List.length_set]; exact Nat.le_refl _, fun _ => rx_sz_set h k _ _ h1 (by rfl)⟩
  case bastore =>
    obtain ⟨x, i, k, t, n, f, rfl, h1, h2, h3, e⟩ := rx_zas_e hop
    cases e
    exact ⟨by rw [List.length_set]; exact Nat.le_refl _, fun _ => rx_sz_set h k _ _ h1 (by rfl)⟩
  case arraylength =>
    obtain ⟨a, t, n, rfl, h1, e⟩ := rx_al_e hop
    cases e
    exact ⟨Nat.le_refl _, fun _ => rfl⟩
  case getfield ix =>
    obtain ⟨k, t, q, fs, v, rfl, h1, h2, h3, e⟩ := rx_gf_e hop
    cases e
    exact ⟨Nat.le_refl _, fun _ => rfl⟩
  case putfield ix =>
    obtain ⟨v, k, t, q, fs, rfl, h1, h2, h3, h4, h5, h6, e⟩ := rx_pf_e hop
    cases e
    exact ⟨by rw [List.length_set]; exact Nat.le_refl _, fun _ => rx_sz_set h k _ _ h2 (by simp [rx_sz1])⟩
  case new ix =>
    obtain ⟨ci, fs, h1, h2, e⟩ := rx_nw_e hop
    cases e
    exact ⟨by simp, fun z => absurd z (by simp)⟩
  case newarray a =>
    obtain ⟨q, n, t, h1, rfl, h2, h3, e⟩ := rx_na_e hop
    cases e
    exact ⟨by simp, fun z => absurd z (by simp)⟩
  case multianewarray ix n =>
    obtain ⟨k, n, t, ho, rfl, rfl, hn0, hk0, hn1, hk1, e⟩ := rx_mn_e hop
    cases e
    exact ⟨by simp, fun z => absurd z (by simp)⟩
  case invokespecial ix =>
    obtain ⟨q, h1, h2, h3⟩ := rx_is_e hop
    obtain ⟨a, t, rfl, h4, h5, e⟩ := rx_oi_e h3
    cases e
    exact ⟨Nat.le_refl _, fun _ => rfl⟩
  case invokestatic ix =>
    obtain ⟨q, h1, ⟨h2, h3⟩ | ⟨h2, h3⟩ | ⟨h2, h3⟩⟩ := rx_it_e hop
    · obtain ⟨n, dp, sp, ka, kb, m0, m1, f, g, t, rfl, w1, w2, w3, w4, w5, w6, w7, w8, w9, w10, e⟩ := rx_ac_e h3
      cases e
      exact ⟨by rw [List.length_set]; exact Nat.le_refl _, fun _ => rx_sz_set h ka _ _ w2 (by rfl)⟩
    · obtain ⟨x, y, t, rfl, w1, w2, e⟩ := rx_m4_e h3
      cases e; exact ⟨Nat.le_refl _, fun _ => rfl⟩
    · obtain ⟨x, y, t, rfl, w1, w2, e⟩ := rx_m5_e h3
      cases e; exact ⟨Nat.le_refl _, fun _ => rfl⟩
  all_goals exact absurd hop (fun z => by cases z)
theorem rx_run_len {cds : List (List Value)} {ms : List rx_M} {lk : rx_Lk} {rt : rx_R} : ∀ (f d w mi pc : Nat) (lv : rx_L) (st : List Value) (h : rx_H) (v : Option Value) (h' : rx_H), rx_run cds ms lk rt f d w mi pc lv st h = some (v, h') → h.length ≤ h'.length ∧ (h'.length = h.length → rx_sz h' = rx_sz h)
  | 0, _, _, _, _, _, _, _, _, _, e => by rw [rx_run] at e; cases e
  | f + 1, d, w, mi, pc, lv, st, h, v, h', e => by
    obtain ⟨M, ins, hM, hf, ⟨hr, rfl⟩ | ⟨j, as, rest, N, d1, v1, h1, rfl, hr, hc, hN, hw, e1, e2⟩ | ⟨pc', lv', st', h1, hr, hc, e1, e2⟩⟩ := rx_run_e2 e
    · exact ⟨Nat.le_refl _, fun _ => rfl⟩
    · have a := rx_run_len f _ _ _ _ _ _ _ _ _ e1
      have b := rx_run_len f _ _ _ _ _ _ _ _ _ e2
      exact ⟨Nat.le_trans a.1 b.1, fun z => (b.2 (by omega)).trans (a.2 (by omega))⟩
    · have a := rx_op_len e1
      have b := rx_run_len f _ _ _ _ _ _ _ _ _ e2
      exact ⟨Nat.le_trans a.1 b.1, fun z => (b.2 (by omega)).trans (a.2 (by omega))⟩
theorem rx_run_sz {cds : List (List Value)} {ms : List rx_M} {lk : rx_Lk} {rt : rx_R} (f d w mi pc : Nat) (lv : rx_L) (st : List Value) (h : rx_H) (v : Option Value) (h' : rx_H) (e : rx_run cds ms lk rt f d w mi pc lv st h = some (v, h')) (hl : h'.length = h.length) : rx_sz h' = rx_sz h := (rx_run_len f _ _ _ _ _ _ _ _ _ e).2 hl
