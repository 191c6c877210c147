/-! CELLS THAT ARE NEVER LOOKED AT: a run over a heap in which some cells are rx_psn (nothing can be read there) does the same over every heap that has other cells at these places, and leaves them -/
def rx_psn : rx_C := .inl (9, 0, .inl (fun _ => 0))
def rx_le (h g : rx_H) : Prop := h.length = g.length ∧ ∀ (k : Nat) (c : rx_C), h[k]? = some c → c = rx_psn ∨ g[k]? = some c
def rx_kp (h g h' g' : rx_H) : Prop := rx_le h' g' ∧ ∀ k : Nat, h[k]? = some rx_psn → h'[k]? = some rx_psn ∧ g'[k]? = g[k]?
theorem rx_npo {q : Nat × List Value} : (.inr q : rx_C) ≠ rx_psn := fun e => by unfold rx_psn at e; cases e
theorem rx_npa {t : Nat} {x : vp_A} (ht : t ≠ 9) : (.inl (t, x) : rx_C) ≠ rx_psn := fun e => by
  unfold rx_psn at e
  have h1 := Sum.inl.inj e
  exact ht (congrArg Prod.fst h1)
theorem rx_le.get {h g : rx_H} {k : Nat} {c : rx_C} (hl : rx_le h g) (e : h[k]? = some c) (hc : c ≠ rx_psn) : g[k]? = some c := (hl.2 k c e).resolve_left hc
theorem rx_kp.refl {h g : rx_H} (hl : rx_le h g) : rx_kp h g h g := ⟨hl, fun _ e => ⟨e, rfl⟩⟩
theorem rx_kp.trans {h g h1 g1 h2 g2 : rx_H} (a : rx_kp h g h1 g1) (b : rx_kp h1 g1 h2 g2) : rx_kp h g h2 g2 := ⟨b.1, fun k e => ⟨(b.2 k (a.2 k e).1).1, (b.2 k (a.2 k e).1).2.trans (a.2 k e).2⟩⟩
theorem rx_kp.set {h g : rx_H} {k : Nat} {c c' : rx_C} (hl : rx_le h g) (e : h[k]? = some c) (hc : c ≠ rx_psn) : rx_kp h g (h.set k c') (g.set k c') := by
  have hk : k < h.length := (List.getElem?_eq_some_iff.mp e).1
  have hk2 : k < g.length := by rw [← hl.1]; exact hk
  refine ⟨⟨by rw [List.length_set, List.length_set]; exact hl.1, fun j c2 e2 => ?_⟩, fun j e2 => ?_⟩
  · by_cases ej : j = k
    · subst ej
      rw [List.getElem?_set_self hk] at e2
      cases e2
      exact Or.inr (List.getElem?_set_self hk2)
    · rw [List.getElem?_set_ne (Ne.symm ej)] at e2 ⊢
      exact hl.2 j c2 e2
  · have ej : j ≠ k := fun q => by
      subst q
      rw [e] at e2
      exact hc (Option.some.inj e2)
    rw [List.getElem?_set_ne (Ne.symm ej), List.getElem?_set_ne (Ne.symm ej)]
    exact ⟨e2, rfl⟩
theorem rx_kp.app {h g : rx_H} (hl : rx_le h g) (l : rx_H) : rx_kp h g (h ++ l) (g ++ l) := by
  refine ⟨⟨by rw [List.length_append, List.length_append, hl.1], fun j c2 e2 => ?_⟩, fun j e2 => ?_⟩
  · by_cases ej : j < h.length
    · rw [List.getElem?_append_left ej] at e2
      rw [List.getElem?_append_left (by rw [← hl.1]; exact ej)]
      exact hl.2 j c2 e2
    · rw [List.getElem?_append_right (by omega)] at e2
      rw [List.getElem?_append_right (by rw [← hl.1]; omega), ← hl.1]
      exact Or.inr e2
  · have ej : j < h.length := (List.getElem?_eq_some_iff.mp e2).1
    rw [List.getElem?_append_left ej, List.getElem?_append_left (by rw [← hl.1]; exact ej)]
    exact ⟨e2, rfl⟩
theorem rx_ri_psn {rt : rx_R} {h g : rx_H} {a : Nat} {q : Nat × (Nat → Int32)} (hl : rx_le h g) (e : rx_ri rt h a = some q) : rx_ri rt g a = some q := by
  rcases rx_ri_e e with ⟨h1, h2⟩ | ⟨k, rfl, h1, h2⟩
  · unfold rx_ri
    rw [if_pos h1]
    exact h2
  · exact rx_ri_i (hl.get h1 (rx_npa (by decide)))
theorem rx_rl_psn {h g : rx_H} {a : Nat} {q : Nat × (Nat → Int64)} (hl : rx_le h g) (e : rx_rl h a = some q) : rx_rl g a = some q := by
  obtain ⟨k, rfl, h1, h2⟩ := rx_rl_e e
  exact rx_rl_i (hl.get h1 (rx_npa (by decide)))
theorem rx_rz_psn {h g : rx_H} {a : Nat} {q : Nat × (Nat → Int32)} (hl : rx_le h g) (e : rx_rz h a = some q) : rx_rz g a = some q := by
  obtain ⟨k, rfl, h1, h2⟩ := rx_rz_e e
  exact rx_rz_i (hl.get h1 (rx_npa (by decide)))
theorem rx_rq_psn {h g : rx_H} {a : Nat} {q : Nat × (Nat → Option Nat)} (hl : rx_le h g) (e : rx_rq h a = some q) : rx_rq g a = some q := by
  obtain ⟨k, rfl, h1, h2⟩ := rx_rq_e e
  unfold rx_rq
  rw [rx_cold_i (hl.get h1 (rx_npa (by decide)))]
theorem rx_aln_psn {rt : rx_R} {h g : rx_H} {a n : Nat} (hl : rx_le h g) (e : rx_aln rt h a = some n) : rx_aln rt g a = some n := by
  unfold rx_aln at e ⊢
  split at e
  · next h1 => rw [if_pos h1]; exact e
  · next h1 =>
    rw [if_neg h1]
    split at e
    · next q w =>
      split at e
      · next h2 =>
        obtain ⟨k, rfl, h3, h4⟩ := rx_cell_e w
        obtain ⟨t, x⟩ := q
        have h5 := hl.get h3 (rx_npa (fun z => by subst z; exact absurd (show (9 : Nat) < 4 from h2) (by decide)))
        unfold rx_cell
        rw [if_neg (by omega), Nat.add_sub_cancel, h5]
        simp only
        rw [if_pos h2]
        exact e
      · cases e
    · cases e
theorem rx_jp_i {pc : Nat} {off : Int} {lv : rx_L} {st : List Value} {h : rx_H} {q : Nat} (hg : (pc : Int) + off = (q : Int)) : rx_jp pc off lv st h = some (q, lv, st, h) := by
  unfold rx_jp rx_nx
  rw [if_pos (by omega), hg]
  rfl
theorem rx_tsd_i {pc : Nat} {lv : rx_L} {r : List Value} {h : rx_H} {dflt lo hi : Int} {offs : Array Int} {g : Nat} {x : Int32} (h1 : x.toInt < lo ∨ hi < x.toInt) (hg : (pc : Int) + dflt = (g : Int)) : rx_ts dflt lo hi offs pc lv (.int x :: r) h = some (g, lv, r, h) := by
  unfold rx_ts
  simp only [if_pos h1]
  exact rx_jp_i hg
set_option maxHeartbeats 4000000 in
set_option maxRecDepth 100000 in
theorem rx_op_psn {cds : List (List Value)} {lk : rx_Lk} {rt : rx_R} {d w : Nat} {M : rx_M} {ins : Instr} {pc pc' : Nat} {lv lv' : rx_L} {st st' : List Value} {h h' g : rx_H} (hl : rx_le h g) (hop : rx_opI cds lk rt d w M ins pc lv st h = some (pc', lv', st', h')) : ∃ g' : rx_H, rx_opI cds lk rt d w M ins pc lv st g = some (pc', lv', st', g') ∧ rx_kp h g h' g' := by
  cases ins
  case iconst n =>
    cases rx_nx_e hop
    refine ⟨g, ?_, rx_kp.refl hl⟩
    rfl
  case bipush n =>
    cases rx_nx_e hop
    refine ⟨g, ?_, rx_kp.refl hl⟩
    rfl
  case sipush n =>
    cases rx_nx_e hop
    refine ⟨g, ?_, rx_kp.refl hl⟩
    rfl
  case lconst n =>
    cases rx_nx_e hop
    refine ⟨g, ?_, rx_kp.refl hl⟩
    rfl
  case ldc ix =>
    obtain ⟨v, ho, e⟩ := rx_kc_e hop
    cases e
    refine ⟨g, ?_, rx_kp.refl hl⟩
    show rx_kc _ _ pc lv st g = _
    rw [ho]
    rfl
  case ldc_w ix =>
    obtain ⟨v, ho, e⟩ := rx_kc_e hop
    cases e
    refine ⟨g, ?_, rx_kp.refl hl⟩
    show rx_kc _ _ pc lv st g = _
    rw [ho]
    rfl
  case ldc2_w ix =>
    obtain ⟨v, ho, e⟩ := rx_kc_e hop
    cases e
    refine ⟨g, ?_, rx_kp.refl hl⟩
    show rx_kc _ _ pc lv st g = _
    rw [ho]
    rfl
  case getstatic ix =>
    obtain ⟨v, ho, e⟩ := rx_kc_e hop
    cases e
    refine ⟨g, ?_, rx_kp.refl hl⟩
    show rx_kc _ _ pc lv st g = _
    rw [ho]
    rfl
  case iload_n k =>
    obtain ⟨x, hk, e⟩ := rx_li_e hop
    cases e
    refine ⟨g, ?_, rx_kp.refl hl⟩
    show rx_li lv _ _ st g = _
    unfold rx_li
    rw [hk]
    rfl
  case iload i =>
    obtain ⟨x, hk, e⟩ := rx_li_e hop
    cases e
    refine ⟨g, ?_, rx_kp.refl hl⟩
    show rx_li lv _ _ st g = _
    unfold rx_li
    rw [hk]
    rfl
  case lload_n k =>
    obtain ⟨x, hk, e⟩ := rx_ll_e hop
    cases e
    refine ⟨g, ?_, rx_kp.refl hl⟩
    show rx_ll lv _ _ st g = _
    unfold rx_ll
    rw [hk]
    rfl
  case lload i =>
    obtain ⟨x, hk, e⟩ := rx_ll_e hop
    cases e
    refine ⟨g, ?_, rx_kp.refl hl⟩
    show rx_ll lv _ _ st g = _
    unfold rx_ll
    rw [hk]
    rfl
  case aload_n k =>
    obtain ⟨x, hk, e⟩ := rx_la_e hop
    cases e
    refine ⟨g, ?_, rx_kp.refl hl⟩
    show rx_la lv _ _ st g = _
    unfold rx_la
    rw [hk]
    rfl
  case aload i =>
    obtain ⟨x, hk, e⟩ := rx_la_e hop
    cases e
    refine ⟨g, ?_, rx_kp.refl hl⟩
    show rx_la lv _ _ st g = _
    unfold rx_la
    rw [hk]
    rfl
  case istore_n k =>
    obtain ⟨x, t, rfl, hi, e⟩ := rx_si_e hop
    cases e
    refine ⟨g, ?_, rx_kp.refl hl⟩
    exact if_pos hi
  case istore i =>
    obtain ⟨x, t, rfl, hi, e⟩ := rx_si_e hop
    cases e
    refine ⟨g, ?_, rx_kp.refl hl⟩
    exact if_pos hi
  case lstore_n k =>
    obtain ⟨x, t, rfl, hi, e⟩ := rx_sl_e hop
    cases e
    refine ⟨g, ?_, rx_kp.refl hl⟩
    exact if_pos hi
  case lstore i =>
    obtain ⟨x, t, rfl, hi, e⟩ := rx_sl_e hop
    cases e
    refine ⟨g, ?_, rx_kp.refl hl⟩
    exact if_pos hi
  case astore_n k =>
    obtain ⟨x, t, rfl, hi, e⟩ := rx_sa_e hop
    cases e
    refine ⟨g, ?_, rx_kp.refl hl⟩
    exact if_pos hi
  case astore i =>
    obtain ⟨x, t, rfl, hi, e⟩ := rx_sa_e hop
    cases e
    refine ⟨g, ?_, rx_kp.refl hl⟩
    exact if_pos hi
  case iinc i n =>
    obtain ⟨x, hk, hi, e⟩ := rx_in_e hop
    cases e
    refine ⟨g, ?_, rx_kp.refl hl⟩
    show rx_in _ i n pc lv st g = _
    unfold rx_in
    rw [hk]
    exact if_pos hi
  case iadd =>
    obtain ⟨x, y, t, rfl, e⟩ := rx_2i_e hop
    cases e
    refine ⟨g, ?_, rx_kp.refl hl⟩
    rfl
  case isub =>
    obtain ⟨x, y, t, rfl, e⟩ := rx_2i_e hop
    cases e
    refine ⟨g, ?_, rx_kp.refl hl⟩
    rfl
  case imul =>
    obtain ⟨x, y, t, rfl, e⟩ := rx_2i_e hop
    cases e
    refine ⟨g, ?_, rx_kp.refl hl⟩
    rfl
  case iand =>
    obtain ⟨x, y, t, rfl, e⟩ := rx_2i_e hop
    cases e
    refine ⟨g, ?_, rx_kp.refl hl⟩
    rfl
  case ior =>
    obtain ⟨x, y, t, rfl, e⟩ := rx_2i_e hop
    cases e
    refine ⟨g, ?_, rx_kp.refl hl⟩
    rfl
  case ixor =>
    obtain ⟨x, y, t, rfl, e⟩ := rx_2i_e hop
    cases e
    refine ⟨g, ?_, rx_kp.refl hl⟩
    rfl
  case ishl =>
    obtain ⟨x, y, t, rfl, e⟩ := rx_2i_e hop
    cases e
    refine ⟨g, ?_, rx_kp.refl hl⟩
    rfl
  case ishr =>
    obtain ⟨x, y, t, rfl, e⟩ := rx_2i_e hop
    cases e
    refine ⟨g, ?_, rx_kp.refl hl⟩
    rfl
  case iushr =>
    obtain ⟨x, y, t, rfl, e⟩ := rx_2i_e hop
    cases e
    refine ⟨g, ?_, rx_kp.refl hl⟩
    rfl
  case ladd =>
    obtain ⟨x, y, t, rfl, e⟩ := rx_2l_e hop
    cases e
    refine ⟨g, ?_, rx_kp.refl hl⟩
    rfl
  case lsub =>
    obtain ⟨x, y, t, rfl, e⟩ := rx_2l_e hop
    cases e
    refine ⟨g, ?_, rx_kp.refl hl⟩
    rfl
  case lmul =>
    obtain ⟨x, y, t, rfl, e⟩ := rx_2l_e hop
    cases e
    refine ⟨g, ?_, rx_kp.refl hl⟩
    rfl
  case land =>
    obtain ⟨x, y, t, rfl, e⟩ := rx_2l_e hop
    cases e
    refine ⟨g, ?_, rx_kp.refl hl⟩
    rfl
  case lor =>
    obtain ⟨x, y, t, rfl, e⟩ := rx_2l_e hop
    cases e
    refine ⟨g, ?_, rx_kp.refl hl⟩
    rfl
  case lxor =>
    obtain ⟨x, y, t, rfl, e⟩ := rx_2l_e hop
    cases e
    refine ⟨g, ?_, rx_kp.refl hl⟩
    rfl
  case idiv =>
    obtain ⟨x, y, t, rfl, h0, e⟩ := rx_dv_e hop
    cases e
    refine ⟨g, ?_, rx_kp.refl hl⟩
    exact if_neg h0
  case irem =>
    obtain ⟨x, y, t, rfl, h0, e⟩ := rx_dv_e hop
    cases e
    refine ⟨g, ?_, rx_kp.refl hl⟩
    exact if_neg h0
  case ldiv =>
    obtain ⟨x, y, t, rfl, h0, e⟩ := rx_dl_e hop
    cases e
    refine ⟨g, ?_, rx_kp.refl hl⟩
    exact if_neg h0
  case lrem =>
    obtain ⟨x, y, t, rfl, h0, e⟩ := rx_dl_e hop
    cases e
    refine ⟨g, ?_, rx_kp.refl hl⟩
    exact if_neg h0
  case ineg =>
    obtain ⟨x, t, rfl, e⟩ := rx_1i_e hop
    cases e
    refine ⟨g, ?_, rx_kp.refl hl⟩
    rfl
  case i2l =>
    obtain ⟨x, t, rfl, e⟩ := rx_1i_e hop
    cases e
    refine ⟨g, ?_, rx_kp.refl hl⟩
    rfl
  case lneg =>
    obtain ⟨x, t, rfl, e⟩ := rx_1l_e hop
    cases e
    refine ⟨g, ?_, rx_kp.refl hl⟩
    rfl
  case l2i =>
    obtain ⟨x, t, rfl, e⟩ := rx_1l_e hop
    cases e
    refine ⟨g, ?_, rx_kp.refl hl⟩
    rfl
  case lushr =>
    obtain ⟨x, y, t, rfl, e⟩ := rx_us_e hop
    cases e
    refine ⟨g, ?_, rx_kp.refl hl⟩
    rfl
  case lcmp =>
    obtain ⟨x, y, t, rfl, e⟩ := rx_cm_e hop
    cases e
    refine ⟨g, ?_, rx_kp.refl hl⟩
    rfl
  case dup =>
    obtain ⟨a, t, rfl, h1, e⟩ := rx_d0_e hop
    cases e
    refine ⟨g, ?_, rx_kp.refl hl⟩
    exact if_pos h1
  case pop =>
    obtain ⟨a, t, rfl, h1, e⟩ := rx_pp_e hop
    cases e
    refine ⟨g, ?_, rx_kp.refl hl⟩
    exact if_pos h1
  case dup_x1 =>
    obtain ⟨a, b, t, rfl, h1, h2, e⟩ := rx_d1_e hop
    cases e
    refine ⟨g, ?_, rx_kp.refl hl⟩
    exact if_pos ⟨h1, h2⟩
  case dup_x2 =>
    obtain ⟨a, b, d9, t, rfl, h1, h2, h3, e⟩ := rx_d2_e hop
    cases e
    refine ⟨g, ?_, rx_kp.refl hl⟩
    exact if_pos ⟨h1, h2, h3⟩
  case dup2 =>
    obtain ⟨a, b, t, rfl, h1, h2, e⟩ := rx_dd_e hop
    cases e
    refine ⟨g, ?_, rx_kp.refl hl⟩
    exact if_pos ⟨h1, h2⟩
  case ifCond cond off =>
    obtain ⟨x, t, rfl, q, hg, ⟨hc, e⟩ | ⟨hc, e⟩⟩ := rx_b1_e hop
    · cases e; exact ⟨g, rx_b1_t _ hc hg, rx_kp.refl hl⟩
    · cases e; exact ⟨g, rx_b1_f hc (by omega), rx_kp.refl hl⟩
  case if_icmp cond off =>
    obtain ⟨x, y, t, rfl, q, hg, ⟨hc, e⟩ | ⟨hc, e⟩⟩ := rx_b2_e hop
    · cases e; exact ⟨g, rx_b2_t _ hc hg, rx_kp.refl hl⟩
    · cases e; exact ⟨g, rx_b2_f hc (by omega), rx_kp.refl hl⟩
  case goto off =>
    obtain ⟨q, hg, e⟩ := rx_jp_e hop
    cases e
    exact ⟨g, rx_jp_i hg, rx_kp.refl hl⟩
  case tableswitch dflt lo hi offs =>
    obtain ⟨x, t, rfl, ⟨h1, q, hg, e⟩ | ⟨h1, h2, off, q, h3, hg, e⟩⟩ := rx_ts_e hop
    · cases e; exact ⟨g, rx_tsd_i h1 hg, rx_kp.refl hl⟩
    · cases e; exact ⟨g, rx_ts_i (fun z => z.elim h1 h2) h3 hg, rx_kp.refl hl⟩
  case lookupswitch dflt ps =>
    obtain ⟨x, t, rfl, h1, q, hg, e⟩ := rx_ls_e hop
    cases e
    refine ⟨g, ?_, rx_kp.refl hl⟩
    show rx_ls dflt ps pc lv (.int x :: st') g = _
    unfold rx_ls
    simp only [h1, if_true]
    exact rx_jp_i hg
  case iaload =>
    obtain ⟨i, a, t, q, rfl, h1, h2, e⟩ := rx_ial_e hop
    cases e
    exact ⟨g, rx_ial_i (rx_ri_psn hl h1) h2, rx_kp.refl hl⟩
  case laload =>
    obtain ⟨i, a, t, q, rfl, h1, h2, e⟩ := rx_lal_e hop
    cases e
    exact ⟨g, rx_lal_i (rx_rl_psn hl h1) h2, rx_kp.refl hl⟩
  case baload =>
    obtain ⟨i, a, t, q, rfl, h1, h2, e⟩ := rx_zal_e hop
    cases e
    exact ⟨g, rx_zal_i (rx_rz_psn hl h1) h2, rx_kp.refl hl⟩
  case aaload =>
    obtain ⟨i, a, t, q, k, rfl, h1, h2, h3, e⟩ := rx_qal_e hop
    cases e
    refine ⟨g, ?_, rx_kp.refl hl⟩
    show rx_qal pc lv (.int i :: .ref a :: t) g = _
    unfold rx_qal
    simp only [rx_rq_psn hl h1, rx_ok_i h2, if_true, h3]
    rfl
  case iastore =>
    obtain ⟨x, i, k, t, n, f, rfl, h1, h2, h3, e⟩ := rx_ias_e hop
    cases e
    exact ⟨_, rx_ias_i (hl.get h1 (rx_npa (by decide))) h3, rx_kp.set hl h1 (rx_npa (by decide))⟩
  case lastore =>
    obtain ⟨x, i, k, t, n, f, rfl, h1, h2, h3, e⟩ := rx_las_e hop
    cases e
    exact ⟨_, rx_las_i (hl.get h1 (rx_npa (by decide))) h3, rx_kp.set hl h1 (rx_npa (by decide))⟩
  case bastore =>
    obtain ⟨x, i, k, t, n, f, rfl, h1, h2, h3, e⟩ := rx_zas_e hop
    cases e
    exact ⟨_, rx_zas_i (hl.get h1 (rx_npa (by decide))) h3, rx_kp.set hl h1 (rx_npa (by decide))⟩
  case arraylength =>
    obtain ⟨a, t, n, rfl, h1, e⟩ := rx_al_e hop
    cases e
    refine ⟨g, ?_, rx_kp.refl hl⟩
    show rx_al rt pc lv (.ref a :: t) g = _
    unfold rx_al
    simp only [rx_aln_psn hl h1]
    rfl
  case getfield ix =>
    obtain ⟨k, t, q, fs, v, rfl, h1, h2, h3, e⟩ := rx_gf_e hop
    cases e
    obtain ⟨ci, k2, ty, fl⟩ := q
    exact ⟨g, rx_gf_i h1 (hl.get h2 rx_npo) h3, rx_kp.refl hl⟩
  case putfield ix =>
    obtain ⟨v, k, t, q, fs, rfl, h1, h2, h3, h4, h5, h6, e⟩ := rx_pf_e hop
    cases e
    obtain ⟨ci, k2, ty, fl⟩ := q
    exact ⟨_, rx_pf_i h1 (hl.get h2 rx_npo) h4 h5 h6, rx_kp.set hl h2 rx_npo⟩
  case new ix =>
    obtain ⟨ci, fs, h1, h2, e⟩ := rx_nw_e hop
    cases e
    refine ⟨g ++ [.inr (ci, fs)], ?_, rx_kp.app hl _⟩
    show rx_nw _ cds pc lv st g = _
    unfold rx_nw
    simp only [h1, h2]
    rw [hl.1]
    rfl
  case newarray a =>
    obtain ⟨q, n, t, h1, rfl, h2, h3, e⟩ := rx_na_e hop
    cases e
    refine ⟨g ++ [.inl (q.1, rx_zer q.1 n.toNatClampNeg)], ?_, rx_kp.app hl _⟩
    show rx_na _ pc lv (.int n :: t) g = _
    unfold rx_na
    simp only [h1]
    rw [if_neg (fun z => z.elim h2 (fun y => Nat.not_lt.mpr h3 y)), hl.1]
    rfl
  case multianewarray ix n =>
    obtain ⟨k, n, t, ho, rfl, rfl, hn0, hk0, hn1, hk1, e⟩ := rx_mn_e hop
    cases e
    rw [hl.1]
    refine ⟨g ++ (.inl (3, n.toNatClampNeg, .inr (.inr (.inr (.inr (fun i => if i < n.toNatClampNeg then some (g.length + 17 + i) else none))))) :: List.replicate n.toNatClampNeg (.inl (1, k.toNatClampNeg, .inr (.inl (fun _ => 0))))), ?_, rx_kp.app hl _⟩
    show rx_mn _ 2 pc lv (.int k :: .int n :: t) g = _
    unfold rx_mn
    simp only [ho]
    rw [if_pos ⟨trivial, hn0, hk0, hn1, hk1⟩]
    rfl
  case invokespecial ix =>
    obtain ⟨q, h1, h2, h3⟩ := rx_is_e hop
    obtain ⟨a, t, rfl, h4, h5, e⟩ := rx_oi_e h3
    cases e
    refine ⟨g, ?_, rx_kp.refl hl⟩
    show rx_is d w _ pc lv _ g = _
    rw [h1]
    unfold rx_is rx_oi
    simp only [h2, if_true]
    rw [if_pos ⟨h4, h5⟩]
    rfl
  case invokestatic ix =>
    obtain ⟨q, h1, ⟨h2, h3⟩ | ⟨h2, h3⟩ | ⟨h2, h3⟩⟩ := rx_it_e hop
    · obtain ⟨n, dp, sp, ka, kb, m0, m1, f, f2, t, rfl, w1, w2, w3, w4, w5, w6, w7, w8, w9, w10, e⟩ := rx_ac_e h3
      cases e
      refine ⟨_, ?_, rx_kp.set hl w2 (rx_npa (by decide))⟩
      show rx_it d w _ pc lv _ g = _
      rw [h1]
      unfold rx_it
      simp only [h2, if_true]
      unfold rx_ac
      simp only [rx_cold_i (hl.get w1 (rx_npa (by decide))), rx_cold_i (hl.get w2 (rx_npa (by decide)))]
      rw [if_pos ⟨w4, w5, w6, w7, w8, w9, w10⟩]
      rfl
    · obtain ⟨x, y, t, rfl, w1, w2, e⟩ := rx_m4_e h3
      cases e
      refine ⟨g, ?_, rx_kp.refl hl⟩
      show rx_it d w _ pc lv _ g = _
      rw [h1]
      unfold rx_it rx_m4
      simp only [h2]
      rw [if_neg (by decide), if_pos trivial, if_pos ⟨w1, w2⟩]
      rfl
    · obtain ⟨x, y, t, rfl, w1, w2, e⟩ := rx_m5_e h3
      cases e
      refine ⟨g, ?_, rx_kp.refl hl⟩
      show rx_it d w _ pc lv _ g = _
      rw [h1]
      unfold rx_it rx_m5
      simp only [h2]
      rw [if_neg (by decide), if_neg (by decide), if_pos trivial, if_pos ⟨w1, w2⟩]
      rfl
  all_goals exact absurd hop (fun z => by cases z)
theorem rx_rcv_psn {h g : rx_H} (hl : rx_le h g) {k ci : Nat} {as : List Value} (e : rx_rcv h k ci as = true) : rx_rcv g k ci as = true := by
  unfold rx_rcv at e ⊢
  split at e
  · rfl
  · next a t =>
    split at e
    · next q w =>
      obtain ⟨j, rfl, h1, h2⟩ := rx_ro_e w
      simp only [rx_ro_i (hl.get h1 rx_npo)]
      exact e
    · cases e
  · rfl
  · cases e
theorem rx_call_psn {ms : List rx_M} {lk : rx_Lk} {M : rx_M} {ins : Instr} {st : List Value} {h g : rx_H} (hl : rx_le h g) {r : Nat × List Value × List Value} (e : rx_call ms lk M ins st h = some r) : rx_call ms lk M ins st g = some r := by
  obtain ⟨ix, k, h1, h2⟩ := rx_call_e e
  have h3 : rx_iv ms (rx_luv lk.2.2.1 (rx_Mo M) ix) k st g = some r := by
    unfold rx_iv at h1 ⊢
    split at h1
    · next q =>
      split at h1
      · next N w =>
        split at h1
        · next z =>
          obtain ⟨z1, z2, z3, z4, z5⟩ := z
          try simp only [w]
          rw [if_pos ⟨z1, z2, z3, z4, rx_rcv_psn hl z5⟩]
          exact h1
        · cases h1
      · cases h1
    · cases h1
  rcases h2 with ⟨rfl, rfl⟩ | ⟨rfl, rfl⟩ | ⟨rfl, rfl⟩ <;> exact h3
theorem rx_call_psn0 {cds : List (List Value)} {ms : List rx_M} {lk : rx_Lk} {rt : rx_R} {d w pc : Nat} {lv : rx_L} {M : rx_M} {ins : Instr} {st : List Value} {h g : rx_H} {r : rx_N} (hop : rx_opI cds lk rt d w M ins pc lv st h = some r) (e : rx_call ms lk M ins st h = none) : rx_call ms lk M ins st g = none := by
  cases ins
  case invokevirtual ix => cases hop
  case invokestatic ix => exact e
  case invokespecial ix =>
    show rx_iv ms (rx_luv lk.2.2.1 (rx_Mo M) ix) 2 st g = none
    have e : rx_iv ms (rx_luv lk.2.2.1 (rx_Mo M) ix) 2 st h = none := e
    unfold rx_iv at e ⊢
    split at e
    · next q =>
      split at e
      · next N w =>
        try simp only [w]
        split at e
        · cases e
        · next z =>
          rw [if_neg]
          intro y
          apply z
          obtain ⟨y1, y2, y3, y4, y5⟩ := y
          refine ⟨y1, y2, y3, y4, ?_⟩
          generalize (List.take (rx_an N 2) st).reverse = as at y5 ⊢
          cases as with
          | nil => cases y5
          | cons v t => cases v <;> first | rfl | cases y5
      · next w => first | rfl | simp only [w]
    · rfl
  all_goals rfl
theorem rx_run_psn {cds : List (List Value)} {ms : List rx_M} {lk : rx_Lk} {rt : rx_R} : ∀ (f d w mi pc : Nat) (lv : rx_L) (st : List Value) (h : rx_H) (v : Option Value) (h' : rx_H), rx_run cds ms lk rt f d w mi pc lv st h = some (v, h') → ∀ g : rx_H, rx_le h g → ∃ g' : rx_H, rx_run cds ms lk rt f d w mi pc lv st g = some (v, g') ∧ rx_kp h g h' g'
  | 0, _, _, _, _, _, _, _, _, _, e => by rw [rx_run] at e; cases e
  | f + 1, d, w, mi, pc, lv, st, h, v, h', e => by
    intro g hl
    obtain ⟨M, ins, hM, hf, ⟨hr, rfl⟩ | ⟨j, as, rest, N, d1, v1, h1, rfl, hr, hc, hN, hw, e1, e2⟩ | ⟨pc', lv', st', h1, hr, hc, e1, e2⟩⟩ := rx_run_e2 e
    · exact ⟨g, rx_run_ret hM hf hr, rx_kp.refl hl⟩
    · obtain ⟨g1, a1, a2⟩ := rx_run_psn f _ _ _ _ _ _ _ _ _ e1 g hl
      obtain ⟨g2, b1, b2⟩ := rx_run_psn f _ _ _ _ _ _ _ _ _ e2 g1 a2.1
      exact ⟨g2, by rw [rx_run_call hM hf hr (rx_call_psn hl hc) hN hw a1]; exact b1, a2.trans b2⟩
    · obtain ⟨g1, a1, a2⟩ := rx_op_psn hl e1
      obtain ⟨g2, b1, b2⟩ := rx_run_psn f _ _ _ _ _ _ _ _ _ e2 g1 a2.1
      exact ⟨g2, by rw [rx_run_op hM hf hr (rx_call_psn0 e1 hc) a1]; exact b1, a2.trans b2⟩
/-- a run over cells that it looks at alone -/
theorem rx_T.psn {cds : List (List Value)} {ms : List rx_M} {lk : rx_Lk} {rt : rx_R} {d w mi pc : Nat} {lv : rx_L} {st : List Value} {h g : rx_H} {P : Option Value → rx_H → Prop} (hl : rx_le h g) (k : rx_T cds ms lk rt d w mi pc lv st h P) : rx_T cds ms lk rt d w mi pc lv st g (fun v g' => ∃ h', P v h' ∧ rx_kp h g h' g') := by
  obtain ⟨f, v, h', e, hp⟩ := k
  obtain ⟨g', e2, hk⟩ := rx_run_psn f _ _ _ _ _ _ _ _ _ e g hl
  exact ⟨f, v, g', e2, h', hp, hk⟩
