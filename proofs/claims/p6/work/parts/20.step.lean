section RXS
variable {p : Program} {l : Launch} {e : Env} {R : Room} {s : State} {m : MethodId} {args : Array Value} {below : List Frame} {meth : Method} {c : Code} {Q : State → Prop}
variable {all : List Cond} {cl : List vw_C} {tys : List FieldType} {sts : List (String × String × String × Nat)} {nst : List Cond} {D : va_G} {dT : Nat → ClassId} {ro : Nat → Nat} {rt : rx_R} {base n0 z0 : Nat}
variable {cds : List (List Value)} {lk : rx_Lk} {own : Nat → String} {d w : Nat} {M : rx_M}
set_option maxHeartbeats 4000000 in
set_option maxRecDepth 100000 in
theorem rx_step (hx : p.tables.exec = Jvm.exec) (hb : c.code = rx_Mb M) (hml : c.maxLocals = rx_Ml M) (hts : ∀ w ∈ all, w.before args s = true) (hown : s.vm.findClass (own (rx_Mo M)) = some m.cls) (hK : rx_Kx cl tys sts nst D dT ro rt base s s.heap) (hini : rx_Mk M = 2 → meth.name = "<init>") (hR : d ≤ R.frames ∧ w ≤ R.locals)
    (G : rx_G all nst cl cds tys sts own lk) {ins : Instr} {pc pc' : Nat} {lv lv' : rx_L} {st st' : List Value} {h h' : rx_H} (hop : rx_opI cds lk rt d w M ins pc lv st h = some (pc', lv', st', h')) (hdg : rx_dec (rx_Mb M) pc ins) (hRc : h'.length ≤ n0 + R.cells) (hRs : rx_sz h' ≤ z0 + R.slots)
    (K : rx_At p l e R s m args below meth c Q cl D dT ro base n0 z0 (rx_Ml M) pc' lv' st' h') : rx_At p l e R s m args below meth c Q cl D dT ro base n0 z0 (rx_Ml M) pc lv st h := by
  obtain ⟨Gt, GC, Gf, Gs, Go, Gy, Gx4, Gx5, Gn, Gm, Gc, Gl, Ga⟩ := G
  cases ins
  case iconst n =>
    have hd : decode (rx_Mb M) pc = .ok (.iconst n, 1) := rx_dec_n hdg rfl
    cases rx_nx_e hop
    intro H locs ls hn hz hW hS hl
    exact lv_iconst hx hb hd rfl (K H locs ls hn hz hW hS hl)
  case bipush n =>
    have hd : decode (rx_Mb M) pc = .ok (.bipush n, 2) := rx_dec_n hdg rfl
    cases rx_nx_e hop
    intro H locs ls hn hz hW hS hl
    exact lv_bipush hx hb hd rfl (K H locs ls hn hz hW hS hl)
  case sipush n =>
    have hd : decode (rx_Mb M) pc = .ok (.sipush n, 3) := rx_dec_n hdg rfl
    cases rx_nx_e hop
    intro H locs ls hn hz hW hS hl
    exact lv_sipush hx hb hd rfl (K H locs ls hn hz hW hS hl)
  case lconst n =>
    have hd : decode (rx_Mb M) pc = .ok (.lconst n, 1) := rx_dec_n hdg rfl
    cases rx_nx_e hop
    intro H locs ls hn hz hW hS hl
    exact lv_lconst hx hb hd rfl (K H locs ls hn hz hW hS hl)
  case ldc ix =>
    have hd : decode (rx_Mb M) pc = .ok (.ldc ix, 2) := rx_dec_n hdg rfl
    obtain ⟨v, ho, e⟩ := rx_kc_e hop
    cases e
    obtain ⟨z, hz9, rfl⟩ := Option.map_eq_some_iff.mp ho
    intro H locs ls hn hz hW hS hl
    exact lv_ldc hx hb hown (hts _ (Gc _ _ _ (rx_luv_e hz9))) hd (K H locs ls hn hz hW hS hl)
  case ldc_w ix =>
    have hd : decode (rx_Mb M) pc = .ok (.ldc_w ix, 3) := rx_dec_n hdg rfl
    obtain ⟨v, ho, e⟩ := rx_kc_e hop
    cases e
    obtain ⟨z, hz9, rfl⟩ := Option.map_eq_some_iff.mp ho
    intro H locs ls hn hz hW hS hl
    exact lv_ldcw hx hb hown (hts _ (Gc _ _ _ (rx_luv_e hz9))) hd (K H locs ls hn hz hW hS hl)
  case ldc2_w ix =>
    have hd : decode (rx_Mb M) pc = .ok (.ldc2_w ix, 3) := rx_dec_n hdg rfl
    obtain ⟨v, ho, e⟩ := rx_kc_e hop
    cases e
    obtain ⟨z, hz9, rfl⟩ := Option.map_eq_some_iff.mp ho
    intro H locs ls hn hz hW hS hl
    exact lv_ldc2 hx hb hown (hts _ (Gl _ _ _ (rx_luv_e hz9))) hd (K H locs ls hn hz hW hS hl)
  case iload_n k =>
    have hd : decode (rx_Mb M) pc = .ok (.iload_n k, 1) := rx_dec_n hdg rfl
    obtain ⟨x, hk, e⟩ := rx_li_e hop
    cases e
    intro H locs ls hn hz hW hS hl
    exact lv_iload_n hx hb hd rfl (rx_lk_at hl hk) (K H locs ls hn hz hW hS hl)
  case iload i =>
    have hd : decode (rx_Mb M) pc = .ok (.iload i, 2) := rx_dec_n hdg rfl
    obtain ⟨x, hk, e⟩ := rx_li_e hop
    cases e
    intro H locs ls hn hz hW hS hl
    exact lv_iload hx hb hd (rx_lk_at hl hk) (K H locs ls hn hz hW hS hl)
  case lload_n k =>
    have hd : decode (rx_Mb M) pc = .ok (.lload_n k, 1) := rx_dec_n hdg rfl
    obtain ⟨x, hk, e⟩ := rx_ll_e hop
    cases e
    intro H locs ls hn hz hW hS hl
    exact lv_lload_n hx hb hd rfl (rx_lk_at hl hk) (K H locs ls hn hz hW hS hl)
  case lload i =>
    have hd : decode (rx_Mb M) pc = .ok (.lload i, 2) := rx_dec_n hdg rfl
    obtain ⟨x, hk, e⟩ := rx_ll_e hop
    cases e
    intro H locs ls hn hz hW hS hl
    exact lv_lload hx hb hd (rx_lk_at hl hk) (K H locs ls hn hz hW hS hl)
  case aload_n k =>
    have hd : decode (rx_Mb M) pc = .ok (.aload_n k, 1) := rx_dec_n hdg rfl
    obtain ⟨x, hk, e⟩ := rx_la_e hop
    cases e
    intro H locs ls hn hz hW hS hl
    exact lv_aload_n hx hb hd rfl (rx_lk_at hl hk) (K H locs ls hn hz hW hS hl)
  case aload i =>
    have hd : decode (rx_Mb M) pc = .ok (.aload i, 2) := rx_dec_n hdg rfl
    obtain ⟨x, hk, e⟩ := rx_la_e hop
    cases e
    intro H locs ls hn hz hW hS hl
    exact lv_aload hx hb hd (rx_lk_at hl hk) (K H locs ls hn hz hW hS hl)
  case istore_n k =>
    have hd : decode (rx_Mb M) pc = .ok (.istore_n k, 1) := rx_dec_n hdg rfl
    obtain ⟨x, t, rfl, hi, e⟩ := rx_si_e hop
    cases e
    intro H locs ls hn hz hW hS hl
    exact lv_istore_n hx hb hd rfl hl hi (rx_s1_c (rx_ad ro base) lv k.val (.int x)) (fun ls' hl' => K H locs ls' hn hz hW hS hl')
  case istore i =>
    have hd : decode (rx_Mb M) pc = .ok (.istore i, 2) := rx_dec_n hdg rfl
    obtain ⟨x, t, rfl, hi, e⟩ := rx_si_e hop
    cases e
    intro H locs ls hn hz hW hS hl
    exact lv_istore hx hb hd hl hi (rx_s1_c (rx_ad ro base) lv i (.int x)) (fun ls' hl' => K H locs ls' hn hz hW hS hl')
  case lstore_n k =>
    have hd : decode (rx_Mb M) pc = .ok (.lstore_n k, 1) := rx_dec_n hdg rfl
    obtain ⟨x, t, rfl, hi, e⟩ := rx_sl_e hop
    cases e
    intro H locs ls hn hz hW hS hl
    exact lv_lstore_n hx hb hd rfl hl hi (rx_s2_c (rx_ad ro base) lv k.val (.long x)) (fun ls' hl' => K H locs ls' hn hz hW hS hl')
  case lstore i =>
    have hd : decode (rx_Mb M) pc = .ok (.lstore i, 2) := rx_dec_n hdg rfl
    obtain ⟨x, t, rfl, hi, e⟩ := rx_sl_e hop
    cases e
    intro H locs ls hn hz hW hS hl
    exact lv_lstore hx hb hd hl hi (rx_s2_c (rx_ad ro base) lv i (.long x)) (fun ls' hl' => K H locs ls' hn hz hW hS hl')
  case astore_n k =>
    have hd : decode (rx_Mb M) pc = .ok (.astore_n k, 1) := rx_dec_n hdg rfl
    obtain ⟨x, t, rfl, hi, e⟩ := rx_sa_e hop
    cases e
    intro H locs ls hn hz hW hS hl
    exact lv_astore_n hx hb hd rfl hl hi (rx_s1_c (rx_ad ro base) lv k.val (.ref x)) (fun ls' hl' => K H locs ls' hn hz hW hS hl')
  case astore i =>
    have hd : decode (rx_Mb M) pc = .ok (.astore i, 2) := rx_dec_n hdg rfl
    obtain ⟨x, t, rfl, hi, e⟩ := rx_sa_e hop
    cases e
    intro H locs ls hn hz hW hS hl
    exact lv_astore hx hb hd hl hi (rx_s1_c (rx_ad ro base) lv i (.ref x)) (fun ls' hl' => K H locs ls' hn hz hW hS hl')
  case iinc i n =>
    have hd : decode (rx_Mb M) pc = .ok (.iinc i n, 3) := rx_dec_n hdg rfl
    obtain ⟨x, hk, hi, e⟩ := rx_in_e hop
    cases e
    intro H locs ls hn hz hW hS hl
    obtain ⟨j, hj⟩ := List.getElem?_of_mem (List.mem_map.mpr ⟨(i, Value.int x), rx_lk_mem hk, rfl⟩ : (i, Value.int x) ∈ rx_cl2 (rx_ad ro base) lv)
    exact lv_iinc hx hb hd hl hj rfl hi (rx_s1_c (rx_ad ro base) lv i (.int (x + Int32.ofInt n))) (fun ls' hl' => K H locs ls' hn hz hW hS hl')
  case iadd =>
    have hd : decode (rx_Mb M) pc = .ok (.iadd, 1) := rx_dec_n hdg rfl
    obtain ⟨x, y, t, rfl, e⟩ := rx_2i_e hop
    cases e
    intro H locs ls hn hz hW hS hl
    exact lv_iadd hx hb hd (K H locs ls hn hz hW hS hl)
  case isub =>
    have hd : decode (rx_Mb M) pc = .ok (.isub, 1) := rx_dec_n hdg rfl
    obtain ⟨x, y, t, rfl, e⟩ := rx_2i_e hop
    cases e
    intro H locs ls hn hz hW hS hl
    exact lv_isub hx hb hd (K H locs ls hn hz hW hS hl)
  case imul =>
    have hd : decode (rx_Mb M) pc = .ok (.imul, 1) := rx_dec_n hdg rfl
    obtain ⟨x, y, t, rfl, e⟩ := rx_2i_e hop
    cases e
    intro H locs ls hn hz hW hS hl
    exact lv_imul hx hb hd (K H locs ls hn hz hW hS hl)
  case iand =>
    have hd : decode (rx_Mb M) pc = .ok (.iand, 1) := rx_dec_n hdg rfl
    obtain ⟨x, y, t, rfl, e⟩ := rx_2i_e hop
    cases e
    intro H locs ls hn hz hW hS hl
    exact lv_iand hx hb hd (K H locs ls hn hz hW hS hl)
  case ior =>
    have hd : decode (rx_Mb M) pc = .ok (.ior, 1) := rx_dec_n hdg rfl
    obtain ⟨x, y, t, rfl, e⟩ := rx_2i_e hop
    cases e
    intro H locs ls hn hz hW hS hl
    exact lv_ior hx hb hd (K H locs ls hn hz hW hS hl)
  case ixor =>
    have hd : decode (rx_Mb M) pc = .ok (.ixor, 1) := rx_dec_n hdg rfl
    obtain ⟨x, y, t, rfl, e⟩ := rx_2i_e hop
    cases e
    intro H locs ls hn hz hW hS hl
    exact lv_ixor hx hb hd (K H locs ls hn hz hW hS hl)
  case ishl =>
    have hd : decode (rx_Mb M) pc = .ok (.ishl, 1) := rx_dec_n hdg rfl
    obtain ⟨x, y, t, rfl, e⟩ := rx_2i_e hop
    cases e
    intro H locs ls hn hz hW hS hl
    exact lv_ishl hx hb hd (K H locs ls hn hz hW hS hl)
  case ishr =>
    have hd : decode (rx_Mb M) pc = .ok (.ishr, 1) := rx_dec_n hdg rfl
    obtain ⟨x, y, t, rfl, e⟩ := rx_2i_e hop
    cases e
    intro H locs ls hn hz hW hS hl
    exact lv_ishr hx hb hd (K H locs ls hn hz hW hS hl)
  case iushr =>
    have hd : decode (rx_Mb M) pc = .ok (.iushr, 1) := rx_dec_n hdg rfl
    obtain ⟨x, y, t, rfl, e⟩ := rx_2i_e hop
    cases e
    intro H locs ls hn hz hW hS hl
    exact lv_iushr hx hb hd rfl (K H locs ls hn hz hW hS hl)
  case idiv =>
    have hd : decode (rx_Mb M) pc = .ok (.idiv, 1) := rx_dec_n hdg rfl
    obtain ⟨x, y, t, rfl, h0, e⟩ := rx_dv_e hop
    cases e
    intro H locs ls hn hz hW hS hl
    exact lv_idiv hx hb hd h0 (K H locs ls hn hz hW hS hl)
  case irem =>
    have hd : decode (rx_Mb M) pc = .ok (.irem, 1) := rx_dec_n hdg rfl
    obtain ⟨x, y, t, rfl, h0, e⟩ := rx_dv_e hop
    cases e
    intro H locs ls hn hz hW hS hl
    exact lv_irem hx hb hd h0 (K H locs ls hn hz hW hS hl)
  case ldiv =>
    have hd : decode (rx_Mb M) pc = .ok (.ldiv, 1) := rx_dec_n hdg rfl
    obtain ⟨x, y, t, rfl, h0, e⟩ := rx_dl_e hop
    cases e
    intro H locs ls hn hz hW hS hl
    exact lv_ldiv hx hb hd h0 (K H locs ls hn hz hW hS hl)
  case lrem =>
    have hd : decode (rx_Mb M) pc = .ok (.lrem, 1) := rx_dec_n hdg rfl
    obtain ⟨x, y, t, rfl, h0, e⟩ := rx_dl_e hop
    cases e
    intro H locs ls hn hz hW hS hl
    exact lv_lrem hx hb hd h0 (K H locs ls hn hz hW hS hl)
  case ladd =>
    have hd : decode (rx_Mb M) pc = .ok (.ladd, 1) := rx_dec_n hdg rfl
    obtain ⟨x, y, t, rfl, e⟩ := rx_2l_e hop
    cases e
    intro H locs ls hn hz hW hS hl
    exact lv_ladd hx hb hd (K H locs ls hn hz hW hS hl)
  case lsub =>
    have hd : decode (rx_Mb M) pc = .ok (.lsub, 1) := rx_dec_n hdg rfl
    obtain ⟨x, y, t, rfl, e⟩ := rx_2l_e hop
    cases e
    intro H locs ls hn hz hW hS hl
    exact lv_lsub hx hb hd (K H locs ls hn hz hW hS hl)
  case lmul =>
    have hd : decode (rx_Mb M) pc = .ok (.lmul, 1) := rx_dec_n hdg rfl
    obtain ⟨x, y, t, rfl, e⟩ := rx_2l_e hop
    cases e
    intro H locs ls hn hz hW hS hl
    exact lv_lmul hx hb hd (K H locs ls hn hz hW hS hl)
  case land =>
    have hd : decode (rx_Mb M) pc = .ok (.land, 1) := rx_dec_n hdg rfl
    obtain ⟨x, y, t, rfl, e⟩ := rx_2l_e hop
    cases e
    intro H locs ls hn hz hW hS hl
    exact lv_land hx hb hd (K H locs ls hn hz hW hS hl)
  case lor =>
    have hd : decode (rx_Mb M) pc = .ok (.lor, 1) := rx_dec_n hdg rfl
    obtain ⟨x, y, t, rfl, e⟩ := rx_2l_e hop
    cases e
    intro H locs ls hn hz hW hS hl
    exact lv_lor hx hb hd (K H locs ls hn hz hW hS hl)
  case lxor =>
    have hd : decode (rx_Mb M) pc = .ok (.lxor, 1) := rx_dec_n hdg rfl
    obtain ⟨x, y, t, rfl, e⟩ := rx_2l_e hop
    cases e
    intro H locs ls hn hz hW hS hl
    exact lv_lxor hx hb hd (K H locs ls hn hz hW hS hl)
  case ineg =>
    have hd : decode (rx_Mb M) pc = .ok (.ineg, 1) := rx_dec_n hdg rfl
    obtain ⟨x, t, rfl, e⟩ := rx_1i_e hop
    cases e
    intro H locs ls hn hz hW hS hl
    exact lv_ineg hx hb hd (K H locs ls hn hz hW hS hl)
  case i2l =>
    have hd : decode (rx_Mb M) pc = .ok (.i2l, 1) := rx_dec_n hdg rfl
    obtain ⟨x, t, rfl, e⟩ := rx_1i_e hop
    cases e
    intro H locs ls hn hz hW hS hl
    exact lv_i2l hx hb hd rfl (K H locs ls hn hz hW hS hl)
  case lneg =>
    have hd : decode (rx_Mb M) pc = .ok (.lneg, 1) := rx_dec_n hdg rfl
    obtain ⟨x, t, rfl, e⟩ := rx_1l_e hop
    cases e
    intro H locs ls hn hz hW hS hl
    exact lv_lneg hx hb hd (K H locs ls hn hz hW hS hl)
  case l2i =>
    have hd : decode (rx_Mb M) pc = .ok (.l2i, 1) := rx_dec_n hdg rfl
    obtain ⟨x, t, rfl, e⟩ := rx_1l_e hop
    cases e
    intro H locs ls hn hz hW hS hl
    exact lv_l2i hx hb hd rfl (K H locs ls hn hz hW hS hl)
  case lushr =>
    have hd : decode (rx_Mb M) pc = .ok (.lushr, 1) := rx_dec_n hdg rfl
    obtain ⟨x, y, t, rfl, e⟩ := rx_us_e hop
    cases e
    intro H locs ls hn hz hW hS hl
    exact lv_lushr hx hb hd rfl (K H locs ls hn hz hW hS hl)
  case lcmp =>
    have hd : decode (rx_Mb M) pc = .ok (.lcmp, 1) := rx_dec_n hdg rfl
    obtain ⟨x, y, t, rfl, e⟩ := rx_cm_e hop
    cases e
    intro H locs ls hn hz hW hS hl
    exact W.lcmp hx hb hd (K H locs ls hn hz hW hS hl)
  case dup =>
    have hd : decode (rx_Mb M) pc = .ok (.dup, 1) := rx_dec_n hdg rfl
    obtain ⟨a, t, rfl, h1, e⟩ := rx_d0_e hop
    cases e
    intro H locs ls hn hz hW hS hl
    exact lv_dup hx hb hd ((rx_cat _ a).trans h1) (K H locs ls hn hz hW hS hl)
  case pop =>
    have hd : decode (rx_Mb M) pc = .ok (.pop, 1) := rx_dec_n hdg rfl
    obtain ⟨a, t, rfl, h1, e⟩ := rx_pp_e hop
    cases e
    intro H locs ls hn hz hW hS hl
    exact lv_pop hx hb hd ((rx_cat _ a).trans h1) (K H locs ls hn hz hW hS hl)
  case dup_x1 =>
    have hd : decode (rx_Mb M) pc = .ok (.dup_x1, 1) := rx_dec_n hdg rfl
    obtain ⟨a, b, t, rfl, h1, h2, e⟩ := rx_d1_e hop
    cases e
    intro H locs ls hn hz hW hS hl
    exact lv_dup_x1 hx hb hd ((rx_cat _ a).trans h1) ((rx_cat _ b).trans h2) (K H locs ls hn hz hW hS hl)
  case dup_x2 =>
    have hd : decode (rx_Mb M) pc = .ok (.dup_x2, 1) := rx_dec_n hdg rfl
    obtain ⟨a, b, d9, t, rfl, h1, h2, h3, e⟩ := rx_d2_e hop
    cases e
    intro H locs ls hn hz hW hS hl
    exact lv_dup_x2 hx hb hd ((rx_cat _ a).trans h1) ((rx_cat _ b).trans h2) ((rx_cat _ d9).trans h3) (K H locs ls hn hz hW hS hl)
  case dup2 =>
    have hd : decode (rx_Mb M) pc = .ok (.dup2, 1) := rx_dec_n hdg rfl
    obtain ⟨a, b, t, rfl, h1, h2, e⟩ := rx_dd_e hop
    cases e
    intro H locs ls hn hz hW hS hl
    exact lv_dup2_11 hx hb hd ((rx_cat _ a).trans h1) ((rx_cat _ b).trans h2) (K H locs ls hn hz hW hS hl)
  case ifCond cond off =>
    obtain ⟨x, t, rfl, g, hg, hc⟩ := rx_b1_e hop
    cases cond
    case eq =>
      have hd : decode (rx_Mb M) pc = .ok (.ifCond .eq off, 3) := rx_dec_n hdg rfl
      rcases hc with ⟨hc, e⟩ | ⟨hc, e⟩
      · cases e
        have hc := of_decide_eq_true hc
        intro H locs ls hn hz hW hS hl
        exact lv_if_eq hx hb hd hg (fun _ => K H locs ls hn hz hW hS hl) (fun h9 => absurd hc h9)
      · cases e
        have hc := of_decide_eq_false hc
        intro H locs ls hn hz hW hS hl
        exact lv_if_eq hx hb hd hg (fun h9 => absurd h9 hc) (fun _ => K H locs ls hn hz hW hS hl)
    case ne =>
      have hd : decode (rx_Mb M) pc = .ok (.ifCond .ne off, 3) := rx_dec_n hdg rfl
      rcases hc with ⟨hc, e⟩ | ⟨hc, e⟩
      · cases e
        have hc := of_decide_eq_true hc
        intro H locs ls hn hz hW hS hl
        exact lv_if_ne hx hb hd hg (fun _ => K H locs ls hn hz hW hS hl) (fun h9 => absurd h9 hc)
      · cases e
        have hc := of_decide_eq_false hc
        intro H locs ls hn hz hW hS hl
        exact lv_if_ne hx hb hd hg (fun h9 => absurd h9 hc) (fun _ => K H locs ls hn hz hW hS hl)
    case lt =>
      have hd : decode (rx_Mb M) pc = .ok (.ifCond .lt off, 3) := rx_dec_n hdg rfl
      rcases hc with ⟨hc, e⟩ | ⟨hc, e⟩
      · cases e
        have hc := of_decide_eq_true hc
        intro H locs ls hn hz hW hS hl
        exact lv_if_lt hx hb hd hg (fun _ => K H locs ls hn hz hW hS hl) (fun h9 => absurd hc h9)
      · cases e
        have hc := of_decide_eq_false hc
        intro H locs ls hn hz hW hS hl
        exact lv_if_lt hx hb hd hg (fun h9 => absurd h9 hc) (fun _ => K H locs ls hn hz hW hS hl)
    case ge =>
      have hd : decode (rx_Mb M) pc = .ok (.ifCond .ge off, 3) := rx_dec_n hdg rfl
      rcases hc with ⟨hc, e⟩ | ⟨hc, e⟩
      · cases e
        have hc := of_decide_eq_true hc
        intro H locs ls hn hz hW hS hl
        exact lv_if_ge hx hb hd hg (fun _ => K H locs ls hn hz hW hS hl) (fun h9 => absurd hc h9)
      · cases e
        have hc := of_decide_eq_false hc
        intro H locs ls hn hz hW hS hl
        exact lv_if_ge hx hb hd hg (fun h9 => absurd h9 hc) (fun _ => K H locs ls hn hz hW hS hl)
    case gt =>
      have hd : decode (rx_Mb M) pc = .ok (.ifCond .gt off, 3) := rx_dec_n hdg rfl
      rcases hc with ⟨hc, e⟩ | ⟨hc, e⟩
      · cases e
        have hc := of_decide_eq_true hc
        intro H locs ls hn hz hW hS hl
        exact lv_if_gt hx hb hd hg (fun _ => K H locs ls hn hz hW hS hl) (fun h9 => absurd hc h9)
      · cases e
        have hc := of_decide_eq_false hc
        intro H locs ls hn hz hW hS hl
        exact lv_if_gt hx hb hd hg (fun h9 => absurd h9 hc) (fun _ => K H locs ls hn hz hW hS hl)
    case le =>
      have hd : decode (rx_Mb M) pc = .ok (.ifCond .le off, 3) := rx_dec_n hdg rfl
      rcases hc with ⟨hc, e⟩ | ⟨hc, e⟩
      · cases e
        have hc := of_decide_eq_true hc
        intro H locs ls hn hz hW hS hl
        exact lv_if_le hx hb hd hg (fun _ => K H locs ls hn hz hW hS hl) (fun h9 => absurd hc h9)
      · cases e
        have hc := of_decide_eq_false hc
        intro H locs ls hn hz hW hS hl
        exact lv_if_le hx hb hd hg (fun h9 => absurd h9 hc) (fun _ => K H locs ls hn hz hW hS hl)
  case if_icmp cond off =>
    obtain ⟨x, y, t, rfl, g, hg, hc⟩ := rx_b2_e hop
    cases cond
    case eq =>
      have hd : decode (rx_Mb M) pc = .ok (.if_icmp .eq off, 3) := rx_dec_n hdg rfl
      rcases hc with ⟨hc, e⟩ | ⟨hc, e⟩
      · cases e
        have hc := of_decide_eq_true hc
        intro H locs ls hn hz hW hS hl
        exact lv_icmp_eq hx hb hd hg (fun _ => K H locs ls hn hz hW hS hl) (fun h9 => absurd hc h9)
      · cases e
        have hc := of_decide_eq_false hc
        intro H locs ls hn hz hW hS hl
        exact lv_icmp_eq hx hb hd hg (fun h9 => absurd h9 hc) (fun _ => K H locs ls hn hz hW hS hl)
    case ne =>
      have hd : decode (rx_Mb M) pc = .ok (.if_icmp .ne off, 3) := rx_dec_n hdg rfl
      rcases hc with ⟨hc, e⟩ | ⟨hc, e⟩
      · cases e
        have hc := of_decide_eq_true hc
        intro H locs ls hn hz hW hS hl
        exact lv_icmp_ne hx hb hd hg (fun _ => K H locs ls hn hz hW hS hl) (fun h9 => absurd h9 hc)
      · cases e
        have hc := of_decide_eq_false hc
        intro H locs ls hn hz hW hS hl
        exact lv_icmp_ne hx hb hd hg (fun h9 => absurd h9 hc) (fun _ => K H locs ls hn hz hW hS hl)
    case lt =>
      have hd : decode (rx_Mb M) pc = .ok (.if_icmp .lt off, 3) := rx_dec_n hdg rfl
      rcases hc with ⟨hc, e⟩ | ⟨hc, e⟩
      · cases e
        have hc := of_decide_eq_true hc
        intro H locs ls hn hz hW hS hl
        exact lv_icmp_lt hx hb hd hg (fun _ => K H locs ls hn hz hW hS hl) (fun h9 => absurd hc h9)
      · cases e
        have hc := of_decide_eq_false hc
        intro H locs ls hn hz hW hS hl
        exact lv_icmp_lt hx hb hd hg (fun h9 => absurd h9 hc) (fun _ => K H locs ls hn hz hW hS hl)
    case ge =>
      have hd : decode (rx_Mb M) pc = .ok (.if_icmp .ge off, 3) := rx_dec_n hdg rfl
      rcases hc with ⟨hc, e⟩ | ⟨hc, e⟩
      · cases e
        have hc := of_decide_eq_true hc
        intro H locs ls hn hz hW hS hl
        exact lv_icmp_ge hx hb hd hg (fun _ => K H locs ls hn hz hW hS hl) (fun h9 => absurd hc h9)
      · cases e
        have hc := of_decide_eq_false hc
        intro H locs ls hn hz hW hS hl
        exact lv_icmp_ge hx hb hd hg (fun h9 => absurd h9 hc) (fun _ => K H locs ls hn hz hW hS hl)
    case gt =>
      have hd : decode (rx_Mb M) pc = .ok (.if_icmp .gt off, 3) := rx_dec_n hdg rfl
      rcases hc with ⟨hc, e⟩ | ⟨hc, e⟩
      · cases e
        have hc := of_decide_eq_true hc
        intro H locs ls hn hz hW hS hl
        exact lv_icmp_gt hx hb hd hg (fun _ => K H locs ls hn hz hW hS hl) (fun h9 => absurd hc h9)
      · cases e
        have hc := of_decide_eq_false hc
        intro H locs ls hn hz hW hS hl
        exact lv_icmp_gt hx hb hd hg (fun h9 => absurd h9 hc) (fun _ => K H locs ls hn hz hW hS hl)
    case le =>
      have hd : decode (rx_Mb M) pc = .ok (.if_icmp .le off, 3) := rx_dec_n hdg rfl
      rcases hc with ⟨hc, e⟩ | ⟨hc, e⟩
      · cases e
        have hc := of_decide_eq_true hc
        intro H locs ls hn hz hW hS hl
        exact lv_icmp_le hx hb hd hg (fun _ => K H locs ls hn hz hW hS hl) (fun h9 => absurd hc h9)
      · cases e
        have hc := of_decide_eq_false hc
        intro H locs ls hn hz hW hS hl
        exact lv_icmp_le hx hb hd hg (fun h9 => absurd h9 hc) (fun _ => K H locs ls hn hz hW hS hl)
  case goto off =>
    have hd : decode (rx_Mb M) pc = .ok (.goto off, 3) := rx_dec_n hdg rfl
    obtain ⟨g, hg, e⟩ := rx_jp_e hop
    cases e
    intro H locs ls hn hz hW hS hl
    exact lv_goto hx hb hd hg (K H locs ls hn hz hW hS hl)
  case tableswitch dflt lo hi offs =>
    obtain ⟨len, hd, -⟩ := hdg
    obtain ⟨x, t, rfl, ⟨h1, g, hg, e⟩ | ⟨h1, h2, off, g, h3, hg, e⟩⟩ := rx_ts_e hop
    · cases e
      intro H locs ls hn hz hW hS hl
      exact lv_tableOut hx hb hd h1 hg (K H locs ls hn hz hW hS hl)
    · cases e
      intro H locs ls hn hz hW hS hl
      exact lv_tableIn hx hb hd h1 h2 h3 hg (K H locs ls hn hz hW hS hl)
  case lookupswitch dflt ps =>
    obtain ⟨len, hd, -⟩ := hdg
    obtain ⟨x, t, rfl, h1, g, hg, e⟩ := rx_ls_e hop
    cases e
    intro H locs ls hn hz hW hS hl
    exact lv_lookup hx hb hd h1 rfl hg (K H locs ls hn hz hW hS hl)
  case iaload =>
    have hd : decode (rx_Mb M) pc = .ok (.iaload, 1) := rx_dec_n hdg rfl
    obtain ⟨i, a, t, q, rfl, h1, h2, e⟩ := rx_ial_e hop
    cases e
    exact rx_h_iald hx hb hK Gt.1 h1 h2 hd K
  case laload =>
    have hd : decode (rx_Mb M) pc = .ok (.laload, 1) := rx_dec_n hdg rfl
    obtain ⟨i, a, t, q, rfl, h1, h2, e⟩ := rx_lal_e hop
    cases e
    exact rx_h_lald hx hb hK Gt.2.1 h1 h2 hd K
  case baload =>
    have hd : decode (rx_Mb M) pc = .ok (.baload, 1) := rx_dec_n hdg rfl
    obtain ⟨i, a, t, q, rfl, h1, h2, e⟩ := rx_zal_e hop
    cases e
    exact rx_h_zald hx hb hK Gt.2.2.1 h1 h2 hd K
  case aaload =>
    have hd : decode (rx_Mb M) pc = .ok (.aaload, 1) := rx_dec_n hdg rfl
    obtain ⟨i, a, t, q, k, rfl, h1, h2, h3, e⟩ := rx_qal_e hop
    cases e
    exact rx_h_qald hx hb hK Gt.2.2.2.1 h1 h2 h3 hd K
  case iastore =>
    have hd : decode (rx_Mb M) pc = .ok (.iastore, 1) := rx_dec_n hdg rfl
    obtain ⟨x, i, k, t, n, f, rfl, h1, h2, h3, e⟩ := rx_ias_e hop
    cases e
    exact rx_h_iast hx hb hK Gt.1 h1 h2 h3 hd K
  case lastore =>
    have hd : decode (rx_Mb M) pc = .ok (.lastore, 1) := rx_dec_n hdg rfl
    obtain ⟨x, i, k, t, n, f, rfl, h1, h2, h3, e⟩ := rx_las_e hop
    cases e
    exact rx_h_last hx hb hK Gt.2.1 h1 h2 h3 hd K
  case bastore =>
    have hd : decode (rx_Mb M) pc = .ok (.bastore, 1) := rx_dec_n hdg rfl
    obtain ⟨x, i, k, t, n, f, rfl, h1, h2, h3, e⟩ := rx_zas_e hop
    cases e
    exact rx_h_zast hx hb hK Gt.2.2.1 h1 h2 h3 hd K
  case arraylength =>
    have hd : decode (rx_Mb M) pc = .ok (.arraylength, 1) := rx_dec_n hdg rfl
    obtain ⟨a, t, n, rfl, h1, e⟩ := rx_al_e hop
    cases e
    exact rx_h_alen hx hb hK Gt.2.2.2.2 h1 hd K
  case getfield ix =>
    have hd : decode (rx_Mb M) pc = .ok (.getfield ix, 3) := rx_dec_n hdg rfl
    obtain ⟨k, t, q, fs, v, rfl, h1, h2, h3, e⟩ := rx_gf_e hop
    cases e
    exact rx_h_get hx hb hts hown hK GC (Gf _ _ _ (rx_luv_e h1)) h2 h3 hd K
  case putfield ix =>
    have hd : decode (rx_Mb M) pc = .ok (.putfield ix, 3) := rx_dec_n hdg rfl
    obtain ⟨v, k, t, q, fs, rfl, h1, h2, h3, h4, h5, h6, e⟩ := rx_pf_e hop
    cases e
    exact rx_h_put hx hb hts hown hK GC (Gf _ _ _ (rx_luv_e h1)) (fun z => hini (Nat.eq_of_beq_eq_true z)) h2 h3 h4 h5 h6 hd K
  case getstatic ix =>
    have hd : decode (rx_Mb M) pc = .ok (.getstatic ix, 3) := rx_dec_n hdg rfl
    obtain ⟨v, ho, e⟩ := rx_kc_e hop
    cases e
    obtain ⟨z, hz9, rfl⟩ := Option.map_eq_some_iff.mp ho
    exact rx_h_gets hx hb hts hown hK (Gs _ _ _ (rx_luv_e hz9)) hd K
  case new ix =>
    have hd : decode (rx_Mb M) pc = .ok (.new ix, 3) := rx_dec_n hdg rfl
    obtain ⟨ci, fs, h1, h2, e⟩ := rx_nw_e hop
    cases e
    exact rx_h_new hx hb hts hown hK GC (Gn _ _ _ _ (rx_luv_e h1) h2) h2 (by simpa using hRc) (by simpa [rx_sz, rx_sz1] using hRs) hd K
  case newarray a =>
    have hd : decode (rx_Mb M) pc = .ok (.newarray a, 2) := rx_dec_n hdg rfl
    obtain ⟨q, n, t, h1, rfl, h2, h3, e⟩ := rx_na_e hop
    cases e
    have e9 := rx_zer_sz q.1 n.toNatClampNeg
    have e8 : rx_sz h + n.toNatClampNeg ≤ z0 + R.slots := by
      rw [rx_sz_app] at hRs
      have e7 : rx_sz [Sum.inl (q.1, rx_zer q.1 n.toNatClampNeg)] = n.toNatClampNeg := by
        show rx_sz1 _ + 0 = _
        rw [e9]; rfl
      omega
    exact rx_h_na hx hb hts hK ⟨Gt.1, Gt.2.1, Gt.2.2.1⟩ h1 (Ga _ _ h1) h2 h3 (by simpa using hRc) e8 hd K
  case multianewarray ix n =>
    have hd : decode (rx_Mb M) pc = .ok (.multianewarray ix n, 4) := rx_dec_n hdg rfl
    exact rx_h_mna hx hb hts hown hK Gt.2.1 Gt.2.2.2.1 (fun z => Gm _ _ (rx_luv_e z)) hop hRc hRs hd K
  case invokespecial ix =>
    have hd : decode (rx_Mb M) pc = .ok (.invokespecial ix, 3) := rx_dec_n hdg rfl
    obtain ⟨q, h1, h2, h3⟩ := rx_is_e hop
    obtain ⟨a, t, rfl, h4, h5, e⟩ := rx_oi_e h3
    cases e
    exact rx_h_oi hx hb hml hts hown (Go _ _ _ (rx_luv_e h1) h2).1 (Go _ _ _ (rx_luv_e h1) h2).2.1 (Go _ _ _ (rx_luv_e h1) h2).2.2 h4 h5 hR hd K
  case invokestatic ix =>
    have hd : decode (rx_Mb M) pc = .ok (.invokestatic ix, 3) := rx_dec_n hdg rfl
    obtain ⟨q, h1, ⟨h2, h3⟩ | ⟨h2, h3⟩ | ⟨h2, h3⟩⟩ := rx_it_e hop
    · obtain ⟨n, dp, sp, ka, kb, m0, m1, f, g, t, rfl, w1, w2, w3, w4, w5, w6, w7, w8, w9, w10, e⟩ := rx_ac_e h3
      cases e
      exact rx_h_ac hx hb hml hts hown hK Gt.1 (Gy _ _ _ (rx_luv_e h1) h2).1 (Gy _ _ _ (rx_luv_e h1) h2).2.1 (Gy _ _ _ (rx_luv_e h1) h2).2.2.1 (Gy _ _ _ (rx_luv_e h1) h2).2.2.2 w1 w2 w3 w4 w5 w6 w7 w8 w9 w10 hR hd K
    · obtain ⟨x, y, t, rfl, w1, w2, e⟩ := rx_m4_e h3
      cases e
      exact rx_h_m4 hx hb hml hts hown (Gx4 _ _ _ (rx_luv_e h1) h2) w1 w2 hR hRc hRs hd K
    · obtain ⟨x, y, t, rfl, w1, w2, e⟩ := rx_m5_e h3
      cases e
      exact rx_h_m5 hx hb hml hts hown (Gx5 _ _ _ (rx_luv_e h1) h2) w1 w2 hR hRc hRs hd K
  all_goals exact absurd hop (fun z => by cases z)
end RXS
