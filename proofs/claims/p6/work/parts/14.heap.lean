section RXH
variable {p : Program} {l : Launch} {e : Env} {R : Room} {s : State} {m : MethodId} {args : Array Value} {below : List Frame} {meth : Method} {c : Code} {Q : State → Prop}
variable {cl : List vw_C} {tys : List FieldType} {sts : List (String × String × String × Nat)} {nst : List Cond} {D : va_G} {dT : Nat → ClassId} {ro : Nat → Nat} {rt : rx_R} {base n0 z0 : Nat}
variable {cc : ByteArray} {nL pc pc' : Nat} {lv lv' : rx_L} {st st' t : List Value} {h : rx_H}
theorem rx_At.set {k : Nat} {c0 c' : rx_C} (K : rx_At p l e R s m args below meth c Q cl D dT ro base n0 z0 nL pc' lv' st' (h.set k c')) (hk : h[k]? = some c0) (hs : rx_sz1 c' = rx_sz1 c0) (H : Heap) (locs : List Loc) (ls : Array Slot) (hn : n0 ≤ h.length) (hz : z0 ≤ rx_sz h) (hW : rx_W D cl dT (rx_ad ro base) base (h.set k c') H) (hS : va_S (fun q => base ≤ q) s.heap H locs) (hl : lv_has ls nL (rx_cl2 (rx_ad ro base) lv')) :
    W p l e R s m args below meth c H locs (h.length - n0) (rx_sz h - z0) Q (F0 m pc' ls (st'.map (rx_cv (rx_ad ro base)))) := by
  have h1 := K H locs ls (by rw [List.length_set]; exact hn) (by rw [rx_sz_set h k c0 c' hk hs]; exact hz) hW hS hl
  rw [List.length_set, rx_sz_set h k c0 c' hk hs] at h1
  exact h1
theorem rx_h_iald (hx : p.tables.exec = Jvm.exec) (hb : c.code = cc) (hK : rx_Kx cl tys sts nst D dT ro rt base s s.heap) (ht : tys[0]? = some .int) {i : Int32} {a : Nat} {q : Nat × (Nat → Int32)} (hr : rx_ri rt h a = some q) (hin : vp_in i q.1) (hd : decode cc pc = .ok (.iaload, 1))
    (K : rx_At p l e R s m args below meth c Q cl D dT ro base n0 z0 nL (pc + 1) lv (.int (q.2 i.toNatClampNeg) :: t) h) : rx_At p l e R s m args below meth c Q cl D dT ro base n0 z0 nL pc lv (.int i :: .ref a :: t) h := by
  intro H locs ls hn hz hW hS hl
  obtain ⟨n, f⟩ := q
  rcases rx_ri_e hr with ⟨h1, h2⟩ | ⟨k, rfl, h1, h2⟩
  · show W p l e R s m args below meth c H locs _ _ Q (F0 m pc ls (.int i :: .ref (rx_ad ro base a) :: t.map (rx_cv (rx_ad ro base))))
    rw [rx_ad_r ro base h1]
    exact va_ti (v := .int (f i.toNatClampNeg)) hx hb (hK.2.2.1 a n f h1 h2) hS hin rfl hd (K H locs ls hn hz hW hS hl)
  · show W p l e R s m args below meth c H locs _ _ Q (F0 m pc ls (.int i :: .ref (rx_ad ro base (k + 16)) :: t.map (rx_cv (rx_ad ro base))))
    rw [rx_ad_k ro base k]
    exact va_iald (f := f) (n := n) hx hb (hK.K ht) (rx_one (hW.2 k _ h1)) 0 0 rfl rfl hin hd (K H locs ls hn hz hW hS hl)
theorem rx_h_lald (hx : p.tables.exec = Jvm.exec) (hb : c.code = cc) (hK : rx_Kx cl tys sts nst D dT ro rt base s s.heap) (ht : tys[1]? = some .long) {i : Int32} {a : Nat} {q : Nat × (Nat → Int64)} (hr : rx_rl h a = some q) (hin : vp_in i q.1) (hd : decode cc pc = .ok (.laload, 1))
    (K : rx_At p l e R s m args below meth c Q cl D dT ro base n0 z0 nL (pc + 1) lv (.long (q.2 i.toNatClampNeg) :: t) h) : rx_At p l e R s m args below meth c Q cl D dT ro base n0 z0 nL pc lv (.int i :: .ref a :: t) h := by
  intro H locs ls hn hz hW hS hl
  obtain ⟨n, f⟩ := q
  obtain ⟨k, rfl, h1, h2⟩ := rx_rl_e hr
  show W p l e R s m args below meth c H locs _ _ Q (F0 m pc ls (.int i :: .ref (rx_ad ro base (k + 16)) :: t.map (rx_cv (rx_ad ro base))))
  rw [rx_ad_k ro base k]
  exact va_lald (f := f) (n := n) hx hb (hK.K ht) (rx_one (hW.2 k _ h1)) 0 0 rfl rfl hin hd (K H locs ls hn hz hW hS hl)
theorem rx_h_zald (hx : p.tables.exec = Jvm.exec) (hb : c.code = cc) (hK : rx_Kx cl tys sts nst D dT ro rt base s s.heap) (ht : tys[2]? = some .boolean) {i : Int32} {a : Nat} {q : Nat × (Nat → Int32)} (hr : rx_rz h a = some q) (hin : vp_in i q.1) (hd : decode cc pc = .ok (.baload, 1))
    (K : rx_At p l e R s m args below meth c Q cl D dT ro base n0 z0 nL (pc + 1) lv (.int (q.2 i.toNatClampNeg) :: t) h) : rx_At p l e R s m args below meth c Q cl D dT ro base n0 z0 nL pc lv (.int i :: .ref a :: t) h := by
  intro H locs ls hn hz hW hS hl
  obtain ⟨n, f⟩ := q
  obtain ⟨k, rfl, h1, h2⟩ := rx_rz_e hr
  show W p l e R s m args below meth c H locs _ _ Q (F0 m pc ls (.int i :: .ref (rx_ad ro base (k + 16)) :: t.map (rx_cv (rx_ad ro base))))
  rw [rx_ad_k ro base k]
  exact va_zald (f := f) (n := n) hx hb (hK.K ht) (rx_one (hW.2 k _ h1)) 0 0 rfl rfl hin hd (K H locs ls hn hz hW hS hl)
theorem rx_h_iast (hx : p.tables.exec = Jvm.exec) (hb : c.code = cc) (hK : rx_Kx cl tys sts nst D dT ro rt base s s.heap) (ht : tys[0]? = some .int) {x i : Int32} {k n : Nat} {f : Nat → Int32} (hk : h[k]? = some (.inl (0, n, .inl f))) (hlt : k < h.length) (hin : vp_in i n) (hd : decode cc pc = .ok (.iastore, 1))
    (K : rx_At p l e R s m args below meth c Q cl D dT ro base n0 z0 nL (pc + 1) lv t (h.set k (.inl (0, n, .inl (upd f i.toNatClampNeg x))))) : rx_At p l e R s m args below meth c Q cl D dT ro base n0 z0 nL pc lv (.int x :: .int i :: .ref (k + 16) :: t) h := by
  intro H locs ls hn hz hW hS hl
  show W p l e R s m args below meth c H locs _ _ Q (F0 m pc ls (.int x :: .int i :: .ref (rx_ad ro base (k + 16)) :: t.map (rx_cv (rx_ad ro base))))
  rw [rx_ad_k ro base k]
  have hc : H[base + k]? = some (vp_cell (dT 0) (n, .inl f)) := hW.2 k _ hk
  refine W.iast hx hb hc ((hK.2.1 0 _ ht).1 n (fun j => .int (f j))) (fun q => by cases q) (by show ¬ (i < 0 ∨ (arrV _ _ _).slots.size ≤ _); rw [arrV_size]; exact hin) rfl rfl hd fun H1 e1 z1 oq => ?_
  refine K.set hk rfl H1 _ ls hn hz (hW.set hlt z1 ?_ oq) (hS.put z1 oq (Nat.le_add_right _ _)) hl
  show H1[base + k]? = some (vp_cell (dT 0) (n, .inl (upd f i.toNatClampNeg x)))
  rw [e1, vp_cell_i, vp_cell_i, arrV_store]
  congr 2
  funext q
  by_cases hq : q = i.toNatClampNeg
  · subst hq
    simp [updV, upd]
  · simp [updV, upd, hq]
theorem rx_h_last (hx : p.tables.exec = Jvm.exec) (hb : c.code = cc) (hK : rx_Kx cl tys sts nst D dT ro rt base s s.heap) (ht : tys[1]? = some .long) {x : Int64} {i : Int32} {k n : Nat} {f : Nat → Int64} (hk : h[k]? = some (.inl (1, n, .inr (.inl f)))) (hlt : k < h.length) (hin : vp_in i n) (hd : decode cc pc = .ok (.lastore, 1))
    (K : rx_At p l e R s m args below meth c Q cl D dT ro base n0 z0 nL (pc + 1) lv t (h.set k (.inl (1, n, .inr (.inl (vp_updL f i.toNatClampNeg x)))))) : rx_At p l e R s m args below meth c Q cl D dT ro base n0 z0 nL pc lv (.long x :: .int i :: .ref (k + 16) :: t) h := by
  intro H locs ls hn hz hW hS hl
  show W p l e R s m args below meth c H locs _ _ Q (F0 m pc ls (.long x :: .int i :: .ref (rx_ad ro base (k + 16)) :: t.map (rx_cv (rx_ad ro base))))
  rw [rx_ad_k ro base k]
  have hc : H[base + k]? = some (vp_cell (dT 1) (n, .inr (.inl f))) := hW.2 k _ hk
  refine W.last hx hb hc ((hK.2.1 1 _ ht).1 n (fun j => .long (f j))) (fun q => by cases q) (by show ¬ (i < 0 ∨ (arrV _ _ _).slots.size ≤ _); rw [arrV_size]; exact hin) rfl rfl hd fun H1 e1 z1 oq => ?_
  refine K.set hk rfl H1 _ ls hn hz (hW.set hlt z1 ?_ oq) (hS.put z1 oq (Nat.le_add_right _ _)) hl
  show H1[base + k]? = some (vp_cell (dT 1) (n, .inr (.inl (vp_updL f i.toNatClampNeg x))))
  rw [e1, vp_cell_l, vp_cell_l, arrV_store]
  congr 2
  funext q
  by_cases hq : q = i.toNatClampNeg
  · subst hq
    simp [updV, vp_updL]
  · simp [updV, vp_updL, hq]
theorem rx_h_zast (hx : p.tables.exec = Jvm.exec) (hb : c.code = cc) (hK : rx_Kx cl tys sts nst D dT ro rt base s s.heap) (ht : tys[2]? = some .boolean) {x i : Int32} {k n : Nat} {f : Nat → Int32} (hk : h[k]? = some (.inl (2, n, .inl f))) (hlt : k < h.length) (hin : vp_in i n) (hd : decode cc pc = .ok (.bastore, 1))
    (K : rx_At p l e R s m args below meth c Q cl D dT ro base n0 z0 nL (pc + 1) lv t (h.set k (.inl (2, n, .inl (upd f i.toNatClampNeg (vp_nar .boolean x)))))) : rx_At p l e R s m args below meth c Q cl D dT ro base n0 z0 nL pc lv (.int x :: .int i :: .ref (k + 16) :: t) h := by
  intro H locs ls hn hz hW hS hl
  show W p l e R s m args below meth c H locs _ _ Q (F0 m pc ls (.int x :: .int i :: .ref (rx_ad ro base (k + 16)) :: t.map (rx_cv (rx_ad ro base))))
  rw [rx_ad_k ro base k]
  have hc : H[base + k]? = some (vp_cell (dT 2) (n, .inl f)) := hW.2 k _ hk
  refine W.zast hx hb hc ((hK.2.1 2 _ ht).1 n (fun j => .int (f j))) (fun q => by cases q) (by show ¬ (i < 0 ∨ (arrV _ _ _).slots.size ≤ _); rw [arrV_size]; exact hin) rfl rfl hd fun H1 e1 z1 oq => ?_
  refine K.set hk rfl H1 _ ls hn hz (hW.set hlt z1 ?_ oq) (hS.put z1 oq (Nat.le_add_right _ _)) hl
  show H1[base + k]? = some (vp_cell (dT 2) (n, .inl (upd f i.toNatClampNeg (vp_nar .boolean x))))
  rw [e1, vp_cell_i, vp_cell_i, arrV_store]
  congr 2
  funext q
  by_cases hq : q = i.toNatClampNeg
  · subst hq
    simp [updV, upd, vp_nar, narrow]
  · simp [updV, upd, hq]
theorem rx_h_alen (hx : p.tables.exec = Jvm.exec) (hb : c.code = cc) (hK : rx_Kx cl tys sts nst D dT ro rt base s s.heap) {a n : Nat} (hT : 4 ≤ tys.length) (hr : rx_aln rt h a = some n) (hd : decode cc pc = .ok (.arraylength, 1))
    (K : rx_At p l e R s m args below meth c Q cl D dT ro base n0 z0 nL (pc + 1) lv (.int (Int32.ofNat n) :: t) h) : rx_At p l e R s m args below meth c Q cl D dT ro base n0 z0 nL pc lv (.ref a :: t) h := by
  intro H locs ls hn hz hW hS hl
  unfold rx_aln at hr
  split at hr
  · next h1 =>
    cases hq : rt a with
    | none => rw [hq] at hr; cases hr
    | some q =>
      obtain ⟨n', f⟩ := q
      rw [hq] at hr
      cases hr
      show W p l e R s m args below meth c H locs _ _ Q (F0 m pc ls (.ref (rx_ad ro base a) :: t.map (rx_cv (rx_ad ro base))))
      rw [rx_ad_r ro base h1]
      exact va_tlen hx hb (hK.2.2.1 a n' f h1 hq) hS rfl hd (K H locs ls hn hz hW hS hl)
  · next h1 =>
    split at hr
    · next q hq =>
      split at hr
      · next q4 =>
        cases hr
        obtain ⟨k, rfl, g1, g2⟩ := rx_cell_e hq
        obtain ⟨ty, hty⟩ : ∃ ty, tys[q.1]? = some ty := ⟨tys[q.1]'(by omega), List.getElem?_eq_getElem (by omega)⟩
        show W p l e R s m args below meth c H locs _ _ Q (F0 m pc ls (.ref (rx_ad ro base (k + 16)) :: t.map (rx_cv (rx_ad ro base))))
        rw [rx_ad_k ro base k]
        exact va_alen (x := rx_ca (rx_ad ro base) q.2) hx hb (hK.K hty) (rx_one (hW.2 k _ g1)) 0 0 rfl rfl rfl hd (K H locs ls hn hz hW hS hl)
      · cases hr
    · cases hr
end RXH
