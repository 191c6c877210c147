theorem rx_fit_n {ty : FieldType} {v : Value} (ad : Nat → Nat) (h : rx_fit ty v = true) : narrow ty (rx_cv ad v) = rx_cv ad v ∧ fits ty (rx_cv ad v) = true := by
  unfold rx_fit at h
  split at h
  · exact ⟨rfl, rfl⟩
  · exact ⟨rfl, rfl⟩
  · next x =>
    simp only [Bool.or_eq_true, decide_eq_true_eq] at h
    rcases h with rfl | rfl
    · exact ⟨(by decide +kernel : narrow .boolean (.int 0) = .int 0), (by decide +kernel : fits .boolean (.int 0) = true)⟩
    · exact ⟨(by decide +kernel : narrow .boolean (.int 1) = .int 1), (by decide +kernel : fits .boolean (.int 1) = true)⟩
  · exact ⟨rfl, rfl⟩
  · exact ⟨rfl, rfl⟩
  · cases h
section RXF
variable {p : Program} {l : Launch} {e : Env} {R : Room} {s : State} {m : MethodId} {args : Array Value} {below : List Frame} {meth : Method} {c : Code} {Q : State → Prop}
variable {all : List Cond} {cl : List vw_C} {tys : List FieldType} {sts : List (String × String × String × Nat)} {nst : List Cond} {D : va_G} {dT : Nat → ClassId} {ro : Nat → Nat} {rt : rx_R} {base n0 z0 : Nat}
variable {cc : ByteArray} {nL pc pc' : Nat} {lv lv' : rx_L} {st st' t : List Value} {h : rx_H} {own : String}
theorem rx_h_get (hx : p.tables.exec = Jvm.exec) (hb : c.code = cc) (hts : ∀ w ∈ all, w.before args s = true) (hown : s.vm.findClass own = some m.cls) (hK : rx_Kx cl tys sts nst D dT ro rt base s s.heap) (GC : ∀ (ci : Nat) (q : vw_C), cl[ci]? = some q → rx_GC all q) {ix ci k : Nat} {ty : FieldType} {fl : Nat} (G : rx_GF all nst cl own ix ci k ty fl)
    {o : Nat} {fs : List Value} {v : Value} (hk : h[o]? = some (.inr (ci, fs))) (hv : fs[k]? = some v) (hd : decode cc pc = .ok (.getfield ix, 3))
    (K : rx_At p l e R s m args below meth c Q cl D dT ro base n0 z0 nL (pc + 3) lv (v :: t) h) : rx_At p l e R s m args below meth c Q cl D dT ro base n0 z0 nL pc lv (.ref (o + 16) :: t) h := by
  intro H locs ls hn hz hW hS hl
  show W p l e R s m args below meth c H locs _ _ Q (F0 m pc ls (.ref (rx_ad ro base (o + 16)) :: t.map (rx_cv (rx_ad ro base))))
  rw [rx_ad_k ro base o]
  obtain ⟨C, T, N, hc, hkN, hpd, -, -, hlk | ⟨host, hlk⟩⟩ := G
  · exact va_get (D := D) (ci := ci) (v := rx_cv (rx_ad ro base) v) (C := C) (T := T) (N := N) hx hb hts (GC ci _ hc).1 hown hK.K0 (rx_one (hW.2 o _ hk)) 0 rfl hc k hkN (hts _ hlk) (fun _ h9 => h9) (by rw [List.getElem?_map, hv]; rfl) hd (K H locs ls hn hz hW hS hl)
  · exact va_getN (D := D) (ci := ci) (v := rx_cv (rx_ad ro base) v) (C := C) (T := T) (N := N) hx hb hts (GC ci _ hc).1 hown hK.K0 (rx_one (hW.2 o _ hk)) 0 rfl hc k hkN (va_Nw.use rfl (hK.2.2.2.2 _ hlk)) (fun _ h9 => h9) (by rw [List.getElem?_map, hv]; rfl) hd (K H locs ls hn hz hW hS hl)
theorem rx_h_put (hx : p.tables.exec = Jvm.exec) (hb : c.code = cc) (hts : ∀ w ∈ all, w.before args s = true) (hown : s.vm.findClass own = some m.cls) (hK : rx_Kx cl tys sts nst D dT ro rt base s s.heap) (GC : ∀ (ci : Nat) (q : vw_C), cl[ci]? = some q → rx_GC all q) {ix ci k : Nat} {ty : FieldType} {fl : Nat} {ini : Bool} (G : rx_GF all nst cl own ix ci k ty fl) (hini : ini = true → meth.name = "<init>")
    {o : Nat} {fs : List Value} {v : Value} (hk : h[o]? = some (.inr (ci, fs))) (hlt : o < h.length) (hkl : k < fs.length) (hfit : rx_fit ty v = true) (hf : fl = 0 ∨ (fl = 1 ∧ ini = true)) (hd : decode cc pc = .ok (.putfield ix, 3))
    (K : rx_At p l e R s m args below meth c Q cl D dT ro base n0 z0 nL (pc + 3) lv t (h.set o (.inr (ci, fs.set k v)))) : rx_At p l e R s m args below meth c Q cl D dT ro base n0 z0 nL pc lv (v :: .ref (o + 16) :: t) h := by
  intro H locs ls hn hz hW hS hl
  show W p l e R s m args below meth c H locs _ _ Q (F0 m pc ls (rx_cv (rx_ad ro base) v :: .ref (rx_ad ro base (o + 16)) :: t.map (rx_cv (rx_ad ro base))))
  rw [rx_ad_k ro base o]
  obtain ⟨C, T, N, hc, hkN, hpd, hf0, hf1, hlk⟩ := G
  obtain ⟨g1, ⟨ty0, g2⟩, g3, g4, g5⟩ := GC ci _ hc
  obtain ⟨f1, f2⟩ := rx_fit_n (rx_ad ro base) hfit
  have hap := va_apart (own := own) hts g1 ty0 g2 g3 hK.K0 hc
  obtain ⟨r, h1, cell, q1, q2, q3, q4⟩ := hW.2 o _ hk
  have hr : r = (C, T, N) := Option.some.inj (h1.symm.trans hc)
  subst hr
  obtain ⟨hSl, hfc, kC, hkC, hkind⟩ := hK.1 ci _ hc
  obtain ⟨cf, kf, fi, f, hi, hsl⟩ := hSl k hkN
  have hst := (u_facts hfc hkC (u_lays hts g1 hkN) hi).1
  have hlay := hts _ (g1 _ (u_in_lay hkN))
  unfold u_lay at hlay
  have fin' : ∀ (H1 : Heap) (sl : Nat), H1[base + o]? = some (cell.setSlot ((D.2 ci) k) (rx_cv (rx_ad ro base) v)) → H1.size = H.size → (∀ q : Nat, q ≠ base + o → H1[q]? = H[q]?) →
      W p l e R s m args below meth c H1 (locs ++ [⟨base + o, sl⟩]) (h.length - n0) (rx_sz h - z0) Q (F0 m (pc + 3) ls (t.map (rx_cv (rx_ad ro base)))) := by
    intro H1 sl e1 e2 e3
    refine K.set hk (by simp [rx_sz1]) H1 _ ls hn hz (hW.set hlt e2 ?_ e3) (hS.put e2 e3 (Nat.le_add_right _ _)) hl
    refine ⟨_, hc, t_OB.to (V := updV (vp_V (fs.map (rx_cv (rx_ad ro base)))) k (rx_cv (rx_ad ro base) v)) ⟨_, e1, q2, q3, t_set q4 hap hkN _⟩ (fun j _ => ?_)⟩
    have e9 : (fs.set k v).map (rx_cv (rx_ad ro base)) = (fs.map (rx_cv (rx_ad ro base))).set k (rx_cv (rx_ad ro base) v) := List.map_set
    show _ = vp_V ((fs.set k v).map (rx_cv (rx_ad ro base))) j
    rw [e9]
    exact vp_updV_set (by rw [List.length_map]; exact hkl) _ j
  rcases hf with hfl | ⟨hfl, hi9⟩
  · rw [if_neg (by rw [hf0 hfl]; decide)] at hlay
    have h6 := u_store hfc hkC hkind hlay hi hpd f1 f2
    rcases hlk with hlk | ⟨host, hlk⟩
    · refine W.putK hx hb (f := f) ⟨hown, hts _ hlk, ⟨_, _, _, hi⟩, hst⟩ (by rw [q2]; exact h6) q1 q3 (by rw [hsl]; exact k2_hasslot (q4 k hkN)) rfl rfl hd fun H' e1 e2 e3 => ?_
      rw [hsl] at e1
      exact fin' H' _ e1 e2 e3
    · refine va_WputK hx hb (f := f) hown (va_Nw.use rfl (hK.2.2.2.2 _ hlk)) hi hst (by rw [q2]; exact h6) q1 q3 (by rw [hsl]; exact k2_hasslot (q4 k hkN)) rfl rfl hd fun H' e1 e2 e3 => ?_
      rw [hsl] at e1
      exact fin' H' _ e1 e2 e3
  · obtain ⟨w1, w2, w3⟩ := hf1 hfl
    rw [if_pos w1] at hlay
    have hi2 : meth.name = "<init>" := hini hi9
    have hcf : m.cls = cf := by
      obtain ⟨_, _, c', _, _, _, -, -, hf', -, -, -, hown2, -⟩ := Cond.laysFinal_spec hlay
      have e1 : c' = cf := by have := hi.symm.trans hf'; simp at this; exact this.1.symm
      rw [w2] at hown2
      rw [← e1]; exact Option.some.inj (hown.symm.trans hown2)
    have h6 := u_fits hfc hkC hkind (Or.inr hlay) hi hpd f1 f2
    refine W.putFinK hx hb hown (hts _ w3) hi hst hcf hi2 (by rw [q2]; exact h6) q1 q3 (by rw [hsl]; exact k2_hasslot (q4 k hkN)) rfl rfl hd fun H' e1 e2 e3 => ?_
    rw [hsl] at e1
    exact fin' H' _ e1 e2 e3
end RXF
