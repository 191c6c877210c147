def rx_rcv (h : rx_H) (k ci : Nat) (as : List Value) : Bool := match k, as with
  | 0, _ => true
  | 1, .ref a :: _ => match rx_ro h a with
    | some q => Nat.beq q.1 ci
    | none => false
  | _, .ref _ :: _ => true
  | _, _ => false
def rx_an (M : rx_M) (kind : Nat) : Nat := match kind with
  | 0 => rx_Mn M
  | _ => rx_Mn M + 1
def rx_iv (ms : List rx_M) (o : Option (Nat × Nat)) (kind : Nat) (st : List Value) (h : rx_H) : Option (Nat × List Value × List Value) := match o with
  | some q => match ms[q.1]? with
    | some M => if rx_Mk M = kind ∧ rx_an M kind ≤ st.length ∧ ((st.drop (rx_an M kind)).map (fun v => v.category)).sum ≤ 8 ∧ (lg_sl (st.take (rx_an M kind)).reverse).length ≤ rx_Ml M ∧ rx_rcv h kind (rx_Mc M) (st.take (rx_an M kind)).reverse = true
      then some (q.1, (st.take (rx_an M kind)).reverse, st.drop (rx_an M kind)) else none
    | none => none
  | none => none
theorem rx_iv_e {ms : List rx_M} {o : Option (Nat × Nat)} {kind : Nat} {st : List Value} {h : rx_H} {j : Nat} {as rest : List Value} (e : rx_iv ms o kind st h = some (j, as, rest)) :
    ∃ nest M, o = some (j, nest) ∧ ms[j]? = some M ∧ rx_Mk M = kind ∧ as.length = rx_an M kind ∧ st = as.reverse ++ rest ∧ (rest.map (fun v => v.category)).sum ≤ 8 ∧ (lg_sl as).length ≤ rx_Ml M ∧ rx_rcv h kind (rx_Mc M) as = true := by
  unfold rx_iv at e
  split at e
  · next q =>
    split at e
    · next M w =>
      split at e
      · next z =>
        obtain ⟨z1, z2, z3, z4, z5⟩ := z
        have e1 := Option.some.inj e
        obtain ⟨j', nest⟩ := q
        simp only [Prod.mk.injEq] at e1
        obtain ⟨rfl, rfl, rfl⟩ := e1
        refine ⟨nest, M, rfl, w, z1, ?_, ?_, z3, z4, z5⟩
        · rw [List.length_reverse, List.length_take]; omega
        · rw [List.reverse_reverse, List.take_append_drop]
      · cases e
    · cases e
  · cases e
/-- which call an instruction is, if it is one -/
def rx_call (ms : List rx_M) (lk : rx_Lk) (M : rx_M) (ins : Instr) (st : List Value) (h : rx_H) : Option (Nat × List Value × List Value) := match ins with
  | .invokestatic ix => rx_iv ms (rx_luv lk.2.2.1 (rx_Mo M) ix) 0 st h
  | .invokevirtual ix => rx_iv ms (rx_luv lk.2.2.1 (rx_Mo M) ix) 1 st h
  | .invokespecial ix => rx_iv ms (rx_luv lk.2.2.1 (rx_Mo M) ix) 2 st h
  | _ => none
theorem rx_call_e {ms : List rx_M} {lk : rx_Lk} {M : rx_M} {ins : Instr} {st : List Value} {h : rx_H} {r : Nat × List Value × List Value} (e : rx_call ms lk M ins st h = some r) : ∃ ix k, rx_iv ms (rx_luv lk.2.2.1 (rx_Mo M) ix) k st h = some r ∧ ((ins = .invokestatic ix ∧ k = 0) ∨ (ins = .invokevirtual ix ∧ k = 1) ∨ (ins = .invokespecial ix ∧ k = 2)) := by
  unfold rx_call at e
  split at e
  · next ix => exact ⟨ix, 0, e, Or.inl ⟨rfl, rfl⟩⟩
  · next ix => exact ⟨ix, 1, e, Or.inr (Or.inl ⟨rfl, rfl⟩)⟩
  · next ix => exact ⟨ix, 2, e, Or.inr (Or.inr ⟨rfl, rfl⟩)⟩
  · cases e
def rx_GM (all : List Cond) (cl : List vw_C) (M : rx_M) : Prop :=
  Cond.code (rx_My M) (rx_Mb M) (rx_Ml M) (rx_Mr M) ∈ all ∧ Cond.initialized (rx_My M).cls ∈ all ∧ ((rx_My M).cls ≠ "java/lang/invoke/MethodHandle" ∧ (rx_My M).cls ≠ "java/lang/invoke/VarHandle") ∧ (parseMethodDescriptor (rx_My M).desc).map (fun d => d.parameters.length) = some (rx_Mn M) ∧ plainFor (rx_My M) = true ∧
  (rx_Mk M = 0 → Cond.static (rx_My M) ∈ all) ∧ (rx_Mk M = 1 → Cond.instanceMethod (rx_My M) ∈ all ∧ ∃ q : vw_C, cl[rx_Mc M]? = some q ∧ Cond.selects q.1 (rx_My M) (rx_My M) ∈ all) ∧ (rx_Mk M = 2 → Cond.instanceMethod (rx_My M) ∈ all ∧ (rx_My M).name = "<init>" ∧ rx_Mr M = none)
def rx_GL (all nst : List Cond) (own : String) (ix : Nat) (y : MethodName) : Prop := Cond.methodLink own ix y ∈ all ∨ ∃ host : String, Cond.methodLinkNest own ix y host ∈ nst
def rx_Pc (cl : List vw_C) (tys : List FieldType) (sts : List (String × String × String × Nat)) (nst : List Cond) (D : va_G) (dT : Nat → ClassId) (ro : Nat → Nat) (rt : rx_R) (base : Nat) (as : List Value) (h : rx_H) : Array Value → State → Prop :=
  va_Pc (as.map (rx_cv (rx_ad ro base))) (fun U => rx_W D cl dT (rx_ad ro base) base h U.heap ∧ rx_Kx cl tys sts nst D dT ro rt base U U.heap)
def rx_Qc (cl : List vw_C) (D : va_G) (dT : Nat → ClassId) (ro : Nat → Nat) (base : Nat) (v : Option Value) (h' : rx_H) : Array Value → State → Outcome → State → Prop :=
  fun _ st o t => o = .returned (v.map (rx_cv (rx_ad ro base))) ∧ rx_W D cl dT (rx_ad ro base) base h' t.heap ∧ ∀ q : Nat, q < base → t.heap[q]? = st.heap[q]?
abbrev rx_ws (all : List Cond) (M : rx_M) : List Cond := Cond.code (rx_My M) (rx_Mb M) (rx_Ml M) (rx_Mr M) :: all
def rx_rm (d w mc ms : Nat) : Room := { frames := d, cells := mc, slots := ms, locals := w }
/-- the contract of a run -/
def rx_Met (l : Launch) (all : List Cond) (cl : List vw_C) (tys : List FieldType) (sts : List (String × String × String × Nat)) (nst : List Cond) (D : va_G) (dT : Nat → ClassId) (ro : Nat → Nat) (rt : rx_R) (base : Nat) (M : rx_M) (d w : Nat) (as : List Value) (h : rx_H) (v : Option Value) (h' : rx_H) : Prop :=
  Met l (rx_My M) (rx_ws all M) (rx_rm d w (h'.length - h.length) (rx_sz h' - rx_sz h)) (rx_Pc cl tys sts nst D dT ro rt base as h) (rx_Qc cl D dT ro base v h') (h'.length - h.length) (rx_sz h' - rx_sz h) (fun q => base ≤ q)
section RXC
variable {p : Program} {l : Launch} {e : Env} {R : Room} {s : State} {m : MethodId} {args : Array Value} {below : List Frame} {meth : Method} {c : Code} {Q : State → Prop}
variable {all : List Cond} {cl : List vw_C} {tys : List FieldType} {sts : List (String × String × String × Nat)} {nst : List Cond} {D : va_G} {dT : Nat → ClassId} {ro : Nat → Nat} {rt : rx_R} {base n0 z0 : Nat}
variable {cc : ByteArray} {nL pc pc' : Nat} {lv lv' : rx_L} {st st' t : List Value} {h h' : rx_H} {own : String}
theorem rx_h_back (hlen : h.length ≤ h'.length) (hsz : rx_sz h ≤ rx_sz h') (hs0 : s.heap.size = base + n0) {v : Option Value} {rest : List Value} {H : Heap} {locs : List Loc} {ls : Array Slot} {stk : List Value} {a : Array Value} (hn : n0 ≤ h.length) (hz : z0 ≤ rx_sz h) (hS : va_S (fun q => base ≤ q) s.heap H locs) (hl : lv_has ls nL (rx_cl2 (rx_ad ro base) lv))
    (run : va_Run p l e R s m args below meth c H locs (h.length - n0) (rx_sz h - z0) (h'.length - h.length) (rx_sz h' - rx_sz h) (F0 m pc ls stk) (rest.map (rx_cv (rx_ad ro base))) (rx_Qc cl D dT ro base v h' a) (fun q => base ≤ q))
    (K : rx_At p l e R s m args below meth c Q cl D dT ro base n0 z0 nL (pc + 3) lv (v.toList ++ rest) h') : W p l e R s m args below meth c H locs (h.length - n0) (rx_sz h - z0) Q (F0 m pc ls stk) := by
  intro T hT X
  obtain ⟨v0, st₀, t, T', L, h0, X', hL, e1, e2, ⟨hv, hW', hfr⟩, stp⟩ := run T hT X
  cases hv
  have hS' : va_S (fun q => base ≤ q) s.heap T'.heap (locs ++ L) := by
    refine ⟨by rw [e1, hW'.1, hs0]; omega, fun q q1 q2 => ?_, fun q hq => ?_⟩
    · rw [e1, hfr q (Nat.not_le.mp q2), h0]
      exact hS.2.1 q q1 q2
    · rcases List.mem_append.mp hq with h9 | h9
      · exact hS.2.2 q h9
      · exact hL q h9
  have hg : ({ (F0 m pc ls stk) with pc := (F0 m pc ls stk).pc + 3, stack := (v.map (rx_cv (rx_ad ro base))).toList ++ rest.map (rx_cv (rx_ad ro base)) } : JFrame) = F0 m (pc + 3) ls ((v.toList ++ rest).map (rx_cv (rx_ad ro base))) := by
    cases v <;> rfl
  rw [hg] at stp
  have h1 := K T'.heap (locs ++ L) ls (by omega) (by omega) (by rw [e1]; exact hW') hS' hl
  rw [show h'.length - n0 = h.length - n0 + (h'.length - h.length) by omega, show rx_sz h' - z0 = rx_sz h - z0 + (rx_sz h' - rx_sz h) by omega] at h1
  obtain ⟨t2, a1, b1⟩ := h1 T' rfl X'
  exact ⟨t2, stp t2 a1, b1⟩
theorem rx_blind (hno : ∀ w ∈ nst, rx_isN w = true) {as : List Value} : FrameBlind (rx_Pc cl tys sts nst D dT ro rt base as h) := fun _ U _ _ q => ⟨q.1, q.2.1, q.2.2.same hno rfl⟩
theorem rx_pre (hni : ∀ w ∈ nst, rx_isN w = true) (hK : rx_Kx cl tys sts nst D dT ro rt base s s.heap) {H : Heap} {locs : List Loc} (hW : rx_W D cl dT (rx_ad ro base) base h H) (hS : va_S (fun q => base ≤ q) s.heap H locs) {as : List Value} (U : State) (hU : U.heap = H) (hw : s.WarmedH U.vm) : rx_Pc cl tys sts nst D dT ro rt base as h (as.map (rx_cv (rx_ad ro base))).toArray U := by
  refine ⟨rfl, by rw [hU]; exact hW, ?_⟩
  rw [hU]
  exact (hK.warm hni hw).kept (fun a h1 h2 => hS.2.1 a h1 h2)
theorem rx_good (hg : ∀ w ∈ all, (w.onTables && w.keeps) = true ∨ ∃ ty, w = .arrayClass ty) {M : rx_M} (hM : Cond.code (rx_My M) (rx_Mb M) (rx_Ml M) (rx_Mr M) ∈ all) : GoodIn all (rx_ws all M) := by
  intro w hw
  rcases List.mem_cons.mp hw with rfl | h
  · exact ⟨hM, hg _ hM⟩
  · exact ⟨h, hg _ h⟩
end RXC
section RXD
variable {p : Program} {l : Launch} {e : Env} {R : Room} {s : State} {m : MethodId} {args : Array Value} {below : List Frame} {meth : Method} {c : Code} {Q : State → Prop}
variable {all : List Cond} {cl : List vw_C} {tys : List FieldType} {sts : List (String × String × String × Nat)} {nst : List Cond} {D : va_G} {dT : Nat → ClassId} {ro : Nat → Nat} {rt : rx_R} {base n0 z0 : Nat}
variable {cc : ByteArray} {nL pc pc' : Nat} {lv lv' : rx_L} {st st' t : List Value} {h h' : rx_H} {own : String}
theorem rx_h_callS (hx : p.tables.exec = Jvm.exec) (hb : c.code = cc) (hml : c.maxLocals = nL) (hts : ∀ w ∈ all, w.before args s = true) (hown : s.vm.findClass own = some m.cls) (hK : rx_Kx cl tys sts nst D dT ro rt base s s.heap) (hg : ∀ w ∈ all, (w.onTables && w.keeps) = true ∨ ∃ ty, w = .arrayClass ty) (hno : ∀ w ∈ nst, rx_isN w = true) (hni : ∀ w ∈ nst, rx_isN w = true) (hs0 : s.heap.size = base + n0)
    {ix d w : Nat} {M : rx_M} (G : rx_GM all cl M) (GL : rx_GL all nst own ix (rx_My M)) (hk : rx_Mk M = 0) {as rest : List Value} {v : Option Value} (hM : rx_Met l all cl tys sts nst D dT ro rt base M d w as h v h') (hlen : h.length ≤ h'.length) (hsz : rx_sz h ≤ rx_sz h') (han : as.length = rx_Mn M) (hrs : (rest.map (fun v => v.category)).sum ≤ 8) (hR : d + 1 ≤ R.frames ∧ w + (19 + rx_Ml M) ≤ R.locals) (hRc : h'.length ≤ n0 + R.cells) (hRs : rx_sz h' ≤ z0 + R.slots) (hd : decode cc pc = .ok (.invokestatic ix, 3))
    (K : rx_At p l e R s m args below meth c Q cl D dT ro base n0 z0 nL (pc + 3) lv (v.toList ++ rest) h') : rx_At p l e R s m args below meth c Q cl D dT ro base n0 z0 nL pc lv (as.reverse ++ rest) h := by
  intro H locs ls hn hz hW hS hl
  obtain ⟨g1, g2, g3, g4, g6, g7, g8, g9⟩ := G
  have hrs' : ((rest.map (rx_cv (rx_ad ro base))).map (fun v => v.category)).sum ≤ 8 := by
    rw [List.map_map, show ((fun v => Value.category v) ∘ rx_cv (rx_ad ro base)) = (fun v => v.category) from funext (rx_cat _)]
    exact hrs
  refine rx_h_back hlen hsz hs0 hn hz hS hl (a := (as.map (rx_cv (rx_ad ro base))).toArray) (rest := rest) ?_ K
  rcases GL with h1 | ⟨host, h1⟩
  · exact va_runS (As := as.map (rx_cv (rx_ad ro base))) ⟨hx, hb, hml, hown, hts⟩ hM ⟨callB_of (rx_Mn M) hts (rx_good hg g1) rfl rfl rfl (hts _ g2) (hts _ h1) ⟨g3.1, g3.2, g4⟩ ⟨hR.1, by show 8 + (rx_Ml M + 11) + w ≤ R.locals; omega⟩, hts _ (g7 hk)⟩ ⟨rx_blind hno, rx_pre hni hK hW hS⟩ rfl (by rw [List.length_map]; exact han) hl.1 (by show List.map _ _ = _; rw [List.map_append, List.map_reverse]) (lv_room hrs') hd ⟨by omega, by omega⟩
  · exact va_runSN (host := host) (As := as.map (rx_cv (rx_ad ro base))) ⟨hx, hb, hml, hown, hts⟩ hM ⟨va_cnB (rx_Mn M) hts (rx_good hg g1) rfl rfl rfl (hK.2.2.2.2 _ h1) (hts _ g2) ⟨g3.1, g3.2, g4⟩ ⟨hR.1, by show 8 + (rx_Ml M + 11) + w ≤ R.locals; omega⟩, hts _ (g7 hk), trivial⟩ ⟨rx_blind hno, rx_pre hni hK hW hS⟩ rfl (by rw [List.length_map]; exact han) hl.1 (by show List.map _ _ = _; rw [List.map_append, List.map_reverse]) (lv_room hrs') hd ⟨by omega, by omega⟩
theorem rx_h_callV (hx : p.tables.exec = Jvm.exec) (hb : c.code = cc) (hml : c.maxLocals = nL) (hts : ∀ w ∈ all, w.before args s = true) (hown : s.vm.findClass own = some m.cls) (hK : rx_Kx cl tys sts nst D dT ro rt base s s.heap) (hg : ∀ w ∈ all, (w.onTables && w.keeps) = true ∨ ∃ ty, w = .arrayClass ty) (hno : ∀ w ∈ nst, rx_isN w = true) (hni : ∀ w ∈ nst, rx_isN w = true) (hs0 : s.heap.size = base + n0)
    {ix d w : Nat} {M : rx_M} (G : rx_GM all cl M) (GL : rx_GL all nst own ix (rx_My M)) (hk : rx_Mk M = 1) {o : Nat} {as rest fs : List Value} {v : Option Value} (ho : h[o]? = some (.inr (rx_Mc M, fs))) (hM : rx_Met l all cl tys sts nst D dT ro rt base M d w (.ref (o + 16) :: as) h v h') (hlen : h.length ≤ h'.length) (hsz : rx_sz h ≤ rx_sz h') (han : as.length = rx_Mn M) (hrs : (rest.map (fun v => v.category)).sum ≤ 8) (hR : d + 1 ≤ R.frames ∧ w + (19 + rx_Ml M) ≤ R.locals) (hRc : h'.length ≤ n0 + R.cells) (hRs : rx_sz h' ≤ z0 + R.slots) (hd : decode cc pc = .ok (.invokevirtual ix, 3))
    (K : rx_At p l e R s m args below meth c Q cl D dT ro base n0 z0 nL (pc + 3) lv (v.toList ++ rest) h') : rx_At p l e R s m args below meth c Q cl D dT ro base n0 z0 nL pc lv ((.ref (o + 16) :: as).reverse ++ rest) h := by
  intro H locs ls hn hz hW hS hl
  obtain ⟨g1, g2, g3, g4, g6, g7, g8, g9⟩ := G
  obtain ⟨g8a, q, g8b, g8c⟩ := g8 hk
  have hrs' : ((rest.map (rx_cv (rx_ad ro base))).map (fun v => v.category)).sum ≤ 8 := by
    rw [List.map_map, show ((fun v => Value.category v) ∘ rx_cv (rx_ad ro base)) = (fun v => v.category) from funext (rx_cat _)]
    exact hrs
  have har : (Value.ref (rx_ad ro base (o + 16)) :: as.map (rx_cv (rx_ad ro base))).toArray = ((.ref (o + 16) :: as : List Value).map (rx_cv (rx_ad ro base))).toArray := rfl
  have hrec : ∃ cellB : Cell, H[rx_ad ro base (o + 16)]? = some cellB ∧ cellB.vm.isStatics = false ∧ s.vm.findClass q.1 = some cellB.cls := by
    rw [rx_ad_k]
    exact va_recv hK.K0 (rx_one (hW.2 o _ ho)) g8b (q0 := 0) rfl
  refine rx_h_back hlen hsz hs0 hn hz hS hl (a := (Value.ref (rx_ad ro base (o + 16)) :: as.map (rx_cv (rx_ad ro base))).toArray) (rest := rest) ?_ K
  rcases GL with h1 | ⟨host, h1⟩
  · exact va_runV (C := q.1) (As := as.map (rx_cv (rx_ad ro base))) ⟨hx, hb, hml, hown, hts⟩ hM ⟨callB_of (rx_Mn M) hts (rx_good hg g1) rfl rfl rfl (hts _ g2) (hts _ h1) ⟨g3.1, g3.2, g4⟩ ⟨hR.1, by show 8 + (rx_Ml M + 11) + w ≤ R.locals; omega⟩, hts _ g8a, hts _ g8c⟩ ⟨rx_blind hno, hrec, rx_pre (as := .ref (o + 16) :: as) hni hK hW hS⟩ rfl (by rw [List.length_map]; exact han) hl.1 (by show List.map _ _ = _; simp [rx_cv]) (lv_room hrs') hd ⟨by omega, by omega⟩
  · exact va_runVN (host := host) (C := q.1) (As := as.map (rx_cv (rx_ad ro base))) ⟨hx, hb, hml, hown, hts⟩ hM ⟨va_cnB (rx_Mn M) hts (rx_good hg g1) rfl rfl rfl (hK.2.2.2.2 _ h1) (hts _ g2) ⟨g3.1, g3.2, g4⟩ ⟨hR.1, by show 8 + (rx_Ml M + 11) + w ≤ R.locals; omega⟩, hts _ g8a, hts _ g8c⟩ ⟨rx_blind hno, hrec, rx_pre (as := .ref (o + 16) :: as) hni hK hW hS⟩ rfl (by rw [List.length_map]; exact han) hl.1 (by show List.map _ _ = _; simp [rx_cv]) (lv_room hrs') hd ⟨by omega, by omega⟩
theorem rx_h_callI (hx : p.tables.exec = Jvm.exec) (hb : c.code = cc) (hml : c.maxLocals = nL) (hts : ∀ w ∈ all, w.before args s = true) (hown : s.vm.findClass own = some m.cls) (hK : rx_Kx cl tys sts nst D dT ro rt base s s.heap) (hg : ∀ w ∈ all, (w.onTables && w.keeps) = true ∨ ∃ ty, w = .arrayClass ty) (hno : ∀ w ∈ nst, rx_isN w = true) (hni : ∀ w ∈ nst, rx_isN w = true) (hs0 : s.heap.size = base + n0)
    {ix d w : Nat} {M : rx_M} (G : rx_GM all cl M) (GL : rx_GL all nst own ix (rx_My M)) (hk : rx_Mk M = 2) {o : Nat} {as rest : List Value} {v : Option Value} (hM : rx_Met l all cl tys sts nst D dT ro rt base M d w (.ref o :: as) h v h') (hlen : h.length ≤ h'.length) (hsz : rx_sz h ≤ rx_sz h') (han : as.length = rx_Mn M) (hrs : (rest.map (fun v => v.category)).sum ≤ 8) (hR : d + 1 ≤ R.frames ∧ w + (19 + rx_Ml M) ≤ R.locals) (hRc : h'.length ≤ n0 + R.cells) (hRs : rx_sz h' ≤ z0 + R.slots) (hd : decode cc pc = .ok (.invokespecial ix, 3))
    (K : rx_At p l e R s m args below meth c Q cl D dT ro base n0 z0 nL (pc + 3) lv (v.toList ++ rest) h') : rx_At p l e R s m args below meth c Q cl D dT ro base n0 z0 nL pc lv ((.ref o :: as).reverse ++ rest) h := by
  intro H locs ls hn hz hW hS hl
  obtain ⟨g1, g2, g3, g4, g6, g7, g8, g9⟩ := G
  obtain ⟨g9a, g9b, g9c⟩ := g9 hk
  have hrs' : ((rest.map (rx_cv (rx_ad ro base))).map (fun v => v.category)).sum ≤ 8 := by
    rw [List.map_map, show ((fun v => Value.category v) ∘ rx_cv (rx_ad ro base)) = (fun v => v.category) from funext (rx_cat _)]
    exact hrs
  refine rx_h_back hlen hsz hs0 hn hz hS hl (a := (Value.ref (rx_ad ro base o) :: as.map (rx_cv (rx_ad ro base))).toArray) (rest := rest) ?_ K
  unfold rx_Met rx_ws at hM
  have hgd := rx_good hg g1
  unfold rx_ws at hgd
  rw [g9c] at hM hgd
  rcases GL with h1 | ⟨host, h1⟩
  · exact va_runI (As := as.map (rx_cv (rx_ad ro base))) ⟨hx, hb, hml, hown, hts⟩ hM ⟨callB_of (rx_Mn M) hts hgd rfl rfl rfl (hts _ g2) (hts _ h1) ⟨g3.1, g3.2, g4⟩ ⟨hR.1, by show 8 + (rx_Ml M + 11) + w ≤ R.locals; omega⟩, g9b, hts _ g9a⟩ ⟨rx_blind hno, rx_pre (as := .ref o :: as) hni hK hW hS⟩ rfl (by rw [List.length_map]; exact han) hl.1 (by show List.map _ _ = _; simp [rx_cv]) (lv_room hrs') hd ⟨by omega, by omega⟩
  · exact va_runIN (host := host) (As := as.map (rx_cv (rx_ad ro base))) ⟨hx, hb, hml, hown, hts⟩ hM ⟨va_cnB (rx_Mn M) hts hgd rfl rfl rfl (hK.2.2.2.2 _ h1) (hts _ g2) ⟨g3.1, g3.2, g4⟩ ⟨hR.1, by show 8 + (rx_Ml M + 11) + w ≤ R.locals; omega⟩, g9b, hts _ g9a⟩ ⟨rx_blind hno, rx_pre (as := .ref o :: as) hni hK hW hS⟩ rfl (by rw [List.length_map]; exact han) hl.1 (by show List.map _ _ = _; simp [rx_cv]) (lv_room hrs') hd ⟨by omega, by omega⟩
end RXD
