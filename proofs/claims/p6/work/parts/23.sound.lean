theorem rx_args_c (ad : Nat → Nat) : ∀ (as : List Value) (k : Nat), lv_args k (as.map (rx_cv ad)) = rx_cl2 ad (lv_args k as)
  | [], k => by simp [lv_args, rx_cl2]
  | v :: as, k => by
    have h1 := rx_args_c ad as
    simp only [List.map_cons, lv_args, rx_cat, h1, rx_cl2, List.map_cons]
theorem rx_sl_len (ad : Nat → Nat) : ∀ as : List Value, (lg_sl (as.map (rx_cv ad))).length = (lg_sl as).length
  | [] => rfl
  | v :: as => by
    have h1 := rx_sl_len ad as
    simp only [lg_sl, List.map_cons, List.flatMap_cons, List.length_append, rx_cat] at h1 ⊢
    rw [h1]
    by_cases h : v.category = 2
    · simp [h]
    · simp [h]
/-- what the methods' rows must be: the decoded instructions, the owner's name; for a method that a link names also its words -/
def rx_GD (own : Nat → String) (ms : List rx_M) : Prop := ∀ (j : Nat) (M : rx_M), ms[j]? = some M → own (rx_Mo M) = (rx_My M).cls ∧ ∀ c ∈ rx_Mt M, ∀ q ∈ c.2, decode (rx_Mb M) q.1 = .ok q.2 ∧ rx_lc q.2.1 q.2.2 = true
def rx_GK (all nst : List Cond) (cl : List vw_C) (own : Nat → String) (ms : List rx_M) (lk : rx_Lk) : Prop := ∀ (o ix : Nat) (q : Nat × Nat), ((o, ix), q) ∈ lk.2.2.1 → ∀ M, ms[q.1]? = some M → rx_GM all cl M ∧ rx_GL all nst (own o) ix (rx_My M)
def rx_GW (all nst : List Cond) : Prop := (∀ w ∈ all, (w.onTables && w.keeps) = true ∨ ∃ ty, w = .arrayClass ty) ∧ (∀ w ∈ nst, rx_isN w = true) ∧ (∀ w ∈ nst, rx_isN w = true)
section RXT
variable {l : Launch} {all nst : List Cond} {cl : List vw_C} {cds : List (List Value)} {tys : List FieldType} {sts : List (String × String × String × Nat)} {own : Nat → String} {ms : List rx_M} {lk : rx_Lk} {D : va_G} {dT : Nat → ClassId} {ro : Nat → Nat} {rt : rx_R} {base : Nat}
theorem rx_fetch {M : rx_M} {j pc : Nat} {ins : Instr} (GD : rx_GD own ms) (hM : ms[j]? = some M) (h : rx_f2 (rx_Mt M) pc = some ins) : rx_dec (rx_Mb M) pc ins := by
  obtain ⟨c, hc, n, hn⟩ := rx_f2_e h
  obtain ⟨h1, h2⟩ := (GD j M hM).2 c hc _ hn
  exact ⟨n, h1, h2⟩
/-- the machine does what a run of this fuel does -/
def rx_Sd (l : Launch) (all nst : List Cond) (cl : List vw_C) (cds : List (List Value)) (tys : List FieldType) (sts : List (String × String × String × Nat)) (own : Nat → String) (ms : List rx_M) (lk : rx_Lk) (D : va_G) (dT : Nat → ClassId) (ro : Nat → Nat) (rt : rx_R) (base f : Nat) : Prop :=
  ∀ (d w mi pc : Nat) (lv : rx_L) (st : List Value) (h : rx_H) (v : Option Value) (h' : rx_H), rx_run cds ms lk rt f d w mi pc lv st h = some (v, h') → ∀ M : rx_M, ms[mi]? = some M →
  ∀ (p : Program) (e : Env) (R : Room) (s : State) (m : MethodId) (args : Array Value) (below : List Frame) (meth : Method) (c : Code) (Q : State → Prop) (n0 z0 : Nat),
    p.tables.exec = Jvm.exec → c.code = rx_Mb M → c.maxLocals = rx_Ml M → (∀ w ∈ all, w.before args s = true) → s.vm.findClass (rx_My M).cls = some m.cls → rx_Kx cl tys sts nst D dT ro rt base s s.heap → (rx_Mk M = 2 → meth.name = "<init>") → (d ≤ R.frames ∧ w ≤ R.locals) →
    s.heap.size = base + n0 → h'.length ≤ n0 + R.cells → rx_sz h' ≤ z0 + R.slots →
    (∀ (pc9 : Nat) (ins9 : Instr) (lv9 : rx_L) (st9 : List Value), rx_dec (rx_Mb M) pc9 ins9 → rx_ret M ins9 st9 = some v → rx_At p l e R s m args below meth c Q cl D dT ro base n0 z0 (rx_Ml M) pc9 lv9 st9 h') →
    rx_At p l e R s m args below meth c Q cl D dT ro base n0 z0 (rx_Ml M) pc lv st h
/-- a method of a class that has entries of its own for other methods (java.lang.Math) is run by its code too -/
theorem rx_ofW {l : Launch} {all : List Cond} {M : rx_M} {rm : Room} {Pc : Array Value → State → Prop} {Qc : Array Value → State → Outcome → State → Prop} {mc mz : Nat} {free : Addr → Prop} (hy : plainFor (rx_My M) = true)
    (body : ∀ p e s m args below meth c s₁, BodyLoose p l (rx_My M) (headSpec (rx_ws all M) rm) (rx_Mb M) (rx_Ml M) (rx_Mr M) e s m args below meth c s₁ → c.maxLocals = rx_Ml M → Pc args s → W p l e (headSpec (rx_ws all M) rm).room s m args below meth c s.heap [] 0 0 (MQ below Qc args s mc mz free) (entryFrame m args (rx_Ml M))) : Met l (rx_My M) (rx_ws all M) rm Pc Qc mc mz free := by
  refine MetFree.of_bodySF (code := rx_Mb M) (maxLocals := rx_Ml M) (ret := rx_Mr M) hy (fun args s m h hn => ?_) (fun p e s m args below meth c s₁ B hml hP _ => ?_)
  · obtain ⟨meth, c, h1, h2, h3, h4, h5, h6, _⟩ := Cond.code_spec hn (atoms_spec (ws := rx_ws all M) h _ List.mem_cons_self)
    exact ⟨meth, c, h1, h2, h3, h4, h5, h6⟩
  · obtain ⟨t, a1, o, b1, b2, b3⟩ := body p e s m args below meth c s₁ B hml hP s₁ (by rw [B.state]; rfl) (Stand.of_body B)
    exact ⟨t, o, a1, b1, b2, ⟨b3.1, b3.2⟩⟩
set_option maxHeartbeats 4000000 in
theorem rx_met_of {f : Nat} (hSd : rx_Sd l all nst cl cds tys sts own ms lk D dT ro rt base f) {d w j : Nat} {as : List Value} {h : rx_H} {v : Option Value} {h' : rx_H} {M : rx_M} (hM : ms[j]? = some M) (GM : rx_GM all cl M) (hlen : (lg_sl as).length ≤ rx_Ml M) (hrun : rx_run cds ms lk rt f d w j 0 (lv_args 0 as) [] h = some (v, h')) :
    rx_Met l all cl tys sts nst D dT ro rt base M d w as h v h' := by
  obtain ⟨g1, g2, g3, g4, g6, g7, g8, g9⟩ := GM
  have hgr := rx_run_grow _ _ _ _ _ _ _ _ _ _ hrun
  refine rx_ofW g6 ?_
  intro p e s m args below meth c s₁ B hml hv
  obtain ⟨rfl, hW, hKx⟩ := hv
  have hx := B.exec
  have hb := B.bytes
  have hr := B.returns
  have hts0 := atoms_spec (ws := rx_ws all M) B.pre
  have hts : ∀ w ∈ all, w.before (as.map (rx_cv (rx_ad ro base))).toArray s = true := fun w hw => hts0 w (List.mem_cons_of_mem _ hw)
  have hown : s.vm.findClass (rx_My M).cls = some m.cls := findClass_of_methodNamed B.named
  have hlocks := B.notSynchronized
  have hnm : meth.name = (rx_My M).name := (name_of_methodNamed B.named B.method).1
  have hl := lv_entry (as.map (rx_cv (rx_ad ro base))) (n := rx_Ml M) (by rw [rx_sl_len]; exact hlen)
  rw [lg_entry_eq]
  generalize (lg_sl (as.map (rx_cv (rx_ad ro base))) ++ List.replicate (rx_Ml M - (lg_sl (as.map (rx_cv (rx_ad ro base)))).length) Slot.unset).toArray = ls at hl ⊢
  rw [rx_args_c] at hl
  have key := hSd d w j 0 (lv_args 0 as) [] h v h' hrun M hM p e (headSpec (rx_ws all M) (rx_rm d w (h'.length - h.length) (rx_sz h' - rx_sz h))).room s m (as.map (rx_cv (rx_ad ro base))).toArray below meth c
    (MQ below (rx_Qc cl D dT ro base v h') (as.map (rx_cv (rx_ad ro base))).toArray s (h'.length - h.length) (rx_sz h' - rx_sz h) (fun q => base ≤ q)) h.length (rx_sz h) hx hb hml hts hown hKx (fun hk => by rw [hnm]; exact (g9 hk).2.1) ⟨Nat.le_refl _, Nat.le_refl _⟩ hW.1
    (show h'.length ≤ h.length + (h'.length - h.length) by omega) (show rx_sz h' ≤ rx_sz h + (rx_sz h' - rx_sz h) by omega) ?_
  · have h1 := key s.heap [] ls (Nat.le_refl _) (Nat.le_refl _) hW va_S.rf hl
    rw [Nat.sub_self, Nat.sub_self] at h1
    exact h1
  · intro pc9 ins9 lv9 st9 hdg hret H locs ls9 hn hz hW9 hS9 hl9
    have hq : ∀ (v9 : Option Value), v = v9 → ∀ t : State, t.heap = H → s.WarmedH t.vm → rx_Qc cl D dT ro base v h' (as.map (rx_cv (rx_ad ro base))).toArray s (.returned (v9.map (rx_cv (rx_ad ro base)))) t := fun v9 e9 t ht _ => ⟨by rw [e9], by rw [ht]; exact hW9, fun q hq => by rw [ht]; exact hS9.2.1 q (by rw [hW.1]; omega) (Nat.not_le.mpr hq)⟩
    rcases rx_ret_e hret with ⟨x, rfl, e1, rfl, rfl⟩ | ⟨x, rfl, e1, rfl, hx01, rfl⟩ | ⟨x, rfl, e1, rfl, rfl⟩ | ⟨rfl, e1, rfl, rfl⟩
    · exact W.iret (v := x) hx hb (hr.trans e1) (hq _ rfl) hS9.2.2 (rx_dec_n hdg rfl) hlocks
    · refine W.zret (v := x) (ty := .boolean) hx hb (hr.trans e1) ?_ (hq _ rfl) hS9.2.2 (rx_dec_n hdg rfl) hlocks
      rcases hx01 with rfl | rfl
      · exact (by decide +kernel : narrow .boolean (.int 0) = .int 0)
      · exact (by decide +kernel : narrow .boolean (.int 1) = .int 1)
    · exact W.lret (v := x) hx hb (hr.trans e1) (hq _ rfl) hS9.2.2 (rx_dec_n hdg rfl) hlocks
    · exact W.vret hx hb (hr.trans e1) (hq _ rfl) hS9.2.2 (rx_dec_n hdg rfl) hlocks
set_option maxHeartbeats 4000000 in
theorem rx_sound (G : rx_G all nst cl cds tys sts own lk) (GD : rx_GD own ms) (GK : rx_GK all nst cl own ms lk) (GW : rx_GW all nst) : ∀ f : Nat, rx_Sd l all nst cl cds tys sts own ms lk D dT ro rt base f
  | 0 => fun d w mi pc lv st h v h' hrun => by rw [rx_run] at hrun; cases hrun
  | f + 1 => by
    have ih := rx_sound G GD GK GW f
    intro d w mi pc lv st h v h' hrun M hM p e R s m args below meth c Q n0 z0 hx hb hml hts hown hK hini hR hs0 hRc hRs hret
    obtain ⟨M', ins, hM', hf, hcase⟩ := rx_run_e hrun
    cases hM.symm.trans hM'
    have hdg := rx_fetch GD hM hf
    have hown' : s.vm.findClass (own (rx_Mo M)) = some m.cls := by rw [(GD mi M hM).1]; exact hown
    rcases hcase with ⟨hr, rfl⟩ | ⟨j, as, rest, N, d', v1, h1, rfl, hc, hN, hw, e1, e2⟩ | ⟨pc', lv', st', h1, e1, e2⟩
    · exact hret pc ins lv st hdg hr
    · have a1 := rx_run_grow _ _ _ _ _ _ _ _ _ _ e1
      have a2 := rx_run_grow _ _ _ _ _ _ _ _ _ _ e2
      have K := ih _ _ _ _ _ _ _ _ _ e2 M hM p e R s m args below meth c Q n0 z0 hx hb hml hts hown hK hini hR hs0 hRc hRs hret
      obtain ⟨ix, k, hiv, hkind⟩ := rx_call_e hc
      obtain ⟨nest, N', ho, hN', hkk, han, hst, hrs, hsl, hrcv⟩ := rx_iv_e hiv
      cases hN.symm.trans hN'
      obtain ⟨GMj, GLj⟩ := GK _ _ _ (rx_luv_e ho) N hN
      have hMet : rx_Met l all cl tys sts nst D dT ro rt base N d' (w - (19 + rx_Ml N)) as h v1 h1 := rx_met_of ih hN GMj hsl e1
      have hR' : d' + 1 ≤ R.frames ∧ w - (19 + rx_Ml N) + (19 + rx_Ml N) ≤ R.locals := ⟨hR.1, by omega⟩
      subst hst
      rcases hkind with ⟨rfl, rfl⟩ | ⟨rfl, rfl⟩ | ⟨rfl, rfl⟩
      · exact rx_h_callS hx hb hml hts hown' hK GW.1 GW.2.1 GW.2.2 hs0 GMj GLj hkk hMet a1.1 a1.2 han hrs hR' (by omega) (by omega) (rx_dec_n hdg rfl) K
      · cases as with
        | nil => simp [rx_rcv] at hrcv
        | cons b as =>
          cases b with
          | ref o =>
            have hrcv : (match rx_ro h o with | some q => Nat.beq q.1 (rx_Mc N) | none => false) = true := hrcv
            cases hq9 : rx_ro h o with
            | none => rw [hq9] at hrcv; cases hrcv
            | some q9 =>
              rw [hq9] at hrcv
              obtain ⟨o9, rfl, g1, g2⟩ := rx_ro_e hq9
              obtain ⟨q1, q2⟩ := q9
              have e9 : q1 = rx_Mc N := Nat.eq_of_beq_eq_true hrcv
              subst e9
              exact rx_h_callV hx hb hml hts hown' hK GW.1 GW.2.1 GW.2.2 hs0 GMj GLj hkk g1 hMet a1.1 a1.2 (by simpa [rx_an] using han) hrs hR' (by omega) (by omega) (rx_dec_n hdg rfl) K
          | _ => simp [rx_rcv] at hrcv
      · cases as with
        | nil => simp [rx_rcv] at hrcv
        | cons b as =>
          cases b with
          | ref o => exact rx_h_callI hx hb hml hts hown' hK GW.1 GW.2.1 GW.2.2 hs0 GMj GLj hkk hMet a1.1 a1.2 (by simpa [rx_an] using han) hrs hR' (by omega) (by omega) (rx_dec_n hdg rfl) K
          | _ => simp [rx_rcv] at hrcv
    · have a2 := rx_run_grow _ _ _ _ _ _ _ _ _ _ e2
      have K := ih _ _ _ _ _ _ _ _ _ e2 M hM p e R s m args below meth c Q n0 z0 hx hb hml hts hown hK hini hR hs0 hRc hRs hret
      exact rx_step hx hb hml hts hown' hK hini hR G e1 hdg (by omega) (by omega) K
end RXT
