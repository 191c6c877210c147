/-- new long[n][k]: the outer array, then its rows -/
def rx_mn (o : Option Nat) (dims : Nat) (pc : Nat) (lv : rx_L) (st : List Value) (h : rx_H) : Option rx_N := match o, st with
  | some 1003, .int k :: .int n :: r => if dims = 2 ∧ ¬ n < 0 ∧ ¬ k < 0 ∧ n.toNatClampNeg ≤ 1000 ∧ k.toNatClampNeg ≤ 1000 then
      rx_nx (pc + 4) lv (.ref (h.length + 16) :: r) (h ++ (.inl (3, n.toNatClampNeg, .inr (.inr (.inr (.inr (fun i => if i < n.toNatClampNeg then some (h.length + 17 + i) else none))))) :: List.replicate n.toNatClampNeg (.inl (1, k.toNatClampNeg, .inr (.inl (fun _ => 0)))))) else none
  | _, _ => none
theorem rx_mn_e {o : Option Nat} {dims pc : Nat} {lv : rx_L} {st : List Value} {h : rx_H} {r : rx_N} (e : rx_mn o dims pc lv st h = some r) : ∃ k n t, o = some 1003 ∧ st = .int k :: .int n :: t ∧ dims = 2 ∧ ¬ n < 0 ∧ ¬ k < 0 ∧ n.toNatClampNeg ≤ 1000 ∧ k.toNatClampNeg ≤ 1000 ∧
    r = (pc + 4, lv, .ref (h.length + 16) :: t, h ++ (.inl (3, n.toNatClampNeg, .inr (.inr (.inr (.inr (fun i => if i < n.toNatClampNeg then some (h.length + 17 + i) else none))))) :: List.replicate n.toNatClampNeg (.inl (1, k.toNatClampNeg, .inr (.inl (fun _ => 0)))))) := by
  unfold rx_mn at e
  split at e
  · next k n t =>
    split at e
    · next w => exact ⟨k, n, t, rfl, rfl, w.1, w.2.1, w.2.2.1, w.2.2.2.1, w.2.2.2.2, rx_nx_e e⟩
    · cases e
  · cases e
theorem rx_rows_sz (n k : Nat) (g : Nat → Int64) : rx_sz (List.replicate n (.inl (1, k, .inr (.inl g)))) = n * k := by
  induction n with
  | zero => simp [rx_sz]
  | succ n ih =>
    rw [List.replicate_succ]
    show rx_sz ([_] ++ _) = _
    rw [rx_sz_app, ih]
    simp only [rx_sz, rx_sz1, List.map_cons, List.map_nil, List.sum_cons, List.sum_nil]
    rw [Nat.succ_mul]
    omega
theorem rx_outer (c : ClassId) (N h0 : Nat) : ∀ i : Nat, Jvm.Free.Multi.outerC c N h0 i = arrV c N (fun j => va_rf (if j < i then some (h0 + 1 + j) else none))
  | 0 => by
    show ({ cls := c, slots := Array.replicate N .null, vm := .none } : Cell) = _
    rw [arrV_new]
    refine congrArg (arrV c N) (funext fun j => ?_)
    simp [va_rf]
  | i + 1 => by
    show (Jvm.Free.Multi.outerC c N h0 i).setSlot i (.ref (h0 + 1 + i)) = _
    rw [rx_outer c N h0 i, arrV_store]
    refine congrArg (arrV c N) (funext fun j => ?_)
    by_cases e : j = i
    · subst e
      simp [updV, va_rf]
    · by_cases h : j < i
      · simp [updV, e, h, Nat.lt_succ_of_lt h]
      · simp [updV, e, h, show ¬ j < i + 1 by omega]
section RXG
variable {p : Program} {l : Launch} {e : Env} {R : Room} {s : State} {m : MethodId} {args : Array Value} {below : List Frame} {meth : Method} {c : Code} {Q : State → Prop}
variable {all : List Cond} {cl : List vw_C} {tys : List FieldType} {sts : List (String × String × String × Nat)} {nst : List Cond} {D : va_G} {dT : Nat → ClassId} {ro : Nat → Nat} {rt : rx_R} {base n0 z0 : Nat}
variable {cc : ByteArray} {nL pc pc' : Nat} {lv lv' : rx_L} {st st' t : List Value} {h h' : rx_H} {own : String}
theorem rx_h_qald (hx : p.tables.exec = Jvm.exec) (hb : c.code = cc) (hK : rx_Kx cl tys sts nst D dT ro rt base s s.heap) (ht : tys[3]? = some (.array .long)) {i : Int32} {a k : Nat} {q : Nat × (Nat → Option Nat)} (hr : rx_rq h a = some q) (hin : vp_in i q.1) (hv : q.2 i.toNatClampNeg = some k) (hd : decode cc pc = .ok (.aaload, 1))
    (K : rx_At p l e R s m args below meth c Q cl D dT ro base n0 z0 nL (pc + 1) lv (.ref k :: t) h) : rx_At p l e R s m args below meth c Q cl D dT ro base n0 z0 nL pc lv (.int i :: .ref a :: t) h := by
  intro H locs ls hn hz hW hS hl
  obtain ⟨n, f⟩ := q
  obtain ⟨o, rfl, h1, h2⟩ := rx_rq_e hr
  dsimp only at hin hv h1
  show W p l e R s m args below meth c H locs _ _ Q (F0 m pc ls (.int i :: .ref (rx_ad ro base (o + 16)) :: t.map (rx_cv (rx_ad ro base))))
  rw [rx_ad_k ro base o]
  have hlt : i.toNatClampNeg < n := Nat.not_le.mp fun q => hin (Or.inr q)
  have hc : H[base + o]? = some (arrV (dT 3) n (fun j => va_rf ((f j).map (rx_ad ro base)))) := hW.2 o _ h1
  refine W.aald (v := .ref (rx_ad ro base k)) (ty := .array .long) hx hb hc ((hK.2.1 3 _ ht).1 n _) rfl (fun q => by cases q) (by rw [arrV_size]; exact hin) (by rw [arrV_read _ _ hlt, hv]; rfl) rfl rfl hd (K H locs ls hn hz hW hS hl)
theorem rx_h_mna (hx : p.tables.exec = Jvm.exec) (hb : c.code = cc) (hts : ∀ w ∈ all, w.before args s = true) (hown : s.vm.findClass own = some m.cls) (hK : rx_Kx cl tys sts nst D dT ro rt base s s.heap) (ht1 : tys[1]? = some .long) (ht3 : tys[3]? = some (.array .long)) {ix : Nat} {o : Option Nat} {dims : Nat} (G : o = some 1003 → Cond.classLink own ix "[[J" ∈ all ∧ Cond.arrayOver (.array .long) ∈ nst ∧ Cond.arrayClass .long ∈ all) (hop : rx_mn o dims pc lv st h = some (pc', lv', st', h')) (hRc : h'.length ≤ n0 + R.cells) (hRs : rx_sz h' ≤ z0 + R.slots) (hd : decode cc pc = .ok (.multianewarray ix dims, 4))
    (K : rx_At p l e R s m args below meth c Q cl D dT ro base n0 z0 nL pc' lv' st' h') : rx_At p l e R s m args below meth c Q cl D dT ro base n0 z0 nL pc lv st h := by
  obtain ⟨k, n, t, ho, rfl, rfl, hn0, hk0, hn1, hk1, e9⟩ := rx_mn_e hop
  simp only [Prod.mk.injEq] at e9
  obtain ⟨rfl, rfl, rfl, rfl⟩ := e9
  obtain ⟨G1, G2, G3⟩ := G ho
  intro H locs ls hn hz hW hS hl
  have eL : (h ++ (Sum.inl (3, n.toNatClampNeg, .inr (.inr (.inr (.inr (fun i => if i < n.toNatClampNeg then some (h.length + 17 + i) else none))))) :: List.replicate n.toNatClampNeg (Sum.inl (1, k.toNatClampNeg, .inr (.inl (fun _ => 0)))) : rx_H)).length = h.length + (1 + n.toNatClampNeg) := by
    rw [List.length_append, List.length_cons, List.length_replicate]; omega
  have eZ : rx_sz (h ++ (Sum.inl (3, n.toNatClampNeg, .inr (.inr (.inr (.inr (fun i => if i < n.toNatClampNeg then some (h.length + 17 + i) else none))))) :: List.replicate n.toNatClampNeg (Sum.inl (1, k.toNatClampNeg, .inr (.inl (fun _ => 0)))) : rx_H)) = rx_sz h + (n.toNatClampNeg + n.toNatClampNeg * k.toNatClampNeg) := by
    rw [rx_sz_app]
    congr 1
    show rx_sz ([_] ++ _) = _
    rw [rx_sz_app, rx_rows_sz]
    simp [rx_sz, rx_sz1]
  rw [eL] at hRc
  rw [eZ] at hRs
  intro T hT Xs
  obtain ⟨vm₁, cA, comp, -, fA, fC, -, -, X', step⟩ := Xs.multianewarray2F (ty := .long) hx hown (hts _ G1) (hK.2.2.2.2 _ G2) (hts _ G3) (g := F0 m pc ls (.int k :: .int n :: t.map (rx_cv (rx_ad ro base)))) rfl (by rw [hb]; exact hd) rfl hn0 hk0 (by omega) (show k.toNatClampNeg * 8 ≤ 536870912 by omega) (by omega) rfl rfl (by omega) (by omega)
  have eA : cA = dT 3 := by
    have h1 : s.vm.findClass ("[" ++ (FieldType.array .long).toString) = some (dT 3) := (hK.2.1 3 _ ht3).2
    exact Option.some.inj (fA.symm.trans h1)
  have eC : comp = dT 1 := by
    have h1 : s.vm.findClass ("[" ++ FieldType.long.toString) = some (dT 1) := (hK.2.1 1 _ ht1).2
    exact Option.some.inj (fC.symm.trans h1)
  subst eA
  subst eC
  generalize hF : Jvm.Free.Multi.fill (T.setVm vm₁) (dT 3) (dT 1) n.toNatClampNeg k.toNatClampNeg (defaultValue .long) n.toNatClampNeg = F at X' step
  have hTh : (T.setVm vm₁).heap = H := hT
  obtain ⟨f1, f2, -, -⟩ := Jvm.Free.Multi.fill_facts (T.setVm vm₁) (dT 3) (dT 1) n.toNatClampNeg k.toNatClampNeg (defaultValue .long) n.toNatClampNeg
  rw [hF, hTh] at f1 f2
  have hold : ∀ x : Nat, x < H.size → F.heap[x]? = H[x]? := fun x hx9 => by
    have := Jvm.Free.Multi.fill_old (T.setVm vm₁) (dT 3) (dT 1) n.toNatClampNeg k.toNatClampNeg (defaultValue .long) (a := x) (by rw [hTh]; exact hx9) n.toNatClampNeg
    rw [hF, hTh] at this
    exact this
  have hrow : ∀ j : Nat, j < n.toNatClampNeg → F.heap[H.size + 1 + j]? = some (arrV (dT 1) k.toNatClampNeg (fun _ => .long 0)) := fun j hj => by
    have := Jvm.Free.Multi.fill_inner (T.setVm vm₁) (dT 3) (dT 1) n.toNatClampNeg k.toNatClampNeg (defaultValue .long) n.toNatClampNeg j hj
    rw [hF, hTh] at this
    rw [this, ← arrV_new]
    rfl
  rw [rx_outer] at f2
  have hW' : rx_W D cl dT (rx_ad ro base) base (h ++ (Sum.inl (3, n.toNatClampNeg, .inr (.inr (.inr (.inr (fun i => if i < n.toNatClampNeg then some (h.length + 17 + i) else none))))) :: List.replicate n.toNatClampNeg (Sum.inl (1, k.toNatClampNeg, .inr (.inl (fun _ => 0)))))) F.heap := by
    refine ⟨by rw [f1, eL, hW.1]; omega, fun j c9 hj => ?_⟩
    by_cases e1 : j < h.length
    · rw [List.getElem?_append_left e1] at hj
      exact (hW.2 j c9 hj).kept (hold (base + j) (by rw [hW.1]; omega))
    · rw [List.getElem?_append_right (by omega)] at hj
      cases e2 : j - h.length with
      | zero =>
        rw [e2] at hj
        cases hj
        have e3 : base + j = H.size := by rw [hW.1]; omega
        show F.heap[base + j]? = some (arrV (dT 3) n.toNatClampNeg (fun i => va_rf (Option.map (rx_ad ro base) (if i < n.toNatClampNeg then some (h.length + 17 + i) else none))))
        rw [e3, f2]
        congr 2
        funext i
        by_cases e4 : i < n.toNatClampNeg
        · rw [if_pos e4, if_pos e4]
          show va_rf (some (H.size + 1 + i)) = va_rf (some (rx_ad ro base (h.length + 17 + i)))
          rw [show h.length + 17 + i = (h.length + 1 + i) + 16 by omega, rx_ad_k, hW.1]
          congr 2
          omega
        · rw [if_neg e4, if_neg e4]
          rfl
      | succ i =>
        rw [e2, List.getElem?_cons_succ, List.getElem?_replicate] at hj
        split at hj
        · next e4 =>
          cases hj
          have e3 : base + j = H.size + 1 + i := by rw [hW.1]; omega
          show F.heap[base + j]? = some (arrV (dT 1) k.toNatClampNeg (fun _ => .long 0))
          rw [e3]
          exact hrow i e4
        · cases hj
  have hS' : va_S (fun q => base ≤ q) s.heap F.heap locs := ⟨by rw [f1]; have := hS.1; omega, fun q q1 q2 => by rw [hold q (Nat.lt_of_lt_of_le q1 hS.1)]; exact hS.2.1 q q1 q2, hS.2.2⟩
  have h1 := K F.heap locs ls (by rw [eL]; omega) (by rw [eZ]; omega) hW' hS' hl
  rw [eL, eZ, show h.length + (1 + n.toNatClampNeg) - n0 = h.length - n0 + 1 + n.toNatClampNeg by omega, show rx_sz h + (n.toNatClampNeg + n.toNatClampNeg * k.toNatClampNeg) - z0 = rx_sz h - z0 + n.toNatClampNeg + n.toNatClampNeg * k.toNatClampNeg by omega] at h1
  obtain ⟨t9, a1, b1⟩ := h1 F rfl X'
  refine ⟨t9, step t9 ?_, b1⟩
  have e5 : (F0 m (pc + 4) ls ((.ref (h.length + 16) :: t : List Value).map (rx_cv (rx_ad ro base)))) = { (F0 m pc ls (.int k :: .int n :: t.map (rx_cv (rx_ad ro base)))) with pc := (F0 m pc ls (.int k :: .int n :: t.map (rx_cv (rx_ad ro base)))).pc + 4, stack := .ref T.heap.size :: t.map (rx_cv (rx_ad ro base)) } := by
    rw [List.map_cons, show rx_cv (rx_ad ro base) (.ref (h.length + 16)) = .ref (rx_ad ro base (h.length + 16)) from rfl, rx_ad_k ro base, ← hW.1, hT]
  rw [← e5]
  exact a1
end RXG
