def rx_noref (fs : List Value) : Bool := fs.all (fun v => match v with | .ref _ => false | _ => true)
theorem rx_noref_e (ad : Nat → Nat) : ∀ (fs : List Value), rx_noref fs = true → fs.map (rx_cv ad) = fs
  | [], _ => rfl
  | v :: fs, h => by
    simp only [rx_noref, List.all_cons, Bool.and_eq_true] at h
    have ih := rx_noref_e ad fs (by simpa [rx_noref] using h.2)
    rw [List.map_cons, ih]
    have h1 := h.1
    cases v <;> first | rfl | exact absurd h1 (by simp)
def rx_nw (o : Option Nat) (cds : List (List Value)) (pc : Nat) (lv : rx_L) (st : List Value) (h : rx_H) : Option rx_N := match o with
  | some ci => match cds[ci]? with
    | some fs => rx_nx (pc + 3) lv (.ref (h.length + 16) :: st) (h ++ [.inr (ci, fs)])
    | none => none
  | none => none
/-- which array a 'newarray' makes: the type's place, the zeros -/
def rx_aty (a : ArrayType) : Option (Nat × FieldType) := match a with
  | .int => some (0, .int)
  | .long => some (1, .long)
  | .boolean => some (2, .boolean)
  | _ => none
def rx_zer (t n : Nat) : vp_A := if t = 1 then (n, .inr (.inl (fun _ => 0))) else (n, .inl (fun _ => 0))
def rx_na (o : Option (Nat × FieldType)) (pc : Nat) (lv : rx_L) (st : List Value) (h : rx_H) : Option rx_N := match o, st with
  | some q, .int n :: r => if n < 0 ∨ 1000000 < n.toNatClampNeg then none else rx_nx (pc + 2) lv (.ref (h.length + 16) :: r) (h ++ [.inl (q.1, rx_zer q.1 n.toNatClampNeg)])
  | _, _ => none
theorem rx_nw_e {o : Option Nat} {cds : List (List Value)} {pc : Nat} {lv : rx_L} {st : List Value} {h : rx_H} {r : Nat × rx_L × List Value × rx_H} (e : rx_nw o cds pc lv st h = some r) : ∃ ci fs, o = some ci ∧ cds[ci]? = some fs ∧ r = (pc + 3, lv, .ref (h.length + 16) :: st, h ++ [.inr (ci, fs)]) := by
  unfold rx_nw at e
  split at e
  · next ci =>
    split at e
    · next fs w => exact ⟨ci, fs, rfl, w, rx_nx_e e⟩
    · cases e
  · cases e
theorem rx_na_e {o : Option (Nat × FieldType)} {pc : Nat} {lv : rx_L} {st : List Value} {h : rx_H} {r : Nat × rx_L × List Value × rx_H} (e : rx_na o pc lv st h = some r) : ∃ q n t, o = some q ∧ st = .int n :: t ∧ ¬ n < 0 ∧ n.toNatClampNeg ≤ 1000000 ∧ r = (pc + 2, lv, .ref (h.length + 16) :: t, h ++ [.inl (q.1, rx_zer q.1 n.toNatClampNeg)]) := by
  unfold rx_na at e
  split at e
  · next q n t =>
    split at e
    · cases e
    · next w => exact ⟨q, n, t, rfl, rfl, fun z => w (Or.inl z), Nat.not_lt.mp (fun z => w (Or.inr z)), rx_nx_e e⟩
  · cases e
def rx_GN (all : List Cond) (cl : List vw_C) (cds : List (List Value)) (own : String) (ix ci : Nat) : Prop := ∃ (C : String) (T : u_T) (N : Nat) (ty0 : Nat → FieldType) (fs : List Value), cl[ci]? = some (C, T, N) ∧ cds[ci]? = some fs ∧ fs.length = N ∧ rx_noref fs = true ∧ Cond.classLink own ix C ∈ all ∧ (∀ k, k < N → parseFieldDescriptor (T k).2.2.1 = some (ty0 k)) ∧ ∀ j, j < N → defaultValue (ty0 j) = vp_V fs j
section RXN
variable {p : Program} {l : Launch} {e : Env} {R : Room} {s : State} {m : MethodId} {args : Array Value} {below : List Frame} {meth : Method} {c : Code} {Q : State → Prop}
variable {all : List Cond} {cl : List vw_C} {tys : List FieldType} {sts : List (String × String × String × Nat)} {nst : List Cond} {D : va_G} {dT : Nat → ClassId} {ro : Nat → Nat} {rt : rx_R} {base n0 z0 : Nat}
variable {cc : ByteArray} {nL pc pc' : Nat} {lv lv' : rx_L} {st st' t : List Value} {h : rx_H} {own : String}
theorem rx_At.push {c' : rx_C} (K : rx_At p l e R s m args below meth c Q cl D dT ro base n0 z0 nL pc' lv' st' (h ++ [c'])) (H : Heap) (locs : List Loc) (ls : Array Slot) (hn : n0 ≤ h.length) (hz : z0 ≤ rx_sz h) (hW : rx_W D cl dT (rx_ad ro base) base (h ++ [c']) H) (hS : va_S (fun q => base ≤ q) s.heap H locs) (hl : lv_has ls nL (rx_cl2 (rx_ad ro base) lv')) :
    W p l e R s m args below meth c H locs (h.length - n0 + 1) (rx_sz h - z0 + rx_sz1 c') Q (F0 m pc' ls (st'.map (rx_cv (rx_ad ro base)))) := by
  have e1 : rx_sz (h ++ [c']) = rx_sz h + rx_sz1 c' := by simp [rx_sz]
  have h1 := K H locs ls (by simp; omega) (by rw [e1]; omega) hW hS hl
  rw [e1, List.length_append, show h.length + [c'].length - n0 = h.length - n0 + 1 by simp; omega, show rx_sz h + rx_sz1 c' - z0 = rx_sz h - z0 + rx_sz1 c' by omega] at h1
  exact h1
theorem rx_h_new (hx : p.tables.exec = Jvm.exec) (hb : c.code = cc) (hts : ∀ w ∈ all, w.before args s = true) (hown : s.vm.findClass own = some m.cls) (hK : rx_Kx cl tys sts nst D dT ro rt base s s.heap) (GC : ∀ (ci : Nat) (q : vw_C), cl[ci]? = some q → rx_GC all q) {cds : List (List Value)} {ix ci : Nat} (G : rx_GN all cl cds own ix ci)
    {fs : List Value} (hfs : cds[ci]? = some fs) (hRc : h.length + 1 ≤ n0 + R.cells) (hRs : rx_sz h + fs.length ≤ z0 + R.slots) (hd : decode cc pc = .ok (.new ix, 3))
    (K : rx_At p l e R s m args below meth c Q cl D dT ro base n0 z0 nL (pc + 3) lv (.ref (h.length + 16) :: st) (h ++ [.inr (ci, fs)])) : rx_At p l e R s m args below meth c Q cl D dT ro base n0 z0 nL pc lv st h := by
  intro H locs ls hn hz hW hS hl
  obtain ⟨C, T, N, ty0, fs', hc, hcd, hlen, hnr, hlk, hty, hdf⟩ := G
  cases hcd.symm.trans hfs
  obtain ⟨g1, -, -, g4, g5⟩ := GC ci _ hc
  have hKn := hK.1 ci _ hc
  refine W.newcK (h := H.size) hx hb hown (hts _ hlk) (hts _ g4) (hts _ g5) rfl hd (by omega) (show rx_sz h - z0 + N ≤ R.slots by omega) hKn.2.1 rfl fun H1 kC hkC e1 z1 o1 => ?_
  have h1 := K.push H1 locs ls hn hz (hW.push z1 ?_ o1) ⟨by rw [z1]; exact Nat.le_trans hS.1 (Nat.le_succ _), fun x q1 q2 => (o1 x (Nat.lt_of_lt_of_le q1 hS.1)).trans (hS.2.1 x q1 q2), hS.2.2⟩ hl
  · rw [show rx_sz1 (.inr (ci, fs)) = N from hlen] at h1
    rw [List.map_cons, show rx_cv (rx_ad ro base) (.ref (h.length + 16)) = .ref (rx_ad ro base (h.length + 16)) from rfl, rx_ad_k ro base, ← hW.1] at h1
    exact h1
  · refine ⟨_, hc, ?_⟩
    rw [show (rx_ce (rx_ad ro base) dT (.inr (ci, fs))) = .inr (ci, fs.map (rx_cv (rx_ad ro base))) from rfl, rx_noref_e _ fs hnr, ← hW.1]
    exact (u_born ty0 hts g1 hKn hkC e1 hty).to hdf
theorem rx_h_na (hx : p.tables.exec = Jvm.exec) (hb : c.code = cc) (hts : ∀ w ∈ all, w.before args s = true) (hK : rx_Kx cl tys sts nst D dT ro rt base s s.heap) (htt : tys[0]? = some .int ∧ tys[1]? = some .long ∧ tys[2]? = some .boolean) {at' : ArrayType} {q : Nat × FieldType} (hq : rx_aty at' = some q) (harr : Cond.arrayClass q.2 ∈ all)
    {n : Int32} (hn0 : ¬ n < 0) (hn1 : n.toNatClampNeg ≤ 1000000) (hRc : h.length + 1 ≤ n0 + R.cells) (hRs : rx_sz h + n.toNatClampNeg ≤ z0 + R.slots) (hd : decode cc pc = .ok (.newarray at', 2))
    (K : rx_At p l e R s m args below meth c Q cl D dT ro base n0 z0 nL (pc + 2) lv (.ref (h.length + 16) :: t) (h ++ [.inl (q.1, rx_zer q.1 n.toNatClampNeg)])) : rx_At p l e R s m args below meth c Q cl D dT ro base n0 z0 nL pc lv (.int n :: t) h := by
  intro H locs ls hn hz hW hS hl
  have hty : newarray.typeOf at' = q.2 ∧ tys[q.1]? = some q.2 ∧ (∀ cA : ClassId, vp_cell cA (rx_ca (rx_ad ro base) (rx_zer q.1 n.toNatClampNeg)) = arrV cA n.toNatClampNeg (fun _ => defaultValue q.2)) ∧ componentBytes q.2 ≤ 8 ∧ "[" ++ q.2.toString = "[" ++ (newarray.typeOf at').toString ∧ rx_sz1 (.inl (q.1, rx_zer q.1 n.toNatClampNeg)) = n.toNatClampNeg ∧ (∀ U cA, va_RA U cA q.2 → U.vm.findClass ("[" ++ q.2.toString) = some cA) := by
    cases at' <;> first
      | (cases hq; refine ⟨rfl, ?_, fun _ => rfl, by decide, rfl, rfl, fun _ _ z => z⟩; first | exact htt.1 | exact htt.2.1 | exact htt.2.2)
      | (cases hq)
  obtain ⟨e1, e2, e3, e4, e5, e6, e7⟩ := hty
  refine va_newaK (h := H.size) (N := n.toNatClampNeg) hx hb (by rw [e1]; exact hts _ harr) (g := F0 m pc ls (.int n :: t.map (rx_cv (rx_ad ro base)))) rfl hd rfl hn0 rfl (by rw [e1]; exact Nat.le_trans (Nat.mul_le_mul hn1 e4) (by decide)) (by omega) (by omega) rfl fun H1 cA c1 z1 o1 hAr hNm => ?_
  have hcA : cA = dT q.1 := by
    have h1 := e7 _ _ (hK.2.1 q.1 _ e2).2
    rw [e5, hNm] at h1
    exact Option.some.inj h1
  subst hcA
  have h1 := K.push H1 locs ls hn hz (hW.push z1 ?_ o1) ⟨by rw [z1]; exact Nat.le_trans hS.1 (Nat.le_succ _), fun x q1 q2 => (o1 x (Nat.lt_of_lt_of_le q1 hS.1)).trans (hS.2.1 x q1 q2), hS.2.2⟩ hl
  · rw [e6, List.map_cons, show rx_cv (rx_ad ro base) (.ref (h.length + 16)) = .ref (rx_ad ro base (h.length + 16)) from rfl, rx_ad_k ro base, ← hW.1] at h1
    exact h1
  · show H1[base + h.length]? = some (vp_cell (dT q.1) (rx_ca (rx_ad ro base) (rx_zer q.1 n.toNatClampNeg)))
    rw [e3, ← e1, ← hW.1]
    exact c1
end RXN
