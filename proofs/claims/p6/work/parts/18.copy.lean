def rx_oi (d w : Nat) (pc : Nat) (lv : rx_L) (st : List Value) (h : rx_H) : Option rx_N := match st with
  | .ref _ :: r => if (1 ≤ d ∧ 20 ≤ w) ∧ (r.map (fun v => v.category)).sum ≤ 8 then rx_nx (pc + 3) lv r h else none
  | _ => none
theorem rx_oi_e {d w pc : Nat} {lv : rx_L} {st : List Value} {h : rx_H} {r : Nat × rx_L × List Value × rx_H} (e : rx_oi d w pc lv st h = some r) : ∃ a t, st = .ref a :: t ∧ (1 ≤ d ∧ 20 ≤ w) ∧ (t.map (fun v => v.category)).sum ≤ 8 ∧ r = (pc + 3, lv, t, h) := by
  unfold rx_oi at e
  split at e
  · next a t =>
    split at e
    · next y => exact ⟨a, t, rfl, y.1, y.2, rx_nx_e e⟩
    · cases e
  · cases e
def rx_ac (d w : Nat) (pc : Nat) (lv : rx_L) (st : List Value) (h : rx_H) : Option rx_N := match st with
  | .int n :: .int dp :: .ref a :: .int sp :: .ref b :: r => match rx_cold h b 0, rx_cold h a 0 with
    | some (n0, .inl f), some (n1, .inl g) => if (1 ≤ d ∧ 26 ≤ w) ∧ (r.map (fun v => v.category)).sum ≤ 8 ∧ ¬ sp < 0 ∧ ¬ dp < 0 ∧ ¬ n < 0 ∧ sp.toNatClampNeg + n.toNatClampNeg ≤ n0 ∧ dp.toNatClampNeg + n.toNatClampNeg ≤ n1 then rx_nx (pc + 3) lv r (rx_put h a 0 (n1, .inl (va_cpy f g sp.toNatClampNeg dp.toNatClampNeg n.toNatClampNeg))) else none
    | _, _ => none
  | _ => none
theorem rx_ac_e {d w pc : Nat} {lv : rx_L} {st : List Value} {h : rx_H} {r : Nat × rx_L × List Value × rx_H} (e : rx_ac d w pc lv st h = some r) : ∃ (n dp sp : Int32) (ka kb n0 n1 : Nat) (f g : Nat → Int32) (t : List Value), st = .int n :: .int dp :: .ref (ka + 16) :: .int sp :: .ref (kb + 16) :: t ∧ h[kb]? = some (.inl (0, n0, .inl f)) ∧ h[ka]? = some (.inl (0, n1, .inl g)) ∧ ka < h.length ∧ (1 ≤ d ∧ 26 ≤ w) ∧ (t.map (fun v => v.category)).sum ≤ 8 ∧ ¬ sp < 0 ∧ ¬ dp < 0 ∧ ¬ n < 0 ∧ sp.toNatClampNeg + n.toNatClampNeg ≤ n0 ∧ dp.toNatClampNeg + n.toNatClampNeg ≤ n1 ∧ r = (pc + 3, lv, t, h.set ka (.inl (0, n1, .inl (va_cpy f g sp.toNatClampNeg dp.toNatClampNeg n.toNatClampNeg)))) := by
  unfold rx_ac at e
  split at e
  · next n dp a sp b t =>
    split at e
    · next n0 f n1 g w1 w2 =>
      split at e
      · next z =>
        obtain ⟨z1, z2, z3, z4, z5, z6, z7⟩ := z
        obtain ⟨kb, rfl, b1, b2⟩ := rx_cold_e w1
        obtain ⟨ka, rfl, a1, a2⟩ := rx_cold_e w2
        exact ⟨n, dp, sp, ka, kb, n0, n1, f, g, t, rfl, b1, a1, a2, z1, z2, z3, z4, z5, z6, z7, rx_nx_e e⟩
      · cases e
    · cases e
  · cases e
section RXY
variable {p : Program} {l : Launch} {e : Env} {R : Room} {s : State} {m : MethodId} {args : Array Value} {below : List Frame} {meth : Method} {c : Code} {Q : State → Prop}
variable {all : List Cond} {cl : List vw_C} {tys : List FieldType} {sts : List (String × String × String × Nat)} {nst : List Cond} {D : va_G} {dT : Nat → ClassId} {ro : Nat → Nat} {rt : rx_R} {base n0 z0 : Nat}
variable {cc : ByteArray} {nL pc pc' : Nat} {lv lv' : rx_L} {st st' t : List Value} {h h' : rx_H} {own : String}
theorem rx_h_oi (hx : p.tables.exec = Jvm.exec) (hb : c.code = cc) (hml : c.maxLocals = nL) (hts : ∀ w ∈ all, w.before args s = true) (hown : s.vm.findClass own = some m.cls) {ix d w : Nat} (hlk : Cond.methodLink own ix Lib.objectInit ∈ all) (hi : Cond.instanceMethod Lib.objectInit ∈ all) (hc : Cond.code Lib.objectInit ⟨#[0xb1]⟩ 1 none ∈ all) {a : Nat} (hd1 : 1 ≤ d ∧ 20 ≤ w) (hrs : (t.map (fun v => v.category)).sum ≤ 8) (hR : d ≤ R.frames ∧ w ≤ R.locals) (hd : decode cc pc = .ok (.invokespecial ix, 3))
    (K : rx_At p l e R s m args below meth c Q cl D dT ro base n0 z0 nL (pc + 3) lv t h) : rx_At p l e R s m args below meth c Q cl D dT ro base n0 z0 nL pc lv (.ref a :: t) h := by
  intro H locs ls hn hz hW hS hl
  have hrs' : ((t.map (rx_cv (rx_ad ro base))).map (fun v => v.category)).sum ≤ 8 := by
    rw [List.map_map, show ((fun v => Value.category v) ∘ rx_cv (rx_ad ro base)) = (fun v => v.category) from funext (rx_cat _)]
    exact hrs
  exact W.objInit hx hb hown (hts _ hlk) (hts _ hi) (hts _ hc) (g := F0 m pc ls (.ref (rx_ad ro base a) :: t.map (rx_cv (rx_ad ro base)))) rfl (by rw [hml]; exact hl.1) rfl hd (by omega) (by show 2 * 0 + _ + 12 ≤ R.locals; omega) (K H locs ls hn hz hW hS hl)
theorem rx_h_ac (hx : p.tables.exec = Jvm.exec) (hb : c.code = cc) (hml : c.maxLocals = nL) (hts : ∀ w ∈ all, w.before args s = true) (hown : s.vm.findClass own = some m.cls) (hK : rx_Kx cl tys sts nst D dT ro rt base s s.heap) (ht : tys[0]? = some .int) {ix d w : Nat} (hlk : Cond.methodLink own ix arraycopyName ∈ all) (hnat : Cond.native arraycopyName ∈ all) (hstat : Cond.static arraycopyName ∈ all) (hini : Cond.initialized "java/lang/System" ∈ all)
    {n dp sp : Int32} {ka kb m0 m1 : Nat} {f g : Nat → Int32} (hkb : h[kb]? = some (.inl (0, m0, .inl f))) (hka : h[ka]? = some (.inl (0, m1, .inl g))) (hlt : ka < h.length) (hd1 : 1 ≤ d ∧ 26 ≤ w) (hrs : (t.map (fun v => v.category)).sum ≤ 8) (h1 : ¬ sp < 0) (h2 : ¬ dp < 0) (h3 : ¬ n < 0) (h4 : sp.toNatClampNeg + n.toNatClampNeg ≤ m0) (h5 : dp.toNatClampNeg + n.toNatClampNeg ≤ m1) (hR : d ≤ R.frames ∧ w ≤ R.locals) (hd : decode cc pc = .ok (.invokestatic ix, 3))
    (K : rx_At p l e R s m args below meth c Q cl D dT ro base n0 z0 nL (pc + 3) lv t (h.set ka (.inl (0, m1, .inl (va_cpy f g sp.toNatClampNeg dp.toNatClampNeg n.toNatClampNeg))))) : rx_At p l e R s m args below meth c Q cl D dT ro base n0 z0 nL pc lv (.int n :: .int dp :: .ref (ka + 16) :: .int sp :: .ref (kb + 16) :: t) h := by
  intro H locs ls hn hz hW hS hl
  have hrs' : ((t.map (rx_cv (rx_ad ro base))).map (fun v => v.category)).sum ≤ 8 := by
    rw [List.map_map, show ((fun v => Value.category v) ∘ rx_cv (rx_ad ro base)) = (fun v => v.category) from funext (rx_cat _)]
    exact hrs
  show W p l e R s m args below meth c H locs _ _ Q (F0 m pc ls (.int n :: .int dp :: .ref (rx_ad ro base (ka + 16)) :: .int sp :: .ref (rx_ad ro base (kb + 16)) :: t.map (rx_cv (rx_ad ro base))))
  rw [rx_ad_k ro base ka, rx_ad_k ro base kb]
  have nn : ∀ z : Int32, ¬ z < 0 → z.toInt = (z.toNatClampNeg : Int) := by
    intro z hz
    have hz0 : (0 : Int) ≤ z.toInt := by
      have := Int32.not_lt.mp hz
      simpa using Int32.le_iff_toInt_le.mp this
    show z.toInt = ((z.toInt.toNat : Nat) : Int)
    omega
  intro T hT X
  have hc0 : H[base + kb]? = some (vp_cell (dT 0) (m0, .inl f)) := hW.2 kb _ hkb
  have hc1 : H[base + ka]? = some (vp_cell (dT 0) (m1, .inl g)) := hW.2 ka _ hka
  obtain ⟨-, k0, hk0, cm0, hkk0⟩ := (hK.2.1 0 _ ht).1 m0 (fun j => .int (f j))
  obtain ⟨-, k1, hk1, cm1, hkk1⟩ := (hK.2.1 0 _ ht).1 m1 (fun j => .int (g j))
  obtain ⟨vm', X', step⟩ := X.arraycopy hx hown (hts _ hlk) (hts _ hnat) (hts _ hstat) (hts _ hini) (src := base + kb) (dst := base + ka) (cs := vp_cell (dT 0) (m0, .inl f)) (cd := vp_cell (dT 0) (m1, .inl g)) (srcPos := sp) (destPos := dp) (n := n) (by rw [hT]; exact hc0) (by rw [hT]; exact hc1)
    (fun _ h => by cases h) (fun _ h => by cases h) (fun h => by cases h) (fun h => by cases h) hk0 hk1 hkk0 hkk1 (by simp [refKind]) h1 h2 h3
    (by rw [nn sp h1, nn n h3]; show ¬ _ > ((arrV (dT 0) m0 (fun j => .int (f j))).slots.size : Int); rw [arrV_size]; omega)
    (by rw [nn dp h2, nn n h3]; show ¬ _ > ((arrV (dT 0) m1 (fun j => .int (g j))).slots.size : Int); rw [arrV_size]; omega)
    (fun vm₁ _ i hi => by
      have e : (vp_cell (dT 0) (m0, .inl f)).slots.getD (sp.toNatClampNeg + i) .null = .int (f (sp.toNatClampNeg + i)) := by
        show (arrV (dT 0) m0 (fun j => .int (f j))).slots.getD _ _ = _
        rw [Array.getD_eq_getD_getElem?, arrV_read _ _ (by omega)]
        rfl
      refine ⟨?_, ?_⟩
      · rw [e]
        rfl
      · rw [e]
        exact trivial)
    (g := F0 m pc ls (.int n :: .int dp :: .ref (base + ka) :: .int sp :: .ref (base + kb) :: t.map (rx_cv (rx_ad ro base)))) rfl (by rw [hml]; exact hl.1) (rest := t.map (rx_cv (rx_ad ro base))) rfl (by rw [hb]; exact hd) (by omega) (by
      have e9 : nativeFrameWords "java/lang/System" "arraycopy" 5 = 7 := by decide +kernel
      show 2 * 0 + _ + _ ≤ _
      rw [e9]
      omega)
  have e1 : copied (vp_cell (dT 0) (m0, .inl f)) (vp_cell (dT 0) (m1, .inl g)) sp dp n = vp_cell (dT 0) (m1, .inl (va_cpy f g sp.toNatClampNeg dp.toNatClampNeg n.toNatClampNeg)) := va_copied (fun z => .int z) (dT 0) (dT 0) f g h4
  rw [e1] at X' step
  have hll : base + ka < H.size := (Array.getElem?_eq_some_iff.mp hc1).1
  have hheap : ((T.setVm vm').setCell (base + ka) (vp_cell (dT 0) (m1, .inl (va_cpy f g sp.toNatClampNeg dp.toNatClampNeg n.toNatClampNeg)))).heap = H.setIfInBounds (base + ka) (vp_cell (dT 0) (m1, .inl (va_cpy f g sp.toNatClampNeg dp.toNatClampNeg n.toNatClampNeg))) := by rw [← hT]; rfl
  have oq : ∀ q : Nat, q ≠ base + ka → (H.setIfInBounds (base + ka) (vp_cell (dT 0) (m1, .inl (va_cpy f g sp.toNatClampNeg dp.toNatClampNeg n.toNatClampNeg))))[q]? = H[q]? := fun q hq => by simp [Array.getElem?_setIfInBounds, Ne.symm hq]
  have hset : (H.setIfInBounds (base + ka) (vp_cell (dT 0) (m1, .inl (va_cpy f g sp.toNatClampNeg dp.toNatClampNeg n.toNatClampNeg))))[base + ka]? = some (vp_cell (dT 0) (m1, .inl (va_cpy f g sp.toNatClampNeg dp.toNatClampNeg n.toNatClampNeg))) := by simp [Array.getElem?_setIfInBounds, hll]
  obtain ⟨t9, a1, b1⟩ := K.set hka rfl _ _ ls hn hz (hW.set hlt (by simp) hset oq) ⟨by simp; exact hS.1, fun q g1 g2 => by
      rw [oq q (fun e => g2 (by rw [e]; exact Nat.le_add_right _ _))]
      exact hS.2.1 q g1 g2, fun q hq => by
      rcases List.mem_append.mp hq with h9 | h9
      · exact hS.2.2 q h9
      · obtain ⟨z, -, hz⟩ := List.mem_map.mp h9
        rw [← hz]
        exact Nat.le_add_right _ _⟩ hl _ hheap X'
  exact ⟨t9, step t9 a1, b1⟩
end RXY
/-- Math.max, Math.min -/
def rx_m4 (d w : Nat) (pc : Nat) (lv : rx_L) (st : List Value) (h : rx_H) : Option rx_N := match st with
  | .int y :: .int x :: r => if (1 ≤ d ∧ 21 ≤ w) ∧ (r.map (fun v => v.category)).sum ≤ 8 then rx_nx (pc + 3) lv (.int (if x < y then y else x) :: r) h else none
  | _ => none
def rx_m5 (d w : Nat) (pc : Nat) (lv : rx_L) (st : List Value) (h : rx_H) : Option rx_N := match st with
  | .int y :: .int x :: r => if (1 ≤ d ∧ 21 ≤ w) ∧ (r.map (fun v => v.category)).sum ≤ 8 then rx_nx (pc + 3) lv (.int (if y < x then y else x) :: r) h else none
  | _ => none
theorem rx_m4_e {d w pc : Nat} {lv : rx_L} {st : List Value} {h : rx_H} {r : rx_N} (e : rx_m4 d w pc lv st h = some r) : ∃ x y t, st = .int y :: .int x :: t ∧ (1 ≤ d ∧ 21 ≤ w) ∧ (t.map (fun v => v.category)).sum ≤ 8 ∧ r = (pc + 3, lv, .int (if x < y then y else x) :: t, h) := by
  unfold rx_m4 at e
  split at e
  · next y x t =>
    split at e
    · next z => exact ⟨x, y, t, rfl, z.1, z.2, rx_nx_e e⟩
    · cases e
  · cases e
theorem rx_m5_e {d w pc : Nat} {lv : rx_L} {st : List Value} {h : rx_H} {r : rx_N} (e : rx_m5 d w pc lv st h = some r) : ∃ x y t, st = .int y :: .int x :: t ∧ (1 ≤ d ∧ 21 ≤ w) ∧ (t.map (fun v => v.category)).sum ≤ 8 ∧ r = (pc + 3, lv, .int (if y < x then y else x) :: t, h) := by
  unfold rx_m5 at e
  split at e
  · next y x t =>
    split at e
    · next z => exact ⟨x, y, t, rfl, z.1, z.2, rx_nx_e e⟩
    · cases e
  · cases e
section RXM
variable {p : Program} {l : Launch} {e : Env} {R : Room} {s : State} {m : MethodId} {args : Array Value} {below : List Frame} {meth : Method} {c : Code} {Q : State → Prop}
variable {all : List Cond} {cl : List vw_C} {D : va_G} {dT : Nat → ClassId} {ro : Nat → Nat} {base n0 z0 : Nat}
variable {cc : ByteArray} {nL pc : Nat} {lv : rx_L} {t : List Value} {h : rx_H} {own : String}
theorem rx_h_m4 (hx : p.tables.exec = Jvm.exec) (hb : c.code = cc) (hml : c.maxLocals = nL) (hts : ∀ w ∈ all, w.before args s = true) (hown : s.vm.findClass own = some m.cls) {ix d w : Nat} (G : Cond.methodLink own ix Lib.Math.max.name ∈ all ∧ Cond.static Lib.Math.max.name ∈ all ∧ Cond.initialized "java/lang/Math" ∈ all ∧ Cond.code Lib.Math.max.name Lib.Math.max.code 2 (some .int) ∈ all) {x y : Int32} (hd1 : 1 ≤ d ∧ 21 ≤ w) (hrs : (t.map (fun v => v.category)).sum ≤ 8) (hR : d ≤ R.frames ∧ w ≤ R.locals) (hRc : h.length ≤ n0 + R.cells) (hRs : rx_sz h ≤ z0 + R.slots) (hd : decode cc pc = .ok (.invokestatic ix, 3))
    (K : rx_At p l e R s m args below meth c Q cl D dT ro base n0 z0 nL (pc + 3) lv (.int (if x < y then y else x) :: t) h) : rx_At p l e R s m args below meth c Q cl D dT ro base n0 z0 nL pc lv (.int y :: .int x :: t) h := by
  intro H locs ls hn hz hW hS hl
  have hrs' : ((t.map (rx_cv (rx_ad ro base))).map (fun v => v.category)).sum ≤ 8 := by
    rw [List.map_map, show ((fun v => Value.category v) ∘ rx_cv (rx_ad ro base)) = (fun v => v.category) from funext (rx_cat _)]
    exact hrs
  exact va_mmax hx hb (by rw [hml]; exact hl.1.symm) hown (hts _ G.1) (hts _ G.2.1) (hts _ G.2.2.1) (hts _ G.2.2.2) (by omega) (by omega) (by omega) (by omega) hd (K H locs ls hn hz hW hS hl)
theorem rx_h_m5 (hx : p.tables.exec = Jvm.exec) (hb : c.code = cc) (hml : c.maxLocals = nL) (hts : ∀ w ∈ all, w.before args s = true) (hown : s.vm.findClass own = some m.cls) {ix d w : Nat} (G : Cond.methodLink own ix Lib.Math.min.name ∈ all ∧ Cond.static Lib.Math.min.name ∈ all ∧ Cond.initialized "java/lang/Math" ∈ all ∧ Cond.code Lib.Math.min.name Lib.Math.min.code 2 (some .int) ∈ all) {x y : Int32} (hd1 : 1 ≤ d ∧ 21 ≤ w) (hrs : (t.map (fun v => v.category)).sum ≤ 8) (hR : d ≤ R.frames ∧ w ≤ R.locals) (hRc : h.length ≤ n0 + R.cells) (hRs : rx_sz h ≤ z0 + R.slots) (hd : decode cc pc = .ok (.invokestatic ix, 3))
    (K : rx_At p l e R s m args below meth c Q cl D dT ro base n0 z0 nL (pc + 3) lv (.int (if y < x then y else x) :: t) h) : rx_At p l e R s m args below meth c Q cl D dT ro base n0 z0 nL pc lv (.int y :: .int x :: t) h := by
  intro H locs ls hn hz hW hS hl
  have hrs' : ((t.map (rx_cv (rx_ad ro base))).map (fun v => v.category)).sum ≤ 8 := by
    rw [List.map_map, show ((fun v => Value.category v) ∘ rx_cv (rx_ad ro base)) = (fun v => v.category) from funext (rx_cat _)]
    exact hrs
  exact va_mmin hx hb (by rw [hml]; exact hl.1.symm) hown (hts _ G.1) (hts _ G.2.1) (hts _ G.2.2.1) (hts _ G.2.2.2) (by omega) (by omega) (by omega) (by omega) hd (K H locs ls hn hz hW hS hl)
end RXM
