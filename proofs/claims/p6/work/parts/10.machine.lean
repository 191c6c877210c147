/-! THE ABSTRACT MACHINE. A state is a list of cells (the k-th made cell is id k + 16; ids below 16 are read-only int arrays), a frame is pc, locals, stack. rx_run runs a method by its bytecode; rx_sound says that the machine does what rx_run does. -/
abbrev rx_C : Type := (Nat × vp_A) ⊕ (Nat × List Value)
abbrev rx_H : Type := List rx_C
abbrev rx_L : Type := List (Nat × Value)
abbrev rx_R : Type := Nat → Option (Nat × (Nat → Int32))
def rx_ad (ro : Nat → Nat) (base id : Nat) : Nat := if id < 16 then ro id else base + (id - 16)
def rx_cv (ad : Nat → Nat) : Value → Value
  | .ref k => .ref (ad k)
  | v => v
def rx_ca (ad : Nat → Nat) (a : vp_A) : vp_A := (a.1, match a.2 with
  | .inr (.inr (.inr (.inr f))) => .inr (.inr (.inr (.inr (fun i => (f i).map ad))))
  | x => x)
def rx_ce (ad : Nat → Nat) (dT : Nat → ClassId) : rx_C → va_E
  | .inl q => .inl (dT q.1, rx_ca ad q.2)
  | .inr q => .inr (q.1, q.2.map (rx_cv ad))
def rx_sz1 : rx_C → Nat
  | .inl q => q.2.1
  | .inr q => q.2.length
def rx_sz (h : rx_H) : Nat := (h.map rx_sz1).sum
def rx_lk (lv : rx_L) (i : Nat) : Option Value := (lv.find? (fun q => q.1 == i)).map (fun q => q.2)
def rx_s1 (lv : rx_L) (i : Nat) (v : Value) : rx_L := (i, v) :: lv.filter (fun q => !(q.1 == i) && !(q.1 + 1 == i && q.2.category == 2))
def rx_s2 (lv : rx_L) (i : Nat) (v : Value) : rx_L := (i, v) :: lv.filter (fun q => !(q.1 == i) && (!(q.1 == i + 1) && !(q.1 + 1 == i && q.2.category == 2)))
def rx_cl2 (ad : Nat → Nat) (lv : rx_L) : rx_L := lv.map (fun q => (q.1, rx_cv ad q.2))
theorem rx_cat (ad : Nat → Nat) (v : Value) : (rx_cv ad v).category = v.category := by cases v <;> rfl
theorem rx_lk_mem {lv : rx_L} {i : Nat} {v : Value} (h : rx_lk lv i = some v) : (i, v) ∈ lv := by
  unfold rx_lk at h
  cases hf : lv.find? (fun q => q.1 == i) with
  | none => rw [hf] at h; cases h
  | some q =>
    rw [hf] at h
    have h1 := List.mem_of_find?_eq_some hf
    have h2 := List.find?_some hf
    obtain ⟨a, b⟩ := q
    simp only [beq_iff_eq] at h2
    cases h
    subst h2
    exact h1
theorem rx_lk_at {ls : Array Slot} {nL : Nat} {ad : Nat → Nat} {lv : rx_L} {i : Nat} {v : Value} (hl : lv_has ls nL (rx_cl2 ad lv)) (h : rx_lk lv i = some v) : ls[i]? = some (.val (rx_cv ad v)) :=
  hl.2.2 (i, rx_cv ad v) (List.mem_map.mpr ⟨(i, v), rx_lk_mem h, rfl⟩)
theorem rx_s1_c (ad : Nat → Nat) (lv : rx_L) (i : Nat) (v : Value) : (i, rx_cv ad v) :: (rx_cl2 ad lv).filter (fun q => !(q.1 == i) && !(q.1 + 1 == i && q.2.category == 2)) = rx_cl2 ad (rx_s1 lv i v) := by
  simp only [rx_cl2, rx_s1, List.filter_map, List.map_cons]
  congr 2
  apply List.filter_congr
  intro q _
  simp only [Function.comp, rx_cat]
theorem rx_s2_c (ad : Nat → Nat) (lv : rx_L) (i : Nat) (v : Value) : (i, rx_cv ad v) :: (rx_cl2 ad lv).filter (fun q => !(q.1 == i) && (!(q.1 == i + 1) && !(q.1 + 1 == i && q.2.category == 2))) = rx_cl2 ad (rx_s2 lv i v) := by
  simp only [rx_cl2, rx_s2, List.filter_map, List.map_cons]
  congr 2
  apply List.filter_congr
  intro q _
  simp only [Function.comp, rx_cat]
def rx_W (D : va_G) (cl : List vw_C) (dT : Nat → ClassId) (ad : Nat → Nat) (base : Nat) (h : rx_H) (H : Heap) : Prop := H.size = base + h.length ∧ ∀ (k : Nat) (c : rx_C), h[k]? = some c → va_at D cl (base + k, rx_ce ad dT c) H
theorem rx_sz_set : ∀ (h : rx_H) (k : Nat) (c c' : rx_C), h[k]? = some c → rx_sz1 c' = rx_sz1 c → rx_sz (h.set k c') = rx_sz h
  | [], _, _, _, hk, _ => by simp at hk
  | a :: h, 0, c, c', hk, hs => by
    simp only [List.getElem?_cons_zero, Option.some.injEq] at hk
    subst hk
    simp only [rx_sz, List.set_cons_zero, List.map_cons, List.sum_cons, hs]
  | a :: h, k + 1, c, c', hk, hs => by
    simp only [List.getElem?_cons_succ] at hk
    have ih := rx_sz_set h k c c' hk hs
    simp only [rx_sz] at ih
    simp only [rx_sz, List.set_cons_succ, List.map_cons, List.sum_cons, ih]
theorem rx_sz_app (h h2 : rx_H) : rx_sz (h ++ h2) = rx_sz h + rx_sz h2 := by simp [rx_sz]
theorem rx_W.set {D : va_G} {cl : List vw_C} {dT : Nat → ClassId} {ad : Nat → Nat} {base : Nat} {h : rx_H} {H H1 : Heap} {k : Nat} {c' : rx_C} (hW : rx_W D cl dT ad base h H) (hk : k < h.length) (hz : H1.size = H.size) (he : va_at D cl (base + k, rx_ce ad dT c') H1) (ho : ∀ q : Nat, q ≠ base + k → H1[q]? = H[q]?) : rx_W D cl dT ad base (h.set k c') H1 := by
  refine ⟨by rw [hz, hW.1, List.length_set], fun j c hj => ?_⟩
  by_cases e : j = k
  · subst e
    rw [List.getElem?_set_self hk] at hj
    cases hj
    exact he
  · rw [List.getElem?_set_ne (Ne.symm e)] at hj
    exact (hW.2 j c hj).kept (ho (base + j) (by omega))
theorem rx_W.push {D : va_G} {cl : List vw_C} {dT : Nat → ClassId} {ad : Nat → Nat} {base : Nat} {h : rx_H} {H H1 : Heap} {c' : rx_C} (hW : rx_W D cl dT ad base h H) (hz : H1.size = H.size + 1) (he : va_at D cl (base + h.length, rx_ce ad dT c') H1) (ho : ∀ q : Nat, q < H.size → H1[q]? = H[q]?) : rx_W D cl dT ad base (h ++ [c']) H1 := by
  refine ⟨by rw [hz, hW.1]; simp; omega, fun j c hj => ?_⟩
  by_cases e : j < h.length
  · rw [List.getElem?_append_left e] at hj
    exact (hW.2 j c hj).kept (ho (base + j) (by rw [hW.1]; omega))
  · rw [List.getElem?_append_right (by omega)] at hj
    have hz : j - h.length < 1 := (List.getElem?_eq_some_iff.mp hj).1
    have e2 : j = h.length := by omega
    subst e2
    rw [Nat.sub_self] at hj
    cases hj
    exact he
theorem rx_one {D : va_G} {cl : List vw_C} {a : Nat} {e : va_E} {H : Heap} (h : va_at D cl (a, e) H) : va_P D cl [(a, e)] H := fun k q hk => by
  have h1 : k < 1 := (List.getElem?_eq_some_iff.mp hk).1
  have h2 : k = 0 := by omega
  subst h2
  cases hk
  exact h
