/-- what the tables say of an array over arrays -/
theorem rx_ao_spec {A : Array Value} {s : State} {t : FieldType} (h : (Cond.arrayOver (.array t)).before A s = true) :
    ∃ comp c k, s.vm.findClass (FieldType.array t).toString = some comp ∧ (s.vm.classes.findIdx? fun (x : Class) => match x.kind with | .array component _ => component == comp | _ => false) = some c ∧ s.vm.classes[c]? = some k ∧ k.kind = .array comp (.array t) ∧ s.vm.findClass ("[" ++ (FieldType.array t).toString) = some c := by
  simp only [Cond.before, Cond.holds, Cond.value, beq_iff_eq] at h
  cases hc : s.vm.findClass (FieldType.array t).toString with
  | none => simp [hc] at h
  | some comp =>
    simp only [hc, Option.bind_some, Option.bind_eq_some_iff, Option.map_eq_some_iff] at h
    obtain ⟨c, hi, k, hk, hb⟩ := h
    obtain ⟨hlt, hp, -⟩ := Array.findIdx?_eq_some_iff_getElem.mp hi
    have hkk : s.vm.classes[c] = k := (Array.getElem?_eq_some_iff.mp hk).2
    rw [hkk] at hp
    cases hkind : k.kind with
    | array component ty =>
      rw [hkind] at hb hp
      simp at hb hp
      exact ⟨comp, c, k, rfl, hi, hk, by rw [hkind, hp, hb.1], hb.2⟩
    | _ => rw [hkind] at hb; simp at hb
theorem rx_ao_moved {t : FieldType} {u U : State} (hvm : u.vm.Alike U.vm) (h : va_Nw (.arrayOver (.array t)) u) : va_Nw (.arrayOver (.array t)) U := by
  obtain ⟨comp, c, k, h1, h2, h3, h4, h5⟩ := rx_ao_spec h
  obtain ⟨k', hk', he⟩ := hvm.2.2 _ _ h3
  have hi : (U.vm.classes.findIdx? fun (x : Class) => match x.kind with | .array component _ => component == comp | _ => false) = some c := by
    refine Eq.trans (va_idx_bare U.vm comp).symm ?_
    first | rw [hvm.bare_eq] | rw [← hvm.bare_eq]
    exact Eq.trans (va_idx_bare u.vm comp) h2
  have hkind : k'.kind = .array comp (.array t) := by rw [he]; exact h4
  have f1 : U.vm.findClass (FieldType.array t).toString = some comp := by rw [hvm.findClass]; exact h1
  have f2 : U.vm.findClass ("[" ++ (FieldType.array t).toString) = some c := by rw [hvm.findClass]; exact h5
  unfold va_Nw Cond.before Cond.holds
  simp only [Cond.value]
  rw [f1, Option.bind_some]
  refine (congrArg (fun o : Option Nat => (o.bind (fun c => (U.vm.classes[c]?).map fun (k : Class) => match k.kind with | .array _ ty => decide (ty = FieldType.array t) && decide (U.vm.findClass ("[" ++ (FieldType.array t).toString) = some c) | _ => false) == some true)) hi).trans ?_
  simp [hk', hkind, f2]
/-- what holds of the tables at a state, and of the read-only arrays at its heap: classes, array classes, read-only arrays, statics, links between nest mates -/
def rx_Kx (cl : List vw_C) (tys : List FieldType) (sts : List (String × String × String × Nat)) (nst : List Cond) (D : va_G) (dT : Nat → ClassId) (ro : Nat → Nat) (rt : rx_R) (base : Nat) (U : State) (H : Heap) : Prop :=
  (∀ (c : Nat) (q : vw_C), cl[c]? = some q → u_Kn U q.1 q.2.1 q.2.2 (D.1 c) (D.2 c)) ∧
  (∀ (t : Nat) (ty : FieldType), tys[t]? = some ty → ArrOfT U (dT t) ty ∧ va_RA U (dT t) ty) ∧
  (∀ (id n : Nat) (f : Nat → Int32), id < 16 → rt id = some (n, f) → va_T .int (ro id) n (fun j => .int (f j)) (fun q => base ≤ q) U H) ∧
  (∀ q ∈ sts, q.2.2.2 < 16 ∧ va_Z q.1 q.2.1 q.2.2.1 (.ref (ro q.2.2.2)) (fun q => base ≤ q) U H) ∧
  (∀ w ∈ nst, va_Nw w U)
def rx_isN (w : Cond) : Bool := match w with
  | .fieldLinkNest _ _ _ _ _ _ => true
  | .methodLinkNest _ _ _ _ => true
  | .arrayOver (.array _) => true
  | _ => false
theorem rx_isN_cases {w : Cond} (h : rx_isN w = true) : (∃ a b c d e f, w = .fieldLinkNest a b c d e f) ∨ (∃ a b c d, w = .methodLinkNest a b c d) ∨ ∃ t, w = .arrayOver (.array t) := by
  unfold rx_isN at h
  split at h
  · exact Or.inl ⟨_, _, _, _, _, _, rfl⟩
  · exact Or.inr (Or.inl ⟨_, _, _, _, rfl⟩)
  · exact Or.inr (Or.inr ⟨_, rfl⟩)
  · cases h
section RXK
variable {cl : List vw_C} {tys : List FieldType} {sts : List (String × String × String × Nat)} {nst : List Cond} {D : va_G} {dT : Nat → ClassId} {ro : Nat → Nat} {rt : rx_R} {base : Nat} {U : State} {H : Heap}
theorem rx_Kx.K (h : rx_Kx cl tys sts nst D dT ro rt base U H) {t : Nat} {ty : FieldType} (ht : tys[t]? = some ty) : va_K D cl [(dT t, ty)] U := ⟨h.1, fun k q hk => by
  have h1 : k < 1 := (List.getElem?_eq_some_iff.mp hk).1
  have h2 : k = 0 := by omega
  subst h2
  cases hk
  exact h.2.1 t ty ht⟩
theorem rx_Kx.K0 (h : rx_Kx cl tys sts nst D dT ro rt base U H) : va_K D cl [] U := ⟨h.1, fun k q hk => by simp at hk⟩
theorem rx_Kx.kept (h : rx_Kx cl tys sts nst D dT ro rt base U H) {H1 : Heap} (hq : ∀ a : Nat, a < H.size → ¬ base ≤ a → H1[a]? = H[a]?) : rx_Kx cl tys sts nst D dT ro rt base U H1 :=
  ⟨h.1, h.2.1, fun id n f h1 h2 => (h.2.2.1 id n f h1 h2).kept hq, fun q hs => ⟨(h.2.2.2.1 q hs).1, (h.2.2.2.1 q hs).2.kept hq⟩, h.2.2.2.2⟩
theorem rx_Kx.warm (h : rx_Kx cl tys sts nst D dT ro rt base U H) (hn : ∀ w ∈ nst, rx_isN w = true) {V : State} (hW : U.WarmedH V.vm) : rx_Kx cl tys sts nst D dT ro rt base V H := by
  refine ⟨fun c q hq => u_Kn_moved hW.alike (h.1 c q hq), fun t ty ht => ⟨arrOfT_moved hW.alike (h.2.1 t ty ht).1, (h.2.1 t ty ht).2.moved hW.alike⟩, fun id n f h1 h2 => (h.2.2.1 id n f h1 h2).moved hW.alike, fun q hs => ⟨(h.2.2.2.1 q hs).1, (h.2.2.2.1 q hs).2.moved hW.alike⟩, fun w hw => ?_⟩
  have h1 := hn w hw
  have h2 := h.2.2.2.2 w hw
  rcases rx_isN_cases h1 with ⟨a, b, c, d, e, f, rfl⟩ | ⟨a, b, c, d, rfl⟩ | ⟨t, rfl⟩
  · exact h2.warmF hW
  · exact h2.warmM hW
  · exact rx_ao_moved hW.alike h2
theorem rx_Kx.same (h : rx_Kx cl tys sts nst D dT ro rt base U H) (hn : ∀ w ∈ nst, rx_isN w = true) {V : State} (hV : U.vm = V.vm) : rx_Kx cl tys sts nst D dT ro rt base V H := by
  have ha : U.vm.Alike V.vm := hV ▸ Vm.Alike.refl U.vm
  exact ⟨fun c q hq => u_Kn_moved ha (h.1 c q hq), fun t ty ht => ⟨arrOfT_moved ha (h.2.1 t ty ht).1, (h.2.1 t ty ht).2.moved ha⟩, fun id n f h1 h2 => (h.2.2.1 id n f h1 h2).moved ha, fun q hs => ⟨(h.2.2.2.1 q hs).1, (h.2.2.2.1 q hs).2.moved ha⟩, fun w hw => by
    have h2 := h.2.2.2.2 w hw
    rcases rx_isN_cases (hn w hw) with ⟨a, b, c, d, e, f, rfl⟩ | ⟨a, b, c, d, rfl⟩ | ⟨t, rfl⟩
    · exact va_Nw.same rfl hV h2
    · exact va_Nw.same rfl hV h2
    · exact rx_ao_moved ha h2⟩
end RXK
/-- what the links of the pools must be: each by words of the tables 'all', or by a word 'nst' between nest mates -/
def rx_GF (all nst : List Cond) (cl : List vw_C) (own : String) (ix ci k : Nat) (ty : FieldType) (fl : Nat) : Prop := ∃ (C : String) (T : u_T) (N : Nat), cl[ci]? = some (C, T, N) ∧ k < N ∧ parseFieldDescriptor (T k).2.2.1 = some ty ∧ (fl = 0 → (T k).2.2.2 = false) ∧ (fl = 1 → (T k).2.2.2 = true ∧ (T k).1 = own ∧ Cond.fieldLink own ix (T k).1 (T k).2.1 (T k).2.2.1 ∈ all) ∧
  (Cond.fieldLink own ix (T k).1 (T k).2.1 (T k).2.2.1 ∈ all ∨ ∃ host : String, Cond.fieldLinkNest own ix (T k).1 (T k).2.1 (T k).2.2.1 host ∈ nst)
def rx_GC (all : List Cond) (q : vw_C) : Prop := (∀ w ∈ u_ws q.1 q.2.1 q.2.2, w ∈ all) ∧ (∃ ty0 : Nat → FieldType, ∀ k, k < q.2.2 → parseFieldDescriptor (q.2.1 k).2.2.1 = some (ty0 k)) ∧ (∀ a, a < q.2.2 → ∀ b, b < q.2.2 → a ≠ b → (q.2.1 a).2.1 ≠ (q.2.1 b).2.1) ∧ Cond.instantiable q.1 q.2.2 ∈ all ∧ Cond.initialized q.1 ∈ all
section RXA
variable (p : Program) (l : Launch) (e : Env) (R : Room) (s : State) (m : MethodId) (args : Array Value) (below : List Frame) (meth : Method) (c : Code) (Q : State → Prop)
variable (cl : List vw_C) (D : va_G) (dT : Nat → ClassId) (ro : Nat → Nat) (base n0 z0 : Nat)
/-- the machine is right from this abstract point on -/
def rx_At (nL pc : Nat) (lv : rx_L) (st : List Value) (h : rx_H) : Prop := ∀ (H : Heap) (locs : List Loc) (ls : Array Slot), n0 ≤ h.length → z0 ≤ rx_sz h → rx_W D cl dT (rx_ad ro base) base h H → va_S (fun q => base ≤ q) s.heap H locs → lv_has ls nL (rx_cl2 (rx_ad ro base) lv) →
  W p l e R s m args below meth c H locs (h.length - n0) (rx_sz h - z0) Q (F0 m pc ls (st.map (rx_cv (rx_ad ro base))))
end RXA
