/-- what holds of the tables at a state, and of the read-only arrays at its heap: classes, array classes, read-only arrays, statics, links between nest mates -/
def rx_Kx (cl : List vw_C) (tys : List FieldType) (sts : List (String × String × String × Nat)) (nst : List Cond) (D : va_G) (dT : Nat → ClassId) (ro : Nat → Nat) (rt : rx_R) (base : Nat) (U : State) (H : Heap) : Prop :=
  (∀ (c : Nat) (q : vw_C), cl[c]? = some q → u_Kn U q.1 q.2.1 q.2.2 (D.1 c) (D.2 c)) ∧
  (∀ (t : Nat) (ty : FieldType), tys[t]? = some ty → ArrOfT U (dT t) ty ∧ va_RA U (dT t) ty) ∧
  (∀ (id n : Nat) (f : Nat → Int32), id < 16 → rt id = some (n, f) → va_T .int (ro id) n (fun j => .int (f j)) (fun q => base ≤ q) U H) ∧
  (∀ q ∈ sts, q.2.2.2 < 16 ∧ va_Z q.1 q.2.1 q.2.2.1 (.ref (ro q.2.2.2)) (fun q => base ≤ q) U H) ∧
  (∀ w ∈ nst, va_Nw w U)
def rx_isN (w : Cond) : Bool := match w with
  | .fieldLinkNest _ _ _ _ _ _ => true
  | .methodLinkNest _ _ _ _ => true
  | _ => false
section RXK
variable {cl : List vw_C} {tys : List FieldType} {sts : List (String × String × String × Nat)} {nst : List Cond} {D : va_G} {dT : Nat → ClassId} {ro : Nat → Nat} {rt : rx_R} {base : Nat} {U : State} {H : Heap}
theorem rx_Kx.K (h : rx_Kx cl tys sts nst D dT ro rt base U H) {t : Nat} {ty : FieldType} (ht : tys[t]? = some ty) : va_K D cl [(dT t, ty)] U := ⟨h.1, fun k q hk => by
  have h1 : k < 1 := (List.getElem?_eq_some_iff.mp hk).1
  have h2 : k = 0 := by omega
  subst h2
  cases hk
  exact h.2.1 t ty ht⟩
theorem rx_Kx.K0 (h : rx_Kx cl tys sts nst D dT ro rt base U H) : va_K D cl [] U := ⟨h.1, fun k q hk => by simp at hk⟩
theorem rx_Kx.kept (h : rx_Kx cl tys sts nst D dT ro rt base U H) {H1 : Heap} (hq : ∀ a : Nat, a < H.size → ¬ base ≤ a → H1[a]? = H[a]?) : rx_Kx cl tys sts nst D dT ro rt base U H1 :=
  ⟨h.1, h.2.1, fun id n f h1 h2 => (h.2.2.1 id n f h1 h2).kept hq, fun q hs => ⟨(h.2.2.2.1 q hs).1, (h.2.2.2.1 q hs).2.kept hq⟩, h.2.2.2.2⟩
theorem rx_Kx.warm (h : rx_Kx cl tys sts nst D dT ro rt base U H) (hn : ∀ w ∈ nst, rx_isN w = true) {V : State} (hW : U.WarmedH V.vm) : rx_Kx cl tys sts nst D dT ro rt base V H := by
  refine ⟨fun c q hq => u_Kn_moved hW.alike (h.1 c q hq), fun t ty ht => ⟨arrOfT_moved hW.alike (h.2.1 t ty ht).1, (h.2.1 t ty ht).2.moved hW.alike⟩, fun id n f h1 h2 => (h.2.2.1 id n f h1 h2).moved hW.alike, fun q hs => ⟨(h.2.2.2.1 q hs).1, (h.2.2.2.1 q hs).2.moved hW.alike⟩, fun w hw => ?_⟩
  have h1 := hn w hw
  have h2 := h.2.2.2.2 w hw
  cases w <;> first | exact h2.warmF hW | exact h2.warmM hW | exact absurd h1 (by simp [rx_isN])
theorem rx_Kx.same (h : rx_Kx cl tys sts nst D dT ro rt base U H) (hn : ∀ w ∈ nst, w.onTables = true) {V : State} (hV : U.vm = V.vm) : rx_Kx cl tys sts nst D dT ro rt base V H := by
  have ha : U.vm.Alike V.vm := hV ▸ Vm.Alike.refl U.vm
  exact ⟨fun c q hq => u_Kn_moved ha (h.1 c q hq), fun t ty ht => ⟨arrOfT_moved ha (h.2.1 t ty ht).1, (h.2.1 t ty ht).2.moved ha⟩, fun id n f h1 h2 => (h.2.2.1 id n f h1 h2).moved ha, fun q hs => ⟨(h.2.2.2.1 q hs).1, (h.2.2.2.1 q hs).2.moved ha⟩, fun w hw => va_Nw.same (hn w hw) hV (h.2.2.2.2 w hw)⟩
end RXK
/-- what the links of the pools must be: each by words of the tables 'all', or by a word 'nst' between nest mates -/
def rx_GF (all nst : List Cond) (cl : List vw_C) (own : String) (ix ci k : Nat) (ty : FieldType) (fl : Nat) : Prop := ∃ (C : String) (T : u_T) (N : Nat), cl[ci]? = some (C, T, N) ∧ k < N ∧ parseFieldDescriptor (T k).2.2.1 = some ty ∧ (fl = 0 → (T k).2.2.2 = false) ∧ (fl = 1 → (T k).2.2.2 = true ∧ (T k).1 = own ∧ Cond.fieldLink own ix (T k).1 (T k).2.1 (T k).2.2.1 ∈ all) ∧
  (Cond.fieldLink own ix (T k).1 (T k).2.1 (T k).2.2.1 ∈ all ∨ ∃ host : String, Cond.fieldLinkNest own ix (T k).1 (T k).2.1 (T k).2.2.1 host ∈ nst)
def rx_GC (all : List Cond) (q : vw_C) : Prop := (∀ w ∈ u_ws q.1 q.2.1 q.2.2, w ∈ all) ∧ (∃ ty0 : Nat → FieldType, ∀ k, k < q.2.2 → parseFieldDescriptor (q.2.1 k).2.2.1 = some (ty0 k)) ∧ (∀ a, a < q.2.2 → ∀ b, b < q.2.2 → a ≠ b → (q.2.1 a).2.1 ≠ (q.2.1 b).2.1) ∧ Cond.instantiable q.1 q.2.2 ∈ all ∧ Cond.initialized q.1 ∈ all
section RXA
variable (p : Program) (l : Launch) (e : Env) (R : Room) (s : State) (m : MethodId) (args : Array Value) (below : List Frame) (meth : Method) (c : Code) (Q : State → Prop)
variable (cl : List vw_C) (D : va_G) (dT : Nat → ClassId) (ro : Nat → Nat) (base n0 z0 : Nat)
/-- the machine is right from this abstract point on -/
def rx_At (nL pc : Nat) (lv : rx_L) (st : List Value) (h : rx_H) : Prop := ∀ (H : Heap) (locs : List Loc) (ls : Array Slot), n0 ≤ h.length → z0 ≤ rx_sz h → rx_W D cl dT (rx_ad ro base) base h H → va_S (fun q => base ≤ q) s.heap H locs → lv_has ls nL (rx_cl2 (rx_ad ro base) lv) →
  W p l e R s m args below meth c H locs (h.length - n0) (rx_sz h - z0) Q (F0 m pc ls (st.map (rx_cv (rx_ad ro base))))
end RXA
