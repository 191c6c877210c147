def rx_all : List Cond := lw_tbl.filter goodWord
def rx_nst : List Cond := tables_1.filter rx_isN
theorem rx_inT {i : Nat} {w : Cond} (h : tables_1[i]? = some w) (hg : goodWord w = true) : w ∈ rx_all := List.mem_filter.mpr ⟨List.mem_append_right _ (List.mem_of_getElem? h), hg⟩
theorem rx_inS {i : Nat} {q : MethodName × Nat} (h : lw_privs[i]? = some q) : Cond.selects q.1.cls q.1 q.1 ∈ rx_all := List.mem_filter.mpr ⟨List.mem_append_left _ (List.mem_map.mpr ⟨q, List.mem_of_getElem? h, rfl⟩), rfl⟩
theorem rx_inN {i : Nat} {w : Cond} (h : tables_1[i]? = some w) (hg : rx_isN w = true) : w ∈ rx_nst := List.mem_filter.mpr ⟨List.mem_of_getElem? h, hg⟩
theorem rx_GW0 : rx_GW rx_all rx_nst := ⟨fun w h => good_of_word (List.mem_filter.mp h).2, fun w h => (List.mem_filter.mp h).2, fun w h => (List.mem_filter.mp h).2⟩
theorem rx_fc {α : Type} {P : α → Prop} {a : α} {l : List α} (h : P a) (t : ∀ e ∈ l, P e) : ∀ e ∈ a :: l, P e := List.forall_mem_cons.mpr ⟨h, t⟩
theorem rx_fn {α : Type} {P : α → Prop} : ∀ e ∈ ([] : List α), P e := fun _ h => absurd h List.not_mem_nil
def rx_T0 : u_T := fun k => match k with
  | 0 => ("AngleChains", "figure", "LAngleChains$Figure;", true)
  | 1 => ("AngleChains", "hypotheses", "[I", true)
  | 2 => ("AngleChains", "deduction", "LAngleChains$Deduction;", true)
  | 3 => ("AngleChains", "hypothesisCount", "I", false)
  | 4 => ("AngleChains", "onBits", "I", false)
  | 5 => ("AngleChains", "leftBits", "I", false)
  | 6 => ("AngleChains", "draft", "I", false)
  | _ => ("AngleChains", "draftCount", "I", false)
def rx_y0 : Nat → FieldType := fun k => match k with
  | 0 => .object "AngleChains$Figure"
  | 1 => .array (.int)
  | 2 => .object "AngleChains$Deduction"
  | 3 => .int
  | 4 => .int
  | 5 => .int
  | 6 => .int
  | _ => .int
def rx_T1 : u_T := fun k => match k with
  | 0 => ("AngleChains$Figure", "xs", "[I", true)
  | 1 => ("AngleChains$Figure", "ys", "[I", true)
  | _ => ("AngleChains$Figure", "size", "I", false)
def rx_y1 : Nat → FieldType := fun k => match k with
  | 0 => .array (.int)
  | 1 => .array (.int)
  | _ => .int
def rx_T2 : u_T := fun k => match k with
  | 0 => ("AngleChains$Deduction", "figure", "LAngleChains$Figure;", true)
  | 1 => ("AngleChains$Deduction", "hypotheses", "[I", true)
  | 2 => ("AngleChains$Deduction", "cases", "LAngleChains$Cases;", true)
  | 3 => ("AngleChains$Deduction", "rows", "LAngleChains$Rows;", true)
  | 4 => ("AngleChains$Deduction", "lineOf", "[I", true)
  | 5 => ("AngleChains$Deduction", "columnOf", "[I", true)
  | 6 => ("AngleChains$Deduction", "lengthOf", "[I", true)
  | 7 => ("AngleChains$Deduction", "circleOf", "[I", true)
  | 8 => ("AngleChains$Deduction", "open", "[I", true)
  | 9 => ("AngleChains$Deduction", "openCount", "I", false)
  | 10 => ("AngleChains$Deduction", "hasJoined", "Z", false)
  | 11 => ("AngleChains$Deduction", "closedSize", "I", false)
  | _ => ("AngleChains$Deduction", "closedBits", "I", false)
def rx_y2 : Nat → FieldType := fun k => match k with
  | 0 => .object "AngleChains$Figure"
  | 1 => .array (.int)
  | 2 => .object "AngleChains$Cases"
  | 3 => .object "AngleChains$Rows"
  | 4 => .array (.int)
  | 5 => .array (.int)
  | 6 => .array (.int)
  | 7 => .array (.int)
  | 8 => .array (.int)
  | 9 => .int
  | 10 => .boolean
  | 11 => .int
  | _ => .int
def rx_T3 : u_T := fun k => match k with
  | 0 => ("AngleChains$Rows", "basis", "[[J", true)
  | 1 => ("AngleChains$Rows", "row", "[J", true)
  | 2 => ("AngleChains$Rows", "rank", "I", false)
  | _ => ("AngleChains$Rows", "hasGrown", "Z", false)
def rx_y3 : Nat → FieldType := fun k => match k with
  | 0 => .array (.array (.long))
  | 1 => .array (.long)
  | 2 => .int
  | _ => .boolean
def rx_T4 : u_T := fun k => match k with
  | 0 => ("AngleChains$Cases", "figure", "LAngleChains$Figure;", true)
  | 1 => ("AngleChains$Cases", "packed", "[I", true)
  | _ => ("AngleChains$Cases", "count", "I", false)
def rx_y4 : Nat → FieldType := fun k => match k with
  | 0 => .object "AngleChains$Figure"
  | 1 => .array (.int)
  | _ => .int
def rx_T5 : u_T := fun k => match k with
  | 0 => ("AngleChainsModel", "thrown", "I", false)
  | 1 => ("AngleChainsModel", "n", "I", false)
  | 2 => ("AngleChainsModel", "px", "[I", true)
  | 3 => ("AngleChainsModel", "py", "[I", true)
  | 4 => ("AngleChainsModel", "draft", "[I", true)
  | 5 => ("AngleChainsModel", "drafted", "I", false)
  | 6 => ("AngleChainsModel", "facts", "I", false)
  | 7 => ("AngleChainsModel", "factKind", "[I", true)
  | 8 => ("AngleChainsModel", "factPoint", "[I", true)
  | 9 => ("AngleChainsModel", "isOn", "[Z", true)
  | 10 => ("AngleChainsModel", "plays", "[Z", true)
  | 11 => ("AngleChainsModel", "needed", "[I", true)
  | 12 => ("AngleChainsModel", "needs", "I", false)
  | 13 => ("AngleChainsModel", "fresh", "Z", false)
  | 14 => ("AngleChainsModel", "line", "[I", true)
  | 15 => ("AngleChainsModel", "circle", "[I", true)
  | 16 => ("AngleChainsModel", "same", "[I", true)
  | 17 => ("AngleChainsModel", "news", "Z", false)
  | 18 => ("AngleChainsModel", "column", "[I", true)
  | 19 => ("AngleChainsModel", "columns", "I", false)
  | 20 => ("AngleChainsModel", "moved", "Z", false)
  | 21 => ("AngleChainsModel", "steps", "[J", true)
  | 22 => ("AngleChainsModel", "hasStep", "[Z", true)
  | 23 => ("AngleChainsModel", "row", "[J", true)
  | 24 => ("AngleChainsModel", "other", "[J", true)
  | 25 => ("AngleChainsModel", "oldSteps", "[J", true)
  | 26 => ("AngleChainsModel", "hadStep", "[Z", true)
  | 27 => ("AngleChainsModel", "oldColumn", "[I", true)
  | 28 => ("AngleChainsModel", "toColumn", "[I", true)
  | 29 => ("AngleChainsModel", "reduced", "[J", true)
  | 30 => ("AngleChainsModel", "numberOf", "[I", true)
  | 31 => ("AngleChainsModel", "table", "[I", true)
  | 32 => ("AngleChainsModel", "numbers", "I", false)
  | _ => ("AngleChainsModel", "quarter", "I", false)
def rx_y5 : Nat → FieldType := fun k => match k with
  | 0 => .int
  | 1 => .int
  | 2 => .array (.int)
  | 3 => .array (.int)
  | 4 => .array (.int)
  | 5 => .int
  | 6 => .int
  | 7 => .array (.int)
  | 8 => .array (.int)
  | 9 => .array (.boolean)
  | 10 => .array (.boolean)
  | 11 => .array (.int)
  | 12 => .int
  | 13 => .boolean
  | 14 => .array (.int)
  | 15 => .array (.int)
  | 16 => .array (.int)
  | 17 => .boolean
  | 18 => .array (.int)
  | 19 => .int
  | 20 => .boolean
  | 21 => .array (.long)
  | 22 => .array (.boolean)
  | 23 => .array (.long)
  | 24 => .array (.long)
  | 25 => .array (.long)
  | 26 => .array (.boolean)
  | 27 => .array (.int)
  | 28 => .array (.int)
  | 29 => .array (.long)
  | 30 => .array (.int)
  | 31 => .array (.int)
  | 32 => .int
  | _ => .int
def rx_cl : List vw_C := [("AngleChains", rx_T0, 8), ("AngleChains$Figure", rx_T1, 3), ("AngleChains$Deduction", rx_T2, 13), ("AngleChains$Rows", rx_T3, 4), ("AngleChains$Cases", rx_T4, 3), ("AngleChainsModel", rx_T5, 34)]
def rx_cds : List (List Value) := [[.null, .null, .null, .int 0, .int 0, .int 0, .int 0, .int 0], [.null, .null, .int 0], [.null, .null, .null, .null, .null, .null, .null, .null, .null, .int 0, .int 0, .int 0, .int 0], [.null, .null, .int 0, .int 0], [.null, .null, .int 0], [.int 0, .int 0, .null, .null, .null, .int 0, .int 0, .null, .null, .null, .null, .null, .int 0, .int 0, .null, .null, .null, .int 0, .null, .int 0, .int 0, .null, .null, .null, .null, .null, .null, .null, .null, .null, .null, .null, .int 0, .int 0]]
def rx_tys : List FieldType := [.int, .long, .boolean, .array .long]
def rx_sts : List (String × String × String × Nat) := [("AngleChains", "POINTS_OF_KIND", "[I", 1), ("AngleChains", "PAIR_BITS", "[I", 2), ("AngleChains", "TRIPLES", "[I", 3), ("AngleChains", "PAIR_NUMBERS", "[I", 4)]
