/-! A CHECKER OF METHODS. What is known at a pc: intervals of locals and stack; what is known of all cells at all times (rx_I); a rank that falls with every step. The checker runs in the kernel; rx_chk_ok says what its word is worth. -/
/-- what is known of a value: an int between two; a reference between two ids; a long (0 any, 1 not 0, 2 zero) -/
abbrev rx_V : Type := (Int × Int) ⊕ (Nat × Nat) ⊕ Nat
/-- where a value on the stack comes from: a local; a comparison of a long local with 0 -/
abbrev rx_K : Type := Option (Nat ⊕ Nat)
abbrev rx_AL : Type := List (Nat × rx_V)
abbrev rx_AS : Type := List (rx_V × rx_K)
abbrev rx_St : Type := rx_AL × rx_AS
/-- what is known of a cell at all times: an object (class, fields); an int array (length, between two); a long array; a boolean array; an array of arrays (length, first id) -/
abbrev rx_I : Type := (Nat × List rx_V) ⊕ (Nat × Int × Int) ⊕ Nat ⊕ Nat ⊕ (Nat × Nat)
def rx_vin (a : rx_V) (v : Value) : Prop := match a with
  | .inl q => ∃ x : Int32, v = .int x ∧ q.1 ≤ x.toInt ∧ x.toInt ≤ q.2
  | .inr (.inl q) => ∃ k : Nat, v = .ref k ∧ q.1 ≤ k ∧ k ≤ q.2
  | .inr (.inr m) => ∃ x : Int64, v = .long x ∧ (m = 1 → ¬ x = 0) ∧ (m = 2 → x = 0)
def rx_vle (a b : rx_V) : Bool := match a, b with
  | .inl p, .inl q => decide (q.1 ≤ p.1) && decide (p.2 ≤ q.2)
  | .inr (.inl p), .inr (.inl q) => Nat.ble q.1 p.1 && Nat.ble p.2 q.2
  | .inr (.inr m), .inr (.inr n) => Nat.beq n 0 || Nat.beq m n
  | _, _ => false
theorem rx_vle_in {a b : rx_V} {v : Value} (h : rx_vle a b = true) (hv : rx_vin a v) : rx_vin b v := by
  rcases a with p | p | m <;> rcases b with q | q | n <;> simp only [rx_vle, Bool.and_eq_true, Bool.or_eq_true, decide_eq_true_eq, Bool.false_eq_true] at h
  · obtain ⟨x, rfl, h1, h2⟩ := hv
    exact ⟨x, rfl, Int.le_trans h.1 h1, Int.le_trans h2 h.2⟩
  · obtain ⟨k, rfl, h1, h2⟩ := hv
    exact ⟨k, rfl, Nat.le_trans (Nat.le_of_ble_eq_true h.1) h1, Nat.le_trans h2 (Nat.le_of_ble_eq_true h.2)⟩
  · obtain ⟨x, rfl, h1, h2⟩ := hv
    rcases h with h | h
    · have e := Nat.eq_of_beq_eq_true h
      subst e
      exact ⟨x, rfl, fun z => absurd z (by decide), fun z => absurd z (by decide)⟩
    · have e := Nat.eq_of_beq_eq_true h
      subst e
      exact ⟨x, rfl, h1, h2⟩
def rx_cin (ic : rx_I) (c : rx_C) : Prop := match ic with
  | .inl (ci, fs) => ∃ vs : List Value, c = .inr (ci, vs) ∧ vs.length = fs.length ∧ ∀ (k : Nat) (a : rx_V), fs[k]? = some a → ∃ v, vs[k]? = some v ∧ rx_vin a v
  | .inr (.inl (n, lo, hi)) => ∃ f : Nat → Int32, c = .inl (0, n, .inl f) ∧ ∀ j, j < n → lo ≤ (f j).toInt ∧ (f j).toInt ≤ hi
  | .inr (.inr (.inl n)) => ∃ f : Nat → Int64, c = .inl (1, n, .inr (.inl f))
  | .inr (.inr (.inr (.inl n))) => ∃ f : Nat → Int32, c = .inl (2, n, .inl f) ∧ ∀ j, j < n → 0 ≤ (f j).toInt ∧ (f j).toInt ≤ 1
  | .inr (.inr (.inr (.inr (n, base)))) => ∃ f : Nat → Option Nat, c = .inl (3, n, .inr (.inr (.inr (.inr f)))) ∧ ∀ j, j < n → f j = some (base + j)
def rx_hin (I : List rx_I) (h : rx_H) : Prop := h.length = I.length ∧ ∀ (k : Nat) (ic : rx_I), I[k]? = some ic → ∃ c, h[k]? = some c ∧ rx_cin ic c
def rx_ag : rx_AL → Nat → Option rx_V
  | [], _ => none
  | q :: r, i => bif Nat.beq q.1 i then some q.2 else rx_ag r i
def rx_del : rx_AL → Nat → rx_AL
  | [], _ => []
  | q :: r, i => bif Nat.beq q.1 i then rx_del r i else q :: rx_del r i
theorem rx_del_ag : ∀ (L : rx_AL) (i j : Nat) (a : rx_V), rx_ag (rx_del L i) j = some a → j ≠ i ∧ rx_ag L j = some a
  | [], i, j, a, h => by cases h
  | q :: r, i, j, a, h => by
    unfold rx_del at h
    cases hq : Nat.beq q.1 i with
    | true =>
      rw [hq] at h
      obtain ⟨h1, h2⟩ := rx_del_ag r i j a h
      have e := Nat.eq_of_beq_eq_true hq
      refine ⟨h1, ?_⟩
      unfold rx_ag
      have : Nat.beq q.1 j = false := by
        cases hb : Nat.beq q.1 j with
        | false => rfl
        | true => exact absurd ((Nat.eq_of_beq_eq_true hb).symm.trans e) h1
      rw [this]
      exact h2
    | false =>
      rw [hq] at h
      simp only [cond_false] at h
      unfold rx_ag at h ⊢
      cases hb : Nat.beq q.1 j with
      | true =>
        rw [hb] at h
        have e := Nat.eq_of_beq_eq_true hb
        exact ⟨fun z => Nat.ne_of_beq_eq_false hq (e.trans z), h⟩
      | false =>
        rw [hb] at h
        exact rx_del_ag r i j a h
def rx_lin (L : rx_AL) (lv : rx_L) : Prop := ∀ (i : Nat) (a : rx_V), rx_ag L i = some a → ∃ v, rx_lk lv i = some v ∧ rx_vin a v
def rx_tin (lv : rx_L) (t : rx_K) (v : Value) : Prop := match t with
  | none => True
  | some (.inl i) => rx_lk lv i = some v
  | some (.inr i) => ∃ (x : Int64) (n : Int32), rx_lk lv i = some (.long x) ∧ v = .int n ∧ (n = 0 ↔ x = 0)
def rx_kin (lv : rx_L) : rx_AS → List Value → Prop
  | [], [] => True
  | a :: s, v :: t => rx_vin a.1 v ∧ rx_tin lv a.2 v ∧ rx_kin lv s t
  | _, _ => False
def rx_sin (S : rx_St) (lv : rx_L) (st : List Value) : Prop := rx_lin S.1 lv ∧ rx_kin lv S.2 st
/-- what is fixed: the cells, the read-only tables, which arrays and fields the checked code may write, what else is known of the read-only tables -/
abbrev rx_E : Type := List rx_I × (Nat → Option (Nat × Int × Int)) × (Nat → Bool) × (Nat → Nat → Bool) × (rx_R → Prop)
/-- what a step does to the locals: nothing that counts; one grows by a number; one is set -/
abbrev rx_U : Type := Option ((Nat × Int) ⊕ Nat)
abbrev rx_Su : Type := List (Nat × rx_St × rx_U)
def rx_fits (lo hi : Int) : Bool := decide (-2147483648 ≤ lo) && decide (hi ≤ 2147483647)
def rx_full : rx_V := .inl (-2147483648, 2147483647)
def rx_isL (a : rx_V) : Bool := match a with
  | .inr (.inr _) => true
  | _ => false
/-- a store into local i takes away what stood there, and a long that begins one place before -/
def rx_kill (L : rx_AL) (i : Nat) : rx_AL := match i with
  | 0 => rx_del L 0
  | j + 1 => match rx_ag L j with
    | some a => bif rx_isL a then rx_del (rx_del L (j + 1)) j else rx_del L (j + 1)
    | none => rx_del L (j + 1)
def rx_near (i j : Nat) : Bool := Nat.beq i j || Nat.beq (i + 1) j || Nat.beq i (j + 1)
def rx_tk (i : Nat) (t : rx_K) : rx_K := match t with
  | none => none
  | some (.inl j) => bif rx_near i j then none else t
  | some (.inr j) => bif rx_near i j then none else t
def rx_tks (i : Nat) (s : rx_AS) : rx_AS := s.map (fun q => (q.1, rx_tk i q.2))
/-- the interval of an operation -/
def rx_oadd (a b c d : Int) : rx_V := bif rx_fits (a + c) (b + d) then .inl (a + c, b + d) else rx_full
def rx_osub (a b c d : Int) : rx_V := bif rx_fits (a - d) (b - c) then .inl (a - d, b - c) else rx_full
def rx_omul (a b c d : Int) : rx_V := bif decide (0 ≤ a) && decide (0 ≤ c) && decide (b * d ≤ 2147483647) then .inl (a * c, b * d) else rx_full
def rx_oand (a b c d : Int) : rx_V := bif decide (0 ≤ a) then (bif decide (0 ≤ c) && decide (d ≤ b) then .inl (0, d) else .inl (0, b)) else bif decide (0 ≤ c) then .inl (0, d) else rx_full
def rx_pw : Nat → Int → Nat
  | 0, _ => 0
  | f + 1, x => bif decide (x < 2) then 1 else rx_pw f (x / 2) + 1
def rx_oor (a b c d : Int) : rx_V := bif decide (0 ≤ a) && decide (0 ≤ c) && Nat.ble (rx_pw 40 b) 31 && Nat.ble (rx_pw 40 d) 31 && decide (b < 2 ^ (Nat.max (rx_pw 40 b) (rx_pw 40 d))) && decide (d < 2 ^ (Nat.max (rx_pw 40 b) (rx_pw 40 d))) then .inl (0, 2 ^ (Nat.max (rx_pw 40 b) (rx_pw 40 d)) - 1) else rx_full
def rx_oshl (a b c d : Int) : rx_V := bif decide (a = 1) && decide (b = 1) && decide (0 ≤ c) && decide (d ≤ 30) then .inl (1, 2 ^ d.toNat) else rx_full
/-- what a comparison that came out so says of both sides -/
def rx_rf (c : ClassFile.Cond) (t : Bool) (a b p q : Int) : (Int × Int) × (Int × Int) := match c, t with
  | .eq, true => ((max a p, min b q), (max a p, min b q))
  | .ne, false => ((max a p, min b q), (max a p, min b q))
  | .ne, true => ((bif decide (p = q) && decide (a = p) then a + 1 else a, bif decide (p = q) && decide (b = p) then b - 1 else b), (p, q))
  | .eq, false => ((bif decide (p = q) && decide (a = p) then a + 1 else a, bif decide (p = q) && decide (b = p) then b - 1 else b), (p, q))
  | .lt, true => ((a, min b (q - 1)), (max p (a + 1), q))
  | .ge, false => ((a, min b (q - 1)), (max p (a + 1), q))
  | .ge, true => ((max a p, b), (p, min q b))
  | .lt, false => ((max a p, b), (p, min q b))
  | .gt, true => ((max a (p + 1), b), (p, min q (b - 1)))
  | .le, false => ((max a (p + 1), b), (p, min q (b - 1)))
  | .le, true => ((a, min b q), (max p a, q))
  | .gt, false => ((a, min b q), (max p a, q))
def rx_up (L : rx_AL) (t : rx_K) (w : Int × Int) : rx_AL := match t with
  | some (.inl i) => (i, .inl w) :: L
  | _ => L
def rx_upz (L : rx_AL) (t : rx_K) (c : ClassFile.Cond) (b : Bool) : rx_AL := match t, c, b with
  | some (.inr i), .eq, false => (i, .inr (.inr 1)) :: L
  | some (.inr i), .ne, true => (i, .inr (.inr 1)) :: L
  | _, _, _ => L
/-- a jump's target -/
def rx_tg (pc : Nat) (off : Int) : Option Nat := bif decide (0 ≤ (pc : Int) + off) then some ((pc : Int) + off).toNat else none
def rx_1 (pc : Nat) (S : rx_St) : Option rx_Su := some [(pc, S, none)]
def rx_push (pc : Nat) (S : rx_St) (a : rx_V) (t : rx_K) : Option rx_Su := some [(pc, (S.1, (a, t) :: S.2), none)]
def rx_a2i (f : Int → Int → Int → Int → rx_V) (pc : Nat) (S : rx_St) : Option rx_Su := match S.2 with
  | (.inl (c, d), _) :: (.inl (a, b), _) :: s => rx_push (pc + 1) (S.1, s) (f a b c d) none
  | _ => none
def rx_a2l (pc : Nat) (S : rx_St) : Option rx_Su := match S.2 with
  | (a, _) :: (b, _) :: s => bif rx_isL a && rx_isL b then rx_push (pc + 1) (S.1, s) (.inr (.inr 0)) none else none
  | _ => none
def rx_adl (pc : Nat) (S : rx_St) : Option rx_Su := match S.2 with
  | (.inr (.inr 1), _) :: (b, _) :: s => bif rx_isL b then rx_push (pc + 1) (S.1, s) (.inr (.inr 0)) none else none
  | _ => none
/-- a division of ints: the divisor is above 0 -/
def rx_ari (pc : Nat) (S : rx_St) : Option rx_Su := match S.2 with
  | (.inl q, _) :: (.inl _, _) :: s => bif decide (0 < q.1) then rx_push (pc + 1) (S.1, s) rx_full none else none
  | _ => none
def rx_cat2 (a : rx_V) : Nat := bif rx_isL a then 2 else 1
def rx_eq1 (a : rx_V) : Bool := !rx_isL a
/-- all cells of these ids are long arrays of n places, and may be written (if w) -/
def rx_allj (E : rx_E) (w : Bool) (n : Nat) : Nat → Nat → Bool
  | _, 0 => true
  | k, c + 1 => (match E.1[k]? with
    | some (.inr (.inr (.inl m))) => Nat.beq m n && (!w || E.2.2.1 k)
    | _ => false) && rx_allj E w n (k + 1) c
def rx_jn (E : rx_E) (lo : Nat) : Option Nat := match E.1[lo - 16]? with
  | some (.inr (.inr (.inl n))) => bif Nat.ble 16 lo then some n else none
  | _ => none
def rx_ix (a b : Int) (n : Nat) : Bool := decide (0 ≤ a) && decide (b < (n : Int))
def rx_aial (E : rx_E) (pc : Nat) (S : rx_St) : Option rx_Su := match S.2 with
  | (.inl (a, b), _) :: (.inr (.inl (lo, hi)), _) :: s => bif Nat.beq lo hi then (bif Nat.blt lo 16 then (match E.2.1 lo with
      | some (n, p, q) => bif rx_ix a b n then rx_push (pc + 1) (S.1, s) (.inl (p, q)) none else none
      | none => none)
    else match E.1[lo - 16]? with
      | some (.inr (.inl (n, p, q))) => bif rx_ix a b n then rx_push (pc + 1) (S.1, s) (.inl (p, q)) none else none
      | _ => none) else none
  | _ => none
def rx_alal (E : rx_E) (pc : Nat) (S : rx_St) : Option rx_Su := match S.2 with
  | (.inl (a, b), _) :: (.inr (.inl (lo, hi)), _) :: s => match rx_jn E lo with
    | some n => bif rx_ix a b n && rx_allj E false n (lo - 16) (hi + 1 - lo) then rx_push (pc + 1) (S.1, s) (.inr (.inr 0)) none else none
    | none => none
  | _ => none
def rx_azal (E : rx_E) (pc : Nat) (S : rx_St) : Option rx_Su := match S.2 with
  | (.inl (a, b), _) :: (.inr (.inl (lo, hi)), _) :: s => bif Nat.beq lo hi && Nat.ble 16 lo then (match E.1[lo - 16]? with
      | some (.inr (.inr (.inr (.inl n)))) => bif rx_ix a b n then rx_push (pc + 1) (S.1, s) (.inl (0, 1)) none else none
      | _ => none) else none
  | _ => none
def rx_aqal (E : rx_E) (pc : Nat) (S : rx_St) : Option rx_Su := match S.2 with
  | (.inl (a, b), _) :: (.inr (.inl (lo, hi)), _) :: s => bif Nat.beq lo hi && Nat.ble 16 lo then (match E.1[lo - 16]? with
      | some (.inr (.inr (.inr (.inr (n, base))))) => bif rx_ix a b n then rx_push (pc + 1) (S.1, s) (.inr (.inl (base + a.toNat, base + b.toNat))) none else none
      | _ => none) else none
  | _ => none
def rx_aias (E : rx_E) (pc : Nat) (S : rx_St) : Option rx_Su := match S.2 with
  | (.inl (x, y), _) :: (.inl (a, b), _) :: (.inr (.inl (lo, hi)), _) :: s => bif Nat.beq lo hi && Nat.ble 16 lo && E.2.2.1 (lo - 16) then (match E.1[lo - 16]? with
      | some (.inr (.inl (n, p, q))) => bif rx_ix a b n && decide (p ≤ x) && decide (y ≤ q) then rx_1 (pc + 1) (S.1, s) else none
      | _ => none) else none
  | _ => none
def rx_azas (E : rx_E) (pc : Nat) (S : rx_St) : Option rx_Su := match S.2 with
  | (.inl (x, y), _) :: (.inl (a, b), _) :: (.inr (.inl (lo, hi)), _) :: s => bif Nat.beq lo hi && Nat.ble 16 lo && E.2.2.1 (lo - 16) then (match E.1[lo - 16]? with
      | some (.inr (.inr (.inr (.inl n)))) => bif rx_ix a b n && decide (0 ≤ x) && decide (y ≤ 1) then rx_1 (pc + 1) (S.1, s) else none
      | _ => none) else none
  | _ => none
def rx_alas (E : rx_E) (pc : Nat) (S : rx_St) : Option rx_Su := match S.2 with
  | (v, _) :: (.inl (a, b), _) :: (.inr (.inl (lo, hi)), _) :: s => match rx_jn E lo with
    | some n => bif rx_isL v && rx_ix a b n && rx_allj E true n (lo - 16) (hi + 1 - lo) then rx_1 (pc + 1) (S.1, s) else none
    | none => none
  | _ => none
def rx_aaln (E : rx_E) (pc : Nat) (S : rx_St) : Option rx_Su := match S.2 with
  | (.inr (.inl (lo, hi)), _) :: s => bif Nat.blt lo 16 then (bif Nat.beq lo hi then (match E.2.1 lo with
      | some (n, _, _) => bif Nat.ble n 2147483647 then rx_push (pc + 1) (S.1, s) (.inl (n, n)) none else none
      | none => none) else none)
    else match rx_jn E lo with
      | some n => bif Nat.ble n 2147483647 && rx_allj E false n (lo - 16) (hi + 1 - lo) then rx_push (pc + 1) (S.1, s) (.inl (n, n)) none else none
      | none => none
  | _ => none
def rx_agf (E : rx_E) (o : Option (Nat × Nat × FieldType × Nat)) (pc : Nat) (S : rx_St) : Option rx_Su := match S.2, o with
  | (.inr (.inl (lo, hi)), _) :: s, some (ci, k, _, _) => bif Nat.beq lo hi && Nat.ble 16 lo then (match E.1[lo - 16]? with
      | some (.inl (cj, fs)) => bif Nat.beq cj ci then (match fs[k]? with
        | some a => rx_push (pc + 3) (S.1, s) a none
        | none => none) else none
      | _ => none) else none
  | _, _ => none
/-- a value of this kind fits a field of this type -/
def rx_afit (ty : FieldType) (a : rx_V) : Bool := match ty, a with
  | .int, .inl _ => true
  | .boolean, .inl (lo, hi) => decide (0 ≤ lo) && decide (hi ≤ 1)
  | _, _ => false
def rx_apf (E : rx_E) (o : Option (Nat × Nat × FieldType × Nat)) (pc : Nat) (S : rx_St) : Option rx_Su := match S.2, o with
  | (x, _) :: (.inr (.inl (lo, hi)), _) :: s, some (ci, k, ty, fl) => bif Nat.beq lo hi && Nat.ble 16 lo && Nat.beq fl 0 && rx_afit ty x && E.2.2.2.1 (lo - 16) k then (match E.1[lo - 16]? with
      | some (.inl (cj, fs)) => bif Nat.beq cj ci then (match fs[k]? with
        | some a => bif rx_vle x a then rx_1 (pc + 3) (S.1, s) else none
        | none => none) else none
      | _ => none) else none
  | _, _ => none
def rx_acm (pc : Nat) (S : rx_St) : Option rx_Su := match S.2 with
  | (.inr (.inr 2), _) :: (b, some (.inl i)) :: s => bif rx_isL b then rx_push (pc + 1) (S.1, s) (.inl (-1, 1)) (some (.inr i)) else none
  | (a, _) :: (b, _) :: s => bif rx_isL a && rx_isL b then rx_push (pc + 1) (S.1, s) (.inl (-1, 1)) none else none
  | _ => none
/-- both roads of a branch; a road with an empty interval is none -/
def rx_rd (pc : Nat) (L : rx_AL) (s : rx_AS) (x y : Int × Int) : rx_Su := bif decide (x.1 ≤ x.2) && decide (y.1 ≤ y.2) then [(pc, (L, s), none)] else []
def rx_ab1 (c : ClassFile.Cond) (off : Int) (pc : Nat) (S : rx_St) : Option rx_Su := match S.2, rx_tg pc off with
  | (.inl (a, b), t) :: s, some g => some (
      rx_rd g (rx_upz (rx_up S.1 t (rx_rf c true a b 0 0).1) t c true) s (rx_rf c true a b 0 0).1 (rx_rf c true a b 0 0).2 ++
      rx_rd (pc + 3) (rx_upz (rx_up S.1 t (rx_rf c false a b 0 0).1) t c false) s (rx_rf c false a b 0 0).1 (rx_rf c false a b 0 0).2)
  | _, _ => none
def rx_ab2 (c : ClassFile.Cond) (off : Int) (pc : Nat) (S : rx_St) : Option rx_Su := match S.2, rx_tg pc off with
  | (.inl (p, q), u) :: (.inl (a, b), t) :: s, some g => some (
      rx_rd g (rx_up (rx_up S.1 t (rx_rf c true a b p q).1) u (rx_rf c true a b p q).2) s (rx_rf c true a b p q).1 (rx_rf c true a b p q).2 ++
      rx_rd (pc + 3) (rx_up (rx_up S.1 t (rx_rf c false a b p q).1) u (rx_rf c false a b p q).2) s (rx_rf c false a b p q).1 (rx_rf c false a b p q).2)
  | _, _ => none
def rx_tgs (pc : Nat) (S : rx_St) : List Int → Option rx_Su
  | [] => some []
  | o :: r => match rx_tg pc o, rx_tgs pc S r with
    | some g, some l => some ((g, S, none) :: l)
    | _, _ => none
def rx_ats (dflt lo hi : Int) (offs : Array Int) (pc : Nat) (S : rx_St) : Option rx_Su := match S.2 with
  | (.inl (_, _), _) :: s => bif decide (hi - lo + 1 ≤ (offs.size : Int)) then rx_tgs pc (S.1, s) (dflt :: offs.toList) else none
  | _ => none
def rx_ain (nL i : Nat) (n : Int) (pc : Nat) (S : rx_St) : Option rx_Su := match rx_ag S.1 i with
  | some (.inl (a, b)) => bif Nat.blt i nL && rx_fits n n then (bif rx_fits (a + n) (b + n) then some [(pc + 3, ((i, .inl (a + n, b + n)) :: rx_kill S.1 i, rx_tks i S.2), some (.inl (i, n)))] else some [(pc + 3, ((i, rx_full) :: rx_kill S.1 i, rx_tks i S.2), some (.inr i))]) else none
  | _ => none
def rx_als (dflt : Int) (ps : Array (Int × Int)) (pc : Nat) (S : rx_St) : Option rx_Su := match S.2 with
  | (.inl (_, _), _) :: s => bif (ps.toList.zip (ps.toList.drop 1)).all (fun (a, next) => a.1 < next.1) then rx_tgs pc (S.1, s) (dflt :: ps.toList.map (fun q => q.2)) else none
  | _ => none
/-- which of the three kinds: 0 int, 1 long, 2 reference -/
def rx_kd (a : rx_V) : Nat := match a with
  | .inl _ => 0
  | .inr (.inl _) => 2
  | .inr (.inr _) => 1
def rx_ast (nL i pc k : Nat) (S : rx_St) : Option rx_Su := match S.2 with
  | (a, _) :: s => bif Nat.beq (rx_kd a) k && Nat.blt (bif Nat.beq k 1 then i + 1 else i) nL then some [(pc, ((i, a) :: (bif Nat.beq k 1 then rx_del (rx_kill S.1 i) (i + 1) else rx_kill S.1 i), rx_tks i s), some (.inr i))] else none
  | _ => none
def rx_ald (i pc k : Nat) (S : rx_St) : Option rx_Su := match rx_ag S.1 i with
  | some a => bif Nat.beq (rx_kd a) k then rx_push pc S a (some (.inl i)) else none
  | none => none
def rx_cs8 (s : rx_AS) : Bool := Nat.ble ((s.map (fun q => rx_cat2 q.1)).sum) 8
/-- Math.min, Math.max, System.arraycopy -/
def rx_amm (mx : Bool) (D W pc : Nat) (S : rx_St) : Option rx_Su := match S.2 with
  | (.inl (c, d), _) :: (.inl (a, b), _) :: s => bif Nat.ble 1 D && Nat.ble 21 W && rx_cs8 s then rx_push (pc + 3) (S.1, s) (bif mx then .inl (max a c, max b d) else .inl (min a c, min b d)) none else none
  | _ => none
def rx_aac (E : rx_E) (D W pc : Nat) (S : rx_St) : Option rx_Su := match S.2 with
  | (.inl (n0, n1), _) :: (.inl (d0, d1), _) :: (.inr (.inl (a0, a1)), _) :: (.inl (s0, s1), _) :: (.inr (.inl (b0, b1)), _) :: s =>
    bif Nat.ble 1 D && Nat.ble 26 W && rx_cs8 s && Nat.beq a0 a1 && Nat.beq b0 b1 && Nat.ble 16 a0 && Nat.ble 16 b0 && E.2.2.1 (a0 - 16) && decide (0 ≤ n0) && decide (0 ≤ d0) && decide (0 ≤ s0) then (match E.1[a0 - 16]?, E.1[b0 - 16]? with
      | some (.inr (.inl (n, p, q))), some (.inr (.inl (m, u, v))) => bif decide (s1 + n1 ≤ (m : Int)) && decide (d1 + n1 ≤ (n : Int)) && decide (p ≤ u) && decide (v ≤ q) then rx_1 (pc + 3) (S.1, s) else none
      | _, _ => none) else none
  | _ => none
/-- a step that is no call and no return -/
def rx_abs (E : rx_E) (lk : rx_Lk) (D W : Nat) (M : rx_M) (ins : Instr) (pc : Nat) (S : rx_St) : Option rx_Su := match ins with
  | .iconst n => bif rx_fits n n then rx_push (pc + 1) S (.inl (n, n)) none else none
  | .bipush n => bif decide (-128 ≤ n) && decide (n ≤ 127) then rx_push (pc + 2) S (.inl (n, n)) none else none
  | .sipush n => bif decide (-32768 ≤ n) && decide (n ≤ 32767) then rx_push (pc + 3) S (.inl (n, n)) none else none
  | .lconst n => bif Nat.beq n.val 0 then rx_push (pc + 1) S (.inr (.inr 2)) none else rx_push (pc + 1) S (.inr (.inr 0)) none
  | .ldc_w ix => match rx_luv lk.2.2.2.2.1 (rx_Mo M) ix with
    | some v => rx_push (pc + 3) S (.inl (v.toInt, v.toInt)) none
    | none => none
  | .ldc2_w ix => match rx_luv lk.2.2.2.2.2 (rx_Mo M) ix with
    | some _ => rx_push (pc + 3) S (.inr (.inr 0)) none
    | none => none
  | .getstatic ix => match rx_luv lk.2.1 (rx_Mo M) ix with
    | some id => rx_push (pc + 3) S (.inr (.inl (id, id))) none
    | none => none
  | .iload_n k => rx_ald k.val (pc + 1) 0 S
  | .iload i => rx_ald i (pc + 2) 0 S
  | .lload_n k => rx_ald k.val (pc + 1) 1 S
  | .lload i => rx_ald i (pc + 2) 1 S
  | .aload_n k => rx_ald k.val (pc + 1) 2 S
  | .aload i => rx_ald i (pc + 2) 2 S
  | .istore_n k => rx_ast (rx_Ml M) k.val (pc + 1) 0 S
  | .istore i => rx_ast (rx_Ml M) i (pc + 2) 0 S
  | .lstore_n k => rx_ast (rx_Ml M) k.val (pc + 1) 1 S
  | .lstore i => rx_ast (rx_Ml M) i (pc + 2) 1 S
  | .astore_n k => rx_ast (rx_Ml M) k.val (pc + 1) 2 S
  | .astore i => rx_ast (rx_Ml M) i (pc + 2) 2 S
  | .iinc i n => rx_ain (rx_Ml M) i n pc S
  | .iadd => rx_a2i rx_oadd pc S
  | .isub => rx_a2i rx_osub pc S
  | .imul => rx_a2i rx_omul pc S
  | .iand => rx_a2i rx_oand pc S
  | .ior => rx_a2i rx_oor pc S
  | .ixor => rx_a2i rx_oor pc S
  | .ishl => rx_a2i rx_oshl pc S
  | .ishr => rx_a2i (fun _ _ _ _ => rx_full) pc S
  | .iushr => rx_a2i (fun _ _ _ _ => rx_full) pc S
  | .i2l => match S.2 with
    | (.inl _, _) :: s => rx_push (pc + 1) (S.1, s) (.inr (.inr 0)) none
    | _ => none
  | .l2i => match S.2 with
    | (.inr (.inr _), _) :: s => rx_push (pc + 1) (S.1, s) rx_full none
    | _ => none
  | .lneg => match S.2 with
    | (.inr (.inr _), _) :: s => rx_push (pc + 1) (S.1, s) (.inr (.inr 0)) none
    | _ => none
  | .ladd => rx_a2l pc S
  | .lsub => rx_a2l pc S
  | .lmul => rx_a2l pc S
  | .land => rx_a2l pc S
  | .lxor => rx_a2l pc S
  | .irem => rx_ari pc S
  | .ldiv => rx_adl pc S
  | .lrem => rx_adl pc S
  | .lcmp => rx_acm pc S
  | .dup => match S.2 with
    | (a, t) :: s => bif rx_isL a then none else rx_1 (pc + 1) (S.1, (a, t) :: (a, t) :: s)
    | _ => none
  | .dup2 => match S.2 with
    | (a, t) :: (b, u) :: s => bif rx_isL a || rx_isL b then none else rx_1 (pc + 1) (S.1, (a, t) :: (b, u) :: (a, t) :: (b, u) :: s)
    | _ => none
  | .pop => match S.2 with
    | (a, _) :: s => bif rx_isL a then none else rx_1 (pc + 1) (S.1, s)
    | _ => none
  | .ifCond c off => rx_ab1 c off pc S
  | .if_icmp c off => rx_ab2 c off pc S
  | .goto off => match rx_tg pc off with
    | some g => rx_1 g S
    | none => none
  | .tableswitch dflt lo hi offs => rx_ats dflt lo hi offs pc S
  | .lookupswitch dflt ps => rx_als dflt ps pc S
  | .ineg => match S.2 with
    | (.inl _, _) :: s => rx_push (pc + 1) (S.1, s) rx_full none
    | _ => none
  | .iaload => rx_aial E pc S
  | .laload => rx_alal E pc S
  | .baload => rx_azal E pc S
  | .aaload => rx_aqal E pc S
  | .iastore => rx_aias E pc S
  | .lastore => rx_alas E pc S
  | .bastore => rx_azas E pc S
  | .arraylength => rx_aaln E pc S
  | .getfield ix => rx_agf E (rx_luv lk.1 (rx_Mo M) ix) pc S
  | .putfield ix => rx_apf E (rx_luv lk.1 (rx_Mo M) ix) pc S
  | .invokestatic ix => match rx_luv lk.2.2.1 (rx_Mo M) ix with
    | some q => bif Nat.beq q.1 1001 then rx_aac E D W pc S else bif Nat.beq q.1 1004 then rx_amm true D W pc S else bif Nat.beq q.1 1005 then rx_amm false D W pc S else none
    | none => none
  | _ => none
/-- a contract: method, what its arguments are, what it answers, frames and words that it needs -/
abbrev rx_Sp : Type := Nat × List rx_V × Option rx_V × Nat × Nat
/-- a row of the table: pc, what is known there, the rank there, the contract of the call there (1000000: none; 2000000: the table ends here), which locals are at most others -/
abbrev rx_Rw : Type := Nat × rx_St × (Int × List Int) × Nat × List (Nat × Nat × Int)
/-- intervals made smaller by what is known of two locals -/
def rx_rf1 (L : rx_AL) (r : Nat × Nat × Int) : rx_AL := match rx_ag L r.1, rx_ag L r.2.1 with
  | some (.inl (a, b)), some (.inl (_, d)) => bif decide (d + r.2.2 < b) then (r.1, .inl (a, d + r.2.2)) :: L else L
  | _, _ => L
def rx_rfs : List (Nat × Nat × Int) → rx_AL → rx_AL
  | [], L => L
  | r :: R, L => rx_rfs R (rx_rf1 L r)
def rx_qs (q : rx_Rw) : rx_St := (rx_rfs q.2.2.2.2 q.2.1.1, q.2.1.2)
def rx_rw : List rx_Rw → Nat → Option rx_Rw
  | [], _ => none
  | q :: r, pc => bif Nat.beq q.1 pc then some q else rx_rw r pc
def rx_lle (A B : rx_AL) : Bool := B.all (fun q => match rx_ag A q.1 with
  | some a => rx_vle a q.2
  | none => false)
def rx_tle (a b : rx_K) : Bool := match b with
  | none => true
  | some (.inl i) => (match a with
    | some (.inl j) => Nat.beq i j
    | _ => false)
  | some (.inr i) => (match a with
    | some (.inr j) => Nat.beq i j
    | _ => false)
def rx_kle : rx_AS → rx_AS → Bool
  | [], [] => true
  | a :: s, b :: t => rx_vle a.1 b.1 && rx_tle a.2 b.2 && rx_kle s t
  | _, _ => false
def rx_sle (S T : rx_St) : Bool := rx_lle S.1 T.1 && rx_kle S.2 T.2
/-- the least that c times a local can be -/
def rx_lst (L : rx_AL) (j : Nat) (c : Int) : Option Int := bif decide (c = 0) then some 0 else match rx_ag L j with
  | some (.inl (lo, hi)) => some (bif decide (0 ≤ c) then c * lo else c * hi)
  | _ => none
/-- the least value of a rank -/
def rx_low (L : rx_AL) : List Nat → List Int → Option Int
  | [], _ => some 0
  | _ :: _, [] => none
  | j :: V, c :: cs => match rx_lst L j c, rx_low L V cs with
    | some a, some b => some (a + b)
    | _, _ => none
def rx_isI (L : rx_AL) (j : Nat) : Bool := match rx_ag L j with
  | some (.inl _) => true
  | _ => false
/-- one term of the least fall of a rank -/
def rx_fl1 (A B : rx_AL) (u : rx_U) (j : Nat) (c d : Int) : Option Int := bif decide (c = 0) && decide (d = 0) then some 0 else match u with
  | none => rx_lst B j (c - d)
  | some (.inl (i, n)) => bif Nat.beq i j then (rx_lst B j (c - d)).map (fun x => x - c * n) else bif rx_isI A j && rx_isI B j then rx_lst B j (c - d) else none
  | some (.inr i) => bif Nat.beq i j then (bif decide (c = 0) then rx_lst B j (0 - d) else none) else bif rx_isI A j && rx_isI B j then rx_lst B j (c - d) else none
def rx_fall (A B : rx_AL) (u : rx_U) : List Nat → List Int → List Int → Option Int
  | [], _, _ => some 0
  | j :: V, c :: cs, d :: ds => match rx_fl1 A B u j c d, rx_fall A B u V cs ds with
    | some a, some b => some (a + b)
    | _, _ => none
  | _, _, _ => none
/-- what is known of two locals behind a step -/
def rx_ru (u : rx_U) (A B : rx_AL) (r : Nat × Nat × Int) : Option (Nat × Nat × Int) := bif rx_isI A r.1 && rx_isI A r.2.1 && rx_isI B r.1 && rx_isI B r.2.1 then (match u with
  | none => some r
  | some (.inl (i, n)) => some (r.1, r.2.1, r.2.2 + (bif Nat.beq i r.1 then n else 0) - (bif Nat.beq i r.2.1 then n else 0))
  | some (.inr i) => bif Nat.beq i r.1 || Nat.beq i r.2.1 then none else some r) else none
def rx_rby (B : rx_AL) (r : Nat × Nat × Int) : Bool := match rx_ag B r.1, rx_ag B r.2.1 with
  | some (.inl (_, b)), some (.inl (c, _)) => decide (b ≤ c + r.2.2)
  | _, _ => false
def rx_rok (u : rx_U) (A B : rx_AL) (R : List (Nat × Nat × Int)) (r : Nat × Nat × Int) : Bool := rx_rby B r || R.any (fun t => match rx_ru u A B t with
  | some x => Nat.beq x.1 r.1 && Nat.beq x.2.1 r.2.1 && decide (x.2.2 ≤ r.2.2)
  | none => false)
/-- from a row to a row: what is known is enough, the rank falls -/
def rx_go (V : List Nat) (tb : List rx_Rw) (q : rx_Rw) (s : Nat × rx_St × rx_U) : Bool := match rx_rw tb s.1 with
  | some r => rx_sle s.2.1 r.2.1 && r.2.2.2.2.all (rx_rok s.2.2 (rx_qs q).1 s.2.1.1 q.2.2.2.2) && (match rx_fall (rx_qs q).1 s.2.1.1 s.2.2 V q.2.2.1.2 r.2.2.1.2 with
    | some x => decide (1 ≤ q.2.2.1.1 - r.2.2.1.1 + x)
    | none => false)
  | none => false
def rx_argsle : rx_AS → List rx_V → Bool
  | [], [] => true
  | a :: s, b :: t => rx_vle a.1 b && rx_argsle s t
  | _, _ => false
def rx_slots : List rx_V → Nat
  | [] => 0
  | a :: r => rx_cat2 a + rx_slots r
/-- a call by a contract -/
def rx_cal (E : rx_E) (ms : List rx_M) (lk : rx_Lk) (sps : List rx_Sp) (D W : Nat) (V : List Nat) (tb : List rx_Rw) (M : rx_M) (kind ix : Nat) (q : rx_Rw) : Bool := match rx_luv lk.2.2.1 (rx_Mo M) ix, sps[q.2.2.2.1]? with
  | some (j, _), some sp => (match ms[j]? with
    | some N => Nat.beq sp.1 j && Nat.beq (rx_Mk N) kind && Nat.beq sp.2.1.length (rx_an N kind) && rx_argsle ((rx_qs q).2.take (rx_an N kind)).reverse sp.2.1 && rx_cs8 ((rx_qs q).2.drop (rx_an N kind)) && Nat.ble (rx_slots sp.2.1) (rx_Ml N) && Nat.ble (sp.2.2.2.1 + 1) D && Nat.ble (sp.2.2.2.2 + (19 + rx_Ml N)) W &&
      (match kind, sp.2.1 with
        | 0, _ => true
        | 1, (.inr (.inl (lo, hi))) :: _ => Nat.beq lo hi && Nat.ble 16 lo && (match E.1[lo - 16]? with
          | some (.inl (ci, _)) => Nat.beq ci (rx_Mc N)
          | _ => false)
        | _, _ => false) &&
      rx_go V tb q (q.1 + 3, ((rx_qs q).1, (match sp.2.2.1 with
        | some a => (a, none) :: (rx_qs q).2.drop (rx_an N kind)
        | none => (rx_qs q).2.drop (rx_an N kind))), none)
    | none => false)
  | _, _ => false
def rx_isr (M : rx_M) (ins : Instr) (S : rx_St) (post : Option rx_V) : Option Bool := match ins with
  | .ireturn => some (match S.2, post with
    | [(.inl p, _)], some b => rx_vle (.inl p) b && (match rx_Mr M with
      | some .int => true
      | some .boolean => decide (0 ≤ p.1) && decide (p.2 ≤ 1)
      | _ => false)
    | _, _ => false)
  | .lreturn => some (match S.2, post with
    | [(.inr (.inr m), _)], some b => rx_vle (.inr (.inr m)) b && (match rx_Mr M with
      | some .long => true
      | _ => false)
    | _, _ => false)
  | .return_ => some (match S.2, post with
    | [], none => (match rx_Mr M with
      | none => true
      | _ => false)
    | _, _ => false)
  | _ => none
def rx_row (E : rx_E) (ms : List rx_M) (lk : rx_Lk) (sps : List rx_Sp) (D W : Nat) (post : Option rx_V) (V : List Nat) (tb : List rx_Rw) (M : rx_M) (q : rx_Rw) : Bool := (match rx_low (rx_qs q).1 V q.2.2.1.2 with
  | some x => decide (0 ≤ q.2.2.1.1 + x)
  | none => false) && (bif Nat.beq q.2.2.2.1 2000000 then true else match rx_f2 (rx_Mt M) q.1 with
  | some ins => (match rx_isr M ins (rx_qs q) post with
    | some b => b
    | none => bif Nat.beq q.2.2.2.1 1000000 then (match rx_abs E lk D W M ins q.1 (rx_qs q) with
        | some su => su.all (rx_go V tb q)
        | none => false)
      else (match ins with
        | .invokestatic ix => rx_cal E ms lk sps D W V tb M 0 ix q
        | .invokevirtual ix => rx_cal E ms lk sps D W V tb M 1 ix q
        | _ => false))
  | none => false)
def rx_alocs : Nat → List rx_V → rx_AL
  | _, [] => []
  | i, a :: r => (i, a) :: rx_alocs (i + rx_cat2 a) r
/-- the check of a table -/
def rx_cht (E : rx_E) (ms : List rx_M) (lk : rx_Lk) (sps : List rx_Sp) (mi : Nat) (post : Option rx_V) (D W : Nat) (V : List Nat) (tb : List rx_Rw) : Bool := match ms[mi]? with
  | some M => tb.all (rx_row E ms lk sps D W post V tb M)
  | none => false
/-- the whole check of a method against a contract -/
def rx_chm (E : rx_E) (ms : List rx_M) (lk : rx_Lk) (sps : List rx_Sp) (sp : rx_Sp) (V : List Nat) (tb : List rx_Rw) : Bool := (match rx_rw tb 0 with
  | some r => rx_sle (rx_alocs 0 sp.2.1, []) r.2.1 && Nat.beq r.2.2.2.2.length 0
  | none => false) && tb.all (fun q => !(Nat.beq q.2.2.2.1 2000000)) && rx_cht E ms lk sps sp.1 sp.2.2.1 sp.2.2.2.1 sp.2.2.2.2 V tb
