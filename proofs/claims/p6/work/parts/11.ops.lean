abbrev rx_Tb : Type := List (Nat × List (Nat × Instr × Nat))
/-- a method: name, bytes, locals, what it returns, its class's number (owner), its kind (0 static, 1 virtual, 2 constructor), how many parameters, its class's place in the worlds, its instructions -/
abbrev rx_M : Type := MethodName × ByteArray × Nat × Option FieldType × Nat × Nat × Nat × Nat × rx_Tb
abbrev rx_My (M : rx_M) : MethodName := M.1
abbrev rx_Mb (M : rx_M) : ByteArray := M.2.1
abbrev rx_Ml (M : rx_M) : Nat := M.2.2.1
abbrev rx_Mr (M : rx_M) : Option FieldType := M.2.2.2.1
abbrev rx_Mo (M : rx_M) : Nat := M.2.2.2.2.1
abbrev rx_Mk (M : rx_M) : Nat := M.2.2.2.2.2.1
abbrev rx_Mn (M : rx_M) : Nat := M.2.2.2.2.2.2.1
abbrev rx_Mc (M : rx_M) : Nat := M.2.2.2.2.2.2.2.1
abbrev rx_Mt (M : rx_M) : rx_Tb := M.2.2.2.2.2.2.2.2
/-- the next point of a run: pc, locals, stack, cells -/
abbrev rx_N : Type := Nat × rx_L × List Value × rx_H
def rx_f1 : List (Nat × Instr × Nat) → Nat → Option Instr
  | [], _ => none
  | q :: r, pc => bif Nat.beq q.1 pc then some q.2.1 else rx_f1 r pc
def rx_f2 : rx_Tb → Nat → Option Instr
  | [], _ => none
  | c :: r, pc => bif Nat.blt pc c.1 then rx_f1 c.2 pc else rx_f2 r pc
def rx_len : Instr → Nat
  | .iload _ => 2 | .lload _ => 2 | .aload _ => 2 | .istore _ => 2 | .lstore _ => 2 | .astore _ => 2
  | .bipush _ => 2 | .sipush _ => 3 | .iinc _ _ => 3 | .goto _ => 3 | .if_icmp _ _ => 3 | .ifCond _ _ => 3 | .ifnull _ => 3 | .ifnonnull _ => 3 | .if_acmp _ _ => 3
  | .getfield _ => 3 | .putfield _ => 3 | .getstatic _ => 3 | .invokespecial _ => 3 | .invokestatic _ => 3 | .invokevirtual _ => 3 | .new _ => 3
  | .ldc _ => 2 | .ldc_w _ => 3 | .ldc2_w _ => 3 | .newarray _ => 2 | .multianewarray _ _ => 4 | .anewarray _ => 3
  | _ => 1
def rx_sw (ins : Instr) : Bool := match ins with
  | .tableswitch _ _ _ _ => true
  | .lookupswitch _ _ => true
  | _ => false
def rx_lc (ins : Instr) (len : Nat) : Bool := rx_sw ins || Nat.beq len (rx_len ins)
def rx_dec (cc : ByteArray) (pc : Nat) (ins : Instr) : Prop := ∃ len, decode cc pc = .ok (ins, len) ∧ rx_lc ins len = true
theorem rx_dec_n {cc : ByteArray} {pc : Nat} {ins : Instr} (h : rx_dec cc pc ins) (hs : rx_sw ins = false) : decode cc pc = .ok (ins, rx_len ins) := by
  obtain ⟨len, h1, h2⟩ := h
  unfold rx_lc at h2
  rw [hs, Bool.false_or] at h2
  rw [← Nat.eq_of_beq_eq_true h2]
  exact h1
def rx_nx (pc : Nat) (lv : rx_L) (st : List Value) (h : rx_H) : Option rx_N := some (pc, lv, st, h)
def rx_jp (pc : Nat) (off : Int) (lv : rx_L) (st : List Value) (h : rx_H) : Option rx_N := if 0 ≤ (pc : Int) + off then rx_nx ((pc : Int) + off).toNat lv st h else none
def rx_li (lv : rx_L) (i pc : Nat) (st : List Value) (h : rx_H) : Option rx_N := match rx_lk lv i with
  | some (.int x) => rx_nx pc lv (.int x :: st) h
  | _ => none
def rx_ll (lv : rx_L) (i pc : Nat) (st : List Value) (h : rx_H) : Option rx_N := match rx_lk lv i with
  | some (.long x) => rx_nx pc lv (.long x :: st) h
  | _ => none
def rx_la (lv : rx_L) (i pc : Nat) (st : List Value) (h : rx_H) : Option rx_N := match rx_lk lv i with
  | some (.ref x) => rx_nx pc lv (.ref x :: st) h
  | _ => none
def rx_si (nL : Nat) (lv : rx_L) (i pc : Nat) (st : List Value) (h : rx_H) : Option rx_N := match st with
  | .int x :: r => if i < nL then rx_nx pc (rx_s1 lv i (.int x)) r h else none
  | _ => none
def rx_sl (nL : Nat) (lv : rx_L) (i pc : Nat) (st : List Value) (h : rx_H) : Option rx_N := match st with
  | .long x :: r => if i + 1 < nL then rx_nx pc (rx_s2 lv i (.long x)) r h else none
  | _ => none
def rx_sa (nL : Nat) (lv : rx_L) (i pc : Nat) (st : List Value) (h : rx_H) : Option rx_N := match st with
  | .ref x :: r => if i < nL then rx_nx pc (rx_s1 lv i (.ref x)) r h else none
  | _ => none
def rx_2i (f : Int32 → Int32 → Int32) (pc : Nat) (lv : rx_L) (st : List Value) (h : rx_H) : Option rx_N := match st with
  | .int y :: .int x :: r => rx_nx (pc + 1) lv (.int (f x y) :: r) h
  | _ => none
def rx_2l (f : Int64 → Int64 → Int64) (pc : Nat) (lv : rx_L) (st : List Value) (h : rx_H) : Option rx_N := match st with
  | .long y :: .long x :: r => rx_nx (pc + 1) lv (.long (f x y) :: r) h
  | _ => none
def rx_bi (P : Bool) (pc : Nat) (off : Int) (lv : rx_L) (r : List Value) (h : rx_H) : Option rx_N := if 0 ≤ (pc : Int) + off then (if P = true then rx_nx ((pc : Int) + off).toNat lv r h else rx_nx (pc + 3) lv r h) else none
def rx_c1 (c : ClassFile.Cond) (x : Int32) : Bool := match c with
  | .eq => decide (x = 0) | .ne => decide (¬ x = 0) | .lt => decide (x < 0) | .ge => decide (0 ≤ x) | .gt => decide (0 < x) | .le => decide (x ≤ 0)
def rx_c2 (c : ClassFile.Cond) (x y : Int32) : Bool := match c with
  | .eq => decide (x = y) | .ne => decide (¬ x = y) | .lt => decide (x < y) | .ge => decide (y ≤ x) | .gt => decide (y < x) | .le => decide (x ≤ y)
def rx_cell (h : rx_H) (a : Nat) : Option rx_C := if a < 16 then none else h[a - 16]?
def rx_ok (i : Int32) (n : Nat) : Bool := !(decide (i < 0) || Nat.ble n i.toNatClampNeg)
def rx_luv {α : Type} : List ((Nat × Nat) × α) → Nat → Nat → Option α
  | [], _, _ => none
  | q :: r, o, ix => bif Nat.beq q.1.1 o && Nat.beq q.1.2 ix then some q.2 else rx_luv r o ix
/-- a value as a field of a type takes it -/
def rx_fit (ty : FieldType) (v : Value) : Bool := match ty, v with
  | .int, .int _ => true
  | .long, .long _ => true
  | .boolean, .int x => decide (x = 0) || decide (x = 1)
  | .object _, .ref _ => true
  | .array _, .ref _ => true
  | _, _ => false
/-- the links of all constant pools: fields (class, place), statics (id), methods (number, 1: of a nest mate), classes, ints, longs -/
abbrev rx_Lk : Type := List ((Nat × Nat) × Nat × Nat × FieldType × Nat) × List ((Nat × Nat) × Nat) × List ((Nat × Nat) × Nat × Nat) × List ((Nat × Nat) × Nat) × List ((Nat × Nat) × Int32) × List ((Nat × Nat) × Int64)
def rx_cold (h : rx_H) (a t : Nat) : Option vp_A := match rx_cell h a with
  | some (.inl q) => if q.1 = t then some q.2 else none
  | _ => none
/-- the heap behind a store into an array -/
def rx_put (h : rx_H) (a t : Nat) (x : vp_A) : rx_H := h.set (a - 16) (.inl (t, x))
def rx_zero (ty : FieldType) (n : Nat) : Option vp_A := match ty with
  | .int => some (n, .inl (fun _ => 0))
  | .boolean => some (n, .inl (fun _ => 0))
  | .long => some (n, .inr (.inl (fun _ => 0)))
  | _ => none
def rx_dv (f : Int32 → Int32 → Int32) (pc : Nat) (lv : rx_L) (st : List Value) (h : rx_H) : Option rx_N := match st with
  | .int y :: .int x :: r => if y = 0 then none else rx_nx (pc + 1) lv (.int (f x y) :: r) h
  | _ => none
def rx_dl (f : Int64 → Int64 → Int64) (pc : Nat) (lv : rx_L) (st : List Value) (h : rx_H) : Option rx_N := match st with
  | .long y :: .long x :: r => if y = 0 then none else rx_nx (pc + 1) lv (.long (f x y) :: r) h
  | _ => none
def rx_1i (f : Int32 → Value) (pc : Nat) (lv : rx_L) (st : List Value) (h : rx_H) : Option rx_N := match st with
  | .int x :: r => rx_nx (pc + 1) lv (f x :: r) h
  | _ => none
def rx_1l (f : Int64 → Value) (pc : Nat) (lv : rx_L) (st : List Value) (h : rx_H) : Option rx_N := match st with
  | .long x :: r => rx_nx (pc + 1) lv (f x :: r) h
  | _ => none
def rx_cm (pc : Nat) (lv : rx_L) (st : List Value) (h : rx_H) : Option rx_N := match st with
  | .long y :: .long x :: r => rx_nx (pc + 1) lv (.int (lg_cmp x y) :: r) h
  | _ => none
def rx_in (nL : Nat) (i : Nat) (n : Int) (pc : Nat) (lv : rx_L) (st : List Value) (h : rx_H) : Option rx_N := match rx_lk lv i with
  | some (.int x) => if i < nL then rx_nx (pc + 3) (rx_s1 lv i (.int (x + Int32.ofInt n))) st h else none
  | _ => none
def rx_d0 (pc : Nat) (lv : rx_L) (st : List Value) (h : rx_H) : Option rx_N := match st with
  | a :: r => if a.category = 1 then rx_nx (pc + 1) lv (a :: a :: r) h else none
  | _ => none
def rx_pp (pc : Nat) (lv : rx_L) (st : List Value) (h : rx_H) : Option rx_N := match st with
  | a :: r => if a.category = 1 then rx_nx (pc + 1) lv r h else none
  | _ => none
def rx_d1 (pc : Nat) (lv : rx_L) (st : List Value) (h : rx_H) : Option rx_N := match st with
  | a :: b :: r => if a.category = 1 ∧ b.category = 1 then rx_nx (pc + 1) lv (a :: b :: a :: r) h else none
  | _ => none
def rx_d2 (pc : Nat) (lv : rx_L) (st : List Value) (h : rx_H) : Option rx_N := match st with
  | a :: b :: d :: r => if a.category = 1 ∧ b.category = 1 ∧ d.category = 1 then rx_nx (pc + 1) lv (a :: b :: d :: a :: r) h else none
  | _ => none
def rx_dd (pc : Nat) (lv : rx_L) (st : List Value) (h : rx_H) : Option rx_N := match st with
  | a :: b :: r => if a.category = 1 ∧ b.category = 1 then rx_nx (pc + 1) lv (a :: b :: a :: b :: r) h else none
  | _ => none
def rx_b1 (c : ClassFile.Cond) (off : Int) (pc : Nat) (lv : rx_L) (st : List Value) (h : rx_H) : Option rx_N := match st with
  | .int x :: r => rx_bi (rx_c1 c x) pc off lv r h
  | _ => none
def rx_b2 (c : ClassFile.Cond) (off : Int) (pc : Nat) (lv : rx_L) (st : List Value) (h : rx_H) : Option rx_N := match st with
  | .int y :: .int x :: r => rx_bi (rx_c2 c x y) pc off lv r h
  | _ => none
def rx_ts (dflt lo hi : Int) (offs : Array Int) (pc : Nat) (lv : rx_L) (st : List Value) (h : rx_H) : Option rx_N := match st with
  | .int x :: r => if x.toInt < lo ∨ hi < x.toInt then rx_jp pc dflt lv r h else match offs[(x.toInt - lo).toNat]? with
    | some off => rx_jp pc off lv r h
    | none => none
  | _ => none
def rx_us (pc : Nat) (lv : rx_L) (st : List Value) (h : rx_H) : Option rx_N := match st with
  | .int y :: .long x :: r => rx_nx (pc + 1) lv (.long (x.toUInt64 >>> (y.toInt64.toUInt64 &&& Int64.toUInt64 63)).toInt64 :: r) h
  | _ => none
def rx_ls (dflt : Int) (ps : Array (Int × Int)) (pc : Nat) (lv : rx_L) (st : List Value) (h : rx_H) : Option rx_N := match st with
  | .int x :: r => if (ps.toList.zip (ps.toList.drop 1)).all (fun (a, next) => a.1 < next.1) = true then rx_jp pc (Op.lookupswitch.offset ps.toList dflt x.toInt) lv r h else none
  | _ => none
def rx_kc (o : Option Value) (n pc : Nat) (lv : rx_L) (st : List Value) (h : rx_H) : Option rx_N := match o with
  | some v => rx_nx (pc + n) lv (v :: st) h
  | none => none
/-- reading an int array: a read-only one, or a cell -/
def rx_ri (rt : rx_R) (h : rx_H) (a : Nat) : Option (Nat × (Nat → Int32)) := if a < 16 then rt a else match rx_cold h a 0 with
  | some (n, .inl f) => some (n, f)
  | _ => none
def rx_rl (h : rx_H) (a : Nat) : Option (Nat × (Nat → Int64)) := match rx_cold h a 1 with
  | some (n, .inr (.inl f)) => some (n, f)
  | _ => none
def rx_rz (h : rx_H) (a : Nat) : Option (Nat × (Nat → Int32)) := match rx_cold h a 2 with
  | some (n, .inl f) => some (n, f)
  | _ => none
def rx_rq (h : rx_H) (a : Nat) : Option (Nat × (Nat → Option Nat)) := match rx_cold h a 3 with
  | some (n, .inr (.inr (.inr (.inr f)))) => some (n, f)
  | _ => none
def rx_ro (h : rx_H) (a : Nat) : Option (Nat × List Value) := match rx_cell h a with
  | some (.inr q) => some q
  | _ => none
def rx_ial (rt : rx_R) (pc : Nat) (lv : rx_L) (st : List Value) (h : rx_H) : Option rx_N := match st with
  | .int i :: .ref a :: r => match rx_ri rt h a with
    | some q => if rx_ok i q.1 = true then rx_nx (pc + 1) lv (.int (q.2 i.toNatClampNeg) :: r) h else none
    | none => none
  | _ => none
def rx_lal (pc : Nat) (lv : rx_L) (st : List Value) (h : rx_H) : Option rx_N := match st with
  | .int i :: .ref a :: r => match rx_rl h a with
    | some q => if rx_ok i q.1 = true then rx_nx (pc + 1) lv (.long (q.2 i.toNatClampNeg) :: r) h else none
    | none => none
  | _ => none
def rx_zal (pc : Nat) (lv : rx_L) (st : List Value) (h : rx_H) : Option rx_N := match st with
  | .int i :: .ref a :: r => match rx_rz h a with
    | some q => if rx_ok i q.1 = true then rx_nx (pc + 1) lv (.int (q.2 i.toNatClampNeg) :: r) h else none
    | none => none
  | _ => none
def rx_qal (pc : Nat) (lv : rx_L) (st : List Value) (h : rx_H) : Option rx_N := match st with
  | .int i :: .ref a :: r => match rx_rq h a with
    | some q => if rx_ok i q.1 = true then match q.2 i.toNatClampNeg with
        | some k => rx_nx (pc + 1) lv (.ref k :: r) h
        | none => none
      else none
    | none => none
  | _ => none
def rx_ias (pc : Nat) (lv : rx_L) (st : List Value) (h : rx_H) : Option rx_N := match st with
  | .int x :: .int i :: .ref a :: r => if a < 16 then none else match rx_ri (fun _ => none) h a with
    | some q => if rx_ok i q.1 = true then rx_nx (pc + 1) lv r (rx_put h a 0 (q.1, .inl (upd q.2 i.toNatClampNeg x))) else none
    | none => none
  | _ => none
def rx_las (pc : Nat) (lv : rx_L) (st : List Value) (h : rx_H) : Option rx_N := match st with
  | .long x :: .int i :: .ref a :: r => match rx_rl h a with
    | some q => if rx_ok i q.1 = true then rx_nx (pc + 1) lv r (rx_put h a 1 (q.1, .inr (.inl (vp_updL q.2 i.toNatClampNeg x)))) else none
    | none => none
  | _ => none
def rx_zas (pc : Nat) (lv : rx_L) (st : List Value) (h : rx_H) : Option rx_N := match st with
  | .int x :: .int i :: .ref a :: r => match rx_rz h a with
    | some q => if rx_ok i q.1 = true then rx_nx (pc + 1) lv r (rx_put h a 2 (q.1, .inl (upd q.2 i.toNatClampNeg (vp_nar .boolean x)))) else none
    | none => none
  | _ => none
def rx_aln (rt : rx_R) (h : rx_H) (a : Nat) : Option Nat := if a < 16 then (rt a).map (fun q => q.1) else match rx_cell h a with
  | some (.inl q) => if q.1 < 4 then some q.2.1 else none
  | _ => none
def rx_al (rt : rx_R) (pc : Nat) (lv : rx_L) (st : List Value) (h : rx_H) : Option rx_N := match st with
  | .ref a :: r => match rx_aln rt h a with
    | some n => rx_nx (pc + 1) lv (.int (Int32.ofNat n) :: r) h
    | none => none
  | _ => none
def rx_gf (o : Option (Nat × Nat × FieldType × Nat)) (pc : Nat) (lv : rx_L) (st : List Value) (h : rx_H) : Option rx_N := match st, o with
  | .ref a :: r, some q => match rx_ro h a with
    | some w => if w.1 = q.1 then match w.2[q.2.1]? with
        | some v => rx_nx (pc + 3) lv (v :: r) h
        | none => none
      else none
    | none => none
  | _, _ => none
def rx_pf (ini : Bool) (o : Option (Nat × Nat × FieldType × Nat)) (pc : Nat) (lv : rx_L) (st : List Value) (h : rx_H) : Option rx_N := match st, o with
  | v :: .ref a :: r, some q => match rx_ro h a with
    | some w => if w.1 = q.1 ∧ q.2.1 < w.2.length ∧ rx_fit q.2.2.1 v = true ∧ (q.2.2.2 = 0 ∨ (q.2.2.2 = 1 ∧ ini = true)) then rx_nx (pc + 3) lv r (h.set (a - 16) (.inr (w.1, w.2.set q.2.1 v))) else none
    | none => none
  | _, _ => none
/-- what a return instruction returns -/
def rx_ret (M : rx_M) (ins : Instr) (st : List Value) : Option (Option Value) := match ins with
  | .ireturn => match rx_Mr M, st with
    | some .int, [.int x] => some (some (.int x))
    | some .boolean, [.int x] => if x = 0 ∨ x = 1 then some (some (.int x)) else none
    | _, _ => none
  | .lreturn => match rx_Mr M, st with
    | some .long, [.long x] => some (some (.long x))
    | _, _ => none
  | .return_ => match rx_Mr M, st with
    | none, [] => some none
    | _, _ => none
  | _ => none
theorem rx_ret_e {M : rx_M} {ins : Instr} {st : List Value} {v : Option Value} (e : rx_ret M ins st = some v) : (∃ x, ins = .ireturn ∧ rx_Mr M = some .int ∧ st = [.int x] ∧ v = some (.int x)) ∨ (∃ x, ins = .ireturn ∧ rx_Mr M = some .boolean ∧ st = [.int x] ∧ (x = 0 ∨ x = 1) ∧ v = some (.int x)) ∨ (∃ x, ins = .lreturn ∧ rx_Mr M = some .long ∧ st = [.long x] ∧ v = some (.long x)) ∨ (ins = .return_ ∧ rx_Mr M = none ∧ st = [] ∧ v = none) := by
  unfold rx_ret at e
  split at e
  · split at e
    · next x h1 => cases e; exact Or.inl ⟨x, rfl, h1, rfl, rfl⟩
    · next x h1 =>
      split at e
      · next w => cases e; exact Or.inr (Or.inl ⟨x, rfl, h1, rfl, w, rfl⟩)
      · cases e
    · cases e
  · split at e
    · next x h1 => cases e; exact Or.inr (Or.inr (Or.inl ⟨x, rfl, h1, rfl, rfl⟩))
    · cases e
  · split at e
    · next h1 => cases e; exact Or.inr (Or.inr (Or.inr ⟨rfl, h1, rfl, rfl⟩))
    · cases e
  · cases e
