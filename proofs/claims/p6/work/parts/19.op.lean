/-- calls that are steps: Object's constructor, System.arraycopy -/
def rx_is (d w : Nat) (o : Option (Nat × Nat)) (pc : Nat) (lv : rx_L) (st : List Value) (h : rx_H) : Option rx_N := match o with
  | some q => if q.1 = 1000 then rx_oi d w pc lv st h else none
  | none => none
def rx_it (d w : Nat) (o : Option (Nat × Nat)) (pc : Nat) (lv : rx_L) (st : List Value) (h : rx_H) : Option rx_N := match o with
  | some q => if q.1 = 1001 then rx_ac d w pc lv st h else if q.1 = 1004 then rx_m4 d w pc lv st h else if q.1 = 1005 then rx_m5 d w pc lv st h else none
  | none => none
theorem rx_is_e {d w : Nat} {o : Option (Nat × Nat)} {pc : Nat} {lv : rx_L} {st : List Value} {h : rx_H} {r : rx_N} (e : rx_is d w o pc lv st h = some r) : ∃ q, o = some q ∧ q.1 = 1000 ∧ rx_oi d w pc lv st h = some r := by
  unfold rx_is at e
  split at e
  · next q =>
    split at e
    · next y => exact ⟨q, rfl, y, e⟩
    · cases e
  · cases e
theorem rx_it_e {d w : Nat} {o : Option (Nat × Nat)} {pc : Nat} {lv : rx_L} {st : List Value} {h : rx_H} {r : rx_N} (e : rx_it d w o pc lv st h = some r) : ∃ q, o = some q ∧ ((q.1 = 1001 ∧ rx_ac d w pc lv st h = some r) ∨ (q.1 = 1004 ∧ rx_m4 d w pc lv st h = some r) ∨ (q.1 = 1005 ∧ rx_m5 d w pc lv st h = some r)) := by
  unfold rx_it at e
  split at e
  · next q =>
    split at e
    · next y => exact ⟨q, rfl, Or.inl ⟨y, e⟩⟩
    · split at e
      · next y => exact ⟨q, rfl, Or.inr (Or.inl ⟨y, e⟩)⟩
      · split at e
        · next y => exact ⟨q, rfl, Or.inr (Or.inr ⟨y, e⟩)⟩
        · cases e
  · cases e
def rx_opI (cds : List (List Value)) (lk : rx_Lk) (rt : rx_R) (d w : Nat) (M : rx_M) (ins : Instr) (pc : Nat) (lv : rx_L) (st : List Value) (h : rx_H) : Option rx_N := match ins with
  | .iconst n => rx_nx (pc + 1) lv (.int (Int32.ofInt n) :: st) h
  | .bipush n => rx_nx (pc + 2) lv (.int (Int8.ofInt n).toInt32 :: st) h
  | .sipush n => rx_nx (pc + 3) lv (.int (Int16.ofInt n).toInt32 :: st) h
  | .lconst n => rx_nx (pc + 1) lv (.long (Int64.ofNat n.val) :: st) h
  | .ldc ix => rx_kc ((rx_luv lk.2.2.2.2.1 (rx_Mo M) ix).map Value.int) 2 pc lv st h
  | .ldc_w ix => rx_kc ((rx_luv lk.2.2.2.2.1 (rx_Mo M) ix).map Value.int) 3 pc lv st h
  | .ldc2_w ix => rx_kc ((rx_luv lk.2.2.2.2.2 (rx_Mo M) ix).map Value.long) 3 pc lv st h
  | .iload_n k => rx_li lv k.val (pc + 1) st h
  | .iload i => rx_li lv i (pc + 2) st h
  | .lload_n k => rx_ll lv k.val (pc + 1) st h
  | .lload i => rx_ll lv i (pc + 2) st h
  | .aload_n k => rx_la lv k.val (pc + 1) st h
  | .aload i => rx_la lv i (pc + 2) st h
  | .istore_n k => rx_si (rx_Ml M) lv k.val (pc + 1) st h
  | .istore i => rx_si (rx_Ml M) lv i (pc + 2) st h
  | .lstore_n k => rx_sl (rx_Ml M) lv k.val (pc + 1) st h
  | .lstore i => rx_sl (rx_Ml M) lv i (pc + 2) st h
  | .astore_n k => rx_sa (rx_Ml M) lv k.val (pc + 1) st h
  | .astore i => rx_sa (rx_Ml M) lv i (pc + 2) st h
  | .iinc i n => rx_in (rx_Ml M) i n pc lv st h
  | .iadd => rx_2i (fun x y => x + y) pc lv st h
  | .isub => rx_2i (fun x y => x - y) pc lv st h
  | .imul => rx_2i (fun x y => x * y) pc lv st h
  | .iand => rx_2i (fun x y => x &&& y) pc lv st h
  | .ior => rx_2i (fun x y => x ||| y) pc lv st h
  | .ixor => rx_2i (fun x y => x ^^^ y) pc lv st h
  | .ishl => rx_2i (fun x y => x <<< (y &&& 31)) pc lv st h
  | .ishr => rx_2i (fun x y => x >>> (y &&& 31)) pc lv st h
  | .iushr => rx_2i (fun x y => (x.toUInt32 >>> (y.toUInt32 &&& Int32.toUInt32 31)).toInt32) pc lv st h
  | .idiv => rx_dv (fun x y => x / y) pc lv st h
  | .irem => rx_dv (fun x y => x - x / y * y) pc lv st h
  | .ineg => rx_1i (fun x => .int (-x)) pc lv st h
  | .i2l => rx_1i (fun x => .long x.toInt64) pc lv st h
  | .ladd => rx_2l (fun x y => x + y) pc lv st h
  | .lsub => rx_2l (fun x y => x - y) pc lv st h
  | .lmul => rx_2l (fun x y => x * y) pc lv st h
  | .land => rx_2l (fun x y => x &&& y) pc lv st h
  | .lor => rx_2l (fun x y => x ||| y) pc lv st h
  | .lxor => rx_2l (fun x y => x ^^^ y) pc lv st h
  | .ldiv => rx_dl (fun x y => x / y) pc lv st h
  | .lrem => rx_dl (fun x y => x - x / y * y) pc lv st h
  | .lneg => rx_1l (fun x => .long (-x)) pc lv st h
  | .l2i => rx_1l (fun x => .int x.toInt32) pc lv st h
  | .lushr => rx_us pc lv st h
  | .lcmp => rx_cm pc lv st h
  | .dup => rx_d0 pc lv st h
  | .pop => rx_pp pc lv st h
  | .dup_x1 => rx_d1 pc lv st h
  | .dup_x2 => rx_d2 pc lv st h
  | .dup2 => rx_dd pc lv st h
  | .ifCond c off => rx_b1 c off pc lv st h
  | .if_icmp c off => rx_b2 c off pc lv st h
  | .goto off => rx_jp pc off lv st h
  | .tableswitch dflt lo hi offs => rx_ts dflt lo hi offs pc lv st h
  | .lookupswitch dflt ps => rx_ls dflt ps pc lv st h
  | .iaload => rx_ial rt pc lv st h
  | .laload => rx_lal pc lv st h
  | .baload => rx_zal pc lv st h
  | .aaload => rx_qal pc lv st h
  | .iastore => rx_ias pc lv st h
  | .lastore => rx_las pc lv st h
  | .bastore => rx_zas pc lv st h
  | .arraylength => rx_al rt pc lv st h
  | .getfield ix => rx_gf (rx_luv lk.1 (rx_Mo M) ix) pc lv st h
  | .putfield ix => rx_pf (Nat.beq (rx_Mk M) 2) (rx_luv lk.1 (rx_Mo M) ix) pc lv st h
  | .getstatic ix => rx_kc ((rx_luv lk.2.1 (rx_Mo M) ix).map Value.ref) 3 pc lv st h
  | .new ix => rx_nw (rx_luv lk.2.2.2.1 (rx_Mo M) ix) cds pc lv st h
  | .newarray a => rx_na (rx_aty a) pc lv st h
  | .multianewarray ix n => rx_mn (rx_luv lk.2.2.2.1 (rx_Mo M) ix) n pc lv st h
  | .invokestatic ix => rx_it d w (rx_luv lk.2.2.1 (rx_Mo M) ix) pc lv st h
  | .invokespecial ix => rx_is d w (rx_luv lk.2.2.1 (rx_Mo M) ix) pc lv st h
  | _ => none
/-- the links are what the tables say -/
def rx_G (all nst : List Cond) (cl : List vw_C) (cds : List (List Value)) (tys : List FieldType) (sts : List (String × String × String × Nat)) (own : Nat → String) (lk : rx_Lk) : Prop :=
  (tys[0]? = some .int ∧ tys[1]? = some .long ∧ tys[2]? = some .boolean ∧ tys[3]? = some (.array .long) ∧ 4 ≤ tys.length) ∧
  (∀ (ci : Nat) (q : vw_C), cl[ci]? = some q → rx_GC all q) ∧
  (∀ (o ix : Nat) (q : Nat × Nat × FieldType × Nat), ((o, ix), q) ∈ lk.1 → rx_GF all nst cl (own o) ix q.1 q.2.1 q.2.2.1 q.2.2.2) ∧
  (∀ (o ix id : Nat), ((o, ix), id) ∈ lk.2.1 → ∃ C n d, (C, n, d, id) ∈ sts ∧ (Cond.fieldLink (own o) ix C n d ∈ all ∨ ∃ host, Cond.fieldLinkNest (own o) ix C n d host ∈ nst)) ∧
  (∀ (o ix : Nat) (q : Nat × Nat), ((o, ix), q) ∈ lk.2.2.1 → q.1 = 1000 → Cond.methodLink (own o) ix Lib.objectInit ∈ all ∧ Cond.instanceMethod Lib.objectInit ∈ all ∧ Cond.code Lib.objectInit ⟨#[0xb1]⟩ 1 none ∈ all) ∧
  (∀ (o ix : Nat) (q : Nat × Nat), ((o, ix), q) ∈ lk.2.2.1 → q.1 = 1001 → Cond.methodLink (own o) ix arraycopyName ∈ all ∧ Cond.native arraycopyName ∈ all ∧ Cond.static arraycopyName ∈ all ∧ Cond.initialized "java/lang/System" ∈ all) ∧
  (∀ (o ix : Nat) (q : Nat × Nat), ((o, ix), q) ∈ lk.2.2.1 → q.1 = 1004 → Cond.methodLink (own o) ix Lib.Math.max.name ∈ all ∧ Cond.static Lib.Math.max.name ∈ all ∧ Cond.initialized "java/lang/Math" ∈ all ∧ Cond.code Lib.Math.max.name Lib.Math.max.code 2 (some .int) ∈ all) ∧
  (∀ (o ix : Nat) (q : Nat × Nat), ((o, ix), q) ∈ lk.2.2.1 → q.1 = 1005 → Cond.methodLink (own o) ix Lib.Math.min.name ∈ all ∧ Cond.static Lib.Math.min.name ∈ all ∧ Cond.initialized "java/lang/Math" ∈ all ∧ Cond.code Lib.Math.min.name Lib.Math.min.code 2 (some .int) ∈ all) ∧
  (∀ (o ix ci : Nat) (fs : List Value), ((o, ix), ci) ∈ lk.2.2.2.1 → cds[ci]? = some fs → rx_GN all cl cds (own o) ix ci) ∧
  (∀ (o ix : Nat), ((o, ix), 1003) ∈ lk.2.2.2.1 → Cond.classLink (own o) ix "[[J" ∈ all ∧ Cond.arrayOver (.array .long) ∈ nst ∧ Cond.arrayClass .long ∈ all) ∧
  (∀ (o ix : Nat) (v : Int32), ((o, ix), v) ∈ lk.2.2.2.2.1 → Cond.constant (own o) ix v ∈ all) ∧
  (∀ (o ix : Nat) (v : Int64), ((o, ix), v) ∈ lk.2.2.2.2.2 → Cond.constantLong (own o) ix v ∈ all) ∧
  (∀ (a : ArrayType) (q : Nat × FieldType), rx_aty a = some q → Cond.arrayClass q.2 ∈ all)
