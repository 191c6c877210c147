/-! what the checker's word is worth -/
def rx_asin : List rx_V → List Value → Prop
  | [], [] => True
  | a :: s, v :: t => rx_vin a v ∧ rx_asin s t
  | _, _ => False
theorem rx_asin_e {a : rx_V} {s : List rx_V} {t : List Value} (h : rx_asin (a :: s) t) : ∃ v r, t = v :: r ∧ rx_vin a v ∧ rx_asin s r := by
  cases t with
  | nil => exact absurd h (fun z => z)
  | cons v r => exact ⟨v, r, rfl, h.1, h.2⟩
theorem rx_asin_nil {t : List Value} (h : rx_asin [] t) : t = [] := by
  cases t with
  | nil => rfl
  | cons v r => exact absurd h (fun z => z)
def rx_pin (post : Option rx_V) (v : Option Value) : Prop := match post, v with
  | none, none => True
  | some a, some x => rx_vin a x
  | _, _ => False
def rx_spec (cds : List (List Value)) (ms : List rx_M) (lk : rx_Lk) (E : rx_E) (X : rx_H → Prop) (F : rx_H → rx_H → Prop) (sp : rx_Sp) : Prop := ∀ (rt : rx_R) (d w : Nat) (as : List Value) (h : rx_H), rx_tok E rt → sp.2.2.2.1 ≤ d → sp.2.2.2.2 ≤ w → rx_asin sp.2.1 as → rx_hin E.1 h → X h → rx_T cds ms lk rt d w sp.1 0 (lv_args 0 as) [] h (fun v h' => rx_pin sp.2.2.1 v ∧ rx_hin E.1 h' ∧ X h' ∧ F h h')
def rx_env (E : rx_E) (X : rx_H → Prop) (F : rx_H → rx_H → Prop) : Prop := (∀ h, F h h) ∧ (∀ a b c, F a b → F b c → F a c) ∧ (∀ h h', rx_hin E.1 h → rx_hin E.1 h' → rx_wr E h h' → F h h' ∧ (X h → X h'))
theorem rx_rw_e : ∀ (tb : List rx_Rw) (pc : Nat) (q : rx_Rw), rx_rw tb pc = some q → q ∈ tb ∧ q.1 = pc
  | [], pc, q, h => by cases h
  | r :: tb, pc, q, h => by
    unfold rx_rw at h
    cases hb : Nat.beq r.1 pc with
    | true =>
      rw [hb] at h
      cases h
      exact ⟨List.mem_cons_self, Nat.eq_of_beq_eq_true hb⟩
    | false =>
      rw [hb] at h
      obtain ⟨h1, h2⟩ := rx_rw_e tb pc q h
      exact ⟨List.mem_cons_of_mem _ h1, h2⟩
theorem rx_kin_drop {lv : rx_L} : ∀ (n : Nat) (s : rx_AS) (t : List Value), rx_kin lv s t → rx_kin lv (s.drop n) (t.drop n)
  | 0, s, t, h => h
  | n + 1, [], t, h => by rw [rx_kin_nil h]; trivial
  | n + 1, a :: s, t, h => by
    obtain ⟨v, r, rfl, _, _, h3⟩ := rx_kin_e h
    exact rx_kin_drop n s r h3
theorem rx_kin_len {lv : rx_L} : ∀ (s : rx_AS) (t : List Value), rx_kin lv s t → t.length = s.length
  | [], t, h => by rw [rx_kin_nil h]; rfl
  | a :: s, t, h => by
    obtain ⟨v, r, rfl, _, _, h3⟩ := rx_kin_e h
    simp only [List.length_cons, rx_kin_len s r h3]
theorem rx_asin_app : ∀ (a b : List rx_V) (c d : List Value), rx_asin a c → rx_asin b d → rx_asin (a ++ b) (c ++ d)
  | [], b, c, d, h1, h2 => by rw [rx_asin_nil h1]; exact h2
  | x :: a, b, c, d, h1, h2 => by
    obtain ⟨v, r, rfl, h3, h4⟩ := rx_asin_e h1
    exact ⟨h3, rx_asin_app a b r d h4 h2⟩
theorem rx_kin_rev {lv : rx_L} : ∀ (n : Nat) (s : rx_AS) (t : List Value), rx_kin lv s t → rx_asin (((s.take n).reverse).map (fun q => q.1)) (t.take n).reverse
  | 0, s, t, h => trivial
  | n + 1, [], t, h => by rw [rx_kin_nil h]; trivial
  | n + 1, a :: s, t, h => by
    obtain ⟨v, r, rfl, h1, _, h3⟩ := rx_kin_e h
    simp only [List.take_succ_cons, List.reverse_cons, List.map_append]
    exact rx_asin_app _ _ _ _ (rx_kin_rev n s r h3) ⟨h1, trivial⟩
theorem rx_argsle_in : ∀ (s : rx_AS) (p : List rx_V) (t : List Value), rx_argsle s p = true → rx_asin (s.map (fun q => q.1)) t → rx_asin p t
  | [], [], t, _, h => h
  | [], b :: p, t, e, _ => by cases e
  | a :: s, [], t, e, _ => by cases e
  | a :: s, b :: p, t, e, h => by
    obtain ⟨v, r, rfl, h1, h2⟩ := rx_asin_e h
    unfold rx_argsle at e
    simp only [Bool.and_eq_true] at e
    exact ⟨rx_vle_in e.1 h1, rx_argsle_in s p r e.2 h2⟩
theorem rx_slots_e : ∀ (p : List rx_V) (t : List Value), rx_asin p t → (lg_sl t).length = rx_slots p
  | [], t, h => by rw [rx_asin_nil h]; rfl
  | a :: p, t, h => by
    obtain ⟨v, r, rfl, h1, h2⟩ := rx_asin_e h
    have h3 := rx_slots_e p r h2
    have h4 := rx_vin_cat h1
    unfold lg_sl at h3 ⊢
    rw [List.flatMap_cons, List.length_append, h3]
    show _ = rx_cat2 a + rx_slots p
    congr 1
    rw [← h4]
    by_cases hc : v.category = 2
    · rw [if_pos hc, hc]
      rfl
    · rw [if_neg hc]
      unfold rx_cat2 at h4
      cases hb : rx_isL a with
      | true => rw [hb] at h4; exact absurd h4 hc
      | false => rw [hb] at h4; rw [h4]; rfl
theorem rx_alocs_in : ∀ (p : List rx_V) (t : List Value) (i : Nat), rx_asin p t → rx_lin (rx_alocs i p) (lv_args i t)
  | [], t, i, h => fun j a e => by cases e
  | a :: p, t, i, h => by
    obtain ⟨v, r, rfl, h1, h2⟩ := rx_asin_e h
    have hi : (if v.category = 2 then i + 2 else i + 1) = i + rx_cat2 a := by
      rw [rx_vin_cat h1]
      unfold rx_cat2
      cases rx_isL a <;> rfl
    intro j b hb
    unfold lv_args
    rw [hi]
    rcases rx_ag_c hb with ⟨h3, h4⟩ | ⟨h3, h4⟩
    · simp only at h3 h4
      subst h3 h4
      exact ⟨v, rx_lk_s _ _ _, h1⟩
    · rw [rx_lk_c h3]
      exact rx_alocs_in p r _ h2 j b h4
theorem rx_isr_n {M : rx_M} {ins : Instr} {S : rx_St} {post : Option rx_V} (h : rx_isr M ins S post = none) (st : List Value) : rx_ret M ins st = none := by
  cases ins
  case ireturn => cases h
  case lreturn => cases h
  case return_ => cases h
  all_goals rfl
theorem rx_abs_nc {E : rx_E} {ms : List rx_M} {lk : rx_Lk} {D W : Nat} {M : rx_M} {ins : Instr} {pc : Nat} {S : rx_St} {su : rx_Su} (hms : ms.length ≤ 1000) (e : rx_abs E lk D W M ins pc S = some su) (st : List Value) (h : rx_H) : rx_call ms lk M ins st h = none := by
  cases ins
  case invokevirtual ix => cases e
  case invokespecial ix => cases e
  case invokestatic ix =>
    have e : (match rx_luv lk.2.2.1 (rx_Mo M) ix with | some q => (bif Nat.beq q.1 1001 then rx_aac E D W pc S else bif Nat.beq q.1 1004 then rx_amm true D W pc S else bif Nat.beq q.1 1005 then rx_amm false D W pc S else none) | none => none) = some su := e
    show rx_iv ms (rx_luv lk.2.2.1 (rx_Mo M) ix) 0 st h = none
    split at e
    · next q hq =>
      have h1 : 1000 ≤ q.1 := by
        cases b1 : Nat.beq q.1 1001 with
        | true => have := Nat.eq_of_beq_eq_true b1; omega
        | false =>
          cases b2 : Nat.beq q.1 1004 with
          | true => have := Nat.eq_of_beq_eq_true b2; omega
          | false =>
            cases b3 : Nat.beq q.1 1005 with
            | true => have := Nat.eq_of_beq_eq_true b3; omega
            | false =>
              rw [b1, b2, b3] at e
              cases e
      rw [hq]
      unfold rx_iv
      simp only
      rw [List.getElem?_eq_none (by omega)]
    · cases e
  all_goals rfl
section RXM
variable {cds : List (List Value)} {ms : List rx_M} {lk : rx_Lk} {E : rx_E} {X : rx_H → Prop} {F : rx_H → rx_H → Prop} {sps : List rx_Sp} {V : List Nat} {tb : List rx_Rw}
theorem rx_go_e {q : rx_Rw} {s : Nat × rx_St × rx_U} (h : rx_go V tb q s = true) : ∃ r, rx_rw tb s.1 = some r ∧ rx_sle s.2.1 r.2.1 = true ∧ r.2.2.2.2.all (rx_rok s.2.2 (rx_qs q).1 s.2.1.1 q.2.2.2.2) = true ∧ ∃ x, rx_fall (rx_qs q).1 s.2.1.1 s.2.2 V q.2.2.1.2 r.2.2.1.2 = some x ∧ 1 ≤ q.2.2.1.1 - r.2.2.1.1 + x := by
  unfold rx_go at h
  split at h
  · next r hr =>
    simp only [Bool.and_eq_true] at h
    refine ⟨r, hr, h.1.1, h.1.2, ?_⟩
    have h2 := h.2
    split at h2
    · next x hx => exact ⟨x, hx, of_decide_eq_true h2⟩
    · cases h2
  · cases h
def rx_rin (R : List (Nat × Nat × Int)) (lv : rx_L) : Prop := ∀ r ∈ R, rx_ivl lv r.1 ≤ rx_ivl lv r.2.1 + r.2.2
theorem rx_ag_iv {L : rx_AL} {lv : rx_L} {i : Nat} {p : Int × Int} (hl : rx_lin L lv) (h : rx_ag L i = some (.inl p)) : ∃ x : Int32, rx_lk lv i = some (.int x) ∧ rx_ivl lv i = x.toInt ∧ p.1 ≤ x.toInt ∧ x.toInt ≤ p.2 := by
  obtain ⟨v, h1, x, rfl, h2, h3⟩ := hl i _ h
  exact ⟨x, h1, by unfold rx_ivl; rw [h1], h2, h3⟩
theorem rx_rf1_in {L : rx_AL} {lv : rx_L} {r : Nat × Nat × Int} (hl : rx_lin L lv) (hr : rx_ivl lv r.1 ≤ rx_ivl lv r.2.1 + r.2.2) : rx_lin (rx_rf1 L r) lv := by
  unfold rx_rf1
  split
  · next a b c d h1 h2 =>
    cases hb : decide (d + r.2.2 < b) with
    | true =>
      intro j y hy
      rcases rx_ag_c hy with ⟨e1, e2⟩ | ⟨e1, e2⟩
      · simp only at e1 e2
        subst e1 e2
        obtain ⟨x, k1, k2, k3, k4⟩ := rx_ag_iv hl h1
        obtain ⟨z, k5, k6, k7, k8⟩ := rx_ag_iv hl h2
        refine ⟨_, k1, x, rfl, k3, ?_⟩
        simp only at k8 ⊢
        omega
      · exact hl j y e2
    | false => exact hl
  · exact hl
theorem rx_rfs_in {lv : rx_L} : ∀ (R : List (Nat × Nat × Int)) (L : rx_AL), rx_lin L lv → rx_rin R lv → rx_lin (rx_rfs R L) lv
  | [], L, hl, _ => hl
  | r :: R, L, hl, hr => rx_rfs_in R _ (rx_rf1_in hl (hr r List.mem_cons_self)) (fun t ht => hr t (List.mem_cons_of_mem _ ht))
theorem rx_isI_e {L : rx_AL} {i : Nat} (h : rx_isI L i = true) : ∃ p, rx_ag L i = some (.inl p) := by
  unfold rx_isI at h
  split at h
  · next p hp => exact ⟨p, hp⟩
  · cases h
theorem rx_rok_in {u : rx_U} {A B : rx_AL} {R : List (Nat × Nat × Int)} {lv lv' : rx_L} (hB : rx_lin B lv') (hu : rx_uin A B u lv lv') (hr : rx_rin R lv) {r : Nat × Nat × Int} (h : rx_rok u A B R r = true) : rx_ivl lv' r.1 ≤ rx_ivl lv' r.2.1 + r.2.2 := by
  unfold rx_rok at h
  simp only [Bool.or_eq_true] at h
  rcases h with h | h
  · unfold rx_rby at h
    split at h
    · next a b c d h1 h2 =>
      obtain ⟨x, k1, k2, k3, k4⟩ := rx_ag_iv hB h1
      obtain ⟨z, k5, k6, k7, k8⟩ := rx_ag_iv hB h2
      have := of_decide_eq_true h
      simp only at k4 k7
      omega
    · cases h
  · obtain ⟨t, ht, h⟩ := List.any_eq_true.mp h
    have h0 := hr t ht
    split at h
    · next y hy =>
      simp only [Bool.and_eq_true] at h
      have e1 := Nat.eq_of_beq_eq_true h.1.1
      have e2 := Nat.eq_of_beq_eq_true h.1.2
      have e3 := of_decide_eq_true h.2
      unfold rx_ru at hy
      obtain ⟨hi, hy2⟩ := rx_bif hy
      clear hy
      simp only [Bool.and_eq_true] at hi
      obtain ⟨⟨⟨i1, i2⟩, i3⟩, i4⟩ := hi
      split at hy2
      · cases hy2
        have hu : lv' = lv := hu
        subst hu
        rw [← e1, ← e2]
        omega
      · next i n =>
        cases hy2
        simp only at e1 e2 e3
        obtain ⟨u1, u2⟩ := hu
        rw [← e1, ← e2]
        have a1 : rx_ivl lv' t.1 = rx_ivl lv t.1 + (bif Nat.beq i t.1 then n else 0) := by
          cases hb : Nat.beq i t.1 with
          | true => have := Nat.eq_of_beq_eq_true hb; subst this; exact u1
          | false => rw [u2 t.1 (Nat.ne_of_beq_eq_false hb) i1 i3]; simp
        have a2 : rx_ivl lv' t.2.1 = rx_ivl lv t.2.1 + (bif Nat.beq i t.2.1 then n else 0) := by
          cases hb : Nat.beq i t.2.1 with
          | true => have e9 := Nat.eq_of_beq_eq_true hb; rw [← e9]; exact u1
          | false => rw [u2 t.2.1 (Nat.ne_of_beq_eq_false hb) i2 i4]; simp
        rw [a1, a2]
        omega
      · next i =>
        cases hb : (Nat.beq i t.1 || Nat.beq i t.2.1) with
        | true => rw [hb] at hy2; cases hy2
        | false =>
          rw [hb] at hy2
          cases hy2
          simp only [Bool.or_eq_false_iff] at hb
          rw [← e1, ← e2, hu t.1 (Nat.ne_of_beq_eq_false hb.1) i1 i3, hu t.2.1 (Nat.ne_of_beq_eq_false hb.2) i2 i4]
          omega
    · cases h
theorem rx_cal_e {D W : Nat} {M : rx_M} {kind ix : Nat} {q : rx_Rw} (h : rx_cal E ms lk sps D W V tb M kind ix q = true) : ∃ (j nest : Nat) (sp : rx_Sp) (N : rx_M), rx_luv lk.2.2.1 (rx_Mo M) ix = some (j, nest) ∧ sp ∈ sps ∧ ms[j]? = some N ∧ sp.1 = j ∧ rx_Mk N = kind ∧ sp.2.1.length = rx_an N kind ∧ rx_argsle ((rx_qs q).2.take (rx_an N kind)).reverse sp.2.1 = true ∧ rx_cs8 ((rx_qs q).2.drop (rx_an N kind)) = true ∧ rx_slots sp.2.1 ≤ rx_Ml N ∧ sp.2.2.2.1 + 1 ≤ D ∧ sp.2.2.2.2 + (19 + rx_Ml N) ≤ W ∧
    (kind = 0 ∨ ∃ (lo ci : Nat) (fs : List rx_V) (p : List rx_V), kind = 1 ∧ sp.2.1 = .inr (.inl (lo, lo)) :: p ∧ 16 ≤ lo ∧ E.1[lo - 16]? = some (.inl (ci, fs)) ∧ ci = rx_Mc N) ∧
    rx_go V tb q (q.1 + 3, ((rx_qs q).1, (match sp.2.2.1 with
        | some a => (a, none) :: (rx_qs q).2.drop (rx_an N kind)
        | none => (rx_qs q).2.drop (rx_an N kind))), none) = true := by
  unfold rx_cal at h
  split at h
  · next j nest sp h1 h2 =>
    split at h
    · next N hN =>
      simp only [Bool.and_eq_true] at h
      obtain ⟨⟨⟨⟨⟨⟨⟨⟨⟨a1, a2⟩, a3⟩, a4⟩, a5⟩, a6⟩, a7⟩, a8⟩, a9⟩, a10⟩ := h
      refine ⟨j, nest, sp, N, h1, List.mem_of_getElem? h2, hN, Nat.eq_of_beq_eq_true a1, Nat.eq_of_beq_eq_true a2, Nat.eq_of_beq_eq_true a3, a4, a5, Nat.le_of_ble_eq_true a6, Nat.le_of_ble_eq_true a7, Nat.le_of_ble_eq_true a8, ?_, a10⟩
      split at a9
      · exact Or.inl rfl
      · next lo hi p hp =>
        simp only [Bool.and_eq_true] at a9
        have e := Nat.eq_of_beq_eq_true a9.1.1
        subst e
        have h3 := a9.2
        split at h3
        · next ci fs hf => exact Or.inr ⟨lo, ci, fs, p, rfl, hp, Nat.le_of_ble_eq_true a9.1.2, hf, Nat.eq_of_beq_eq_true h3⟩
        · cases h3
      · cases a9
    · cases h
  · cases h
set_option maxHeartbeats 4000000 in
/-- from any row of a table that is checked: the run ends, if it ends behind the rows at which the table ends -/
theorem rx_keyZ {Z : Option Value → rx_H → Prop} {mi D W : Nat} {post : Option rx_V} {rt : rx_R} {d w : Nat} (hZ : ∀ v h', rx_pin post v → Z v h') (hms : ms.length ≤ 1000) (henv : rx_env E X F) (hsps : ∀ s ∈ sps, rx_spec cds ms lk E X F s) (hc : rx_cht E ms lk sps mi post D W V tb = true) (ht : rx_tok E rt) (hd : D ≤ d) (hw : W ≤ w)
    (hex : ∀ q ∈ tb, q.2.2.2.1 = 2000000 → ∀ (lv : rx_L) (st : List Value) (h : rx_H), rx_sin (rx_qs q) lv st → rx_rin q.2.2.2.2 lv → rx_hin E.1 h → X h → rx_T cds ms lk rt d w mi q.1 lv st h (fun v h' => Z v h' ∧ rx_hin E.1 h' ∧ X h' ∧ F h h')) :
    ∀ q ∈ tb, ∀ (lv : rx_L) (st : List Value) (h : rx_H), rx_sin q.2.1 lv st → rx_rin q.2.2.2.2 lv → rx_hin E.1 h → X h → rx_T cds ms lk rt d w mi q.1 lv st h (fun v h' => Z v h' ∧ rx_hin E.1 h' ∧ X h' ∧ F h h') := by
  obtain ⟨eF, eT, eW⟩ := henv
  unfold rx_cht at hc
  split at hc
  · next M hM =>
    have hall := List.all_eq_true.mp hc
    have key : ∀ (n : Nat) (q : rx_Rw), q ∈ tb → ∀ (lv : rx_L) (st : List Value) (h : rx_H), rx_sin (rx_qs q) lv st → rx_rin q.2.2.2.2 lv → rx_hin E.1 h → X h → q.2.2.1.1 + rx_rv lv V q.2.2.1.2 < (n : Int) → rx_T cds ms lk rt d w mi q.1 lv st h (fun v h' => Z v h' ∧ rx_hin E.1 h' ∧ X h' ∧ F h h') := by
      intro n
      induction n with
      | zero =>
        intro q hq lv st h hs hri hh hx hr
        exfalso
        have h1 := hall q hq
        unfold rx_row at h1
        simp only [Bool.and_eq_true] at h1
        have h2 := h1.1
        split at h2
        · next x hx2 =>
          have h3 := of_decide_eq_true h2
          have h4 := rx_low_le hs.1 V _ x hx2
          omega
        · cases h2
      | succ n ih =>
        intro q hq lv st h hs hri hh hx hr
        have h1 := hall q hq
        unfold rx_row at h1
        simp only [Bool.and_eq_true] at h1
        have h2 := h1.2
        cases hxx : Nat.beq q.2.2.2.1 2000000 with
        | true => exact hex q hq (Nat.eq_of_beq_eq_true hxx) lv st h hs hri hh hx
        | false =>
        rw [hxx] at h2
        simp only [cond_false] at h2
        split at h2
        · next ins hins =>
          split at h2
          · next b hb =>
            subst h2
            obtain ⟨hl, hk⟩ := hs
            unfold rx_isr at hb
            split at hb
            · -- ireturn
              have hb := Option.some.inj hb
              split at hb
              · next p t0 b hst _ =>
                simp only [Bool.and_eq_true] at hb
                rw [hst] at hk
                obtain ⟨v, r, rfl, hv, _, hk1⟩ := rx_kin_e hk
                have hr1 := rx_kin_nil hk1
                subst hr1
                have hv2 := hv
                obtain ⟨x, rfl, x1, x2⟩ := hv
                refine rx_T.ret (v := some (.int x)) hM hins ?_ ⟨hZ _ _ (rx_vle_in hb.1 hv2), hh, hx, eF h⟩
                have hb2 := hb.2
                unfold rx_ret
                split at hb2
                · next hm => simp only [hm]
                · next hm =>
                  simp only [hm]
                  simp only [Bool.and_eq_true, decide_eq_true_eq] at hb2
                  have h4 : x.toInt = 0 ∨ x.toInt = 1 := by omega
                  rw [if_pos]
                  rcases h4 with h5 | h5
                  · exact Or.inl (Int32.toInt_inj.mp h5)
                  · exact Or.inr (Int32.toInt_inj.mp h5)
                · cases hb2
              · cases hb
            · -- lreturn
              have hb := Option.some.inj hb
              split at hb
              · next m t0 b hst _ =>
                simp only [Bool.and_eq_true] at hb
                rw [hst] at hk
                obtain ⟨v, r, rfl, hv, _, hk1⟩ := rx_kin_e hk
                have hr1 := rx_kin_nil hk1
                subst hr1
                have hv2 := hv
                obtain ⟨x, rfl, x1, x2⟩ := hv
                refine rx_T.ret (v := some (.long x)) hM hins ?_ ⟨hZ _ _ (rx_vle_in hb.1 hv2), hh, hx, eF h⟩
                have hb2 := hb.2
                unfold rx_ret
                split at hb2
                · next hm => simp only [hm]
                · cases hb2
              · cases hb
            · -- return
              have hb := Option.some.inj hb
              split at hb
              · next hst _ =>
                rw [hst] at hk
                have hr1 := rx_kin_nil hk
                subst hr1
                refine rx_T.ret (v := none) hM hins ?_ ⟨hZ _ _ trivial, hh, hx, eF h⟩
                unfold rx_ret
                split at hb
                · next hm => simp only [hm]
                · cases hb
              · cases hb
            · cases hb
          · next hb =>
            cases hop : Nat.beq q.2.2.2.1 1000000 with
            | true =>
              rw [hop] at h2
              simp only [cond_true] at h2
              split at h2
              · next su hsu =>
                obtain ⟨⟨pc', lv', st', h'⟩, a1, ⟨s, a2, a3, a4, a5⟩, a6, a7⟩ := rx_abs_ok (cds := cds) (rt := rt) (st := st) (h := h) hsu ht hs.1 hs.2 hh hd hw
                obtain ⟨r, b1, b2, b9, x, b3, b4⟩ := rx_go_e (List.all_eq_true.mp h2 s a2)
                obtain ⟨c1, c2⟩ := rx_rw_e tb _ r b1
                simp only at a3 a4 a5 a6 a7
                have b5 := rx_fall_le a5 a4.1 V _ _ x b3
                obtain ⟨w1, w2⟩ := eW h h' hh a6 a7
                refine rx_T.op hM hins (rx_isr_n hb st) (rx_abs_nc hms hsu st h) a1 ?_
                rw [← a3, ← c2]
                have hR : rx_rin r.2.2.2.2 lv' := fun t ht2 => rx_rok_in a4.1 a5 hri (List.all_eq_true.mp b9 t ht2)
                have hS := rx_sle_in a4 b2
                refine (ih r c1 lv' st' h' ⟨rx_rfs_in _ _ hS.1 hR, hS.2⟩ hR a6 (w2 hx) (by omega)).mono (fun v h9 hp => ⟨hp.1, hp.2.1, hp.2.2.1, eT _ _ _ w1 hp.2.2.2⟩)
              · cases h2
            | false =>
              rw [hop] at h2
              simp only [cond_false] at h2
              have call : ∀ kind ix : Nat, (∀ r, rx_iv ms (rx_luv lk.2.2.1 (rx_Mo M) ix) kind st h = some r → rx_call ms lk M ins st h = some r) → rx_cal E ms lk sps D W V tb M kind ix q = true → rx_T cds ms lk rt d w mi q.1 lv st h (fun v h' => Z v h' ∧ rx_hin E.1 h' ∧ X h' ∧ F h h') := by
                intro kind ix hcall hcal
                obtain ⟨j, nest, sq, N, a1, a2, a3, a4, a5, a6, a7, a8, a9, a10, a11, a12, a13⟩ := rx_cal_e hcal
                have hargs := rx_argsle_in _ _ _ a7 (rx_kin_rev (rx_an N kind) _ _ hs.2)
                have hlen := rx_kin_len _ _ hs.2
                have hdrop := rx_kin_drop (rx_an N kind) _ _ hs.2
                have hal : rx_an N kind ≤ st.length := by
                  have h5 : ((st.take (rx_an N kind)).reverse).length = sq.2.1.length := by
                    clear a7 a13
                    revert hargs
                    generalize (st.take (rx_an N kind)).reverse = t
                    generalize sq.2.1 = p
                    intro hp
                    induction p generalizing t with
                    | nil => rw [rx_asin_nil hp]; rfl
                    | cons a p ihp =>
                      obtain ⟨v, r, rfl, _, h6⟩ := rx_asin_e hp
                      simp only [List.length_cons, ihp r h6]
                  rw [List.length_reverse, List.length_take, a6] at h5
                  omega
                have hiv : rx_iv ms (rx_luv lk.2.2.1 (rx_Mo M) ix) kind st h = some (j, (st.take (rx_an N kind)).reverse, st.drop (rx_an N kind)) := by
                  unfold rx_iv
                  rw [a1]
                  simp only [a3]
                  rw [if_pos]
                  refine ⟨a5, hal, rx_cs8_le hdrop a8, by rw [rx_slots_e _ _ hargs]; exact a9, ?_⟩
                  rcases a12 with rfl | ⟨lo, ci, fs, p, rfl, b1, b2, b3, b4⟩
                  · unfold rx_rcv
                    rfl
                  · rw [b1] at hargs
                    obtain ⟨v, r, hr1, ⟨k, rfl, k1, k2⟩, _⟩ := rx_asin_e hargs
                    simp only at k1 k2
                    have ek : k = lo := by omega
                    subst ek
                    rw [hr1]
                    obtain ⟨c, c1, vs, rfl, _⟩ := rx_hin_get hh b3
                    have c2 := rx_ro_i (k := k - 16) c1
                    rw [Nat.sub_add_cancel b2] at c2
                    unfold rx_rcv
                    simp only [c2]
                    rw [b4]
                    exact Nat.beq_refl _
                obtain ⟨d', rfl⟩ : ∃ d', d = d' + 1 := ⟨d - 1, by omega⟩
                obtain ⟨r, b1, b2, b9, x, b3, b4⟩ := rx_go_e a13
                obtain ⟨c1, c2⟩ := rx_rw_e tb _ r b1
                simp only at b2 b3 b4 b9 c2
                subst a4
                refine rx_T.call hM hins (rx_isr_n hb st) (hcall _ hiv) a3 (by omega) (hsps sq a2 rt d' (w - (19 + rx_Ml N)) _ h ht (by omega) (by omega) hargs hh hx) ?_
                intro v1 h1 hp
                obtain ⟨p1, p2, p3, p4⟩ := hp
                rw [← c2]
                have hsin : rx_sin ((rx_qs q).1, (match sq.2.2.1 with
                    | some a => (a, none) :: (rx_qs q).2.drop (rx_an N kind)
                    | none => (rx_qs q).2.drop (rx_an N kind))) lv (v1.toList ++ st.drop (rx_an N kind)) := by
                  refine ⟨hs.1, ?_⟩
                  unfold rx_pin at p1
                  split at p1
                  · next e1 => rw [e1]; exact hdrop
                  · next a y e1 => rw [e1]; exact ⟨p1, trivial, hdrop⟩
                  · exact absurd p1 (fun z => z)
                have b5 := rx_fall_le (A := (rx_qs q).1) (B := (rx_qs q).1) (u := none) (lv := lv) (lv' := lv) rfl hs.1 V _ _ x b3
                have hR : rx_rin r.2.2.2.2 lv := fun t ht2 => rx_rok_in (A := (rx_qs q).1) (B := (rx_qs q).1) (u := none) (lv := lv) hs.1 rfl hri (List.all_eq_true.mp b9 t ht2)
                have hS := rx_sle_in hsin b2
                exact (ih r c1 lv _ h1 ⟨rx_rfs_in _ _ hS.1 hR, hS.2⟩ hR p2 p3 (by omega)).mono (fun v h9 hp => ⟨hp.1, hp.2.1, hp.2.2.1, eT _ _ _ p4 hp.2.2.2⟩)
              split at h2
              · next ix => exact call 0 ix (fun r hr => hr) h2
              · next ix => exact call 1 ix (fun r hr => hr) h2
              · cases h2
        · cases h2
    intro q hq lv st h hs hri hh hx
    have h1 : rx_sin (rx_qs q) lv st := ⟨rx_rfs_in _ _ hs.1 hri, hs.2⟩
    exact key (q.2.2.1.1 + rx_rv lv V q.2.2.1.2 + 1).toNat q hq lv st h h1 hri hh hx (by omega)
  · cases hc
theorem rx_key {mi D W : Nat} {post : Option rx_V} {rt : rx_R} {d w : Nat} (hms : ms.length ≤ 1000) (henv : rx_env E X F) (hsps : ∀ s ∈ sps, rx_spec cds ms lk E X F s) (hc : rx_cht E ms lk sps mi post D W V tb = true) (ht : rx_tok E rt) (hd : D ≤ d) (hw : W ≤ w)
    (hex : ∀ q ∈ tb, q.2.2.2.1 = 2000000 → ∀ (lv : rx_L) (st : List Value) (h : rx_H), rx_sin (rx_qs q) lv st → rx_rin q.2.2.2.2 lv → rx_hin E.1 h → X h → rx_T cds ms lk rt d w mi q.1 lv st h (fun v h' => rx_pin post v ∧ rx_hin E.1 h' ∧ X h' ∧ F h h')) :
    ∀ q ∈ tb, ∀ (lv : rx_L) (st : List Value) (h : rx_H), rx_sin q.2.1 lv st → rx_rin q.2.2.2.2 lv → rx_hin E.1 h → X h → rx_T cds ms lk rt d w mi q.1 lv st h (fun v h' => rx_pin post v ∧ rx_hin E.1 h' ∧ X h' ∧ F h h') := rx_keyZ (Z := fun v _ => rx_pin post v) (fun _ _ h => h) hms henv hsps hc ht hd hw hex
/-- THE CHECKER'S WORD -/
theorem rx_chm_ok {sp : rx_Sp} (hms : ms.length ≤ 1000) (henv : rx_env E X F) (hsps : ∀ s ∈ sps, rx_spec cds ms lk E X F s) (hc : rx_chm E ms lk sps sp V tb = true) : rx_spec cds ms lk E X F sp := by
  intro rt d w as h0 ht hd hw has hh0 hx0
  unfold rx_chm at hc
  simp only [Bool.and_eq_true] at hc
  obtain ⟨⟨c1, c2⟩, c3⟩ := hc
  split at c1
  · next r0 hr0 =>
    simp only [Bool.and_eq_true] at c1
    obtain ⟨b1, b2⟩ := rx_rw_e tb _ r0 hr0
    have h1 := rx_sle_in (S := (rx_alocs 0 sp.2.1, [])) (lv := lv_args 0 as) (st := []) ⟨rx_alocs_in sp.2.1 as 0 has, trivial⟩ c1.1
    have hR : rx_rin r0.2.2.2.2 (lv_args 0 as) := by
      have e := Nat.eq_of_beq_eq_true c1.2
      rw [List.eq_nil_of_length_eq_zero e]
      exact fun r hr => by cases hr
    have h2 := rx_key hms henv hsps c3 ht hd hw (fun q hq e => by
      have h3 := List.all_eq_true.mp c2 q hq
      rw [e] at h3
      cases h3) r0 b1 _ _ h0 h1 hR hh0 hx0
    rw [b2] at h2
    exact h2
  · cases c1
end RXM
