section RXMY
variable {cds : List (List Value)} {ms : List rx_M} {lk : rx_Lk} {E : rx_E} {X : rx_H → Prop} {F : rx_H → rx_H → Prop} {sps : List rx_Sp} {V : List Nat} {tb : List rx_Rw}
set_option maxHeartbeats 4000000 in
/-- as rx_keyZ; what is kept on the way (X) need not hold at the end -/
theorem rx_keyY {Z : Option Value → rx_H → Prop} {mi D W : Nat} {post : Option rx_V} {rt : rx_R} {d w : Nat} (hZ : ∀ v h', rx_pin post v → rx_hin E.1 h' → X h' → Z v h') (hms : ms.length ≤ 1000) (henv : rx_env E X F) (hsps : ∀ s ∈ sps, rx_spec cds ms lk E X F s) (hc : rx_cht E ms lk sps mi post D W V tb = true) (ht : rx_tok E rt) (hd : D ≤ d) (hw : W ≤ w)
    (hex : ∀ q ∈ tb, q.2.2.2.1 = 2000000 → ∀ (lv : rx_L) (st : List Value) (h : rx_H), rx_sin (rx_qs q) lv st → rx_rin q.2.2.2.2 lv → rx_hin E.1 h → X h → rx_T cds ms lk rt d w mi q.1 lv st h (fun v h' => Z v h' ∧ F h h')) :
    ∀ q ∈ tb, ∀ (lv : rx_L) (st : List Value) (h : rx_H), rx_sin q.2.1 lv st → rx_rin q.2.2.2.2 lv → rx_hin E.1 h → X h → rx_T cds ms lk rt d w mi q.1 lv st h (fun v h' => Z v h' ∧ F h h') := by
  obtain ⟨eF, eT, eW⟩ := henv
  unfold rx_cht at hc
  split at hc
  · next M hM =>
    have hall := List.all_eq_true.mp hc
    have key : ∀ (n : Nat) (q : rx_Rw), q ∈ tb → ∀ (lv : rx_L) (st : List Value) (h : rx_H), rx_sin (rx_qs q) lv st → rx_rin q.2.2.2.2 lv → rx_hin E.1 h → X h → q.2.2.1.1 + rx_rv lv V q.2.2.1.2 < (n : Int) → rx_T cds ms lk rt d w mi q.1 lv st h (fun v h' => Z v h' ∧ F h h') := by
      intro n
      induction n with
      | zero =>
        intro q hq lv st h hs hri hh hx hr
        exfalso
        have h1 := hall q hq
        unfold rx_row at h1
        simp only [Bool.and_eq_true] at h1
        have h2 := h1.1
        split at h2
        · next x hx2 =>
          have h3 := of_decide_eq_true h2
          have h4 := rx_low_le hs.1 V _ x hx2
          omega
        · cases h2
      | succ n ih =>
        intro q hq lv st h hs hri hh hx hr
        have h1 := hall q hq
        unfold rx_row at h1
        simp only [Bool.and_eq_true] at h1
        have h2 := h1.2
        cases hxx : Nat.beq q.2.2.2.1 2000000 with
        | true => exact hex q hq (Nat.eq_of_beq_eq_true hxx) lv st h hs hri hh hx
        | false =>
        rw [hxx] at h2
        simp only [cond_false] at h2
        split at h2
        · next ins hins =>
          split at h2
          · next b hb =>
            subst h2
            obtain ⟨hl, hk⟩ := hs
            unfold rx_isr at hb
            split at hb
            · -- ireturn
              have hb := Option.some.inj hb
              split at hb
              · next p t0 b hst _ =>
                simp only [Bool.and_eq_true] at hb
                rw [hst] at hk
                obtain ⟨v, r, rfl, hv, _, hk1⟩ := rx_kin_e hk
                have hr1 := rx_kin_nil hk1
                subst hr1
                have hv2 := hv
                obtain ⟨x, rfl, x1, x2⟩ := hv
                refine rx_T.ret (v := some (.int x)) hM hins ?_ ⟨hZ _ _ (rx_vle_in hb.1 hv2) hh hx, eF h⟩
                have hb2 := hb.2
                unfold rx_ret
                split at hb2
                · next hm => simp only [hm]
                · next hm =>
                  simp only [hm]
                  simp only [Bool.and_eq_true, decide_eq_true_eq] at hb2
                  have h4 : x.toInt = 0 ∨ x.toInt = 1 := by omega
                  rw [if_pos]
                  rcases h4 with h5 | h5
                  · exact Or.inl (Int32.toInt_inj.mp h5)
                  · exact Or.inr (Int32.toInt_inj.mp h5)
                · cases hb2
              · cases hb
            · -- lreturn
              have hb := Option.some.inj hb
              split at hb
              · next m t0 b hst _ =>
                simp only [Bool.and_eq_true] at hb
                rw [hst] at hk
                obtain ⟨v, r, rfl, hv, _, hk1⟩ := rx_kin_e hk
                have hr1 := rx_kin_nil hk1
                subst hr1
                have hv2 := hv
                obtain ⟨x, rfl, x1, x2⟩ := hv
                refine rx_T.ret (v := some (.long x)) hM hins ?_ ⟨hZ _ _ (rx_vle_in hb.1 hv2) hh hx, eF h⟩
                have hb2 := hb.2
                unfold rx_ret
                split at hb2
                · next hm => simp only [hm]
                · cases hb2
              · cases hb
            · -- return
              have hb := Option.some.inj hb
              split at hb
              · next hst _ =>
                rw [hst] at hk
                have hr1 := rx_kin_nil hk
                subst hr1
                refine rx_T.ret (v := none) hM hins ?_ ⟨hZ _ _ trivial hh hx, eF h⟩
                unfold rx_ret
                split at hb
                · next hm => simp only [hm]
                · cases hb
              · cases hb
            · cases hb
          · next hb =>
            cases hop : Nat.beq q.2.2.2.1 1000000 with
            | true =>
              rw [hop] at h2
              simp only [cond_true] at h2
              split at h2
              · next su hsu =>
                obtain ⟨⟨pc', lv', st', h'⟩, a1, ⟨s, a2, a3, a4, a5⟩, a6, a7⟩ := rx_abs_ok (cds := cds) (rt := rt) (st := st) (h := h) hsu ht hs.1 hs.2 hh hd hw
                obtain ⟨r, b1, b2, b9, x, b3, b4⟩ := rx_go_e (List.all_eq_true.mp h2 s a2)
                obtain ⟨c1, c2⟩ := rx_rw_e tb _ r b1
                simp only at a3 a4 a5 a6 a7
                have b5 := rx_fall_le a5 a4.1 V _ _ x b3
                obtain ⟨w1, w2⟩ := eW h h' hh a6 a7
                refine rx_T.op hM hins (rx_isr_n hb st) (rx_abs_nc hms hsu st h) a1 ?_
                rw [← a3, ← c2]
                have hR : rx_rin r.2.2.2.2 lv' := fun t ht2 => rx_rok_in a4.1 a5 hri (List.all_eq_true.mp b9 t ht2)
                have hS := rx_sle_in a4 b2
                refine (ih r c1 lv' st' h' ⟨rx_rfs_in _ _ hS.1 hR, hS.2⟩ hR a6 (w2 hx) (by omega)).mono (fun v h9 hp => ⟨hp.1, eT _ _ _ w1 hp.2⟩)
              · cases h2
            | false =>
              rw [hop] at h2
              simp only [cond_false] at h2
              have call : ∀ kind ix : Nat, (∀ r, rx_iv ms (rx_luv lk.2.2.1 (rx_Mo M) ix) kind st h = some r → rx_call ms lk M ins st h = some r) → rx_cal E ms lk sps D W V tb M kind ix q = true → rx_T cds ms lk rt d w mi q.1 lv st h (fun v h' => Z v h' ∧ F h h') := by
                intro kind ix hcall hcal
                obtain ⟨j, nest, sq, N, a1, a2, a3, a4, a5, a6, a7, a8, a9, a10, a11, a12, a13⟩ := rx_cal_e hcal
                have hargs := rx_argsle_in _ _ _ a7 (rx_kin_rev (rx_an N kind) _ _ hs.2)
                have hlen := rx_kin_len _ _ hs.2
                have hdrop := rx_kin_drop (rx_an N kind) _ _ hs.2
                have hal : rx_an N kind ≤ st.length := by
                  have h5 : ((st.take (rx_an N kind)).reverse).length = sq.2.1.length := by
                    clear a7 a13
                    revert hargs
                    generalize (st.take (rx_an N kind)).reverse = t
                    generalize sq.2.1 = p
                    intro hp
                    induction p generalizing t with
                    | nil => rw [rx_asin_nil hp]; rfl
                    | cons a p ihp =>
                      obtain ⟨v, r, rfl, _, h6⟩ := rx_asin_e hp
                      simp only [List.length_cons, ihp r h6]
                  rw [List.length_reverse, List.length_take, a6] at h5
                  omega
                have hiv : rx_iv ms (rx_luv lk.2.2.1 (rx_Mo M) ix) kind st h = some (j, (st.take (rx_an N kind)).reverse, st.drop (rx_an N kind)) := by
                  unfold rx_iv
                  rw [a1]
                  simp only [a3]
                  rw [if_pos]
                  refine ⟨a5, hal, rx_cs8_le hdrop a8, by rw [rx_slots_e _ _ hargs]; exact a9, ?_⟩
                  rcases a12 with rfl | ⟨lo, ci, fs, p, rfl, b1, b2, b3, b4⟩
                  · unfold rx_rcv
                    rfl
                  · rw [b1] at hargs
                    obtain ⟨v, r, hr1, ⟨k, rfl, k1, k2⟩, _⟩ := rx_asin_e hargs
                    simp only at k1 k2
                    have ek : k = lo := by omega
                    subst ek
                    rw [hr1]
                    obtain ⟨c, c1, vs, rfl, _⟩ := rx_hin_get hh b3
                    have c2 := rx_ro_i (k := k - 16) c1
                    rw [Nat.sub_add_cancel b2] at c2
                    unfold rx_rcv
                    simp only [c2]
                    rw [b4]
                    exact Nat.beq_refl _
                obtain ⟨d', rfl⟩ : ∃ d', d = d' + 1 := ⟨d - 1, by omega⟩
                obtain ⟨r, b1, b2, b9, x, b3, b4⟩ := rx_go_e a13
                obtain ⟨c1, c2⟩ := rx_rw_e tb _ r b1
                simp only at b2 b3 b4 b9 c2
                subst a4
                refine rx_T.call hM hins (rx_isr_n hb st) (hcall _ hiv) a3 (by omega) (hsps sq a2 rt d' (w - (19 + rx_Ml N)) _ h ht (by omega) (by omega) hargs hh hx) ?_
                intro v1 h1 hp
                obtain ⟨p1, p2, p3, p4⟩ := hp
                rw [← c2]
                have hsin : rx_sin ((rx_qs q).1, (match sq.2.2.1 with
                    | some a => (a, none) :: (rx_qs q).2.drop (rx_an N kind)
                    | none => (rx_qs q).2.drop (rx_an N kind))) lv (v1.toList ++ st.drop (rx_an N kind)) := by
                  refine ⟨hs.1, ?_⟩
                  unfold rx_pin at p1
                  split at p1
                  · next e1 => rw [e1]; exact hdrop
                  · next a y e1 => rw [e1]; exact ⟨p1, trivial, hdrop⟩
                  · exact absurd p1 (fun z => z)
                have b5 := rx_fall_le (A := (rx_qs q).1) (B := (rx_qs q).1) (u := none) (lv := lv) (lv' := lv) rfl hs.1 V _ _ x b3
                have hR : rx_rin r.2.2.2.2 lv := fun t ht2 => rx_rok_in (A := (rx_qs q).1) (B := (rx_qs q).1) (u := none) (lv := lv) hs.1 rfl hri (List.all_eq_true.mp b9 t ht2)
                have hS := rx_sle_in hsin b2
                exact (ih r c1 lv _ h1 ⟨rx_rfs_in _ _ hS.1 hR, hS.2⟩ hR p2 p3 (by omega)).mono (fun v h9 hp => ⟨hp.1, eT _ _ _ p4 hp.2⟩)
              split at h2
              · next ix => exact call 0 ix (fun r hr => hr) h2
              · next ix => exact call 1 ix (fun r hr => hr) h2
              · cases h2
        · cases h2
    intro q hq lv st h hs hri hh hx
    have h1 : rx_sin (rx_qs q) lv st := ⟨rx_rfs_in _ _ hs.1 hri, hs.2⟩
    exact key (q.2.2.1.1 + rx_rv lv V q.2.2.1.2 + 1).toNat q hq lv st h h1 hri hh hx (by omega)
  · cases hc
end RXMY
