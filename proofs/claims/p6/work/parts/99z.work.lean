section RXWK
variable {rt : rx_R} {d w : Nat} {P : Option Value → rx_H → Prop}
/-- work: what is put in stays -/
def rx_Fw (h h' : rx_H) : Prop := (∀ z, z < 37 ∨ (38 ≤ z ∧ z < 44) ∨ z = 45 → h'[z]? = h[z]?) ∧ (∀ j, j < 17 → rx_gF h' 37 j = rx_gF h 37 j)
theorem rx_Fw.refl (h : rx_H) : rx_Fw h h := ⟨fun _ _ => rfl, fun _ _ => rfl⟩
theorem rx_Fw.trans {a b c : rx_H} (h1 : rx_Fw a b) (h2 : rx_Fw b c) : rx_Fw a c := ⟨fun z hz => (h2.1 z hz).trans (h1.1 z hz), fun j hj => (h2.2 j hj).trans (h1.2 j hj)⟩
theorem rx_Fb.fw {h h' : rx_H} (H : rx_Fb h h') : rx_Fw h h' := ⟨fun z hz => H.1 z (by omega), fun j hj => H.2 j (by omega) (by omega)⟩
theorem rx_Fv.fw {h h' : rx_H} (H : rx_Fv h h') : rx_Fw h h' := ⟨fun z hz => H.1 z (by omega), fun j hj => H.2 j (by omega) (by omega)⟩
theorem rx_Fm.fw {h h' : rx_H} (H : rx_Fm h h') : rx_Fw h h' := ⟨H.1, H.2.1⟩
def rx_md (h : rx_H) : Nat := if rx_gF h 37 20 = 0 then 0 else 1
theorem rx_md_1 (h : rx_H) : rx_md h < 2 := by
  unfold rx_md
  by_cases e : rx_gF h 37 20 = 0
  · rw [if_pos e]; decide
  · rw [if_neg e]; decide
theorem rx_md_0 {h : rx_H} (e : rx_gF h 37 20 = 0) : rx_md h = 0 := if_pos e
theorem rx_md_n {h : rx_H} (e : ¬ rx_gF h 37 20 = 0) : rx_md h = 1 := if_neg e
/-- news is set: the measure stays -/
theorem rx_news {h h' : rx_H} (hx : rx_Xm h) (f : ∀ j, ¬ j = 17 → rx_gF h' 37 j = rx_gF h 37 j) (s1 : ∀ z, ¬ z = 37 → h'[z]? = h[z]?) : rx_Xm h' ∧ rx_MA h' = rx_MA h ∧ rx_MU h' = rx_MU h ∧ rx_gF h' 37 20 = rx_gF h 37 20 ∧ rx_Fw h h' := by
  refine ⟨rx_Xm_z (h := h) (fun z hz => s1 z (by omega)) hx, ?_, ?_, f 20 (by decide), fun z hz => s1 z (by omega), fun j hj => f j (by omega)⟩
  · unfold rx_MA
    rw [rx_gI_of (s1 46 (by decide)), rx_gI_of (s1 47 (by decide)), rx_gI_of (s1 48 (by decide))]
  · unfold rx_MU
    rw [rx_gL_of (s1 50 (by decide)), rx_gI_of (s1 51 (by decide))]
theorem rx_Fv.ma {h h' : rx_H} (H : rx_Fv h h') : rx_MA h' = rx_MA h := by
  unfold rx_MA
  rw [rx_gI_of (H.1 46 (by omega)), rx_gI_of (H.1 47 (by omega)), rx_gI_of (H.1 48 (by omega))]
theorem rx_gfx {h : rx_H} {vs : List Value} {j : Nat} {x : Int32} (c1 : h[37]? = some (.inr (5, vs))) (c2 : vs[j]? = some (.int x)) : rx_gF h 37 j = x := rx_gF_at c1 c2
set_option maxRecDepth 100000 in
set_option maxHeartbeats 4000000 in
theorem rx_wk_lp {h0 : rx_H} (ht : rx_tok rx_Em rt) (hw : 241 ≤ w) : ∀ (A m U : Nat) (h : rx_H), rx_MA h < A → rx_md h < m → rx_MU h < U → rx_hin rx_I0 h → rx_Xm h → rx_Fw h0 h →
    rx_T rx_cds rx_ms rx_lk0 rt (d + 7) w 113 35 [(0, .ref 53)] [] h (fun v h' => v = none ∧ rx_hin rx_I0 h' ∧ rx_Xm h' ∧ rx_Fw h0 h') := by
  intro A
  induction A with
  | zero => exact fun m U h hA => absurd hA (Nat.not_lt_zero _)
  | succ A ihA =>
  intro m
  induction m with
  | zero => exact fun U h _ hm => absurd hm (Nat.not_lt_zero _)
  | succ m ihm =>
  intro U
  induction U with
  | zero => exact fun h _ _ hU => absurd hU (Nat.not_lt_zero _)
  | succ U ihU =>
      intro h hA hm hU hh hx hw0
      have back : ∀ h', rx_hin rx_I0 h' → rx_Xm h' → rx_Fw h0 h' → (¬ rx_gF h' 37 17 = 0 → rx_MA h' < rx_MA h ∨ (rx_MA h' = rx_MA h ∧ (rx_md h' < rx_md h ∨ (rx_md h' = rx_md h ∧ rx_MU h' < rx_MU h)))) → rx_T rx_cds rx_ms rx_lk0 rt (d + 7) w 113 28 [(0, .ref 53)] [] h' (fun v h' => v = none ∧ rx_hin rx_I0 h' ∧ rx_Xm h' ∧ rx_Fw h0 h') := by
        intro h' hh' hx' hw' hmes
        refine rx_T.to 1 29 [(0, .ref 53)] [.ref 53] h' rfl ?_
        refine rx_T.gfi (M := rxm_113) (k := 37) rfl rfl rfl hh' rfl rfl (fun ws x a1 a2 x1 x2 => ?_)
        have ex := rx_gF_at a1 a2
        refine rx_T.br1 (M := rxm_113) 73 rfl rfl (by decide) (fun _ => ?_) (fun q0 => ?_)
        · exact rx_T.ret (M := rxm_113) (v := none) rfl rfl rfl ⟨rfl, hh', hx', hw'⟩
        · rcases hmes (fun z => of_decide_eq_false q0 (ex.symm.trans z)) with z | ⟨z, y | ⟨y, u⟩⟩
          · exact ihA 2 (rx_MU h' + 1) h' (by omega) (rx_md_1 h') (by omega) hh' hx' hw'
          · exact ihm (rx_MU h' + 1) h' (by omega) (by omega) (by omega) hh' hx' hw'
          · exact ihU h' (by omega) (by omega) (by omega) hh' hx' hw'
      refine rx_T.to 2 37 [(0, .ref 53)] [.int 0, .ref 53] h rfl ?_
      refine rx_T.pfF (M := rxm_113) (k := 37) rfl rfl rfl hh rfl rfl rfl (by decide) (by decide) (fun h1 hh1 v1 f1 z1 => ?_)
      have e17 := v1
      obtain ⟨hx1, eA, eU, e20, hw1⟩ := rx_news hx f1 z1
      refine rx_T.to 1 41 [(0, .ref 53)] [.ref 53] h1 rfl ?_
      refine rx_T.callm (M := rxm_113) (N := rxm_138) (j := 138) (nest := 0) (as' := []) (rest := []) rfl rfl rfl rfl rfl rfl rfl rfl (Nat.le_of_ble_eq_true rfl) (Nat.le_of_ble_eq_true rfl) hh1 (show 19 + 4 ≤ w by omega) (rx_sp_na rt (d + 6) (w - (19 + 4)) [.ref 53] h1 ht (show 3 ≤ (d + 6) by omega) (show 120 ≤ w - (19 + 4) by omega) ⟨⟨53, rfl, Nat.le_refl _, Nat.le_refl _⟩, trivial⟩ hh1 hx1) ?_
      intro v2 h2 hp
      obtain ⟨pv2, hh2, hx2, hF2⟩ := hp
      obtain rfl := rx_pin_n pv2
      refine rx_T.to 1 45 [(0, .ref 53)] [.ref 53] h2 rfl ?_
      refine rx_T.callm (M := rxm_113) (N := rxm_141) (j := 141) (nest := 0) (as' := []) (rest := []) rfl rfl rfl rfl rfl rfl rfl rfl (Nat.le_of_ble_eq_true rfl) (Nat.le_of_ble_eq_true rfl) hh2 (show 19 + 4 ≤ w by omega) ((rxzc_14 rx_sp_join) rt (d + 6) (w - (19 + 4)) [.ref 53] h2 ht (show 2 ≤ (d + 6) by omega) (show 55 ≤ w - (19 + 4) by omega) ⟨⟨53, rfl, Nat.le_refl _, Nat.le_refl _⟩, trivial⟩ hh2 hx2) ?_
      intro v3 h3 hp
      obtain ⟨pv3, hh3, hx3, hF3⟩ := hp
      obtain rfl := rx_pin_n pv3
      have hF13 := hF2.trans hF3
      refine rx_T.to 1 49 [(0, .ref 53)] [.ref 53] h3 rfl ?_
      refine rx_T.gfi (M := rxm_113) (k := 37) rfl rfl rfl hh3 rfl rfl (fun ws x a1 a2 x1 x2 => ?_)
      have ex := rx_gF_at a1 a2
      refine rx_T.br1 (M := rxm_113) 62 rfl rfl (by decide) (fun q0 => ?_) (fun q0 => ?_)
      · refine rx_T.to 1 63 [(0, .ref 53)] [.ref 53] h3 rfl ?_
        refine rx_T.callm (M := rxm_113) (N := rxm_143) (j := 143) (nest := 0) (as' := []) (rest := []) rfl rfl rfl rfl rfl rfl rfl rfl (Nat.le_of_ble_eq_true rfl) (Nat.le_of_ble_eq_true rfl) hh3 (show 19 + 5 ≤ w by omega) ((rxzc_30 rx_sp_rc rx_sp_eq) rt (d + 6) (w - (19 + 5)) [.ref 53] h3 ht (show 5 ≤ (d + 6) by omega) (show 192 ≤ w - (19 + 5) by omega) ⟨⟨53, rfl, Nat.le_refl _, Nat.le_refl _⟩, trivial⟩ hh3 hx3) ?_
        intro v4 h4 hp
        obtain ⟨pv4, hh4, hx4, hF4⟩ := hp
        obtain rfl := rx_pin_n pv4
        refine rx_T.to 1 67 [(0, .ref 53)] [.ref 53] h4 rfl ?_
        refine rx_T.callm (M := rxm_113) (N := rxm_145) (j := 145) (nest := 0) (as' := []) (rest := []) rfl rfl rfl rfl rfl rfl rfl rfl (Nat.le_of_ble_eq_true rfl) (Nat.le_of_ble_eq_true rfl) hh4 (show 19 + 5 ≤ w by omega) ((rxzc_60 rx_sp_rc rx_sp_eq rx_sp_round) rt (d + 6) (w - (19 + 5)) [.ref 53] h4 ht (show 6 ≤ (d + 6) by omega) (show 217 ≤ w - (19 + 5) by omega) ⟨⟨53, rfl, Nat.le_refl _, Nat.le_refl _⟩, trivial⟩ hh4 hx4) ?_
        intro v5 h5 hp
        obtain ⟨pv5, hh5, hx5, hF5⟩ := hp
        obtain rfl := rx_pin_n pv5
        refine rx_T.to 1 28 [(0, .ref 53)] [] h5 rfl ?_
        have hF := (hF13.trans hF4).trans hF5
        have e3 : rx_gF h3 37 20 = 0 := ex.trans (of_decide_eq_true q0)
        refine back h5 hh5 hx5 (hw0.trans (hw1.trans hF.fw)) (fun hnz => ?_)
        rcases hF.2.2.2.1 hnz with z | z
        · exact absurd e17 z
        · rcases z with z | ⟨z1, z2⟩
          · exact Or.inl (by omega)
          · refine Or.inr ⟨by omega, ?_⟩
            by_cases e5 : rx_gF h5 37 20 = 0
            · by_cases e0 : rx_gF h 37 20 = 0
              · exact Or.inr ⟨by rw [rx_md_0 e5, rx_md_0 e0], by omega⟩
              · exact Or.inl (by rw [rx_md_0 e5, rx_md_n e0]; decide)
            · rcases hF.2.2.2.2 e5 with y | y
              · refine Or.inr ⟨?_, by omega⟩
                rw [rx_md_n e5, rx_md_n (by rw [← e20]; exact y)]
              · exact absurd y (by omega)
      · refine rx_T.to 1 56 [(0, .ref 53)] [.ref 53] h3 rfl ?_
        refine rx_T.callm (M := rxm_113) (N := rxm_126) (j := 126) (nest := 0) (as' := []) (rest := []) rfl rfl rfl rfl rfl rfl rfl rfl (Nat.le_of_ble_eq_true rfl) (Nat.le_of_ble_eq_true rfl) hh3 (show 19 + 3 ≤ w by omega) (rx_mv (d := (d + 6)) (w := w - (19 + 3)) ht (show 4 ≤ (d + 6) by omega) (show 172 ≤ w - (19 + 3) by omega) hh3 hx3) ?_
        intro v4 h4 hp
        obtain ⟨⟨rfl, hm4⟩, hh4, hx4, hF4⟩ := hp
        refine rx_T.to 1 28 [(0, .ref 53)] [] h4 rfl ?_
        have e3 : ¬ rx_gF h3 37 20 = 0 := fun z => of_decide_eq_false q0 (ex.symm.trans z)
        have em := hF4.ma
        refine back h4 hh4 hx4 (hw0.trans (hw1.trans (hF13.fw.trans hF4.fw))) (fun _ => ?_)
        have hle := hF13.2.2.1
        unfold rx_mle at hle
        rcases hF13.2.2.2.2 e3 with y | y
        · rcases hle with z | ⟨z1, z2⟩
          · exact Or.inl (by omega)
          · refine Or.inr ⟨by omega, Or.inl ?_⟩
            rw [rx_md_0 hm4, rx_md_n (by rw [← e20]; exact y)]
            decide
        · exact Or.inl (by omega)
set_option maxRecDepth 100000 in
set_option maxHeartbeats 4000000 in
theorem rx_work {h : rx_H} (ht : rx_tok rx_Em rt) (hw : 241 ≤ w) (hh : rx_hin rx_I0 h) (hx : rx_Xm h) : rx_T rx_cds rx_ms rx_lk0 rt (d + 7) w 113 0 [(0, .ref 53)] [] h (fun v h' => v = none ∧ rx_hin rx_I0 h' ∧ rx_Xm h' ∧ rx_Fw h h') := by
  have rest : ∀ hr, rx_hin rx_I0 hr → rx_Xm hr → rx_Fw h hr → rx_T rx_cds rx_ms rx_lk0 rt (d + 7) w 113 19 [(0, .ref 53)] [] hr (fun v h' => v = none ∧ rx_hin rx_I0 h' ∧ rx_Xm h' ∧ rx_Fw h h') := by
    intro hr hhr hxr hwr
    refine rx_T.to 1 20 [(0, .ref 53)] [.ref 53] hr rfl ?_
    refine rx_T.callm (M := rxm_113) (N := rxm_134) (j := 134) (nest := 0) (as' := []) (rest := []) rfl rfl rfl rfl rfl rfl rfl rfl (Nat.le_of_ble_eq_true rfl) (Nat.le_of_ble_eq_true rfl) hhr (show 19 + 3 ≤ w by omega) ((rxzc_98 rx_sp_rc) rt (d + 6) (w - (19 + 3)) [.ref 53] hr ht (show 5 ≤ (d + 6) by omega) (show 192 ≤ w - (19 + 3) by omega) ⟨⟨53, rfl, Nat.le_refl _, Nat.le_refl _⟩, trivial⟩ hhr hxr) ?_
    intro v4 h4 hp
    obtain ⟨pv4, hh4, hx4, hF4⟩ := hp
    obtain rfl := rx_pin_n pv4
    refine rx_T.to 2 25 [(0, .ref 53)] [.int 1, .ref 53] h4 rfl ?_
    refine rx_T.pfF (M := rxm_113) (k := 37) rfl rfl rfl hh4 rfl rfl rfl (by decide) (by decide) (fun h5 hh5 v5 f5 z5 => ?_)
    obtain ⟨hx5, eA, eU, e20, hw5⟩ := rx_news hx4 f5 z5
    refine rx_T.to 1 29 [(0, .ref 53)] [.ref 53] h5 rfl ?_
    refine rx_T.gfF (M := rxm_113) (k := 37) rfl rfl rfl hh5 rfl rfl ?_
    rw [v5]
    refine rx_T.op (M := rxm_113) (ins := .ifCond .eq 41) rfl rfl rfl rfl (rx_b1_f (by decide) (by decide)) ?_
    exact rx_wk_lp ht hw _ _ _ h5 (Nat.lt_succ_self _) (Nat.lt_succ_self _) (Nat.lt_succ_self _) hh5 hx5 ((hwr.trans hF4.fw).trans hw5)
  refine rx_T.to 1 1 [(0, .ref 53)] [.ref 53] h rfl ?_
  refine rx_T.callm (M := rxm_113) (N := rxm_114) (j := 114) (nest := 0) (as' := []) (rest := []) rfl rfl rfl rfl rfl rfl rfl rfl (Nat.le_of_ble_eq_true rfl) (Nat.le_of_ble_eq_true rfl) hh (show 19 + 5 ≤ w by omega) (rx_begin (d := d + 4) (show 60 ≤ w - (19 + 5) by omega) hh hx) ?_
  intro v1 h1 hp
  obtain ⟨⟨rfl, hm1⟩, hh1, hx1, hF1⟩ := hp
  refine rx_T.to 1 5 [(0, .ref 53)] [.ref 53] h1 rfl ?_
  refine rx_T.callm (M := rxm_113) (N := rxm_118) (j := 118) (nest := 0) (as' := []) (rest := []) rfl rfl rfl rfl rfl rfl rfl rfl (Nat.le_of_ble_eq_true rfl) (Nat.le_of_ble_eq_true rfl) hh1 (show 19 + 3 ≤ w by omega) ((rxzc_81 rx_sp_eq rx_sp_join rx_sp_round) rt (d + 6) (w - (19 + 3)) [.ref 53] h1 ht (show 3 ≤ (d + 6) by omega) (show 86 ≤ w - (19 + 3) by omega) ⟨⟨53, rfl, Nat.le_refl _, Nat.le_refl _⟩, trivial⟩ hh1 hx1) ?_
  intro v2 h2 hp
  obtain ⟨pv2, hh2, hx2, hF2⟩ := hp
  obtain rfl := rx_pin_n pv2
  refine rx_T.to 1 9 [(0, .ref 53)] [.ref 53] h2 rfl ?_
  refine rx_T.gfi (M := rxm_113) (k := 37) rfl rfl rfl hh2 rfl rfl (fun ws x a1 a2 x1 x2 => ?_)
  refine rx_T.br1 (M := rxm_113) 19 rfl rfl (by decide) (fun _ => ?_) (fun _ => ?_)
  · exact rest h2 hh2 hx2 (hF1.fw.trans hF2.fw)
  · refine rx_T.to 1 16 [(0, .ref 53)] [.ref 53] h2 rfl ?_
    refine rx_T.callm (M := rxm_113) (N := rxm_126) (j := 126) (nest := 0) (as' := []) (rest := []) rfl rfl rfl rfl rfl rfl rfl rfl (Nat.le_of_ble_eq_true rfl) (Nat.le_of_ble_eq_true rfl) hh2 (show 19 + 3 ≤ w by omega) (rx_mv (d := (d + 6)) (w := w - (19 + 3)) ht (show 4 ≤ (d + 6) by omega) (show 172 ≤ w - (19 + 3) by omega) hh2 hx2) ?_
    intro v3 h3 hp
    obtain ⟨⟨rfl, hm3⟩, hh3, hx3, hF3⟩ := hp
    exact rest h3 hh3 hx3 ((hF1.fw.trans hF2.fw).trans hF3.fw)
end RXWK
