theorem rx_01 {x : Int32} (h1 : 0 ≤ x.toInt) (h2 : x.toInt ≤ 1) : x = 0 ∨ x = 1 := by
  have h4 : x.toInt = 0 ∨ x.toInt = 1 := by omega
  rcases h4 with h | h
  · exact Or.inl (Int32.toInt_inj.mp h)
  · exact Or.inr (Int32.toInt_inj.mp h)
theorem rx_gF_set {h : rx_H} {vs : List Value} {i j : Nat} {v : Value} (hc : h[37]? = some (.inr (5, vs))) (hi : ¬ i = j) : rx_gF (h.set 37 (.inr (5, vs.set i v))) 37 j = rx_gF h 37 j := by
  unfold rx_gF
  rw [List.getElem?_set_self (List.getElem?_eq_some_iff.mp hc).1, hc]
  simp only
  rw [List.getElem?_set_ne hi]
theorem rx_gF_at {h : rx_H} {vs : List Value} {j : Nat} {x : Int32} (hc : h[37]? = some (.inr (5, vs))) (hv : vs[j]? = some (.int x)) : rx_gF h 37 j = x := by
  unfold rx_gF
  rw [hc]
  simp only [hv]
theorem rx_gF_new {h : rx_H} {vs : List Value} {j : Nat} {x : Int32} (hc : h[37]? = some (.inr (5, vs))) (hj : j < vs.length) : rx_gF (h.set 37 (.inr (5, vs.set j (.int x)))) 37 j = x := by
  unfold rx_gF
  rw [List.getElem?_set_self (List.getElem?_eq_some_iff.mp hc).1]
  simp only
  rw [List.getElem?_set_self hj]
/-- a field of the reference's object, set within its bounds -/
theorem rx_hin_fld {h : rx_H} {vs : List Value} {i : Nat} {lo hi : Int} {x : Int32} (hh : rx_hin rx_I0 h) (hc : h[37]? = some (.inr (5, vs))) (hfs : ∀ fs : List rx_V, rx_I0[37]? = some (.inl (5, fs)) → fs[i]? = some (.inl (lo, hi))) (h1 : lo ≤ x.toInt) (h2 : x.toInt ≤ hi) : rx_hin rx_I0 (h.set 37 (.inr (5, vs.set i (.int x)))) := by
  obtain ⟨ws, c1, c2, c3⟩ := rx_get_o hh (k := 37) rfl
  rw [hc] at c1
  cases c1
  refine rx_hin_set hh (k := 37) rfl ⟨_, rfl, by rw [List.length_set]; exact c2, fun m b hb => ?_⟩
  by_cases e : m = i
  · subst e
    have h3 := hfs _ rfl
    rw [hb] at h3
    cases h3
    refine ⟨_, List.getElem?_set_self ?_, x, rfl, h1, h2⟩
    rw [c2]
    exact (List.getElem?_eq_some_iff.mp hb).1
  · rw [List.getElem?_set_ne (fun z => e z.symm)]
    exact c3 m b hb
def rx_s_rc : rx_Sp := (137, [.inr (.inl (53, 53))], none, 4, 172)
set_option maxRecDepth 100000 in
set_option maxHeartbeats 4000000 in
theorem rx_sp_rc : rx_spm rx_s_rc := by
  intro rt d w as h ht hd hw has hh hx
  have hd : 4 ≤ d := hd
  have hw : 172 ≤ w := hw
  obtain ⟨v0, as0, rfl, k0, has0⟩ := rx_asin_e has
  have e0 := rx_ref_e k0
  subst e0
  have e1 := rx_asin_nil has0
  subst e1
  obtain ⟨d', rfl⟩ : ∃ d', d = d' + 4 := ⟨d - 4, by omega⟩
  show rx_T rx_cds rx_ms rx_lk0 rt (d' + 4) w 137 0 [(0, .ref 53)] [] h _
  refine rx_T.to 2 2 [(0, .ref 53)] [.ref 53, .ref 53] h rfl ?_
  refine rx_T.gfi (M := rxm_137) (k := 37) rfl rfl rfl hh rfl rfl (fun vs x c1 c2 x1 x2 => ?_)
  refine rx_T.to 1 6 [(0, .ref 53)] [.ref 53, .int x, .ref 53] h rfl ?_
  refine rx_T.callm (M := rxm_137) (N := rxm_129) (j := 129) (nest := 0) (as' := []) (rest := [.int x, .ref 53]) rfl rfl rfl rfl rfl rfl rfl rfl (Nat.le_of_ble_eq_true rfl) (Nat.le_of_ble_eq_true rfl) hh (show 19 + 3 ≤ w by omega) (rx_comes hx.1 (show 150 ≤ w - (19 + 3) by omega) hh (rx_lat_g hh)) ?_
  intro v1 h1 hp
  obtain ⟨b, rfl, hb, a1, a2, fs1, fb1, fr1, a3, a4, a5, a6⟩ := hp
  obtain ⟨g1, g2, g3⟩ := a3.gL
  have c3 : h1[37]? = some (.inr (5, vs)) := (a2 37 (by decide)).trans c1
  obtain ⟨ws, d1, d2, d3⟩ := rx_get_o hh (k := 37) rfl
  rw [c1] at d1
  cases d1
  have hx01 := rx_01 x1 x2
  have hor : x ||| b = 0 ∨ x ||| b = 1 := by
    rcases hx01 with rfl | rfl <;> rcases hb with rfl | rfl <;> decide
  have hn : ¬ x ||| b = 0 → ¬ x = 0 ∨ b = 1 := by
    rcases hx01 with rfl | rfl <;> rcases hb with rfl | rfl <;> decide
  have hfit : rx_fit .boolean (.int (x ||| b)) = true := by
    rcases hor with e | e <;> rw [e] <;> rfl
  have hb1 : 0 ≤ (x ||| b).toInt := by rcases hor with e | e <;> rw [e] <;> decide
  have hb2 : (x ||| b).toInt ≤ 1 := by rcases hor with e | e <;> rw [e] <;> decide
  have hlen : 17 < vs.length := by rw [d2]; decide
  refine rx_T.to 1 10 [(0, .ref 53)] [.int (x ||| b), .ref 53] h1 rfl ?_
  refine rx_T.pf (M := rxm_137) (k := 37) rfl rfl rfl c3 hlen hfit ?_
  have hh2 := rx_hin_fld (i := 17) a1 c3 (fun fs hfs => by cases hfs; rfl) hb1 hb2
  have s1 : ∀ z, ¬ z = 37 → (h1.set 37 (.inr (5, vs.set 17 (.int (x ||| b)))))[z]? = h1[z]? := fun z hz => List.getElem?_set_ne (fun y => hz y.symm)
  have s2 : ∀ z, ¬ (z = 37 ∨ z = 50 ∨ z = 51 ∨ z = 52 ∨ z = 53) → (h1.set 37 (.inr (5, vs.set 17 (.int (x ||| b)))))[z]? = h[z]? := fun z hz => (s1 z (by omega)).trans (a2 z (by omega))
  have m1 : rx_MA (h1.set 37 (.inr (5, vs.set 17 (.int (x ||| b))))) = rx_MA h := by
    unfold rx_MA
    rw [rx_gI_of (s2 46 (by decide)), rx_gI_of (s2 47 (by decide)), rx_gI_of (s2 48 (by decide))]
  have m2 : rx_MU (h1.set 37 (.inr (5, vs.set 17 (.int (x ||| b))))) = rx_mu fs1 fb1 22 := by
    unfold rx_MU
    rw [rx_gL_of (s1 50 (by decide)), rx_gI_of (s1 51 (by decide)), g1, g2]
  have f0 : ∀ j, ¬ 17 = j → rx_gF (h1.set 37 (.inr (5, vs.set 17 (.int (x ||| b))))) 37 j = rx_gF h 37 j := fun j hj => (rx_gF_set c3 hj).trans (rx_gF_of (a2 37 (by decide)))
  refine rx_T.ret (M := rxm_137) (v := none) rfl rfl rfl ⟨trivial, hh2, ⟨?_, ?_⟩, ⟨fun z hz => s2 z (by omega), fun j hj => f0 j (by omega), Or.inr ⟨m1, ?_⟩, fun hz => ?_, fun hz => Or.inl ?_⟩⟩
  · rw [rx_gL_of (s1 50 (by decide)), rx_gI_of (s1 51 (by decide)), g1, g2]
    exact a4
  · rw [rx_gI_of (s2 47 (by decide))]
    exact hx.2
  · rw [m2]
    exact a5
  · rw [rx_gF_new c3 hlen] at hz
    rcases hn hz with y | y
    · left
      rw [rx_gF_at c1 c2]
      exact y
    · right
      right
      refine ⟨m1, ?_⟩
      rw [m2]
      exact a6 y
  · rw [f0 20 (by decide)] at hz
    exact hz
