def rx_s_red : rx_Sp := (130, [.inr (.inl (53, 53)), .inl (0, 22)], none, 1, 60)
set_option maxRecDepth 100000 in
set_option maxHeartbeats 4000000 in
theorem rx_sp_red : rx_spm rx_s_red := by
  intro rt d w as h ht hd hw has hh hx
  have hd : 1 ≤ d := hd
  have hw : 60 ≤ w := hw
  obtain ⟨v0, as0, rfl, k0, has0⟩ := rx_asin_e has
  obtain ⟨v1, as1, rfl, ⟨a, rfl, ha1, ha2⟩, has1⟩ := rx_asin_e has0
  have e0 := rx_ref_e k0
  subst e0
  have e1 := rx_asin_nil has1
  subst e1
  obtain ⟨a, rfl, ha⟩ := rx_nIof (n := 22) ha1 ha2
  obtain ⟨d', rfl⟩ : ∃ d', d = d' + 1 := ⟨d - 1, by omega⟩
  exact (rx_reduce (n0 := a) hx.1 hw ha hh (rx_lat_g hh)).mono (fun v h' p => by
    obtain ⟨rfl, p1, p2, _⟩ := p
    exact ⟨trivial, p1, rx_Xm_row p2 hx, rx_Fm_row p2⟩)
def rx_s_many : rx_Sp := (162, [.inl (-2147483648, 2147483647)], some (.inl (-2147483648, 2147483647)), 0, 0)
theorem rx_shr1 {b : Int32} (h : 0 < b.toInt) : 0 ≤ (b >>> ((Int32.ofInt 1) &&& 31)).toInt ∧ (b >>> ((Int32.ofInt 1) &&& 31)).toInt < b.toInt := by
  have e : (b >>> ((Int32.ofInt 1) &&& 31)).toInt = b.toInt >>> 1 := by
    show (b >>> ((Int32.ofInt 1) &&& 31)).toBitVec.toInt = b.toBitVec.toInt >>> 1
    rw [Int32.toBitVec_shiftRight, show ((Int32.ofInt 1) &&& 31).toBitVec.smod 32 = 1#32 by decide]
    exact BitVec.toInt_sshiftRight
  rw [e, Int.shiftRight_eq_div_pow]
  omega
set_option maxRecDepth 100000 in
set_option maxHeartbeats 4000000 in
theorem rx_many_lp {rt : rx_R} {d w : Nat} {h : rx_H} {x : Int32} : ∀ (n : Nat) (b m : Int32), b.toInt < (n : Int) → rx_T rx_cds rx_ms rx_lk0 rt d w 162 4 [(2, .int b), (1, .int m), (0, .int x)] [] h (fun v h' => (∃ y : Int32, v = some (.int y)) ∧ h' = h) := by
  intro n
  induction n with
  | zero =>
    intro b m hb
    refine rx_T.to 1 5 [(2, .int b), (1, .int m), (0, .int x)] [.int b] h rfl ?_
    refine rx_T.br1 (M := rxm_162) 21 rfl rfl (by decide) (fun _ => ?_) (fun h1 => ?_)
    · refine rx_T.to 1 22 [(2, .int b), (1, .int m), (0, .int x)] [.int m] h rfl ?_
      exact rx_T.ret (M := rxm_162) (v := some (.int m)) rfl rfl rfl ⟨⟨m, rfl⟩, rfl⟩
    · have h2 : ¬ b.toInt ≤ 0 := fun z => of_decide_eq_false h1 (Int32.le_iff_toInt_le.mpr z)
      exact absurd hb (by omega)
  | succ n ih =>
    intro b m hb
    refine rx_T.to 1 5 [(2, .int b), (1, .int m), (0, .int x)] [.int b] h rfl ?_
    refine rx_T.br1 (M := rxm_162) 21 rfl rfl (by decide) (fun _ => ?_) (fun h1 => ?_)
    · refine rx_T.to 1 22 [(2, .int b), (1, .int m), (0, .int x)] [.int m] h rfl ?_
      exact rx_T.ret (M := rxm_162) (v := some (.int m)) rfl rfl rfl ⟨⟨m, rfl⟩, rfl⟩
    · have h2 : ¬ b.toInt ≤ 0 := fun z => of_decide_eq_false h1 (Int32.le_iff_toInt_le.mpr z)
      obtain ⟨s1, s2⟩ := rx_shr1 (b := b) (by omega)
      refine rx_T.to 11 4 [(2, .int (b >>> ((Int32.ofInt 1) &&& 31))), (1, .int (m + (b &&& Int32.ofInt 1))), (0, .int x)] [] h rfl ?_
      exact ih _ _ (by omega)
set_option maxRecDepth 100000 in
set_option maxHeartbeats 4000000 in
theorem rx_sp_many : rx_spm rx_s_many := by
  intro rt d w as h ht hd hw has hh hx
  obtain ⟨v1, as1, rfl, ⟨a, rfl, ha1, ha2⟩, has1⟩ := rx_asin_e has
  have e1 := rx_asin_nil has1
  subst e1
  show rx_T rx_cds rx_ms rx_lk0 rt d w 162 0 [(0, .int a)] [] h _
  refine rx_T.to 4 4 [(2, .int a), (1, .int 0), (0, .int a)] [] h rfl ?_
  exact (rx_many_lp (a.toInt.toNat + 1) a 0 (by omega)).mono (fun v h' p => by
    obtain ⟨⟨y, rfl⟩, rfl⟩ := p
    exact ⟨⟨y, rfl, rxi_lo y, rxi_hi y⟩, hh, hx, rx_Fm.refl _⟩)
