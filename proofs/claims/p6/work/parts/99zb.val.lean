section RXVA
variable {rt : rx_R} {d w : Nat} {P : Option Value → rx_H → Prop}
theorem rx_T.callk {mi pc : Nat} {lv : rx_L} {st : List Value} {h : rx_H} {M N : rx_M} {j nest ix k ci : Nat} {fs : List rx_V} {as' rest : List Value} {P1 : Option Value → rx_H → Prop} (hM : rx_ms[mi]? = some M) (hf : rx_f2 (rx_Mt M) pc = some (.invokevirtual ix)) (hl : rx_luv rx_lk0.2.2.1 (rx_Mo M) ix = some (j, nest)) (hN : rx_ms[j]? = some N) (hk : rx_Mk N = 1) (hI : rx_I0[k]? = some (.inl (ci, fs))) (hc : rx_Mc N = ci) (hs : st = (.ref (k + 16) :: as').reverse ++ rest) (hal : (.ref (k + 16) :: as' : List Value).length = rx_an N 1) (hr : (rest.map (fun v => v.category)).sum ≤ 8) (hsl : (lg_sl (.ref (k + 16) :: as')).length ≤ rx_Ml N) (hh : rx_hin rx_I0 h) (hw : 19 + rx_Ml N ≤ w)
    (k1 : rx_T rx_cds rx_ms rx_lk0 rt d (w - (19 + rx_Ml N)) j 0 (lv_args 0 (.ref (k + 16) :: as')) [] h P1) (K : ∀ (v1 : Option Value) (h1 : rx_H), P1 v1 h1 → rx_T rx_cds rx_ms rx_lk0 rt (d + 1) w mi (pc + 3) lv (v1.toList ++ rest) h1 P) : rx_T rx_cds rx_ms rx_lk0 rt (d + 1) w mi pc lv st h P := by
  obtain ⟨vs, c1, c2, c3⟩ := rx_get_o hh (k := k) hI
  exact rx_T.call hM hf rfl (rx_callv (k := k) hl hN hk hs hal hr hsl rfl c1 hc.symm) hN hw k1 K
def rx_dt (X Y : Nat → Int32) (a b c e : Nat) : Int64 := (X b - X a).toInt64 * (X e - X c).toInt64 + (Y b - Y a).toInt64 * (Y e - Y c).toInt64
def rx_same (X Y : Nat → Int32) : Prop := ∀ j, j < 7 → X j = Y j
theorem rx_cr_c {X Y X' Y' : Nat → Int32} (h1 : rx_same X X') (h2 : rx_same Y Y') {a b c e : Nat} (ha : a < 7) (hb : b < 7) (hc : c < 7) (he : e < 7) : rx_cr X Y a b c e = rx_cr X' Y' a b c e := by
  unfold rx_cr
  rw [h1 a ha, h1 b hb, h1 c hc, h1 e he, h2 a ha, h2 b hb, h2 c hc, h2 e he]
theorem rx_dt_c {X Y X' Y' : Nat → Int32} (h1 : rx_same X X') (h2 : rx_same Y Y') {a b c e : Nat} (ha : a < 7) (hb : b < 7) (hc : c < 7) (he : e < 7) : rx_dt X Y a b c e = rx_dt X' Y' a b c e := by
  unfold rx_dt
  rw [h1 a ha, h1 b hb, h1 c hc, h1 e he, h2 a ha, h2 b hb, h2 c hc, h2 e he]
theorem rx_and7 {G : Nat} (hG : G < 2147483648) : nI G &&& (Int8.ofInt 7).toInt32 = nI (G % 8) := by
  rw [show (Int8.ofInt 7).toInt32 = nI 7 by decide +kernel]
  apply Int32.toBitVec_inj.mp
  apply BitVec.eq_of_toNat_eq
  rw [Int32.toBitVec_and, BitVec.toNat_and]
  show (BitVec.ofNat 32 G).toNat &&& (BitVec.ofNat 32 7).toNat = (BitVec.ofNat 32 (G % 8)).toNat
  rw [BitVec.toNat_ofNat, BitVec.toNat_ofNat, BitVec.toNat_ofNat, Nat.mod_eq_of_lt (show G < 2 ^ 32 by omega), Nat.mod_eq_of_lt (show 7 < 2 ^ 32 by decide), Nat.mod_eq_of_lt (show G % 8 < 2 ^ 32 by omega)]
  exact Nat.and_two_pow_sub_one_eq_mod G 3
theorem rx_shr {F s : Nat} {y : Int32} (hF : F < 2147483648) (hs : s < 32) (hy : y.toBitVec.smod 32 = BitVec.ofNat 32 s) : nI F >>> y = nI (F / 2 ^ s) := by
  apply Int32.toInt_inj.mp
  have h1 : F / 2 ^ s ≤ F := Nat.div_le_self _ _
  rw [nI_toInt (by omega)]
  show (nI F >>> y).toBitVec.toInt = _
  rw [Int32.toBitVec_shiftRight, hy]
  show ((nI F).toBitVec.sshiftRight (BitVec.ofNat 32 s).toNat).toInt = _
  rw [BitVec.toInt_sshiftRight, BitVec.toNat_ofNat, Nat.mod_eq_of_lt (show s < 2 ^ 32 by omega), Int.shiftRight_eq_div_pow]
  show (nI F).toInt / _ = _
  rw [nI_toInt (by omega)]
  exact (Int.natCast_ediv F (2 ^ s)).symm
theorem rx_at_v {F i : Nat} (hF : F < 2147483648) (hi : i < 8) : (nI F >>> ((3 * nI i) &&& 31)) &&& (Int8.ofInt 7).toInt32 = nI (F / 8 ^ i % 8) := by
  have key : nI F >>> ((3 * nI i) &&& 31) = nI (F / 8 ^ i) := by
    match i, hi with
    | 0, _ => exact rx_shr hF (s := 0) (by decide) (by decide +kernel)
    | 1, _ => exact rx_shr hF (s := 3) (by decide) (by decide +kernel)
    | 2, _ => exact rx_shr hF (s := 6) (by decide) (by decide +kernel)
    | 3, _ => exact rx_shr hF (s := 9) (by decide) (by decide +kernel)
    | 4, _ => exact rx_shr hF (s := 12) (by decide) (by decide +kernel)
    | 5, _ => exact rx_shr hF (s := 15) (by decide) (by decide +kernel)
    | 6, _ => exact rx_shr hF (s := 18) (by decide) (by decide +kernel)
    | 7, _ => exact rx_shr hF (s := 21) (by decide) (by decide +kernel)
  rw [key]
  have h1 : F / 8 ^ i ≤ F := Nat.div_le_self _ _
  exact rx_and7 (by omega)
set_option maxRecDepth 100000 in
set_option maxHeartbeats 4000000 in
theorem rx_at {F i : Nat} {h : rx_H} (hF : F < 2147483648) (hi : i < 8) : rx_T rx_cds rx_ms rx_lk0 rt d w 15 0 [(0, .int (nI F)), (1, .int (nI i))] [] h (fun v h' => v = some (.int (nI (F / 8 ^ i % 8))) ∧ h' = h) := by
  refine rx_T.to 7 8 [(0, .int (nI F)), (1, .int (nI i))] [.int (((nI F) >>> ((3 * (nI i)) &&& 31)) &&& (Int8.ofInt 7).toInt32)] h rfl ?_
  rw [rx_at_v hF hi]
  exact rx_T.ret (M := rxm_15) (v := some (.int (nI (F / 8 ^ i % 8)))) rfl rfl rfl ⟨rfl, rfl⟩
set_option maxRecDepth 100000 in
set_option maxHeartbeats 4000000 in
theorem rx_kindOf {F : Nat} {h : rx_H} (hF : F < 2147483648) : rx_T rx_cds rx_ms rx_lk0 rt d w 19 0 [(0, .int (nI F))] [] h (fun v h' => v = some (.int (nI (F / 16777216))) ∧ h' = h) := by
  refine rx_T.to 3 4 [(0, .int (nI F))] [.int ((nI F) >>> ((Int8.ofInt 24).toInt32 &&& 31))] h rfl ?_
  rw [show nI F >>> ((Int8.ofInt 24).toInt32 &&& 31) = nI (F / 16777216) from rx_shr hF (s := 24) (by decide) (by decide +kernel)]
  exact rx_T.ret (M := rxm_19) (v := some (.int (nI (F / 16777216)))) rfl rfl rfl ⟨rfl, rfl⟩
set_option maxRecDepth 100000 in
set_option maxHeartbeats 4000000 in
theorem rx_mdot {a b c e : Nat} {h : rx_H} (ha : a < 12) (hb : b < 12) (hc : c < 12) (he : e < 12) (hh : rx_hin rx_I0 h) : rx_T rx_cds rx_ms rx_lk0 rt d w 106 0 [(0, .ref 53), (1, .int (nI a)), (2, .int (nI b)), (3, .int (nI c)), (4, .int (nI e))] [] h (fun v h' => v = some (.long (rx_dt (rx_gI h 38) (rx_gI h 39) a b c e)) ∧ h' = h) := by
  obtain ⟨fx, x1, x2⟩ := rx_get_a (k := 38) hh rfl
  obtain ⟨fy, y1, y2⟩ := rx_get_a (k := 39) hh rfl
  rw [rx_gI_at x1, rx_gI_at y1]
  refine rx_T.to 1 1 [(0, .ref 53), (1, .int (nI a)), (2, .int (nI b)), (3, .int (nI c)), (4, .int (nI e))] [.ref 53] h rfl ?_
  refine rx_T.gfr (M := rxm_106) (k := 37) rfl rfl rfl hh rfl rfl ?_
  refine rx_T.to 1 5 [(0, .ref 53), (1, .int (nI a)), (2, .int (nI b)), (3, .int (nI c)), (4, .int (nI e))] [.int (nI b), .ref 54] h rfl ?_
  refine rx_T.iald (M := rxm_106) rfl rfl (rx_ri_i (k := 38) x1) (vp_in_nI (show b < 12 by omega) (by decide)) ?_
  rw [nI_clamp (show b < 2 ^ 31 by omega)]
  refine rx_T.to 1 7 [(0, .ref 53), (1, .int (nI a)), (2, .int (nI b)), (3, .int (nI c)), (4, .int (nI e))] [.ref 53, .int (fx b)] h rfl ?_
  refine rx_T.gfr (M := rxm_106) (k := 37) rfl rfl rfl hh rfl rfl ?_
  refine rx_T.to 1 11 [(0, .ref 53), (1, .int (nI a)), (2, .int (nI b)), (3, .int (nI c)), (4, .int (nI e))] [.int (nI a), .ref 54, .int (fx b)] h rfl ?_
  refine rx_T.iald (M := rxm_106) rfl rfl (rx_ri_i (k := 38) x1) (vp_in_nI (show a < 12 by omega) (by decide)) ?_
  rw [nI_clamp (show a < 2 ^ 31 by omega)]
  refine rx_T.to 3 15 [(0, .ref 53), (1, .int (nI a)), (2, .int (nI b)), (3, .int (nI c)), (4, .int (nI e))] [.ref 53, .long (((fx b) - (fx a))).toInt64] h rfl ?_
  refine rx_T.gfr (M := rxm_106) (k := 37) rfl rfl rfl hh rfl rfl ?_
  refine rx_T.to 1 20 [(0, .ref 53), (1, .int (nI a)), (2, .int (nI b)), (3, .int (nI c)), (4, .int (nI e))] [.int (nI e), .ref 54, .long (((fx b) - (fx a))).toInt64] h rfl ?_
  refine rx_T.iald (M := rxm_106) rfl rfl (rx_ri_i (k := 38) x1) (vp_in_nI (show e < 12 by omega) (by decide)) ?_
  rw [nI_clamp (show e < 2 ^ 31 by omega)]
  refine rx_T.to 1 22 [(0, .ref 53), (1, .int (nI a)), (2, .int (nI b)), (3, .int (nI c)), (4, .int (nI e))] [.ref 53, .int (fx e), .long (((fx b) - (fx a))).toInt64] h rfl ?_
  refine rx_T.gfr (M := rxm_106) (k := 37) rfl rfl rfl hh rfl rfl ?_
  refine rx_T.to 1 26 [(0, .ref 53), (1, .int (nI a)), (2, .int (nI b)), (3, .int (nI c)), (4, .int (nI e))] [.int (nI c), .ref 54, .int (fx e), .long (((fx b) - (fx a))).toInt64] h rfl ?_
  refine rx_T.iald (M := rxm_106) rfl rfl (rx_ri_i (k := 38) x1) (vp_in_nI (show c < 12 by omega) (by decide)) ?_
  rw [nI_clamp (show c < 2 ^ 31 by omega)]
  refine rx_T.to 4 31 [(0, .ref 53), (1, .int (nI a)), (2, .int (nI b)), (3, .int (nI c)), (4, .int (nI e))] [.ref 53, .long ((((fx b) - (fx a))).toInt64 * (((fx e) - (fx c))).toInt64)] h rfl ?_
  refine rx_T.gfr (M := rxm_106) (k := 37) rfl rfl rfl hh rfl rfl ?_
  refine rx_T.to 1 35 [(0, .ref 53), (1, .int (nI a)), (2, .int (nI b)), (3, .int (nI c)), (4, .int (nI e))] [.int (nI b), .ref 55, .long ((((fx b) - (fx a))).toInt64 * (((fx e) - (fx c))).toInt64)] h rfl ?_
  refine rx_T.iald (M := rxm_106) rfl rfl (rx_ri_i (k := 39) y1) (vp_in_nI (show b < 12 by omega) (by decide)) ?_
  rw [nI_clamp (show b < 2 ^ 31 by omega)]
  refine rx_T.to 1 37 [(0, .ref 53), (1, .int (nI a)), (2, .int (nI b)), (3, .int (nI c)), (4, .int (nI e))] [.ref 53, .int (fy b), .long ((((fx b) - (fx a))).toInt64 * (((fx e) - (fx c))).toInt64)] h rfl ?_
  refine rx_T.gfr (M := rxm_106) (k := 37) rfl rfl rfl hh rfl rfl ?_
  refine rx_T.to 1 41 [(0, .ref 53), (1, .int (nI a)), (2, .int (nI b)), (3, .int (nI c)), (4, .int (nI e))] [.int (nI a), .ref 55, .int (fy b), .long ((((fx b) - (fx a))).toInt64 * (((fx e) - (fx c))).toInt64)] h rfl ?_
  refine rx_T.iald (M := rxm_106) rfl rfl (rx_ri_i (k := 39) y1) (vp_in_nI (show a < 12 by omega) (by decide)) ?_
  rw [nI_clamp (show a < 2 ^ 31 by omega)]
  refine rx_T.to 3 45 [(0, .ref 53), (1, .int (nI a)), (2, .int (nI b)), (3, .int (nI c)), (4, .int (nI e))] [.ref 53, .long (((fy b) - (fy a))).toInt64, .long ((((fx b) - (fx a))).toInt64 * (((fx e) - (fx c))).toInt64)] h rfl ?_
  refine rx_T.gfr (M := rxm_106) (k := 37) rfl rfl rfl hh rfl rfl ?_
  refine rx_T.to 1 50 [(0, .ref 53), (1, .int (nI a)), (2, .int (nI b)), (3, .int (nI c)), (4, .int (nI e))] [.int (nI e), .ref 55, .long (((fy b) - (fy a))).toInt64, .long ((((fx b) - (fx a))).toInt64 * (((fx e) - (fx c))).toInt64)] h rfl ?_
  refine rx_T.iald (M := rxm_106) rfl rfl (rx_ri_i (k := 39) y1) (vp_in_nI (show e < 12 by omega) (by decide)) ?_
  rw [nI_clamp (show e < 2 ^ 31 by omega)]
  refine rx_T.to 1 52 [(0, .ref 53), (1, .int (nI a)), (2, .int (nI b)), (3, .int (nI c)), (4, .int (nI e))] [.ref 53, .int (fy e), .long (((fy b) - (fy a))).toInt64, .long ((((fx b) - (fx a))).toInt64 * (((fx e) - (fx c))).toInt64)] h rfl ?_
  refine rx_T.gfr (M := rxm_106) (k := 37) rfl rfl rfl hh rfl rfl ?_
  refine rx_T.to 1 56 [(0, .ref 53), (1, .int (nI a)), (2, .int (nI b)), (3, .int (nI c)), (4, .int (nI e))] [.int (nI c), .ref 55, .int (fy e), .long (((fy b) - (fy a))).toInt64, .long ((((fx b) - (fx a))).toInt64 * (((fx e) - (fx c))).toInt64)] h rfl ?_
  refine rx_T.iald (M := rxm_106) rfl rfl (rx_ri_i (k := 39) y1) (vp_in_nI (show c < 12 by omega) (by decide)) ?_
  rw [nI_clamp (show c < 2 ^ 31 by omega)]
  refine rx_T.to 4 61 [(0, .ref 53), (1, .int (nI a)), (2, .int (nI b)), (3, .int (nI c)), (4, .int (nI e))] [.long (((((fx b) - (fx a))).toInt64 * (((fx e) - (fx c))).toInt64) + ((((fy b) - (fy a))).toInt64 * (((fy e) - (fy c))).toInt64))] h rfl ?_
  exact rx_T.ret (M := rxm_106) (v := some (.long (rx_dt fx fy a b c e))) rfl rfl rfl ⟨rfl, rfl⟩
set_option maxRecDepth 100000 in
set_option maxHeartbeats 4000000 in
theorem rx_xcross {a b c e : Nat} {h : rx_H} (ha : a < 8) (hb : b < 8) (hc : c < 8) (he : e < 8) (hh : rx_hin rx_I0 h) : rx_T rx_cds rx_ms rx_lk0 rt d w 21 0 [(0, .ref 17), (1, .int (nI a)), (2, .int (nI b)), (3, .int (nI c)), (4, .int (nI e))] [] h (fun v h' => v = some (.long (rx_cr (rx_gI h 2) (rx_gI h 3) a b c e)) ∧ h' = h) := by
  obtain ⟨fx, x1, x2⟩ := rx_get_a (k := 2) hh rfl
  obtain ⟨fy, y1, y2⟩ := rx_get_a (k := 3) hh rfl
  rw [rx_gI_at x1, rx_gI_at y1]
  refine rx_T.to 1 1 [(0, .ref 17), (1, .int (nI a)), (2, .int (nI b)), (3, .int (nI c)), (4, .int (nI e))] [.ref 17] h rfl ?_
  refine rx_T.gfr (M := rxm_21) (k := 1) rfl rfl rfl hh rfl rfl ?_
  refine rx_T.to 1 5 [(0, .ref 17), (1, .int (nI a)), (2, .int (nI b)), (3, .int (nI c)), (4, .int (nI e))] [.int (nI b), .ref 18] h rfl ?_
  refine rx_T.iald (M := rxm_21) rfl rfl (rx_ri_i (k := 2) x1) (vp_in_nI (show b < 8 by omega) (by decide)) ?_
  rw [nI_clamp (show b < 2 ^ 31 by omega)]
  refine rx_T.to 1 7 [(0, .ref 17), (1, .int (nI a)), (2, .int (nI b)), (3, .int (nI c)), (4, .int (nI e))] [.ref 17, .int (fx b)] h rfl ?_
  refine rx_T.gfr (M := rxm_21) (k := 1) rfl rfl rfl hh rfl rfl ?_
  refine rx_T.to 1 11 [(0, .ref 17), (1, .int (nI a)), (2, .int (nI b)), (3, .int (nI c)), (4, .int (nI e))] [.int (nI a), .ref 18, .int (fx b)] h rfl ?_
  refine rx_T.iald (M := rxm_21) rfl rfl (rx_ri_i (k := 2) x1) (vp_in_nI (show a < 8 by omega) (by decide)) ?_
  rw [nI_clamp (show a < 2 ^ 31 by omega)]
  refine rx_T.to 3 15 [(0, .ref 17), (1, .int (nI a)), (2, .int (nI b)), (3, .int (nI c)), (4, .int (nI e))] [.ref 17, .long (((fx b) - (fx a))).toInt64] h rfl ?_
  refine rx_T.gfr (M := rxm_21) (k := 1) rfl rfl rfl hh rfl rfl ?_
  refine rx_T.to 1 20 [(0, .ref 17), (1, .int (nI a)), (2, .int (nI b)), (3, .int (nI c)), (4, .int (nI e))] [.int (nI e), .ref 19, .long (((fx b) - (fx a))).toInt64] h rfl ?_
  refine rx_T.iald (M := rxm_21) rfl rfl (rx_ri_i (k := 3) y1) (vp_in_nI (show e < 8 by omega) (by decide)) ?_
  rw [nI_clamp (show e < 2 ^ 31 by omega)]
  refine rx_T.to 1 22 [(0, .ref 17), (1, .int (nI a)), (2, .int (nI b)), (3, .int (nI c)), (4, .int (nI e))] [.ref 17, .int (fy e), .long (((fx b) - (fx a))).toInt64] h rfl ?_
  refine rx_T.gfr (M := rxm_21) (k := 1) rfl rfl rfl hh rfl rfl ?_
  refine rx_T.to 1 26 [(0, .ref 17), (1, .int (nI a)), (2, .int (nI b)), (3, .int (nI c)), (4, .int (nI e))] [.int (nI c), .ref 19, .int (fy e), .long (((fx b) - (fx a))).toInt64] h rfl ?_
  refine rx_T.iald (M := rxm_21) rfl rfl (rx_ri_i (k := 3) y1) (vp_in_nI (show c < 8 by omega) (by decide)) ?_
  rw [nI_clamp (show c < 2 ^ 31 by omega)]
  refine rx_T.to 4 31 [(0, .ref 17), (1, .int (nI a)), (2, .int (nI b)), (3, .int (nI c)), (4, .int (nI e))] [.ref 17, .long ((((fx b) - (fx a))).toInt64 * (((fy e) - (fy c))).toInt64)] h rfl ?_
  refine rx_T.gfr (M := rxm_21) (k := 1) rfl rfl rfl hh rfl rfl ?_
  refine rx_T.to 1 35 [(0, .ref 17), (1, .int (nI a)), (2, .int (nI b)), (3, .int (nI c)), (4, .int (nI e))] [.int (nI b), .ref 19, .long ((((fx b) - (fx a))).toInt64 * (((fy e) - (fy c))).toInt64)] h rfl ?_
  refine rx_T.iald (M := rxm_21) rfl rfl (rx_ri_i (k := 3) y1) (vp_in_nI (show b < 8 by omega) (by decide)) ?_
  rw [nI_clamp (show b < 2 ^ 31 by omega)]
  refine rx_T.to 1 37 [(0, .ref 17), (1, .int (nI a)), (2, .int (nI b)), (3, .int (nI c)), (4, .int (nI e))] [.ref 17, .int (fy b), .long ((((fx b) - (fx a))).toInt64 * (((fy e) - (fy c))).toInt64)] h rfl ?_
  refine rx_T.gfr (M := rxm_21) (k := 1) rfl rfl rfl hh rfl rfl ?_
  refine rx_T.to 1 41 [(0, .ref 17), (1, .int (nI a)), (2, .int (nI b)), (3, .int (nI c)), (4, .int (nI e))] [.int (nI a), .ref 19, .int (fy b), .long ((((fx b) - (fx a))).toInt64 * (((fy e) - (fy c))).toInt64)] h rfl ?_
  refine rx_T.iald (M := rxm_21) rfl rfl (rx_ri_i (k := 3) y1) (vp_in_nI (show a < 8 by omega) (by decide)) ?_
  rw [nI_clamp (show a < 2 ^ 31 by omega)]
  refine rx_T.to 3 45 [(0, .ref 17), (1, .int (nI a)), (2, .int (nI b)), (3, .int (nI c)), (4, .int (nI e))] [.ref 17, .long (((fy b) - (fy a))).toInt64, .long ((((fx b) - (fx a))).toInt64 * (((fy e) - (fy c))).toInt64)] h rfl ?_
  refine rx_T.gfr (M := rxm_21) (k := 1) rfl rfl rfl hh rfl rfl ?_
  refine rx_T.to 1 50 [(0, .ref 17), (1, .int (nI a)), (2, .int (nI b)), (3, .int (nI c)), (4, .int (nI e))] [.int (nI e), .ref 18, .long (((fy b) - (fy a))).toInt64, .long ((((fx b) - (fx a))).toInt64 * (((fy e) - (fy c))).toInt64)] h rfl ?_
  refine rx_T.iald (M := rxm_21) rfl rfl (rx_ri_i (k := 2) x1) (vp_in_nI (show e < 8 by omega) (by decide)) ?_
  rw [nI_clamp (show e < 2 ^ 31 by omega)]
  refine rx_T.to 1 52 [(0, .ref 17), (1, .int (nI a)), (2, .int (nI b)), (3, .int (nI c)), (4, .int (nI e))] [.ref 17, .int (fx e), .long (((fy b) - (fy a))).toInt64, .long ((((fx b) - (fx a))).toInt64 * (((fy e) - (fy c))).toInt64)] h rfl ?_
  refine rx_T.gfr (M := rxm_21) (k := 1) rfl rfl rfl hh rfl rfl ?_
  refine rx_T.to 1 56 [(0, .ref 17), (1, .int (nI a)), (2, .int (nI b)), (3, .int (nI c)), (4, .int (nI e))] [.int (nI c), .ref 18, .int (fx e), .long (((fy b) - (fy a))).toInt64, .long ((((fx b) - (fx a))).toInt64 * (((fy e) - (fy c))).toInt64)] h rfl ?_
  refine rx_T.iald (M := rxm_21) rfl rfl (rx_ri_i (k := 2) x1) (vp_in_nI (show c < 8 by omega) (by decide)) ?_
  rw [nI_clamp (show c < 2 ^ 31 by omega)]
  refine rx_T.to 4 61 [(0, .ref 17), (1, .int (nI a)), (2, .int (nI b)), (3, .int (nI c)), (4, .int (nI e))] [.long (((((fx b) - (fx a))).toInt64 * (((fy e) - (fy c))).toInt64) - ((((fy b) - (fy a))).toInt64 * (((fx e) - (fx c))).toInt64))] h rfl ?_
  exact rx_T.ret (M := rxm_21) (v := some (.long (rx_cr fx fy a b c e))) rfl rfl rfl ⟨rfl, rfl⟩
set_option maxRecDepth 100000 in
set_option maxHeartbeats 4000000 in
theorem rx_xdot {a b c e : Nat} {h : rx_H} (ha : a < 8) (hb : b < 8) (hc : c < 8) (he : e < 8) (hh : rx_hin rx_I0 h) : rx_T rx_cds rx_ms rx_lk0 rt d w 22 0 [(0, .ref 17), (1, .int (nI a)), (2, .int (nI b)), (3, .int (nI c)), (4, .int (nI e))] [] h (fun v h' => v = some (.long (rx_dt (rx_gI h 2) (rx_gI h 3) a b c e)) ∧ h' = h) := by
  obtain ⟨fx, x1, x2⟩ := rx_get_a (k := 2) hh rfl
  obtain ⟨fy, y1, y2⟩ := rx_get_a (k := 3) hh rfl
  rw [rx_gI_at x1, rx_gI_at y1]
  refine rx_T.to 1 1 [(0, .ref 17), (1, .int (nI a)), (2, .int (nI b)), (3, .int (nI c)), (4, .int (nI e))] [.ref 17] h rfl ?_
  refine rx_T.gfr (M := rxm_22) (k := 1) rfl rfl rfl hh rfl rfl ?_
  refine rx_T.to 1 5 [(0, .ref 17), (1, .int (nI a)), (2, .int (nI b)), (3, .int (nI c)), (4, .int (nI e))] [.int (nI b), .ref 18] h rfl ?_
  refine rx_T.iald (M := rxm_22) rfl rfl (rx_ri_i (k := 2) x1) (vp_in_nI (show b < 8 by omega) (by decide)) ?_
  rw [nI_clamp (show b < 2 ^ 31 by omega)]
  refine rx_T.to 1 7 [(0, .ref 17), (1, .int (nI a)), (2, .int (nI b)), (3, .int (nI c)), (4, .int (nI e))] [.ref 17, .int (fx b)] h rfl ?_
  refine rx_T.gfr (M := rxm_22) (k := 1) rfl rfl rfl hh rfl rfl ?_
  refine rx_T.to 1 11 [(0, .ref 17), (1, .int (nI a)), (2, .int (nI b)), (3, .int (nI c)), (4, .int (nI e))] [.int (nI a), .ref 18, .int (fx b)] h rfl ?_
  refine rx_T.iald (M := rxm_22) rfl rfl (rx_ri_i (k := 2) x1) (vp_in_nI (show a < 8 by omega) (by decide)) ?_
  rw [nI_clamp (show a < 2 ^ 31 by omega)]
  refine rx_T.to 3 15 [(0, .ref 17), (1, .int (nI a)), (2, .int (nI b)), (3, .int (nI c)), (4, .int (nI e))] [.ref 17, .long (((fx b) - (fx a))).toInt64] h rfl ?_
  refine rx_T.gfr (M := rxm_22) (k := 1) rfl rfl rfl hh rfl rfl ?_
  refine rx_T.to 1 20 [(0, .ref 17), (1, .int (nI a)), (2, .int (nI b)), (3, .int (nI c)), (4, .int (nI e))] [.int (nI e), .ref 18, .long (((fx b) - (fx a))).toInt64] h rfl ?_
  refine rx_T.iald (M := rxm_22) rfl rfl (rx_ri_i (k := 2) x1) (vp_in_nI (show e < 8 by omega) (by decide)) ?_
  rw [nI_clamp (show e < 2 ^ 31 by omega)]
  refine rx_T.to 1 22 [(0, .ref 17), (1, .int (nI a)), (2, .int (nI b)), (3, .int (nI c)), (4, .int (nI e))] [.ref 17, .int (fx e), .long (((fx b) - (fx a))).toInt64] h rfl ?_
  refine rx_T.gfr (M := rxm_22) (k := 1) rfl rfl rfl hh rfl rfl ?_
  refine rx_T.to 1 26 [(0, .ref 17), (1, .int (nI a)), (2, .int (nI b)), (3, .int (nI c)), (4, .int (nI e))] [.int (nI c), .ref 18, .int (fx e), .long (((fx b) - (fx a))).toInt64] h rfl ?_
  refine rx_T.iald (M := rxm_22) rfl rfl (rx_ri_i (k := 2) x1) (vp_in_nI (show c < 8 by omega) (by decide)) ?_
  rw [nI_clamp (show c < 2 ^ 31 by omega)]
  refine rx_T.to 4 31 [(0, .ref 17), (1, .int (nI a)), (2, .int (nI b)), (3, .int (nI c)), (4, .int (nI e))] [.ref 17, .long ((((fx b) - (fx a))).toInt64 * (((fx e) - (fx c))).toInt64)] h rfl ?_
  refine rx_T.gfr (M := rxm_22) (k := 1) rfl rfl rfl hh rfl rfl ?_
  refine rx_T.to 1 35 [(0, .ref 17), (1, .int (nI a)), (2, .int (nI b)), (3, .int (nI c)), (4, .int (nI e))] [.int (nI b), .ref 19, .long ((((fx b) - (fx a))).toInt64 * (((fx e) - (fx c))).toInt64)] h rfl ?_
  refine rx_T.iald (M := rxm_22) rfl rfl (rx_ri_i (k := 3) y1) (vp_in_nI (show b < 8 by omega) (by decide)) ?_
  rw [nI_clamp (show b < 2 ^ 31 by omega)]
  refine rx_T.to 1 37 [(0, .ref 17), (1, .int (nI a)), (2, .int (nI b)), (3, .int (nI c)), (4, .int (nI e))] [.ref 17, .int (fy b), .long ((((fx b) - (fx a))).toInt64 * (((fx e) - (fx c))).toInt64)] h rfl ?_
  refine rx_T.gfr (M := rxm_22) (k := 1) rfl rfl rfl hh rfl rfl ?_
  refine rx_T.to 1 41 [(0, .ref 17), (1, .int (nI a)), (2, .int (nI b)), (3, .int (nI c)), (4, .int (nI e))] [.int (nI a), .ref 19, .int (fy b), .long ((((fx b) - (fx a))).toInt64 * (((fx e) - (fx c))).toInt64)] h rfl ?_
  refine rx_T.iald (M := rxm_22) rfl rfl (rx_ri_i (k := 3) y1) (vp_in_nI (show a < 8 by omega) (by decide)) ?_
  rw [nI_clamp (show a < 2 ^ 31 by omega)]
  refine rx_T.to 3 45 [(0, .ref 17), (1, .int (nI a)), (2, .int (nI b)), (3, .int (nI c)), (4, .int (nI e))] [.ref 17, .long (((fy b) - (fy a))).toInt64, .long ((((fx b) - (fx a))).toInt64 * (((fx e) - (fx c))).toInt64)] h rfl ?_
  refine rx_T.gfr (M := rxm_22) (k := 1) rfl rfl rfl hh rfl rfl ?_
  refine rx_T.to 1 50 [(0, .ref 17), (1, .int (nI a)), (2, .int (nI b)), (3, .int (nI c)), (4, .int (nI e))] [.int (nI e), .ref 19, .long (((fy b) - (fy a))).toInt64, .long ((((fx b) - (fx a))).toInt64 * (((fx e) - (fx c))).toInt64)] h rfl ?_
  refine rx_T.iald (M := rxm_22) rfl rfl (rx_ri_i (k := 3) y1) (vp_in_nI (show e < 8 by omega) (by decide)) ?_
  rw [nI_clamp (show e < 2 ^ 31 by omega)]
  refine rx_T.to 1 52 [(0, .ref 17), (1, .int (nI a)), (2, .int (nI b)), (3, .int (nI c)), (4, .int (nI e))] [.ref 17, .int (fy e), .long (((fy b) - (fy a))).toInt64, .long ((((fx b) - (fx a))).toInt64 * (((fx e) - (fx c))).toInt64)] h rfl ?_
  refine rx_T.gfr (M := rxm_22) (k := 1) rfl rfl rfl hh rfl rfl ?_
  refine rx_T.to 1 56 [(0, .ref 17), (1, .int (nI a)), (2, .int (nI b)), (3, .int (nI c)), (4, .int (nI e))] [.int (nI c), .ref 19, .int (fy e), .long (((fy b) - (fy a))).toInt64, .long ((((fx b) - (fx a))).toInt64 * (((fx e) - (fx c))).toInt64)] h rfl ?_
  refine rx_T.iald (M := rxm_22) rfl rfl (rx_ri_i (k := 3) y1) (vp_in_nI (show c < 8 by omega) (by decide)) ?_
  rw [nI_clamp (show c < 2 ^ 31 by omega)]
  refine rx_T.to 4 61 [(0, .ref 17), (1, .int (nI a)), (2, .int (nI b)), (3, .int (nI c)), (4, .int (nI e))] [.long (((((fx b) - (fx a))).toInt64 * (((fx e) - (fx c))).toInt64) + ((((fy b) - (fy a))).toInt64 * (((fy e) - (fy c))).toInt64))] h rfl ?_
  exact rx_T.ret (M := rxm_22) (v := some (.long (rx_dt fx fy a b c e))) rfl rfl rfl ⟨rfl, rfl⟩
theorem rx_ne_t {x : Int64} (q : rx_c1 .ne (lg_cmp x (Int64.ofNat 0)) = true) : ¬ x = 0 := fun z => by
  have h1 : ¬ lg_cmp x 0 = 0 := by simpa [rx_c1] using q
  exact h1 ((rx_cmp0 x).mpr z)
theorem rx_ne_f {x : Int64} (q : rx_c1 .ne (lg_cmp x (Int64.ofNat 0)) = false) : x = 0 := (rx_cmp0 x).mp (by simpa [rx_c1] using q)
theorem rx_cmp_eq (x y : Int64) : lg_cmp x y = 0 ↔ x = y := by
  unfold lg_cmp
  constructor
  · intro q
    split at q
    · cases q
    · split at q
      · next h => exact h
      · cases q
  · intro e
    subst e
    rw [if_neg (show ¬ x > x from fun z => by have := Int64.lt_iff_toInt_lt.mp z; omega), if_pos rfl]
theorem rx_ne2_t {x y : Int64} (q : rx_c1 .ne (lg_cmp x y) = true) : ¬ x = y := fun z => by
  have h1 : ¬ lg_cmp x y = 0 := by simpa [rx_c1] using q
  exact h1 ((rx_cmp_eq x y).mpr z)
theorem rx_ne2_f {x y : Int64} (q : rx_c1 .ne (lg_cmp x y) = false) : x = y := (rx_cmp_eq x y).mp (by simpa [rx_c1] using q)
set_option maxRecDepth 100000 in
set_option maxHeartbeats 4000000 in
theorem rx_xcol {a b c : Nat} {h : rx_H} (ha : a < 8) (hb : b < 8) (hc : c < 8) (hw : 24 ≤ w) (hh : rx_hin rx_I0 h) : rx_T rx_cds rx_ms rx_lk0 rt (d + 1) w 20 0 [(0, .ref 17), (1, .int (nI a)), (2, .int (nI b)), (3, .int (nI c))] [] h (fun v h' => ((v = some (.int 1) ∧ (rx_cr (rx_gI h 2) (rx_gI h 3) a b a c = 0)) ∨ (v = some (.int 0) ∧ ¬ (rx_cr (rx_gI h 2) (rx_gI h 3) a b a c = 0))) ∧ h' = h) := by
  refine rx_T.to 5 5 [(0, .ref 17), (1, .int (nI a)), (2, .int (nI b)), (3, .int (nI c))] [.int (nI c), .int (nI a), .int (nI b), .int (nI a), .ref 17] h rfl ?_
  refine rx_T.callk (M := rxm_20) (N := rxm_21) (j := 21) (nest := 0) (k := 1) (as' := [.int (nI a), .int (nI b), .int (nI a), .int (nI c)]) (rest := []) rfl rfl rfl rfl rfl rfl rfl rfl rfl (Nat.le_of_ble_eq_true rfl) (Nat.le_of_ble_eq_true rfl) hh (show 19 + 5 ≤ w by omega) (rx_xcross (by omega) (by omega) (by omega) (by omega) hh) ?_
  intro v1 h1 hp1
  obtain ⟨rfl, e1⟩ := hp1
  rw [e1]
  refine rx_T.to 2 10 [(0, .ref 17), (1, .int (nI a)), (2, .int (nI b)), (3, .int (nI c))] [.int (lg_cmp (rx_cr (rx_gI h 2) (rx_gI h 3) a b a c) ((Int64.ofNat 0)))] h rfl ?_
  refine rx_T.br1 (M := rxm_20) 17 rfl rfl (by decide) (fun q => ?_) (fun q => ?_)
  · refine rx_T.to 1 18 [(0, .ref 17), (1, .int (nI a)), (2, .int (nI b)), (3, .int (nI c))] [.int 0] h rfl ?_
    exact rx_T.ret (M := rxm_20) (v := some (.int 0)) rfl rfl rfl ⟨Or.inr ⟨rfl, rx_ne_t q⟩, rfl⟩
  · refine rx_T.to 2 18 [(0, .ref 17), (1, .int (nI a)), (2, .int (nI b)), (3, .int (nI c))] [.int 1] h rfl ?_
    exact rx_T.ret (M := rxm_20) (v := some (.int 1)) rfl rfl rfl ⟨Or.inl ⟨rfl, rx_ne_f q⟩, rfl⟩
set_option maxRecDepth 100000 in
set_option maxHeartbeats 4000000 in
theorem rx_xeql {a b c e : Nat} {h : rx_H} (ha : a < 8) (hb : b < 8) (hc : c < 8) (he : e < 8) (hw : 24 ≤ w) (hh : rx_hin rx_I0 h) : rx_T rx_cds rx_ms rx_lk0 rt (d + 1) w 24 0 [(0, .ref 17), (1, .int (nI a)), (2, .int (nI b)), (3, .int (nI c)), (4, .int (nI e))] [] h (fun v h' => ((v = some (.int 1) ∧ (rx_dt (rx_gI h 2) (rx_gI h 3) a b a b = rx_dt (rx_gI h 2) (rx_gI h 3) c e c e)) ∨ (v = some (.int 0) ∧ ¬ (rx_dt (rx_gI h 2) (rx_gI h 3) a b a b = rx_dt (rx_gI h 2) (rx_gI h 3) c e c e))) ∧ h' = h) := by
  refine rx_T.to 5 5 [(0, .ref 17), (1, .int (nI a)), (2, .int (nI b)), (3, .int (nI c)), (4, .int (nI e))] [.int (nI b), .int (nI a), .int (nI b), .int (nI a), .ref 17] h rfl ?_
  refine rx_T.callk (M := rxm_24) (N := rxm_22) (j := 22) (nest := 0) (k := 1) (as' := [.int (nI a), .int (nI b), .int (nI a), .int (nI b)]) (rest := []) rfl rfl rfl rfl rfl rfl rfl rfl rfl (Nat.le_of_ble_eq_true rfl) (Nat.le_of_ble_eq_true rfl) hh (show 19 + 5 ≤ w by omega) (rx_xdot (by omega) (by omega) (by omega) (by omega) hh) ?_
  intro v1 h1 hp1
  obtain ⟨rfl, e1⟩ := hp1
  rw [e1]
  refine rx_T.to 5 15 [(0, .ref 17), (1, .int (nI a)), (2, .int (nI b)), (3, .int (nI c)), (4, .int (nI e))] [.int (nI e), .int (nI c), .int (nI e), .int (nI c), .ref 17, .long (rx_dt (rx_gI h 2) (rx_gI h 3) a b a b)] h rfl ?_
  refine rx_T.callk (M := rxm_24) (N := rxm_22) (j := 22) (nest := 0) (k := 1) (as' := [.int (nI c), .int (nI e), .int (nI c), .int (nI e)]) (rest := [.long (rx_dt (rx_gI h 2) (rx_gI h 3) a b a b)]) rfl rfl rfl rfl rfl rfl rfl rfl rfl (Nat.le_of_ble_eq_true rfl) (Nat.le_of_ble_eq_true rfl) hh (show 19 + 5 ≤ w by omega) (rx_xdot (by omega) (by omega) (by omega) (by omega) hh) ?_
  intro v2 h2 hp2
  obtain ⟨rfl, e2⟩ := hp2
  rw [e2]
  refine rx_T.to 1 19 [(0, .ref 17), (1, .int (nI a)), (2, .int (nI b)), (3, .int (nI c)), (4, .int (nI e))] [.int (lg_cmp (rx_dt (rx_gI h 2) (rx_gI h 3) a b a b) ((rx_dt (rx_gI h 2) (rx_gI h 3) c e c e)))] h rfl ?_
  refine rx_T.br1 (M := rxm_24) 26 rfl rfl (by decide) (fun q => ?_) (fun q => ?_)
  · refine rx_T.to 1 27 [(0, .ref 17), (1, .int (nI a)), (2, .int (nI b)), (3, .int (nI c)), (4, .int (nI e))] [.int 0] h rfl ?_
    exact rx_T.ret (M := rxm_24) (v := some (.int 0)) rfl rfl rfl ⟨Or.inr ⟨rfl, rx_ne2_t q⟩, rfl⟩
  · refine rx_T.to 2 27 [(0, .ref 17), (1, .int (nI a)), (2, .int (nI b)), (3, .int (nI c)), (4, .int (nI e))] [.int 1] h rfl ?_
    exact rx_T.ret (M := rxm_24) (v := some (.int 1)) rfl rfl rfl ⟨Or.inl ⟨rfl, rx_ne2_f q⟩, rfl⟩
set_option maxRecDepth 100000 in
set_option maxHeartbeats 4000000 in
theorem rx_xmid {a b c : Nat} {h : rx_H} (ha : a < 8) (hb : b < 8) (hc : c < 8) (hh : rx_hin rx_I0 h) : rx_T rx_cds rx_ms rx_lk0 rt d w 25 0 [(0, .ref 17), (1, .int (nI a)), (2, .int (nI b)), (3, .int (nI c))] [] h (fun v h' => ((v = some (.int 1) ∧ (2 * rx_gI h 2 a = rx_gI h 2 b + rx_gI h 2 c ∧ 2 * rx_gI h 3 a = rx_gI h 3 b + rx_gI h 3 c)) ∨ (v = some (.int 0) ∧ ¬ (2 * rx_gI h 2 a = rx_gI h 2 b + rx_gI h 2 c ∧ 2 * rx_gI h 3 a = rx_gI h 3 b + rx_gI h 3 c))) ∧ h' = h) := by
  obtain ⟨fx, x1, x2⟩ := rx_get_a (k := 2) hh rfl
  obtain ⟨fy, y1, y2⟩ := rx_get_a (k := 3) hh rfl
  rw [rx_gI_at x1, rx_gI_at y1]
  refine rx_T.to 2 2 [(0, .ref 17), (1, .int (nI a)), (2, .int (nI b)), (3, .int (nI c))] [.ref 17, .int 2] h rfl ?_
  refine rx_T.gfr (M := rxm_25) (k := 1) rfl rfl rfl hh rfl rfl ?_
  refine rx_T.to 1 6 [(0, .ref 17), (1, .int (nI a)), (2, .int (nI b)), (3, .int (nI c))] [.int (nI a), .ref 18, .int 2] h rfl ?_
  refine rx_T.iald (M := rxm_25) rfl rfl (rx_ri_i (k := 2) x1) (vp_in_nI (show a < 8 by omega) (by decide)) ?_
  rw [nI_clamp (show a < 2 ^ 31 by omega)]
  refine rx_T.to 2 9 [(0, .ref 17), (1, .int (nI a)), (2, .int (nI b)), (3, .int (nI c))] [.ref 17, .int (2 * (fx a))] h rfl ?_
  refine rx_T.gfr (M := rxm_25) (k := 1) rfl rfl rfl hh rfl rfl ?_
  refine rx_T.to 1 13 [(0, .ref 17), (1, .int (nI a)), (2, .int (nI b)), (3, .int (nI c))] [.int (nI b), .ref 18, .int (2 * (fx a))] h rfl ?_
  refine rx_T.iald (M := rxm_25) rfl rfl (rx_ri_i (k := 2) x1) (vp_in_nI (show b < 8 by omega) (by decide)) ?_
  rw [nI_clamp (show b < 2 ^ 31 by omega)]
  refine rx_T.to 1 15 [(0, .ref 17), (1, .int (nI a)), (2, .int (nI b)), (3, .int (nI c))] [.ref 17, .int (fx b), .int (2 * (fx a))] h rfl ?_
  refine rx_T.gfr (M := rxm_25) (k := 1) rfl rfl rfl hh rfl rfl ?_
  refine rx_T.to 1 19 [(0, .ref 17), (1, .int (nI a)), (2, .int (nI b)), (3, .int (nI c))] [.int (nI c), .ref 18, .int (fx b), .int (2 * (fx a))] h rfl ?_
  refine rx_T.iald (M := rxm_25) rfl rfl (rx_ri_i (k := 2) x1) (vp_in_nI (show c < 8 by omega) (by decide)) ?_
  rw [nI_clamp (show c < 2 ^ 31 by omega)]
  refine rx_T.to 1 21 [(0, .ref 17), (1, .int (nI a)), (2, .int (nI b)), (3, .int (nI c))] [.int ((fx b) + (fx c)), .int (2 * (fx a))] h rfl ?_
  refine rx_T.br2 (M := rxm_25) 52 rfl rfl (by decide) (fun q => ?_) (fun q => ?_)
  · have z : ¬ 2 * fx a = fx b + fx c := by simpa [rx_c2] using q
    refine rx_T.to 1 53 [(0, .ref 17), (1, .int (nI a)), (2, .int (nI b)), (3, .int (nI c))] [.int 0] h rfl ?_
    exact rx_T.ret (M := rxm_25) (v := some (.int 0)) rfl rfl rfl ⟨Or.inr ⟨rfl, fun y => z y.1⟩, rfl⟩
  · have z : 2 * fx a = fx b + fx c := by simpa [rx_c2] using q
    refine rx_T.to 2 26 [(0, .ref 17), (1, .int (nI a)), (2, .int (nI b)), (3, .int (nI c))] [.ref 17, .int 2] h rfl ?_
    refine rx_T.gfr (M := rxm_25) (k := 1) rfl rfl rfl hh rfl rfl ?_
    refine rx_T.to 1 30 [(0, .ref 17), (1, .int (nI a)), (2, .int (nI b)), (3, .int (nI c))] [.int (nI a), .ref 19, .int 2] h rfl ?_
    refine rx_T.iald (M := rxm_25) rfl rfl (rx_ri_i (k := 3) y1) (vp_in_nI (show a < 8 by omega) (by decide)) ?_
    rw [nI_clamp (show a < 2 ^ 31 by omega)]
    refine rx_T.to 2 33 [(0, .ref 17), (1, .int (nI a)), (2, .int (nI b)), (3, .int (nI c))] [.ref 17, .int (2 * (fy a))] h rfl ?_
    refine rx_T.gfr (M := rxm_25) (k := 1) rfl rfl rfl hh rfl rfl ?_
    refine rx_T.to 1 37 [(0, .ref 17), (1, .int (nI a)), (2, .int (nI b)), (3, .int (nI c))] [.int (nI b), .ref 19, .int (2 * (fy a))] h rfl ?_
    refine rx_T.iald (M := rxm_25) rfl rfl (rx_ri_i (k := 3) y1) (vp_in_nI (show b < 8 by omega) (by decide)) ?_
    rw [nI_clamp (show b < 2 ^ 31 by omega)]
    refine rx_T.to 1 39 [(0, .ref 17), (1, .int (nI a)), (2, .int (nI b)), (3, .int (nI c))] [.ref 17, .int (fy b), .int (2 * (fy a))] h rfl ?_
    refine rx_T.gfr (M := rxm_25) (k := 1) rfl rfl rfl hh rfl rfl ?_
    refine rx_T.to 1 43 [(0, .ref 17), (1, .int (nI a)), (2, .int (nI b)), (3, .int (nI c))] [.int (nI c), .ref 19, .int (fy b), .int (2 * (fy a))] h rfl ?_
    refine rx_T.iald (M := rxm_25) rfl rfl (rx_ri_i (k := 3) y1) (vp_in_nI (show c < 8 by omega) (by decide)) ?_
    rw [nI_clamp (show c < 2 ^ 31 by omega)]
    refine rx_T.to 1 45 [(0, .ref 17), (1, .int (nI a)), (2, .int (nI b)), (3, .int (nI c))] [.int ((fy b) + (fy c)), .int (2 * (fy a))] h rfl ?_
    refine rx_T.br2 (M := rxm_25) 52 rfl rfl (by decide) (fun q2 => ?_) (fun q2 => ?_)
    · have z2 : ¬ 2 * fy a = fy b + fy c := by simpa [rx_c2] using q2
      refine rx_T.to 1 53 [(0, .ref 17), (1, .int (nI a)), (2, .int (nI b)), (3, .int (nI c))] [.int 0] h rfl ?_
      exact rx_T.ret (M := rxm_25) (v := some (.int 0)) rfl rfl rfl ⟨Or.inr ⟨rfl, fun y => z2 y.2⟩, rfl⟩
    · have z2 : 2 * fy a = fy b + fy c := by simpa [rx_c2] using q2
      refine rx_T.to 2 53 [(0, .ref 17), (1, .int (nI a)), (2, .int (nI b)), (3, .int (nI c))] [.int 1] h rfl ?_
      exact rx_T.ret (M := rxm_25) (v := some (.int 1)) rfl rfl rfl ⟨Or.inl ⟨rfl, z, z2⟩, rfl⟩
theorem rx_cr_sw (X Y : Nat → Int32) (a b c : Nat) : rx_cr X Y a b a c = - rx_cr X Y a c a b := by
  unfold rx_cr
  grind
theorem rx_circ_e (X Y : Nat → Int32) (a b c e : Nat) : rx_dt X Y e a e a * rx_cr X Y e b e c - rx_dt X Y e b e b * rx_cr X Y e a e c + rx_dt X Y e c e c * rx_cr X Y e a e b = rx_dt X Y e a e a * rx_cr X Y e b e c + rx_dt X Y e b e b * rx_cr X Y e c e a + rx_dt X Y e c e c * rx_cr X Y e a e b := by
  rw [rx_cr_sw X Y e c a]
  grind
set_option maxRecDepth 100000 in
set_option maxHeartbeats 4000000 in
theorem rx_xcirc {a b c e : Nat} {h : rx_H} (ha : a < 8) (hb : b < 8) (hc : c < 8) (he : e < 8) (hw : 50 ≤ w) (hh : rx_hin rx_I0 h) : rx_T rx_cds rx_ms rx_lk0 rt (d + 2) w 23 0 [(0, .ref 17), (1, .int (nI a)), (2, .int (nI b)), (3, .int (nI c)), (4, .int (nI e))] [] h (fun v h' => ((v = some (.int 1) ∧ (¬ rx_cr (rx_gI h 2) (rx_gI h 3) a b a c = 0 ∧ rx_dt (rx_gI h 2) (rx_gI h 3) e a e a * rx_cr (rx_gI h 2) (rx_gI h 3) e b e c + rx_dt (rx_gI h 2) (rx_gI h 3) e b e b * rx_cr (rx_gI h 2) (rx_gI h 3) e c e a + rx_dt (rx_gI h 2) (rx_gI h 3) e c e c * rx_cr (rx_gI h 2) (rx_gI h 3) e a e b = 0)) ∨ (v = some (.int 0) ∧ ¬ (¬ rx_cr (rx_gI h 2) (rx_gI h 3) a b a c = 0 ∧ rx_dt (rx_gI h 2) (rx_gI h 3) e a e a * rx_cr (rx_gI h 2) (rx_gI h 3) e b e c + rx_dt (rx_gI h 2) (rx_gI h 3) e b e b * rx_cr (rx_gI h 2) (rx_gI h 3) e c e a + rx_dt (rx_gI h 2) (rx_gI h 3) e c e c * rx_cr (rx_gI h 2) (rx_gI h 3) e a e b = 0))) ∧ h' = h) := by
  refine rx_T.to 5 7 [(0, .ref 17), (1, .int (nI a)), (2, .int (nI b)), (3, .int (nI c)), (4, .int (nI e))] [.int (nI a), .int (nI e), .int (nI a), .int (nI e), .ref 17] h rfl ?_
  refine rx_T.callk (M := rxm_23) (N := rxm_22) (j := 22) (nest := 0) (k := 1) (as' := [.int (nI e), .int (nI a), .int (nI e), .int (nI a)]) (rest := []) rfl rfl rfl rfl rfl rfl rfl rfl rfl (Nat.le_of_ble_eq_true rfl) (Nat.le_of_ble_eq_true rfl) hh (show 19 + 5 ≤ w by omega) (rx_xdot (by omega) (by omega) (by omega) (by omega) hh) ?_
  intro v1 h1 hp1
  obtain ⟨rfl, e1⟩ := hp1
  rw [e1]
  refine rx_T.to 5 17 [(0, .ref 17), (1, .int (nI a)), (2, .int (nI b)), (3, .int (nI c)), (4, .int (nI e))] [.int (nI c), .int (nI e), .int (nI b), .int (nI e), .ref 17, .long (rx_dt (rx_gI h 2) (rx_gI h 3) e a e a)] h rfl ?_
  refine rx_T.callk (M := rxm_23) (N := rxm_21) (j := 21) (nest := 0) (k := 1) (as' := [.int (nI e), .int (nI b), .int (nI e), .int (nI c)]) (rest := [.long (rx_dt (rx_gI h 2) (rx_gI h 3) e a e a)]) rfl rfl rfl rfl rfl rfl rfl rfl rfl (Nat.le_of_ble_eq_true rfl) (Nat.le_of_ble_eq_true rfl) hh (show 19 + 5 ≤ w by omega) (rx_xcross (by omega) (by omega) (by omega) (by omega) hh) ?_
  intro v2 h2 hp2
  obtain ⟨rfl, e2⟩ := hp2
  rw [e2]
  refine rx_T.to 6 28 [(0, .ref 17), (1, .int (nI a)), (2, .int (nI b)), (3, .int (nI c)), (4, .int (nI e))] [.int (nI b), .int (nI e), .int (nI b), .int (nI e), .ref 17, .long ((rx_dt (rx_gI h 2) (rx_gI h 3) e a e a) * (rx_cr (rx_gI h 2) (rx_gI h 3) e b e c))] h rfl ?_
  refine rx_T.callk (M := rxm_23) (N := rxm_22) (j := 22) (nest := 0) (k := 1) (as' := [.int (nI e), .int (nI b), .int (nI e), .int (nI b)]) (rest := [.long ((rx_dt (rx_gI h 2) (rx_gI h 3) e a e a) * (rx_cr (rx_gI h 2) (rx_gI h 3) e b e c))]) rfl rfl rfl rfl rfl rfl rfl rfl rfl (Nat.le_of_ble_eq_true rfl) (Nat.le_of_ble_eq_true rfl) hh (show 19 + 5 ≤ w by omega) (rx_xdot (by omega) (by omega) (by omega) (by omega) hh) ?_
  intro v3 h3 hp3
  obtain ⟨rfl, e3⟩ := hp3
  rw [e3]
  refine rx_T.to 5 38 [(0, .ref 17), (1, .int (nI a)), (2, .int (nI b)), (3, .int (nI c)), (4, .int (nI e))] [.int (nI c), .int (nI e), .int (nI a), .int (nI e), .ref 17, .long (rx_dt (rx_gI h 2) (rx_gI h 3) e b e b), .long ((rx_dt (rx_gI h 2) (rx_gI h 3) e a e a) * (rx_cr (rx_gI h 2) (rx_gI h 3) e b e c))] h rfl ?_
  refine rx_T.callk (M := rxm_23) (N := rxm_21) (j := 21) (nest := 0) (k := 1) (as' := [.int (nI e), .int (nI a), .int (nI e), .int (nI c)]) (rest := [.long (rx_dt (rx_gI h 2) (rx_gI h 3) e b e b), .long ((rx_dt (rx_gI h 2) (rx_gI h 3) e a e a) * (rx_cr (rx_gI h 2) (rx_gI h 3) e b e c))]) rfl rfl rfl rfl rfl rfl rfl rfl rfl (Nat.le_of_ble_eq_true rfl) (Nat.le_of_ble_eq_true rfl) hh (show 19 + 5 ≤ w by omega) (rx_xcross (by omega) (by omega) (by omega) (by omega) hh) ?_
  intro v4 h4 hp4
  obtain ⟨rfl, e4⟩ := hp4
  rw [e4]
  refine rx_T.to 7 50 [(0, .ref 17), (1, .int (nI a)), (2, .int (nI b)), (3, .int (nI c)), (4, .int (nI e))] [.int (nI c), .int (nI e), .int (nI c), .int (nI e), .ref 17, .long (((rx_dt (rx_gI h 2) (rx_gI h 3) e a e a) * (rx_cr (rx_gI h 2) (rx_gI h 3) e b e c)) - ((rx_dt (rx_gI h 2) (rx_gI h 3) e b e b) * (rx_cr (rx_gI h 2) (rx_gI h 3) e a e c)))] h rfl ?_
  refine rx_T.callk (M := rxm_23) (N := rxm_22) (j := 22) (nest := 0) (k := 1) (as' := [.int (nI e), .int (nI c), .int (nI e), .int (nI c)]) (rest := [.long (((rx_dt (rx_gI h 2) (rx_gI h 3) e a e a) * (rx_cr (rx_gI h 2) (rx_gI h 3) e b e c)) - ((rx_dt (rx_gI h 2) (rx_gI h 3) e b e b) * (rx_cr (rx_gI h 2) (rx_gI h 3) e a e c)))]) rfl rfl rfl rfl rfl rfl rfl rfl rfl (Nat.le_of_ble_eq_true rfl) (Nat.le_of_ble_eq_true rfl) hh (show 19 + 5 ≤ w by omega) (rx_xdot (by omega) (by omega) (by omega) (by omega) hh) ?_
  intro v5 h5 hp5
  obtain ⟨rfl, e5⟩ := hp5
  rw [e5]
  refine rx_T.to 5 60 [(0, .ref 17), (1, .int (nI a)), (2, .int (nI b)), (3, .int (nI c)), (4, .int (nI e))] [.int (nI b), .int (nI e), .int (nI a), .int (nI e), .ref 17, .long (rx_dt (rx_gI h 2) (rx_gI h 3) e c e c), .long (((rx_dt (rx_gI h 2) (rx_gI h 3) e a e a) * (rx_cr (rx_gI h 2) (rx_gI h 3) e b e c)) - ((rx_dt (rx_gI h 2) (rx_gI h 3) e b e b) * (rx_cr (rx_gI h 2) (rx_gI h 3) e a e c)))] h rfl ?_
  refine rx_T.callk (M := rxm_23) (N := rxm_21) (j := 21) (nest := 0) (k := 1) (as' := [.int (nI e), .int (nI a), .int (nI e), .int (nI b)]) (rest := [.long (rx_dt (rx_gI h 2) (rx_gI h 3) e c e c), .long (((rx_dt (rx_gI h 2) (rx_gI h 3) e a e a) * (rx_cr (rx_gI h 2) (rx_gI h 3) e b e c)) - ((rx_dt (rx_gI h 2) (rx_gI h 3) e b e b) * (rx_cr (rx_gI h 2) (rx_gI h 3) e a e c)))]) rfl rfl rfl rfl rfl rfl rfl rfl rfl (Nat.le_of_ble_eq_true rfl) (Nat.le_of_ble_eq_true rfl) hh (show 19 + 5 ≤ w by omega) (rx_xcross (by omega) (by omega) (by omega) (by omega) hh) ?_
  intro v6 h6 hp6
  obtain ⟨rfl, e6⟩ := hp6
  rw [e6]
  refine rx_T.to 6 71 [(5, .long ((((rx_dt (rx_gI h 2) (rx_gI h 3) e a e a) * (rx_cr (rx_gI h 2) (rx_gI h 3) e b e c)) - ((rx_dt (rx_gI h 2) (rx_gI h 3) e b e b) * (rx_cr (rx_gI h 2) (rx_gI h 3) e a e c))) + ((rx_dt (rx_gI h 2) (rx_gI h 3) e c e c) * (rx_cr (rx_gI h 2) (rx_gI h 3) e a e b)))), (0, .ref 17), (1, .int (nI a)), (2, .int (nI b)), (3, .int (nI c)), (4, .int (nI e))] [.int (lg_cmp ((((rx_dt (rx_gI h 2) (rx_gI h 3) e a e a) * (rx_cr (rx_gI h 2) (rx_gI h 3) e b e c)) - ((rx_dt (rx_gI h 2) (rx_gI h 3) e b e b) * (rx_cr (rx_gI h 2) (rx_gI h 3) e a e c))) + ((rx_dt (rx_gI h 2) (rx_gI h 3) e c e c) * (rx_cr (rx_gI h 2) (rx_gI h 3) e a e b))) ((Int64.ofNat 0)))] h rfl ?_
  refine rx_T.br1 (M := rxm_23) 88 rfl rfl (by decide) (fun q => ?_) (fun q => ?_)
  · have z := rx_ne_t q
    rw [rx_circ_e] at z
    refine rx_T.to 1 89 [(5, .long ((((rx_dt (rx_gI h 2) (rx_gI h 3) e a e a) * (rx_cr (rx_gI h 2) (rx_gI h 3) e b e c)) - ((rx_dt (rx_gI h 2) (rx_gI h 3) e b e b) * (rx_cr (rx_gI h 2) (rx_gI h 3) e a e c))) + ((rx_dt (rx_gI h 2) (rx_gI h 3) e c e c) * (rx_cr (rx_gI h 2) (rx_gI h 3) e a e b)))), (0, .ref 17), (1, .int (nI a)), (2, .int (nI b)), (3, .int (nI c)), (4, .int (nI e))] [.int 0] h rfl ?_
    exact rx_T.ret (M := rxm_23) (v := some (.int 0)) rfl rfl rfl ⟨Or.inr ⟨rfl, fun y => z y.2⟩, rfl⟩
  · have z := rx_ne_f q
    rw [rx_circ_e] at z
    refine rx_T.to 4 78 [(5, .long ((((rx_dt (rx_gI h 2) (rx_gI h 3) e a e a) * (rx_cr (rx_gI h 2) (rx_gI h 3) e b e c)) - ((rx_dt (rx_gI h 2) (rx_gI h 3) e b e b) * (rx_cr (rx_gI h 2) (rx_gI h 3) e a e c))) + ((rx_dt (rx_gI h 2) (rx_gI h 3) e c e c) * (rx_cr (rx_gI h 2) (rx_gI h 3) e a e b)))), (0, .ref 17), (1, .int (nI a)), (2, .int (nI b)), (3, .int (nI c)), (4, .int (nI e))] [.int (nI c), .int (nI b), .int (nI a), .ref 17] h rfl ?_
    refine rx_T.callk (M := rxm_23) (N := rxm_20) (j := 20) (nest := 0) (k := 1) (as' := [.int (nI a), .int (nI b), .int (nI c)]) (rest := []) rfl rfl rfl rfl rfl rfl rfl rfl rfl (Nat.le_of_ble_eq_true rfl) (Nat.le_of_ble_eq_true rfl) hh (show 19 + 4 ≤ w by omega) (rx_xcol (by omega) (by omega) (by omega) (show 24 ≤ w - (19 + 4) by omega) hh) ?_
    intro v9 h9 hp9
    obtain ⟨hp9, e9⟩ := hp9
    rw [e9]
    rcases hp9 with ⟨rfl, hq⟩ | ⟨rfl, hq⟩
    · refine rx_T.op (M := rxm_23) (ins := .ifCond .ne 7) rfl rfl rfl rfl (rx_b1_t 88 (by decide) (by decide)) ?_
      refine rx_T.to 1 89 [(5, .long ((((rx_dt (rx_gI h 2) (rx_gI h 3) e a e a) * (rx_cr (rx_gI h 2) (rx_gI h 3) e b e c)) - ((rx_dt (rx_gI h 2) (rx_gI h 3) e b e b) * (rx_cr (rx_gI h 2) (rx_gI h 3) e a e c))) + ((rx_dt (rx_gI h 2) (rx_gI h 3) e c e c) * (rx_cr (rx_gI h 2) (rx_gI h 3) e a e b)))), (0, .ref 17), (1, .int (nI a)), (2, .int (nI b)), (3, .int (nI c)), (4, .int (nI e))] [.int 0] h rfl ?_
      exact rx_T.ret (M := rxm_23) (v := some (.int 0)) rfl rfl rfl ⟨Or.inr ⟨rfl, fun y => y.1 hq⟩, rfl⟩
    · refine rx_T.op (M := rxm_23) (ins := .ifCond .ne 7) rfl rfl rfl rfl (rx_b1_f (by decide) (by decide)) ?_
      refine rx_T.to 2 89 [(5, .long ((((rx_dt (rx_gI h 2) (rx_gI h 3) e a e a) * (rx_cr (rx_gI h 2) (rx_gI h 3) e b e c)) - ((rx_dt (rx_gI h 2) (rx_gI h 3) e b e b) * (rx_cr (rx_gI h 2) (rx_gI h 3) e a e c))) + ((rx_dt (rx_gI h 2) (rx_gI h 3) e c e c) * (rx_cr (rx_gI h 2) (rx_gI h 3) e a e b)))), (0, .ref 17), (1, .int (nI a)), (2, .int (nI b)), (3, .int (nI c)), (4, .int (nI e))] [.int 1] h rfl ?_
      exact rx_T.ret (M := rxm_23) (v := some (.int 1)) rfl rfl rfl ⟨Or.inl ⟨rfl, hq, z⟩, rfl⟩
theorem rx_turn_e {a b c e : Int64} : a * b = c * e ↔ c * e - a * b = 0 := by
  constructor
  · intro q
    rw [q]
    grind
  · intro q
    grind
set_option maxRecDepth 100000 in
set_option maxHeartbeats 4000000 in
theorem rx_xturn {F : Nat} {h : rx_H} (hF : F < 2147483648) (hw : 24 ≤ w) (hh : rx_hin rx_I0 h) : rx_T rx_cds rx_ms rx_lk0 rt (d + 1) w 26 0 [(0, .ref 17), (1, .int (nI F))] [] h (fun v h' => ((v = some (.int 1) ∧ (rx_cr (rx_gI h 2) (rx_gI h 3) (F / 8 ^ 0 % 8) (F / 8 ^ 1 % 8) (F / 8 ^ 2 % 8) (F / 8 ^ 3 % 8) * rx_dt (rx_gI h 2) (rx_gI h 3) (F / 8 ^ 4 % 8) (F / 8 ^ 5 % 8) (F / 8 ^ 6 % 8) (F / 8 ^ 7 % 8) - rx_dt (rx_gI h 2) (rx_gI h 3) (F / 8 ^ 0 % 8) (F / 8 ^ 1 % 8) (F / 8 ^ 2 % 8) (F / 8 ^ 3 % 8) * rx_cr (rx_gI h 2) (rx_gI h 3) (F / 8 ^ 4 % 8) (F / 8 ^ 5 % 8) (F / 8 ^ 6 % 8) (F / 8 ^ 7 % 8) = 0)) ∨ (v = some (.int 0) ∧ ¬ (rx_cr (rx_gI h 2) (rx_gI h 3) (F / 8 ^ 0 % 8) (F / 8 ^ 1 % 8) (F / 8 ^ 2 % 8) (F / 8 ^ 3 % 8) * rx_dt (rx_gI h 2) (rx_gI h 3) (F / 8 ^ 4 % 8) (F / 8 ^ 5 % 8) (F / 8 ^ 6 % 8) (F / 8 ^ 7 % 8) - rx_dt (rx_gI h 2) (rx_gI h 3) (F / 8 ^ 0 % 8) (F / 8 ^ 1 % 8) (F / 8 ^ 2 % 8) (F / 8 ^ 3 % 8) * rx_cr (rx_gI h 2) (rx_gI h 3) (F / 8 ^ 4 % 8) (F / 8 ^ 5 % 8) (F / 8 ^ 6 % 8) (F / 8 ^ 7 % 8) = 0))) ∧ h' = h) := by
  refine rx_T.to 2 2 [(0, .ref 17), (1, .int (nI F))] [.int 0, .int (nI F)] h rfl ?_
  refine rx_T.call (M := rxm_26) (N := rxm_15) (j := 15) (as := [.int (nI F), .int (nI 0)]) (rest := []) rfl rfl rfl rfl rfl (show 19 + 2 ≤ w by omega) (rx_at (i := 0) hF (by decide)) ?_
  intro v0 h0 hp0
  obtain ⟨rfl, e0⟩ := hp0
  rw [e0]
  refine rx_T.to 3 8 [(2, .int (nI (F / 8 ^ 0 % 8))), (0, .ref 17), (1, .int (nI F))] [.int 1, .int (nI F)] h rfl ?_
  refine rx_T.call (M := rxm_26) (N := rxm_15) (j := 15) (as := [.int (nI F), .int (nI 1)]) (rest := []) rfl rfl rfl rfl rfl (show 19 + 2 ≤ w by omega) (rx_at (i := 1) hF (by decide)) ?_
  intro v1 h1 hp1
  obtain ⟨rfl, e1⟩ := hp1
  rw [e1]
  refine rx_T.to 3 14 [(3, .int (nI (F / 8 ^ 1 % 8))), (2, .int (nI (F / 8 ^ 0 % 8))), (0, .ref 17), (1, .int (nI F))] [.int 2, .int (nI F)] h rfl ?_
  refine rx_T.call (M := rxm_26) (N := rxm_15) (j := 15) (as := [.int (nI F), .int (nI 2)]) (rest := []) rfl rfl rfl rfl rfl (show 19 + 2 ≤ w by omega) (rx_at (i := 2) hF (by decide)) ?_
  intro v2 h2 hp2
  obtain ⟨rfl, e2⟩ := hp2
  rw [e2]
  refine rx_T.to 3 21 [(4, .int (nI (F / 8 ^ 2 % 8))), (3, .int (nI (F / 8 ^ 1 % 8))), (2, .int (nI (F / 8 ^ 0 % 8))), (0, .ref 17), (1, .int (nI F))] [.int 3, .int (nI F)] h rfl ?_
  refine rx_T.call (M := rxm_26) (N := rxm_15) (j := 15) (as := [.int (nI F), .int (nI 3)]) (rest := []) rfl rfl rfl rfl rfl (show 19 + 2 ≤ w by omega) (rx_at (i := 3) hF (by decide)) ?_
  intro v3 h3 hp3
  obtain ⟨rfl, e3⟩ := hp3
  rw [e3]
  refine rx_T.to 3 28 [(5, .int (nI (F / 8 ^ 3 % 8))), (4, .int (nI (F / 8 ^ 2 % 8))), (3, .int (nI (F / 8 ^ 1 % 8))), (2, .int (nI (F / 8 ^ 0 % 8))), (0, .ref 17), (1, .int (nI F))] [.int 4, .int (nI F)] h rfl ?_
  refine rx_T.call (M := rxm_26) (N := rxm_15) (j := 15) (as := [.int (nI F), .int (nI 4)]) (rest := []) rfl rfl rfl rfl rfl (show 19 + 2 ≤ w by omega) (rx_at (i := 4) hF (by decide)) ?_
  intro v4 h4 hp4
  obtain ⟨rfl, e4⟩ := hp4
  rw [e4]
  refine rx_T.to 3 35 [(6, .int (nI (F / 8 ^ 4 % 8))), (5, .int (nI (F / 8 ^ 3 % 8))), (4, .int (nI (F / 8 ^ 2 % 8))), (3, .int (nI (F / 8 ^ 1 % 8))), (2, .int (nI (F / 8 ^ 0 % 8))), (0, .ref 17), (1, .int (nI F))] [.int 5, .int (nI F)] h rfl ?_
  refine rx_T.call (M := rxm_26) (N := rxm_15) (j := 15) (as := [.int (nI F), .int (nI 5)]) (rest := []) rfl rfl rfl rfl rfl (show 19 + 2 ≤ w by omega) (rx_at (i := 5) hF (by decide)) ?_
  intro v5 h5 hp5
  obtain ⟨rfl, e5⟩ := hp5
  rw [e5]
  refine rx_T.to 3 43 [(7, .int (nI (F / 8 ^ 5 % 8))), (6, .int (nI (F / 8 ^ 4 % 8))), (5, .int (nI (F / 8 ^ 3 % 8))), (4, .int (nI (F / 8 ^ 2 % 8))), (3, .int (nI (F / 8 ^ 1 % 8))), (2, .int (nI (F / 8 ^ 0 % 8))), (0, .ref 17), (1, .int (nI F))] [.int (Int8.ofInt 6).toInt32, .int (nI F)] h rfl ?_
  rw [show (Int8.ofInt 6).toInt32 = nI 6 by decide +kernel]
  refine rx_T.call (M := rxm_26) (N := rxm_15) (j := 15) (as := [.int (nI F), .int (nI 6)]) (rest := []) rfl rfl rfl rfl rfl (show 19 + 2 ≤ w by omega) (rx_at (i := 6) hF (by decide)) ?_
  intro v6 h6 hp6
  obtain ⟨rfl, e6⟩ := hp6
  rw [e6]
  refine rx_T.to 3 51 [(8, .int (nI (F / 8 ^ 6 % 8))), (7, .int (nI (F / 8 ^ 5 % 8))), (6, .int (nI (F / 8 ^ 4 % 8))), (5, .int (nI (F / 8 ^ 3 % 8))), (4, .int (nI (F / 8 ^ 2 % 8))), (3, .int (nI (F / 8 ^ 1 % 8))), (2, .int (nI (F / 8 ^ 0 % 8))), (0, .ref 17), (1, .int (nI F))] [.int (Int8.ofInt 7).toInt32, .int (nI F)] h rfl ?_
  rw [show (Int8.ofInt 7).toInt32 = nI 7 by decide +kernel]
  refine rx_T.call (M := rxm_26) (N := rxm_15) (j := 15) (as := [.int (nI F), .int (nI 7)]) (rest := []) rfl rfl rfl rfl rfl (show 19 + 2 ≤ w by omega) (rx_at (i := 7) hF (by decide)) ?_
  intro v7 h7 hp7
  obtain ⟨rfl, e7⟩ := hp7
  rw [e7]
  refine rx_T.to 6 63 [(9, .int (nI (F / 8 ^ 7 % 8))), (8, .int (nI (F / 8 ^ 6 % 8))), (7, .int (nI (F / 8 ^ 5 % 8))), (6, .int (nI (F / 8 ^ 4 % 8))), (5, .int (nI (F / 8 ^ 3 % 8))), (4, .int (nI (F / 8 ^ 2 % 8))), (3, .int (nI (F / 8 ^ 1 % 8))), (2, .int (nI (F / 8 ^ 0 % 8))), (0, .ref 17), (1, .int (nI F))] [.int (nI (F / 8 ^ 3 % 8)), .int (nI (F / 8 ^ 2 % 8)), .int (nI (F / 8 ^ 1 % 8)), .int (nI (F / 8 ^ 0 % 8)), .ref 17] h rfl ?_
  refine rx_T.callk (M := rxm_26) (N := rxm_22) (j := 22) (nest := 0) (k := 1) (as' := [.int (nI (F / 8 ^ 0 % 8)), .int (nI (F / 8 ^ 1 % 8)), .int (nI (F / 8 ^ 2 % 8)), .int (nI (F / 8 ^ 3 % 8))]) (rest := []) rfl rfl rfl rfl rfl rfl rfl rfl rfl (Nat.le_of_ble_eq_true rfl) (Nat.le_of_ble_eq_true rfl) hh (show 19 + 5 ≤ w by omega) (rx_xdot (Nat.mod_lt _ (by decide)) (Nat.mod_lt _ (by decide)) (Nat.mod_lt _ (by decide)) (Nat.mod_lt _ (by decide)) hh) ?_
  intro v10 h10 hp10
  obtain ⟨rfl, e10⟩ := hp10
  rw [e10]
  refine rx_T.to 5 75 [(9, .int (nI (F / 8 ^ 7 % 8))), (8, .int (nI (F / 8 ^ 6 % 8))), (7, .int (nI (F / 8 ^ 5 % 8))), (6, .int (nI (F / 8 ^ 4 % 8))), (5, .int (nI (F / 8 ^ 3 % 8))), (4, .int (nI (F / 8 ^ 2 % 8))), (3, .int (nI (F / 8 ^ 1 % 8))), (2, .int (nI (F / 8 ^ 0 % 8))), (0, .ref 17), (1, .int (nI F))] [.int (nI (F / 8 ^ 7 % 8)), .int (nI (F / 8 ^ 6 % 8)), .int (nI (F / 8 ^ 5 % 8)), .int (nI (F / 8 ^ 4 % 8)), .ref 17, .long (rx_dt (rx_gI h 2) (rx_gI h 3) (F / 8 ^ 0 % 8) (F / 8 ^ 1 % 8) (F / 8 ^ 2 % 8) (F / 8 ^ 3 % 8))] h rfl ?_
  refine rx_T.callk (M := rxm_26) (N := rxm_21) (j := 21) (nest := 0) (k := 1) (as' := [.int (nI (F / 8 ^ 4 % 8)), .int (nI (F / 8 ^ 5 % 8)), .int (nI (F / 8 ^ 6 % 8)), .int (nI (F / 8 ^ 7 % 8))]) (rest := [.long (rx_dt (rx_gI h 2) (rx_gI h 3) (F / 8 ^ 0 % 8) (F / 8 ^ 1 % 8) (F / 8 ^ 2 % 8) (F / 8 ^ 3 % 8))]) rfl rfl rfl rfl rfl rfl rfl rfl rfl (Nat.le_of_ble_eq_true rfl) (Nat.le_of_ble_eq_true rfl) hh (show 19 + 5 ≤ w by omega) (rx_xcross (Nat.mod_lt _ (by decide)) (Nat.mod_lt _ (by decide)) (Nat.mod_lt _ (by decide)) (Nat.mod_lt _ (by decide)) hh) ?_
  intro v11 h11 hp11
  obtain ⟨rfl, e11⟩ := hp11
  rw [e11]
  refine rx_T.to 6 86 [(9, .int (nI (F / 8 ^ 7 % 8))), (8, .int (nI (F / 8 ^ 6 % 8))), (7, .int (nI (F / 8 ^ 5 % 8))), (6, .int (nI (F / 8 ^ 4 % 8))), (5, .int (nI (F / 8 ^ 3 % 8))), (4, .int (nI (F / 8 ^ 2 % 8))), (3, .int (nI (F / 8 ^ 1 % 8))), (2, .int (nI (F / 8 ^ 0 % 8))), (0, .ref 17), (1, .int (nI F))] [.int (nI (F / 8 ^ 3 % 8)), .int (nI (F / 8 ^ 2 % 8)), .int (nI (F / 8 ^ 1 % 8)), .int (nI (F / 8 ^ 0 % 8)), .ref 17, .long ((rx_dt (rx_gI h 2) (rx_gI h 3) (F / 8 ^ 0 % 8) (F / 8 ^ 1 % 8) (F / 8 ^ 2 % 8) (F / 8 ^ 3 % 8)) * (rx_cr (rx_gI h 2) (rx_gI h 3) (F / 8 ^ 4 % 8) (F / 8 ^ 5 % 8) (F / 8 ^ 6 % 8) (F / 8 ^ 7 % 8)))] h rfl ?_
  refine rx_T.callk (M := rxm_26) (N := rxm_21) (j := 21) (nest := 0) (k := 1) (as' := [.int (nI (F / 8 ^ 0 % 8)), .int (nI (F / 8 ^ 1 % 8)), .int (nI (F / 8 ^ 2 % 8)), .int (nI (F / 8 ^ 3 % 8))]) (rest := [.long ((rx_dt (rx_gI h 2) (rx_gI h 3) (F / 8 ^ 0 % 8) (F / 8 ^ 1 % 8) (F / 8 ^ 2 % 8) (F / 8 ^ 3 % 8)) * (rx_cr (rx_gI h 2) (rx_gI h 3) (F / 8 ^ 4 % 8) (F / 8 ^ 5 % 8) (F / 8 ^ 6 % 8) (F / 8 ^ 7 % 8)))]) rfl rfl rfl rfl rfl rfl rfl rfl rfl (Nat.le_of_ble_eq_true rfl) (Nat.le_of_ble_eq_true rfl) hh (show 19 + 5 ≤ w by omega) (rx_xcross (Nat.mod_lt _ (by decide)) (Nat.mod_lt _ (by decide)) (Nat.mod_lt _ (by decide)) (Nat.mod_lt _ (by decide)) hh) ?_
  intro v12 h12 hp12
  obtain ⟨rfl, e12⟩ := hp12
  rw [e12]
  refine rx_T.to 5 98 [(9, .int (nI (F / 8 ^ 7 % 8))), (8, .int (nI (F / 8 ^ 6 % 8))), (7, .int (nI (F / 8 ^ 5 % 8))), (6, .int (nI (F / 8 ^ 4 % 8))), (5, .int (nI (F / 8 ^ 3 % 8))), (4, .int (nI (F / 8 ^ 2 % 8))), (3, .int (nI (F / 8 ^ 1 % 8))), (2, .int (nI (F / 8 ^ 0 % 8))), (0, .ref 17), (1, .int (nI F))] [.int (nI (F / 8 ^ 7 % 8)), .int (nI (F / 8 ^ 6 % 8)), .int (nI (F / 8 ^ 5 % 8)), .int (nI (F / 8 ^ 4 % 8)), .ref 17, .long (rx_cr (rx_gI h 2) (rx_gI h 3) (F / 8 ^ 0 % 8) (F / 8 ^ 1 % 8) (F / 8 ^ 2 % 8) (F / 8 ^ 3 % 8)), .long ((rx_dt (rx_gI h 2) (rx_gI h 3) (F / 8 ^ 0 % 8) (F / 8 ^ 1 % 8) (F / 8 ^ 2 % 8) (F / 8 ^ 3 % 8)) * (rx_cr (rx_gI h 2) (rx_gI h 3) (F / 8 ^ 4 % 8) (F / 8 ^ 5 % 8) (F / 8 ^ 6 % 8) (F / 8 ^ 7 % 8)))] h rfl ?_
  refine rx_T.callk (M := rxm_26) (N := rxm_22) (j := 22) (nest := 0) (k := 1) (as' := [.int (nI (F / 8 ^ 4 % 8)), .int (nI (F / 8 ^ 5 % 8)), .int (nI (F / 8 ^ 6 % 8)), .int (nI (F / 8 ^ 7 % 8))]) (rest := [.long (rx_cr (rx_gI h 2) (rx_gI h 3) (F / 8 ^ 0 % 8) (F / 8 ^ 1 % 8) (F / 8 ^ 2 % 8) (F / 8 ^ 3 % 8)), .long ((rx_dt (rx_gI h 2) (rx_gI h 3) (F / 8 ^ 0 % 8) (F / 8 ^ 1 % 8) (F / 8 ^ 2 % 8) (F / 8 ^ 3 % 8)) * (rx_cr (rx_gI h 2) (rx_gI h 3) (F / 8 ^ 4 % 8) (F / 8 ^ 5 % 8) (F / 8 ^ 6 % 8) (F / 8 ^ 7 % 8)))]) rfl rfl rfl rfl rfl rfl rfl rfl rfl (Nat.le_of_ble_eq_true rfl) (Nat.le_of_ble_eq_true rfl) hh (show 19 + 5 ≤ w by omega) (rx_xdot (Nat.mod_lt _ (by decide)) (Nat.mod_lt _ (by decide)) (Nat.mod_lt _ (by decide)) (Nat.mod_lt _ (by decide)) hh) ?_
  intro v13 h13 hp13
  obtain ⟨rfl, e13⟩ := hp13
  rw [e13]
  refine rx_T.to 2 103 [(9, .int (nI (F / 8 ^ 7 % 8))), (8, .int (nI (F / 8 ^ 6 % 8))), (7, .int (nI (F / 8 ^ 5 % 8))), (6, .int (nI (F / 8 ^ 4 % 8))), (5, .int (nI (F / 8 ^ 3 % 8))), (4, .int (nI (F / 8 ^ 2 % 8))), (3, .int (nI (F / 8 ^ 1 % 8))), (2, .int (nI (F / 8 ^ 0 % 8))), (0, .ref 17), (1, .int (nI F))] [.int (lg_cmp ((rx_dt (rx_gI h 2) (rx_gI h 3) (F / 8 ^ 0 % 8) (F / 8 ^ 1 % 8) (F / 8 ^ 2 % 8) (F / 8 ^ 3 % 8)) * (rx_cr (rx_gI h 2) (rx_gI h 3) (F / 8 ^ 4 % 8) (F / 8 ^ 5 % 8) (F / 8 ^ 6 % 8) (F / 8 ^ 7 % 8))) (((rx_cr (rx_gI h 2) (rx_gI h 3) (F / 8 ^ 0 % 8) (F / 8 ^ 1 % 8) (F / 8 ^ 2 % 8) (F / 8 ^ 3 % 8)) * (rx_dt (rx_gI h 2) (rx_gI h 3) (F / 8 ^ 4 % 8) (F / 8 ^ 5 % 8) (F / 8 ^ 6 % 8) (F / 8 ^ 7 % 8)))))] h rfl ?_
  refine rx_T.br1 (M := rxm_26) 110 rfl rfl (by decide) (fun q => ?_) (fun q => ?_)
  · refine rx_T.to 1 111 [(9, .int (nI (F / 8 ^ 7 % 8))), (8, .int (nI (F / 8 ^ 6 % 8))), (7, .int (nI (F / 8 ^ 5 % 8))), (6, .int (nI (F / 8 ^ 4 % 8))), (5, .int (nI (F / 8 ^ 3 % 8))), (4, .int (nI (F / 8 ^ 2 % 8))), (3, .int (nI (F / 8 ^ 1 % 8))), (2, .int (nI (F / 8 ^ 0 % 8))), (0, .ref 17), (1, .int (nI F))] [.int 0] h rfl ?_
    exact rx_T.ret (M := rxm_26) (v := some (.int 0)) rfl rfl rfl ⟨Or.inr ⟨rfl, fun y => rx_ne2_t q (rx_turn_e.mpr y)⟩, rfl⟩
  · refine rx_T.to 2 111 [(9, .int (nI (F / 8 ^ 7 % 8))), (8, .int (nI (F / 8 ^ 6 % 8))), (7, .int (nI (F / 8 ^ 5 % 8))), (6, .int (nI (F / 8 ^ 4 % 8))), (5, .int (nI (F / 8 ^ 3 % 8))), (4, .int (nI (F / 8 ^ 2 % 8))), (3, .int (nI (F / 8 ^ 1 % 8))), (2, .int (nI (F / 8 ^ 0 % 8))), (0, .ref 17), (1, .int (nI F))] [.int 1] h rfl ?_
    exact rx_T.ret (M := rxm_26) (v := some (.int 1)) rfl rfl rfl ⟨Or.inl ⟨rfl, rx_turn_e.mp (rx_ne2_f q)⟩, rfl⟩
end RXVA
