section RXIN
set_option maxRecDepth 100000 in
theorem rx_i0_0 : ∀ ic : rx_I, rx_I0[0]? = some ic → ∃ c, rx_lay0[0]? = some c ∧ rx_cin ic c := by
  intro ic h
  cases h
  refine ⟨_, rfl, _, rfl, rfl, fun m a hm => ?_⟩
  match m, hm with
  | 0, hm => cases hm; exact ⟨_, rfl, _, rfl, by decide, by decide⟩
  | 1, hm => cases hm; exact ⟨_, rfl, _, rfl, by decide, by decide⟩
  | 2, hm => cases hm; exact ⟨_, rfl, _, rfl, by decide, by decide⟩
  | 3, hm => cases hm; exact ⟨_, rfl, _, rfl, by decide, by decide⟩
  | 4, hm => cases hm; exact ⟨_, rfl, _, rfl, by decide, by decide⟩
  | 5, hm => cases hm; exact ⟨_, rfl, _, rfl, by decide, by decide⟩
  | 6, hm => cases hm; exact ⟨_, rfl, _, rfl, by decide, by decide⟩
  | 7, hm => cases hm; exact ⟨_, rfl, _, rfl, by decide, by decide⟩
  | n + 8, hm => cases hm
set_option maxRecDepth 100000 in
theorem rx_i0_1 : ∀ ic : rx_I, rx_I0[1]? = some ic → ∃ c, rx_lay0[1]? = some c ∧ rx_cin ic c := by
  intro ic h
  cases h
  refine ⟨_, rfl, _, rfl, rfl, fun m a hm => ?_⟩
  match m, hm with
  | 0, hm => cases hm; exact ⟨_, rfl, _, rfl, by decide, by decide⟩
  | 1, hm => cases hm; exact ⟨_, rfl, _, rfl, by decide, by decide⟩
  | 2, hm => cases hm; exact ⟨_, rfl, _, rfl, by decide, by decide⟩
  | n + 3, hm => cases hm
set_option maxRecDepth 100000 in
theorem rx_i0_2 : ∀ ic : rx_I, rx_I0[2]? = some ic → ∃ c, rx_lay0[2]? = some c ∧ rx_cin ic c := by
  intro ic h
  cases h
  exact ⟨_, rfl, _, rfl, fun j _ => ⟨by decide, by decide⟩⟩
set_option maxRecDepth 100000 in
theorem rx_i0_3 : ∀ ic : rx_I, rx_I0[3]? = some ic → ∃ c, rx_lay0[3]? = some c ∧ rx_cin ic c := by
  intro ic h
  cases h
  exact ⟨_, rfl, _, rfl, fun j _ => ⟨by decide, by decide⟩⟩
set_option maxRecDepth 100000 in
theorem rx_i0_4 : ∀ ic : rx_I, rx_I0[4]? = some ic → ∃ c, rx_lay0[4]? = some c ∧ rx_cin ic c := by
  intro ic h
  cases h
  exact ⟨_, rfl, _, rfl, fun j _ => ⟨by decide, by decide⟩⟩
set_option maxRecDepth 100000 in
theorem rx_i0_5 : ∀ ic : rx_I, rx_I0[5]? = some ic → ∃ c, rx_lay0[5]? = some c ∧ rx_cin ic c := by
  intro ic h
  cases h
  refine ⟨_, rfl, _, rfl, rfl, fun m a hm => ?_⟩
  match m, hm with
  | 0, hm => cases hm; exact ⟨_, rfl, _, rfl, by decide, by decide⟩
  | 1, hm => cases hm; exact ⟨_, rfl, _, rfl, by decide, by decide⟩
  | 2, hm => cases hm; exact ⟨_, rfl, _, rfl, by decide, by decide⟩
  | 3, hm => cases hm; exact ⟨_, rfl, _, rfl, by decide, by decide⟩
  | 4, hm => cases hm; exact ⟨_, rfl, _, rfl, by decide, by decide⟩
  | 5, hm => cases hm; exact ⟨_, rfl, _, rfl, by decide, by decide⟩
  | 6, hm => cases hm; exact ⟨_, rfl, _, rfl, by decide, by decide⟩
  | 7, hm => cases hm; exact ⟨_, rfl, _, rfl, by decide, by decide⟩
  | 8, hm => cases hm; exact ⟨_, rfl, _, rfl, by decide, by decide⟩
  | 9, hm => cases hm; exact ⟨_, rfl, _, rfl, by decide, by decide⟩
  | 10, hm => cases hm; exact ⟨_, rfl, _, rfl, by decide, by decide⟩
  | 11, hm => cases hm; exact ⟨_, rfl, _, rfl, by decide, by decide⟩
  | 12, hm => cases hm; exact ⟨_, rfl, _, rfl, by decide, by decide⟩
  | n + 13, hm => cases hm
set_option maxRecDepth 100000 in
theorem rx_i0_6 : ∀ ic : rx_I, rx_I0[6]? = some ic → ∃ c, rx_lay0[6]? = some c ∧ rx_cin ic c := by
  intro ic h
  cases h
  refine ⟨_, rfl, _, rfl, rfl, fun m a hm => ?_⟩
  match m, hm with
  | 0, hm => cases hm; exact ⟨_, rfl, _, rfl, by decide, by decide⟩
  | 1, hm => cases hm; exact ⟨_, rfl, _, rfl, by decide, by decide⟩
  | 2, hm => cases hm; exact ⟨_, rfl, _, rfl, by decide, by decide⟩
  | 3, hm => cases hm; exact ⟨_, rfl, _, rfl, by decide, by decide⟩
  | n + 4, hm => cases hm
set_option maxRecDepth 100000 in
theorem rx_i0_7 : ∀ ic : rx_I, rx_I0[7]? = some ic → ∃ c, rx_lay0[7]? = some c ∧ rx_cin ic c := by
  intro ic h
  cases h
  exact ⟨_, rfl, _, rfl, fun j hj => if_pos hj⟩
set_option maxRecDepth 100000 in
theorem rx_i0_8 : ∀ ic : rx_I, rx_I0[8]? = some ic → ∃ c, rx_lay0[8]? = some c ∧ rx_cin ic c := by
  intro ic h
  cases h
  exact ⟨_, rfl, _, rfl⟩
set_option maxRecDepth 100000 in
theorem rx_i0_9 : ∀ ic : rx_I, rx_I0[9]? = some ic → ∃ c, rx_lay0[9]? = some c ∧ rx_cin ic c := by
  intro ic h
  cases h
  exact ⟨_, rfl, _, rfl⟩
set_option maxRecDepth 100000 in
theorem rx_i0_10 : ∀ ic : rx_I, rx_I0[10]? = some ic → ∃ c, rx_lay0[10]? = some c ∧ rx_cin ic c := by
  intro ic h
  cases h
  exact ⟨_, rfl, _, rfl⟩
set_option maxRecDepth 100000 in
theorem rx_i0_11 : ∀ ic : rx_I, rx_I0[11]? = some ic → ∃ c, rx_lay0[11]? = some c ∧ rx_cin ic c := by
  intro ic h
  cases h
  exact ⟨_, rfl, _, rfl⟩
set_option maxRecDepth 100000 in
theorem rx_i0_12 : ∀ ic : rx_I, rx_I0[12]? = some ic → ∃ c, rx_lay0[12]? = some c ∧ rx_cin ic c := by
  intro ic h
  cases h
  exact ⟨_, rfl, _, rfl⟩
set_option maxRecDepth 100000 in
theorem rx_i0_13 : ∀ ic : rx_I, rx_I0[13]? = some ic → ∃ c, rx_lay0[13]? = some c ∧ rx_cin ic c := by
  intro ic h
  cases h
  exact ⟨_, rfl, _, rfl⟩
set_option maxRecDepth 100000 in
theorem rx_i0_14 : ∀ ic : rx_I, rx_I0[14]? = some ic → ∃ c, rx_lay0[14]? = some c ∧ rx_cin ic c := by
  intro ic h
  cases h
  exact ⟨_, rfl, _, rfl⟩
set_option maxRecDepth 100000 in
theorem rx_i0_15 : ∀ ic : rx_I, rx_I0[15]? = some ic → ∃ c, rx_lay0[15]? = some c ∧ rx_cin ic c := by
  intro ic h
  cases h
  exact ⟨_, rfl, _, rfl⟩
set_option maxRecDepth 100000 in
theorem rx_i0_16 : ∀ ic : rx_I, rx_I0[16]? = some ic → ∃ c, rx_lay0[16]? = some c ∧ rx_cin ic c := by
  intro ic h
  cases h
  exact ⟨_, rfl, _, rfl⟩
set_option maxRecDepth 100000 in
theorem rx_i0_17 : ∀ ic : rx_I, rx_I0[17]? = some ic → ∃ c, rx_lay0[17]? = some c ∧ rx_cin ic c := by
  intro ic h
  cases h
  exact ⟨_, rfl, _, rfl⟩
set_option maxRecDepth 100000 in
theorem rx_i0_18 : ∀ ic : rx_I, rx_I0[18]? = some ic → ∃ c, rx_lay0[18]? = some c ∧ rx_cin ic c := by
  intro ic h
  cases h
  exact ⟨_, rfl, _, rfl⟩
set_option maxRecDepth 100000 in
theorem rx_i0_19 : ∀ ic : rx_I, rx_I0[19]? = some ic → ∃ c, rx_lay0[19]? = some c ∧ rx_cin ic c := by
  intro ic h
  cases h
  exact ⟨_, rfl, _, rfl⟩
set_option maxRecDepth 100000 in
theorem rx_i0_20 : ∀ ic : rx_I, rx_I0[20]? = some ic → ∃ c, rx_lay0[20]? = some c ∧ rx_cin ic c := by
  intro ic h
  cases h
  exact ⟨_, rfl, _, rfl⟩
set_option maxRecDepth 100000 in
theorem rx_i0_21 : ∀ ic : rx_I, rx_I0[21]? = some ic → ∃ c, rx_lay0[21]? = some c ∧ rx_cin ic c := by
  intro ic h
  cases h
  exact ⟨_, rfl, _, rfl⟩
set_option maxRecDepth 100000 in
theorem rx_i0_22 : ∀ ic : rx_I, rx_I0[22]? = some ic → ∃ c, rx_lay0[22]? = some c ∧ rx_cin ic c := by
  intro ic h
  cases h
  exact ⟨_, rfl, _, rfl⟩
set_option maxRecDepth 100000 in
theorem rx_i0_23 : ∀ ic : rx_I, rx_I0[23]? = some ic → ∃ c, rx_lay0[23]? = some c ∧ rx_cin ic c := by
  intro ic h
  cases h
  exact ⟨_, rfl, _, rfl⟩
set_option maxRecDepth 100000 in
theorem rx_i0_24 : ∀ ic : rx_I, rx_I0[24]? = some ic → ∃ c, rx_lay0[24]? = some c ∧ rx_cin ic c := by
  intro ic h
  cases h
  exact ⟨_, rfl, _, rfl⟩
set_option maxRecDepth 100000 in
theorem rx_i0_25 : ∀ ic : rx_I, rx_I0[25]? = some ic → ∃ c, rx_lay0[25]? = some c ∧ rx_cin ic c := by
  intro ic h
  cases h
  exact ⟨_, rfl, _, rfl⟩
set_option maxRecDepth 100000 in
theorem rx_i0_26 : ∀ ic : rx_I, rx_I0[26]? = some ic → ∃ c, rx_lay0[26]? = some c ∧ rx_cin ic c := by
  intro ic h
  cases h
  exact ⟨_, rfl, _, rfl⟩
set_option maxRecDepth 100000 in
theorem rx_i0_27 : ∀ ic : rx_I, rx_I0[27]? = some ic → ∃ c, rx_lay0[27]? = some c ∧ rx_cin ic c := by
  intro ic h
  cases h
  exact ⟨_, rfl, _, rfl⟩
set_option maxRecDepth 100000 in
theorem rx_i0_28 : ∀ ic : rx_I, rx_I0[28]? = some ic → ∃ c, rx_lay0[28]? = some c ∧ rx_cin ic c := by
  intro ic h
  cases h
  exact ⟨_, rfl, _, rfl⟩
set_option maxRecDepth 100000 in
theorem rx_i0_29 : ∀ ic : rx_I, rx_I0[29]? = some ic → ∃ c, rx_lay0[29]? = some c ∧ rx_cin ic c := by
  intro ic h
  cases h
  exact ⟨_, rfl, _, rfl⟩
set_option maxRecDepth 100000 in
theorem rx_i0_30 : ∀ ic : rx_I, rx_I0[30]? = some ic → ∃ c, rx_lay0[30]? = some c ∧ rx_cin ic c := by
  intro ic h
  cases h
  exact ⟨_, rfl, _, rfl, fun j _ => ⟨by decide, by decide⟩⟩
set_option maxRecDepth 100000 in
theorem rx_i0_31 : ∀ ic : rx_I, rx_I0[31]? = some ic → ∃ c, rx_lay0[31]? = some c ∧ rx_cin ic c := by
  intro ic h
  cases h
  exact ⟨_, rfl, _, rfl, fun j _ => ⟨by decide, by decide⟩⟩
set_option maxRecDepth 100000 in
theorem rx_i0_32 : ∀ ic : rx_I, rx_I0[32]? = some ic → ∃ c, rx_lay0[32]? = some c ∧ rx_cin ic c := by
  intro ic h
  cases h
  exact ⟨_, rfl, _, rfl, fun j _ => ⟨by decide, by decide⟩⟩
set_option maxRecDepth 100000 in
theorem rx_i0_33 : ∀ ic : rx_I, rx_I0[33]? = some ic → ∃ c, rx_lay0[33]? = some c ∧ rx_cin ic c := by
  intro ic h
  cases h
  exact ⟨_, rfl, _, rfl, fun j _ => ⟨by decide, by decide⟩⟩
set_option maxRecDepth 100000 in
theorem rx_i0_34 : ∀ ic : rx_I, rx_I0[34]? = some ic → ∃ c, rx_lay0[34]? = some c ∧ rx_cin ic c := by
  intro ic h
  cases h
  exact ⟨_, rfl, _, rfl, fun j _ => ⟨by decide, by decide⟩⟩
set_option maxRecDepth 100000 in
theorem rx_i0_35 : ∀ ic : rx_I, rx_I0[35]? = some ic → ∃ c, rx_lay0[35]? = some c ∧ rx_cin ic c := by
  intro ic h
  cases h
  refine ⟨_, rfl, _, rfl, rfl, fun m a hm => ?_⟩
  match m, hm with
  | 0, hm => cases hm; exact ⟨_, rfl, _, rfl, by decide, by decide⟩
  | 1, hm => cases hm; exact ⟨_, rfl, _, rfl, by decide, by decide⟩
  | 2, hm => cases hm; exact ⟨_, rfl, _, rfl, by decide, by decide⟩
  | n + 3, hm => cases hm
set_option maxRecDepth 100000 in
theorem rx_i0_36 : ∀ ic : rx_I, rx_I0[36]? = some ic → ∃ c, rx_lay0[36]? = some c ∧ rx_cin ic c := by
  intro ic h
  cases h
  exact ⟨_, rfl, _, rfl, fun j _ => ⟨by decide, by decide⟩⟩
set_option maxRecDepth 100000 in
theorem rx_i0_37 : ∀ ic : rx_I, rx_I0[37]? = some ic → ∃ c, rx_lay0[37]? = some c ∧ rx_cin ic c := by
  intro ic h
  cases h
  refine ⟨_, rfl, _, rfl, rfl, fun m a hm => ?_⟩
  match m, hm with
  | 0, hm => cases hm; exact ⟨_, rfl, _, rfl, by decide, by decide⟩
  | 1, hm => cases hm; exact ⟨_, rfl, _, rfl, by decide, by decide⟩
  | 2, hm => cases hm; exact ⟨_, rfl, _, rfl, by decide, by decide⟩
  | 3, hm => cases hm; exact ⟨_, rfl, _, rfl, by decide, by decide⟩
  | 4, hm => cases hm; exact ⟨_, rfl, _, rfl, by decide, by decide⟩
  | 5, hm => cases hm; exact ⟨_, rfl, _, rfl, by decide, by decide⟩
  | 6, hm => cases hm; exact ⟨_, rfl, _, rfl, by decide, by decide⟩
  | 7, hm => cases hm; exact ⟨_, rfl, _, rfl, by decide, by decide⟩
  | 8, hm => cases hm; exact ⟨_, rfl, _, rfl, by decide, by decide⟩
  | 9, hm => cases hm; exact ⟨_, rfl, _, rfl, by decide, by decide⟩
  | 10, hm => cases hm; exact ⟨_, rfl, _, rfl, by decide, by decide⟩
  | 11, hm => cases hm; exact ⟨_, rfl, _, rfl, by decide, by decide⟩
  | 12, hm => cases hm; exact ⟨_, rfl, _, rfl, by decide, by decide⟩
  | 13, hm => cases hm; exact ⟨_, rfl, _, rfl, by decide, by decide⟩
  | 14, hm => cases hm; exact ⟨_, rfl, _, rfl, by decide, by decide⟩
  | 15, hm => cases hm; exact ⟨_, rfl, _, rfl, by decide, by decide⟩
  | 16, hm => cases hm; exact ⟨_, rfl, _, rfl, by decide, by decide⟩
  | 17, hm => cases hm; exact ⟨_, rfl, _, rfl, by decide, by decide⟩
  | 18, hm => cases hm; exact ⟨_, rfl, _, rfl, by decide, by decide⟩
  | 19, hm => cases hm; exact ⟨_, rfl, _, rfl, by decide, by decide⟩
  | 20, hm => cases hm; exact ⟨_, rfl, _, rfl, by decide, by decide⟩
  | 21, hm => cases hm; exact ⟨_, rfl, _, rfl, by decide, by decide⟩
  | 22, hm => cases hm; exact ⟨_, rfl, _, rfl, by decide, by decide⟩
  | 23, hm => cases hm; exact ⟨_, rfl, _, rfl, by decide, by decide⟩
  | 24, hm => cases hm; exact ⟨_, rfl, _, rfl, by decide, by decide⟩
  | 25, hm => cases hm; exact ⟨_, rfl, _, rfl, by decide, by decide⟩
  | 26, hm => cases hm; exact ⟨_, rfl, _, rfl, by decide, by decide⟩
  | 27, hm => cases hm; exact ⟨_, rfl, _, rfl, by decide, by decide⟩
  | 28, hm => cases hm; exact ⟨_, rfl, _, rfl, by decide, by decide⟩
  | 29, hm => cases hm; exact ⟨_, rfl, _, rfl, by decide, by decide⟩
  | 30, hm => cases hm; exact ⟨_, rfl, _, rfl, by decide, by decide⟩
  | 31, hm => cases hm; exact ⟨_, rfl, _, rfl, by decide, by decide⟩
  | 32, hm => cases hm; exact ⟨_, rfl, _, rfl, by decide, by decide⟩
  | 33, hm => cases hm; exact ⟨_, rfl, _, rfl, by decide, by decide⟩
  | n + 34, hm => cases hm
set_option maxRecDepth 100000 in
theorem rx_i0_38 : ∀ ic : rx_I, rx_I0[38]? = some ic → ∃ c, rx_lay0[38]? = some c ∧ rx_cin ic c := by
  intro ic h
  cases h
  exact ⟨_, rfl, _, rfl, fun j _ => ⟨by decide, by decide⟩⟩
set_option maxRecDepth 100000 in
theorem rx_i0_39 : ∀ ic : rx_I, rx_I0[39]? = some ic → ∃ c, rx_lay0[39]? = some c ∧ rx_cin ic c := by
  intro ic h
  cases h
  exact ⟨_, rfl, _, rfl, fun j _ => ⟨by decide, by decide⟩⟩
set_option maxRecDepth 100000 in
theorem rx_i0_40 : ∀ ic : rx_I, rx_I0[40]? = some ic → ∃ c, rx_lay0[40]? = some c ∧ rx_cin ic c := by
  intro ic h
  cases h
  exact ⟨_, rfl, _, rfl, fun j _ => ⟨by decide, by decide⟩⟩
set_option maxRecDepth 100000 in
theorem rx_i0_41 : ∀ ic : rx_I, rx_I0[41]? = some ic → ∃ c, rx_lay0[41]? = some c ∧ rx_cin ic c := by
  intro ic h
  cases h
  exact ⟨_, rfl, _, rfl, fun j _ => ⟨by decide, by decide⟩⟩
set_option maxRecDepth 100000 in
theorem rx_i0_42 : ∀ ic : rx_I, rx_I0[42]? = some ic → ∃ c, rx_lay0[42]? = some c ∧ rx_cin ic c := by
  intro ic h
  cases h
  exact ⟨_, rfl, _, rfl, fun j _ => ⟨by decide, by decide⟩⟩
set_option maxRecDepth 100000 in
theorem rx_i0_43 : ∀ ic : rx_I, rx_I0[43]? = some ic → ∃ c, rx_lay0[43]? = some c ∧ rx_cin ic c := by
  intro ic h
  cases h
  exact ⟨_, rfl, _, rfl, fun j _ => ⟨by decide, by decide⟩⟩
set_option maxRecDepth 100000 in
theorem rx_i0_44 : ∀ ic : rx_I, rx_I0[44]? = some ic → ∃ c, rx_lay0[44]? = some c ∧ rx_cin ic c := by
  intro ic h
  cases h
  exact ⟨_, rfl, _, rfl, fun j _ => ⟨by decide, by decide⟩⟩
set_option maxRecDepth 100000 in
theorem rx_i0_45 : ∀ ic : rx_I, rx_I0[45]? = some ic → ∃ c, rx_lay0[45]? = some c ∧ rx_cin ic c := by
  intro ic h
  cases h
  exact ⟨_, rfl, _, rfl, fun j _ => ⟨by decide, by decide⟩⟩
set_option maxRecDepth 100000 in
theorem rx_i0_46 : ∀ ic : rx_I, rx_I0[46]? = some ic → ∃ c, rx_lay0[46]? = some c ∧ rx_cin ic c := by
  intro ic h
  cases h
  exact ⟨_, rfl, _, rfl, fun j _ => ⟨by decide, by decide⟩⟩
set_option maxRecDepth 100000 in
theorem rx_i0_47 : ∀ ic : rx_I, rx_I0[47]? = some ic → ∃ c, rx_lay0[47]? = some c ∧ rx_cin ic c := by
  intro ic h
  cases h
  exact ⟨_, rfl, _, rfl, fun j _ => ⟨by decide, by decide⟩⟩
set_option maxRecDepth 100000 in
theorem rx_i0_48 : ∀ ic : rx_I, rx_I0[48]? = some ic → ∃ c, rx_lay0[48]? = some c ∧ rx_cin ic c := by
  intro ic h
  cases h
  exact ⟨_, rfl, _, rfl, fun j _ => ⟨by decide, by decide⟩⟩
set_option maxRecDepth 100000 in
theorem rx_i0_49 : ∀ ic : rx_I, rx_I0[49]? = some ic → ∃ c, rx_lay0[49]? = some c ∧ rx_cin ic c := by
  intro ic h
  cases h
  exact ⟨_, rfl, _, rfl, fun j _ => ⟨by decide, by decide⟩⟩
set_option maxRecDepth 100000 in
theorem rx_i0_50 : ∀ ic : rx_I, rx_I0[50]? = some ic → ∃ c, rx_lay0[50]? = some c ∧ rx_cin ic c := by
  intro ic h
  cases h
  exact ⟨_, rfl, _, rfl⟩
set_option maxRecDepth 100000 in
theorem rx_i0_51 : ∀ ic : rx_I, rx_I0[51]? = some ic → ∃ c, rx_lay0[51]? = some c ∧ rx_cin ic c := by
  intro ic h
  cases h
  exact ⟨_, rfl, _, rfl, fun j _ => ⟨by decide, by decide⟩⟩
set_option maxRecDepth 100000 in
theorem rx_i0_52 : ∀ ic : rx_I, rx_I0[52]? = some ic → ∃ c, rx_lay0[52]? = some c ∧ rx_cin ic c := by
  intro ic h
  cases h
  exact ⟨_, rfl, _, rfl⟩
set_option maxRecDepth 100000 in
theorem rx_i0_53 : ∀ ic : rx_I, rx_I0[53]? = some ic → ∃ c, rx_lay0[53]? = some c ∧ rx_cin ic c := by
  intro ic h
  cases h
  exact ⟨_, rfl, _, rfl⟩
set_option maxRecDepth 100000 in
theorem rx_i0_54 : ∀ ic : rx_I, rx_I0[54]? = some ic → ∃ c, rx_lay0[54]? = some c ∧ rx_cin ic c := by
  intro ic h
  cases h
  exact ⟨_, rfl, _, rfl⟩
set_option maxRecDepth 100000 in
theorem rx_i0_55 : ∀ ic : rx_I, rx_I0[55]? = some ic → ∃ c, rx_lay0[55]? = some c ∧ rx_cin ic c := by
  intro ic h
  cases h
  exact ⟨_, rfl, _, rfl, fun j _ => ⟨by decide, by decide⟩⟩
set_option maxRecDepth 100000 in
theorem rx_i0_56 : ∀ ic : rx_I, rx_I0[56]? = some ic → ∃ c, rx_lay0[56]? = some c ∧ rx_cin ic c := by
  intro ic h
  cases h
  exact ⟨_, rfl, _, rfl, fun j _ => ⟨by decide, by decide⟩⟩
set_option maxRecDepth 100000 in
theorem rx_i0_57 : ∀ ic : rx_I, rx_I0[57]? = some ic → ∃ c, rx_lay0[57]? = some c ∧ rx_cin ic c := by
  intro ic h
  cases h
  exact ⟨_, rfl, _, rfl, fun j _ => ⟨by decide, by decide⟩⟩
set_option maxRecDepth 100000 in
theorem rx_i0_58 : ∀ ic : rx_I, rx_I0[58]? = some ic → ∃ c, rx_lay0[58]? = some c ∧ rx_cin ic c := by
  intro ic h
  cases h
  exact ⟨_, rfl, _, rfl⟩
set_option maxRecDepth 100000 in
theorem rx_i0_59 : ∀ ic : rx_I, rx_I0[59]? = some ic → ∃ c, rx_lay0[59]? = some c ∧ rx_cin ic c := by
  intro ic h
  cases h
  exact ⟨_, rfl, _, rfl, fun j _ => ⟨by decide, by decide⟩⟩
set_option maxRecDepth 100000 in
theorem rx_i0_60 : ∀ ic : rx_I, rx_I0[60]? = some ic → ∃ c, rx_lay0[60]? = some c ∧ rx_cin ic c := by
  intro ic h
  cases h
  exact ⟨_, rfl, _, rfl, fun j _ => ⟨by decide, by decide⟩⟩
set_option maxRecDepth 100000 in
theorem rx_hin0 : rx_hin rx_I0 rx_lay0 := by
  refine ⟨rfl, fun k ic hk => ?_⟩
  match k, hk with
  | 0, hk => exact rx_i0_0 ic hk
  | 1, hk => exact rx_i0_1 ic hk
  | 2, hk => exact rx_i0_2 ic hk
  | 3, hk => exact rx_i0_3 ic hk
  | 4, hk => exact rx_i0_4 ic hk
  | 5, hk => exact rx_i0_5 ic hk
  | 6, hk => exact rx_i0_6 ic hk
  | 7, hk => exact rx_i0_7 ic hk
  | 8, hk => exact rx_i0_8 ic hk
  | 9, hk => exact rx_i0_9 ic hk
  | 10, hk => exact rx_i0_10 ic hk
  | 11, hk => exact rx_i0_11 ic hk
  | 12, hk => exact rx_i0_12 ic hk
  | 13, hk => exact rx_i0_13 ic hk
  | 14, hk => exact rx_i0_14 ic hk
  | 15, hk => exact rx_i0_15 ic hk
  | 16, hk => exact rx_i0_16 ic hk
  | 17, hk => exact rx_i0_17 ic hk
  | 18, hk => exact rx_i0_18 ic hk
  | 19, hk => exact rx_i0_19 ic hk
  | 20, hk => exact rx_i0_20 ic hk
  | 21, hk => exact rx_i0_21 ic hk
  | 22, hk => exact rx_i0_22 ic hk
  | 23, hk => exact rx_i0_23 ic hk
  | 24, hk => exact rx_i0_24 ic hk
  | 25, hk => exact rx_i0_25 ic hk
  | 26, hk => exact rx_i0_26 ic hk
  | 27, hk => exact rx_i0_27 ic hk
  | 28, hk => exact rx_i0_28 ic hk
  | 29, hk => exact rx_i0_29 ic hk
  | 30, hk => exact rx_i0_30 ic hk
  | 31, hk => exact rx_i0_31 ic hk
  | 32, hk => exact rx_i0_32 ic hk
  | 33, hk => exact rx_i0_33 ic hk
  | 34, hk => exact rx_i0_34 ic hk
  | 35, hk => exact rx_i0_35 ic hk
  | 36, hk => exact rx_i0_36 ic hk
  | 37, hk => exact rx_i0_37 ic hk
  | 38, hk => exact rx_i0_38 ic hk
  | 39, hk => exact rx_i0_39 ic hk
  | 40, hk => exact rx_i0_40 ic hk
  | 41, hk => exact rx_i0_41 ic hk
  | 42, hk => exact rx_i0_42 ic hk
  | 43, hk => exact rx_i0_43 ic hk
  | 44, hk => exact rx_i0_44 ic hk
  | 45, hk => exact rx_i0_45 ic hk
  | 46, hk => exact rx_i0_46 ic hk
  | 47, hk => exact rx_i0_47 ic hk
  | 48, hk => exact rx_i0_48 ic hk
  | 49, hk => exact rx_i0_49 ic hk
  | 50, hk => exact rx_i0_50 ic hk
  | 51, hk => exact rx_i0_51 ic hk
  | 52, hk => exact rx_i0_52 ic hk
  | 53, hk => exact rx_i0_53 ic hk
  | 54, hk => exact rx_i0_54 ic hk
  | 55, hk => exact rx_i0_55 ic hk
  | 56, hk => exact rx_i0_56 ic hk
  | 57, hk => exact rx_i0_57 ic hk
  | 58, hk => exact rx_i0_58 ic hk
  | 59, hk => exact rx_i0_59 ic hk
  | 60, hk => exact rx_i0_60 ic hk
  | n + 61, hk => cases hk
set_option maxRecDepth 100000 in
theorem rx_iv0 : rx_Iv rx_lay0 := ⟨rx_hin0, ⟨fun c _ z => absurd rfl z, fun a b c _ _ _ => ⟨rfl, rfl⟩⟩, 0, 0, 0, by decide, by decide, by decide, ⟨rfl, rfl⟩, ⟨rfl, rfl⟩, ⟨rfl, rfl⟩, rfl, fun _ _ => rfl, fun _ _ => rfl⟩
theorem rx_lay0_z : rx_lay0.length ≤ 1000 ∧ rx_sz rx_lay0 ≤ 100000 := by
  rw [← rx_hp0_eq]
  exact rx_hp0_sz
theorem rx_and15 (x : Int32) : ∃ k : Nat, k < 16 ∧ x &&& (Int8.ofInt 15).toInt32 = nI k := by
  rw [show (Int8.ofInt 15).toInt32 = nI 15 by decide +kernel]
  refine ⟨x.toBitVec.toNat % 16, Nat.mod_lt _ (by decide), ?_⟩
  apply Int32.toBitVec_inj.mp
  apply BitVec.eq_of_toNat_eq
  rw [Int32.toBitVec_and, BitVec.toNat_and]
  show x.toBitVec.toNat &&& (BitVec.ofNat 32 15).toNat = (BitVec.ofNat 32 (x.toBitVec.toNat % 16)).toNat
  rw [BitVec.toNat_ofNat, BitVec.toNat_ofNat, Nat.mod_eq_of_lt (show 15 < 2 ^ 32 by decide), Nat.mod_eq_of_lt (show x.toBitVec.toNat % 16 < 2 ^ 32 by omega)]
  exact Nat.and_two_pow_sub_one_eq_mod _ 4
end RXIN
