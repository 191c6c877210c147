set_option maxRecDepth 100000 in
theorem rxd_0 : rx_chk rxm_0 = true := by decide +kernel
set_option maxRecDepth 100000 in
theorem rxd_1 : rx_chk rxm_1 = true := by decide +kernel
set_option maxRecDepth 100000 in
theorem rxd_2 : rx_chk rxm_2 = true := by decide +kernel
set_option maxRecDepth 100000 in
theorem rxd_3 : rx_chk rxm_3 = true := by decide +kernel
set_option maxRecDepth 100000 in
theorem rxd_4 : rx_chk rxm_4 = true := by decide +kernel
set_option maxRecDepth 100000 in
theorem rxd_5 : rx_chk rxm_5 = true := by decide +kernel
set_option maxRecDepth 100000 in
theorem rxd_6 : rx_chk rxm_6 = true := by decide +kernel
set_option maxRecDepth 100000 in
theorem rxd_7 : rx_chk rxm_7 = true := by decide +kernel
set_option maxRecDepth 100000 in
theorem rxd_8 : rx_chk rxm_8 = true := by decide +kernel
set_option maxRecDepth 100000 in
theorem rxd_9 : rx_chk rxm_9 = true := by decide +kernel
set_option maxRecDepth 100000 in
theorem rxd_10 : rx_chk rxm_10 = true := by decide +kernel
set_option maxRecDepth 100000 in
theorem rxd_11 : rx_chk rxm_11 = true := by decide +kernel
set_option maxRecDepth 100000 in
theorem rxd_12 : rx_chk rxm_12 = true := by decide +kernel
set_option maxRecDepth 100000 in
theorem rxd_13 : rx_chk rxm_13 = true := by decide +kernel
set_option maxRecDepth 100000 in
theorem rxd_14 : rx_chk rxm_14 = true := by decide +kernel
set_option maxRecDepth 100000 in
theorem rxd_15 : rx_chk rxm_15 = true := by decide +kernel
set_option maxRecDepth 100000 in
theorem rxd_16 : rx_chk rxm_16 = true := by decide +kernel
set_option maxRecDepth 100000 in
theorem rxd_17 : rx_chk rxm_17 = true := by decide +kernel
set_option maxRecDepth 100000 in
theorem rxd_18 : rx_chk rxm_18 = true := by decide +kernel
set_option maxRecDepth 100000 in
theorem rxd_19 : rx_chk rxm_19 = true := by decide +kernel
set_option maxRecDepth 100000 in
theorem rxd_20 : rx_chk rxm_20 = true := by decide +kernel
set_option maxRecDepth 100000 in
theorem rxd_21 : rx_chk rxm_21 = true := by decide +kernel
set_option maxRecDepth 100000 in
theorem rxd_22 : rx_chk rxm_22 = true := by decide +kernel
set_option maxRecDepth 100000 in
theorem rxd_23 : rx_chk rxm_23 = true := by decide +kernel
set_option maxRecDepth 100000 in
theorem rxd_24 : rx_chk rxm_24 = true := by decide +kernel
set_option maxRecDepth 100000 in
theorem rxd_25 : rx_chk rxm_25 = true := by decide +kernel
set_option maxRecDepth 100000 in
theorem rxd_26 : rx_chk rxm_26 = true := by decide +kernel
set_option maxRecDepth 100000 in
theorem rxd_27 : rx_chk rxm_27 = true := by decide +kernel
set_option maxRecDepth 100000 in
theorem rxd_28 : rx_chk rxm_28 = true := by decide +kernel
set_option maxRecDepth 100000 in
theorem rxd_29 : rx_chk rxm_29 = true := by decide +kernel
set_option maxRecDepth 100000 in
theorem rxd_30 : rx_chk rxm_30 = true := by decide +kernel
set_option maxRecDepth 100000 in
theorem rxd_31 : rx_chk rxm_31 = true := by decide +kernel
set_option maxRecDepth 100000 in
theorem rxd_32 : rx_chk rxm_32 = true := by decide +kernel
set_option maxRecDepth 100000 in
theorem rxd_33 : rx_chk rxm_33 = true := by decide +kernel
set_option maxRecDepth 100000 in
theorem rxd_34 : rx_chk rxm_34 = true := by decide +kernel
set_option maxRecDepth 100000 in
theorem rxd_35 : rx_chk rxm_35 = true := by decide +kernel
set_option maxRecDepth 100000 in
theorem rxd_36 : rx_chk rxm_36 = true := by decide +kernel
set_option maxRecDepth 100000 in
theorem rxd_37 : rx_chk rxm_37 = true := by decide +kernel
set_option maxRecDepth 100000 in
theorem rxd_38 : rx_chk rxm_38 = true := by decide +kernel
set_option maxRecDepth 100000 in
theorem rxd_39 : rx_chk rxm_39 = true := by decide +kernel
set_option maxRecDepth 100000 in
theorem rxd_40 : rx_chk rxm_40 = true := by decide +kernel
set_option maxRecDepth 100000 in
theorem rxd_41 : rx_chk rxm_41 = true := by decide +kernel
set_option maxRecDepth 100000 in
theorem rxd_42 : rx_chk rxm_42 = true := by decide +kernel
set_option maxRecDepth 100000 in
theorem rxd_43 : rx_chk rxm_43 = true := by decide +kernel
set_option maxRecDepth 100000 in
theorem rxd_44 : rx_chk rxm_44 = true := by decide +kernel
set_option maxRecDepth 100000 in
theorem rxd_45 : rx_chk rxm_45 = true := by decide +kernel
set_option maxRecDepth 100000 in
theorem rxd_46 : rx_chk rxm_46 = true := by decide +kernel
set_option maxRecDepth 100000 in
theorem rxd_47 : rx_chk rxm_47 = true := by decide +kernel
set_option maxRecDepth 100000 in
theorem rxd_48 : rx_chk rxm_48 = true := by decide +kernel
set_option maxRecDepth 100000 in
theorem rxd_49 : rx_chk rxm_49 = true := by decide +kernel
set_option maxRecDepth 100000 in
theorem rxd_50 : rx_chk rxm_50 = true := by decide +kernel
set_option maxRecDepth 100000 in
theorem rxd_51 : rx_chk rxm_51 = true := by decide +kernel
set_option maxRecDepth 100000 in
theorem rxd_52 : rx_chk rxm_52 = true := by decide +kernel
set_option maxRecDepth 100000 in
theorem rxd_53 : rx_chk rxm_53 = true := by decide +kernel
set_option maxRecDepth 100000 in
theorem rxd_54 : rx_chk rxm_54 = true := by decide +kernel
