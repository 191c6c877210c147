set_option maxRecDepth 100000 in
theorem rxd_0 : rx_chk rx_m0 = true := by decide +kernel
set_option maxRecDepth 100000 in
theorem rxd_1 : rx_chk rx_m1 = true := by decide +kernel
set_option maxRecDepth 100000 in
theorem rxd_2 : rx_chk rx_m2 = true := by decide +kernel
set_option maxRecDepth 100000 in
theorem rxd_3 : rx_chk rx_m3 = true := by decide +kernel
set_option maxRecDepth 100000 in
theorem rxd_4 : rx_chk rx_m4 = true := by decide +kernel
set_option maxRecDepth 100000 in
theorem rxd_5 : rx_chk rx_m5 = true := by decide +kernel
set_option maxRecDepth 100000 in
theorem rxd_6 : rx_chk rx_m6 = true := by decide +kernel
set_option maxRecDepth 100000 in
theorem rxd_7 : rx_chk rx_m7 = true := by decide +kernel
set_option maxRecDepth 100000 in
theorem rxd_8 : rx_chk rx_m8 = true := by decide +kernel
set_option maxRecDepth 100000 in
theorem rxd_9 : rx_chk rx_m9 = true := by decide +kernel
set_option maxRecDepth 100000 in
theorem rxd_10 : rx_chk rx_m10 = true := by decide +kernel
set_option maxRecDepth 100000 in
theorem rxd_11 : rx_chk rx_m11 = true := by decide +kernel
set_option maxRecDepth 100000 in
theorem rxd_12 : rx_chk rx_m12 = true := by decide +kernel
set_option maxRecDepth 100000 in
theorem rxd_13 : rx_chk rx_m13 = true := by decide +kernel
set_option maxRecDepth 100000 in
theorem rxd_14 : rx_chk rx_m14 = true := by decide +kernel
set_option maxRecDepth 100000 in
theorem rxd_15 : rx_chk rx_m15 = true := by decide +kernel
set_option maxRecDepth 100000 in
theorem rxd_16 : rx_chk rx_m16 = true := by decide +kernel
set_option maxRecDepth 100000 in
theorem rxd_17 : rx_chk rx_m17 = true := by decide +kernel
set_option maxRecDepth 100000 in
theorem rxd_18 : rx_chk rx_m18 = true := by decide +kernel
set_option maxRecDepth 100000 in
theorem rxd_19 : rx_chk rx_m19 = true := by decide +kernel
set_option maxRecDepth 100000 in
theorem rxd_20 : rx_chk rx_m20 = true := by decide +kernel
set_option maxRecDepth 100000 in
theorem rxd_21 : rx_chk rx_m21 = true := by decide +kernel
set_option maxRecDepth 100000 in
theorem rxd_22 : rx_chk rx_m22 = true := by decide +kernel
set_option maxRecDepth 100000 in
theorem rxd_23 : rx_chk rx_m23 = true := by decide +kernel
set_option maxRecDepth 100000 in
theorem rxd_24 : rx_chk rx_m24 = true := by decide +kernel
set_option maxRecDepth 100000 in
theorem rxd_25 : rx_chk rx_m25 = true := by decide +kernel
set_option maxRecDepth 100000 in
theorem rxd_26 : rx_chk rx_m26 = true := by decide +kernel
set_option maxRecDepth 100000 in
theorem rxd_27 : rx_chk rx_m27 = true := by decide +kernel
set_option maxRecDepth 100000 in
theorem rxd_28 : rx_chk rx_m28 = true := by decide +kernel
set_option maxRecDepth 100000 in
theorem rxd_29 : rx_chk rx_m29 = true := by decide +kernel
set_option maxRecDepth 100000 in
theorem rxd_30 : rx_chk rx_m30 = true := by decide +kernel
set_option maxRecDepth 100000 in
theorem rxd_31 : rx_chk rx_m31 = true := by decide +kernel
set_option maxRecDepth 100000 in
theorem rxd_32 : rx_chk rx_m32 = true := by decide +kernel
set_option maxRecDepth 100000 in
theorem rxd_33 : rx_chk rx_m33 = true := by decide +kernel
set_option maxRecDepth 100000 in
theorem rxd_34 : rx_chk rx_m34 = true := by decide +kernel
set_option maxRecDepth 100000 in
theorem rxd_35 : rx_chk rx_m35 = true := by decide +kernel
set_option maxRecDepth 100000 in
theorem rxd_36 : rx_chk rx_m36 = true := by decide +kernel
set_option maxRecDepth 100000 in
theorem rxd_37 : rx_chk rx_m37 = true := by decide +kernel
set_option maxRecDepth 100000 in
theorem rxd_38 : rx_chk rx_m38 = true := by decide +kernel
set_option maxRecDepth 100000 in
theorem rxd_39 : rx_chk rx_m39 = true := by decide +kernel
set_option maxRecDepth 100000 in
theorem rxd_40 : rx_chk rx_m40 = true := by decide +kernel
set_option maxRecDepth 100000 in
theorem rxd_41 : rx_chk rx_m41 = true := by decide +kernel
set_option maxRecDepth 100000 in
theorem rxd_42 : rx_chk rx_m42 = true := by decide +kernel
set_option maxRecDepth 100000 in
theorem rxd_43 : rx_chk rx_m43 = true := by decide +kernel
set_option maxRecDepth 100000 in
theorem rxd_44 : rx_chk rx_m44 = true := by decide +kernel
set_option maxRecDepth 100000 in
theorem rxd_45 : rx_chk rx_m45 = true := by decide +kernel
set_option maxRecDepth 100000 in
theorem rxd_46 : rx_chk rx_m46 = true := by decide +kernel
set_option maxRecDepth 100000 in
theorem rxd_47 : rx_chk rx_m47 = true := by decide +kernel
set_option maxRecDepth 100000 in
theorem rxd_48 : rx_chk rx_m48 = true := by decide +kernel
set_option maxRecDepth 100000 in
theorem rxd_49 : rx_chk rx_m49 = true := by decide +kernel
set_option maxRecDepth 100000 in
theorem rxd_50 : rx_chk rx_m50 = true := by decide +kernel
set_option maxRecDepth 100000 in
theorem rxd_51 : rx_chk rx_m51 = true := by decide +kernel
set_option maxRecDepth 100000 in
theorem rxd_52 : rx_chk rx_m52 = true := by decide +kernel
set_option maxRecDepth 100000 in
theorem rxd_53 : rx_chk rx_m53 = true := by decide +kernel
set_option maxRecDepth 100000 in
theorem rxd_54 : rx_chk rx_m54 = true := by decide +kernel
