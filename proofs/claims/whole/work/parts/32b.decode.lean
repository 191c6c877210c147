set_option maxRecDepth 100000 in
theorem rxd_55 : rx_chk rx_m55 = true := by decide +kernel
set_option maxRecDepth 100000 in
theorem rxd_56 : rx_chk rx_m56 = true := by decide +kernel
set_option maxRecDepth 100000 in
theorem rxd_57 : rx_chk rx_m57 = true := by decide +kernel
set_option maxRecDepth 100000 in
theorem rxd_58 : rx_chk rx_m58 = true := by decide +kernel
set_option maxRecDepth 100000 in
theorem rxd_59 : rx_chk rx_m59 = true := by decide +kernel
set_option maxRecDepth 100000 in
theorem rxd_60 : rx_chk rx_m60 = true := by decide +kernel
set_option maxRecDepth 100000 in
theorem rxd_61 : rx_chk rx_m61 = true := by decide +kernel
set_option maxRecDepth 100000 in
theorem rxd_62 : rx_chk rx_m62 = true := by decide +kernel
set_option maxRecDepth 100000 in
theorem rxd_63 : rx_chk rx_m63 = true := by decide +kernel
set_option maxRecDepth 100000 in
theorem rxd_64 : rx_chk rx_m64 = true := by decide +kernel
set_option maxRecDepth 100000 in
theorem rxd_65 : rx_chk rx_m65 = true := by decide +kernel
set_option maxRecDepth 100000 in
theorem rxd_66 : rx_chk rx_m66 = true := by decide +kernel
set_option maxRecDepth 100000 in
theorem rxd_67 : rx_chk rx_m67 = true := by decide +kernel
set_option maxRecDepth 100000 in
theorem rxd_68 : rx_chk rx_m68 = true := by decide +kernel
set_option maxRecDepth 100000 in
theorem rxd_69 : rx_chk rx_m69 = true := by decide +kernel
set_option maxRecDepth 100000 in
theorem rxd_70 : rx_chk rx_m70 = true := by decide +kernel
set_option maxRecDepth 100000 in
theorem rxd_71 : rx_chk rx_m71 = true := by decide +kernel
set_option maxRecDepth 100000 in
theorem rxd_72 : rx_chk rx_m72 = true := by decide +kernel
set_option maxRecDepth 100000 in
theorem rxd_73 : rx_chk rx_m73 = true := by decide +kernel
set_option maxRecDepth 100000 in
theorem rxd_74 : rx_chk rx_m74 = true := by decide +kernel
set_option maxRecDepth 100000 in
theorem rxd_75 : rx_chk rx_m75 = true := by decide +kernel
set_option maxRecDepth 100000 in
theorem rxd_76 : rx_chk rx_m76 = true := by decide +kernel
set_option maxRecDepth 100000 in
theorem rxd_77 : rx_chk rx_m77 = true := by decide +kernel
set_option maxRecDepth 100000 in
theorem rxd_78 : rx_chk rx_m78 = true := by decide +kernel
set_option maxRecDepth 100000 in
theorem rxd_79 : rx_chk rx_m79 = true := by decide +kernel
set_option maxRecDepth 100000 in
theorem rxd_80 : rx_chk rx_m80 = true := by decide +kernel
set_option maxRecDepth 100000 in
theorem rxd_81 : rx_chk rx_m81 = true := by decide +kernel
set_option maxRecDepth 100000 in
theorem rxd_82 : rx_chk rx_m82 = true := by decide +kernel
set_option maxRecDepth 100000 in
theorem rxd_83 : rx_chk rx_m83 = true := by decide +kernel
set_option maxRecDepth 100000 in
theorem rxd_84 : rx_chk rx_m84 = true := by decide +kernel
set_option maxRecDepth 100000 in
theorem rxd_85 : rx_chk rx_m85 = true := by decide +kernel
set_option maxRecDepth 100000 in
theorem rxd_86 : rx_chk rx_m86 = true := by decide +kernel
set_option maxRecDepth 100000 in
theorem rxd_87 : rx_chk rx_m87 = true := by decide +kernel
set_option maxRecDepth 100000 in
theorem rxd_88 : rx_chk rx_m88 = true := by decide +kernel
set_option maxRecDepth 100000 in
theorem rxd_89 : rx_chk rx_m89 = true := by decide +kernel
set_option maxRecDepth 100000 in
theorem rxd_90 : rx_chk rx_m90 = true := by decide +kernel
set_option maxRecDepth 100000 in
theorem rxd_91 : rx_chk rx_m91 = true := by decide +kernel
set_option maxRecDepth 100000 in
theorem rxd_92 : rx_chk rx_m92 = true := by decide +kernel
set_option maxRecDepth 100000 in
theorem rxd_93 : rx_chk rx_m93 = true := by decide +kernel
set_option maxRecDepth 100000 in
theorem rxd_94 : rx_chk rx_m94 = true := by decide +kernel
set_option maxRecDepth 100000 in
theorem rxd_95 : rx_chk rx_m95 = true := by decide +kernel
set_option maxRecDepth 100000 in
theorem rxd_96 : rx_chk rx_m96 = true := by decide +kernel
set_option maxRecDepth 100000 in
theorem rxd_97 : rx_chk rx_m97 = true := by decide +kernel
set_option maxRecDepth 100000 in
theorem rxd_98 : rx_chk rx_m98 = true := by decide +kernel
set_option maxRecDepth 100000 in
theorem rxd_99 : rx_chk rx_m99 = true := by decide +kernel
set_option maxRecDepth 100000 in
theorem rxd_100 : rx_chk rx_m100 = true := by decide +kernel
set_option maxRecDepth 100000 in
theorem rxd_101 : rx_chk rx_m101 = true := by decide +kernel
set_option maxRecDepth 100000 in
theorem rxd_102 : rx_chk rx_m102 = true := by decide +kernel
set_option maxRecDepth 100000 in
theorem rxd_103 : rx_chk rx_m103 = true := by decide +kernel
set_option maxRecDepth 100000 in
theorem rxd_104 : rx_chk rx_m104 = true := by decide +kernel
set_option maxRecDepth 100000 in
theorem rxd_105 : rx_chk rx_m105 = true := by decide +kernel
set_option maxRecDepth 100000 in
theorem rxd_106 : rx_chk rx_m106 = true := by decide +kernel
set_option maxRecDepth 100000 in
theorem rxd_107 : rx_chk rx_m107 = true := by decide +kernel
set_option maxRecDepth 100000 in
theorem rxd_108 : rx_chk rx_m108 = true := by decide +kernel
set_option maxRecDepth 100000 in
theorem rxd_109 : rx_chk rx_m109 = true := by decide +kernel
