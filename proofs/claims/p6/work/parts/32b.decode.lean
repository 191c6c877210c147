set_option maxRecDepth 100000 in
theorem rxd_55 : rx_chk rxm_55 = true := by decide +kernel
set_option maxRecDepth 100000 in
theorem rxd_56 : rx_chk rxm_56 = true := by decide +kernel
set_option maxRecDepth 100000 in
theorem rxd_57 : rx_chk rxm_57 = true := by decide +kernel
set_option maxRecDepth 100000 in
theorem rxd_58 : rx_chk rxm_58 = true := by decide +kernel
set_option maxRecDepth 100000 in
theorem rxd_59 : rx_chk rxm_59 = true := by decide +kernel
set_option maxRecDepth 100000 in
theorem rxd_60 : rx_chk rxm_60 = true := by decide +kernel
set_option maxRecDepth 100000 in
theorem rxd_61 : rx_chk rxm_61 = true := by decide +kernel
set_option maxRecDepth 100000 in
theorem rxd_62 : rx_chk rxm_62 = true := by decide +kernel
set_option maxRecDepth 100000 in
theorem rxd_63 : rx_chk rxm_63 = true := by decide +kernel
set_option maxRecDepth 100000 in
theorem rxd_64 : rx_chk rxm_64 = true := by decide +kernel
set_option maxRecDepth 100000 in
theorem rxd_65 : rx_chk rxm_65 = true := by decide +kernel
set_option maxRecDepth 100000 in
theorem rxd_66 : rx_chk rxm_66 = true := by decide +kernel
set_option maxRecDepth 100000 in
theorem rxd_67 : rx_chk rxm_67 = true := by decide +kernel
set_option maxRecDepth 100000 in
theorem rxd_68 : rx_chk rxm_68 = true := by decide +kernel
set_option maxRecDepth 100000 in
theorem rxd_69 : rx_chk rxm_69 = true := by decide +kernel
set_option maxRecDepth 100000 in
theorem rxd_70 : rx_chk rxm_70 = true := by decide +kernel
set_option maxRecDepth 100000 in
theorem rxd_71 : rx_chk rxm_71 = true := by decide +kernel
set_option maxRecDepth 100000 in
theorem rxd_72 : rx_chk rxm_72 = true := by decide +kernel
set_option maxRecDepth 100000 in
theorem rxd_73 : rx_chk rxm_73 = true := by decide +kernel
set_option maxRecDepth 100000 in
theorem rxd_74 : rx_chk rxm_74 = true := by decide +kernel
set_option maxRecDepth 100000 in
theorem rxd_75 : rx_chk rxm_75 = true := by decide +kernel
set_option maxRecDepth 100000 in
theorem rxd_76 : rx_chk rxm_76 = true := by decide +kernel
set_option maxRecDepth 100000 in
theorem rxd_77 : rx_chk rxm_77 = true := by decide +kernel
set_option maxRecDepth 100000 in
theorem rxd_78 : rx_chk rxm_78 = true := by decide +kernel
set_option maxRecDepth 100000 in
theorem rxd_79 : rx_chk rxm_79 = true := by decide +kernel
set_option maxRecDepth 100000 in
theorem rxd_80 : rx_chk rxm_80 = true := by decide +kernel
set_option maxRecDepth 100000 in
theorem rxd_81 : rx_chk rxm_81 = true := by decide +kernel
set_option maxRecDepth 100000 in
theorem rxd_82 : rx_chk rxm_82 = true := by decide +kernel
set_option maxRecDepth 100000 in
theorem rxd_83 : rx_chk rxm_83 = true := by decide +kernel
set_option maxRecDepth 100000 in
theorem rxd_84 : rx_chk rxm_84 = true := by decide +kernel
set_option maxRecDepth 100000 in
theorem rxd_85 : rx_chk rxm_85 = true := by decide +kernel
set_option maxRecDepth 100000 in
theorem rxd_86 : rx_chk rxm_86 = true := by decide +kernel
set_option maxRecDepth 100000 in
theorem rxd_87 : rx_chk rxm_87 = true := by decide +kernel
set_option maxRecDepth 100000 in
theorem rxd_88 : rx_chk rxm_88 = true := by decide +kernel
set_option maxRecDepth 100000 in
theorem rxd_89 : rx_chk rxm_89 = true := by decide +kernel
set_option maxRecDepth 100000 in
theorem rxd_90 : rx_chk rxm_90 = true := by decide +kernel
set_option maxRecDepth 100000 in
theorem rxd_91 : rx_chk rxm_91 = true := by decide +kernel
set_option maxRecDepth 100000 in
theorem rxd_92 : rx_chk rxm_92 = true := by decide +kernel
set_option maxRecDepth 100000 in
theorem rxd_93 : rx_chk rxm_93 = true := by decide +kernel
set_option maxRecDepth 100000 in
theorem rxd_94 : rx_chk rxm_94 = true := by decide +kernel
set_option maxRecDepth 100000 in
theorem rxd_95 : rx_chk rxm_95 = true := by decide +kernel
set_option maxRecDepth 100000 in
theorem rxd_96 : rx_chk rxm_96 = true := by decide +kernel
set_option maxRecDepth 100000 in
theorem rxd_97 : rx_chk rxm_97 = true := by decide +kernel
set_option maxRecDepth 100000 in
theorem rxd_98 : rx_chk rxm_98 = true := by decide +kernel
set_option maxRecDepth 100000 in
theorem rxd_99 : rx_chk rxm_99 = true := by decide +kernel
set_option maxRecDepth 100000 in
theorem rxd_100 : rx_chk rxm_100 = true := by decide +kernel
set_option maxRecDepth 100000 in
theorem rxd_101 : rx_chk rxm_101 = true := by decide +kernel
set_option maxRecDepth 100000 in
theorem rxd_102 : rx_chk rxm_102 = true := by decide +kernel
set_option maxRecDepth 100000 in
theorem rxd_103 : rx_chk rxm_103 = true := by decide +kernel
set_option maxRecDepth 100000 in
theorem rxd_104 : rx_chk rxm_104 = true := by decide +kernel
set_option maxRecDepth 100000 in
theorem rxd_105 : rx_chk rxm_105 = true := by decide +kernel
set_option maxRecDepth 100000 in
theorem rxd_106 : rx_chk rxm_106 = true := by decide +kernel
set_option maxRecDepth 100000 in
theorem rxd_107 : rx_chk rxm_107 = true := by decide +kernel
set_option maxRecDepth 100000 in
theorem rxd_108 : rx_chk rxm_108 = true := by decide +kernel
set_option maxRecDepth 100000 in
theorem rxd_109 : rx_chk rxm_109 = true := by decide +kernel
