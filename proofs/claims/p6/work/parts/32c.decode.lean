set_option maxRecDepth 100000 in
theorem rxd_110 : rx_chk rxm_110 = true := by decide +kernel
set_option maxRecDepth 100000 in
theorem rxd_111 : rx_chk rxm_111 = true := by decide +kernel
set_option maxRecDepth 100000 in
theorem rxd_112 : rx_chk rxm_112 = true := by decide +kernel
set_option maxRecDepth 100000 in
theorem rxd_113 : rx_chk rxm_113 = true := by decide +kernel
set_option maxRecDepth 100000 in
theorem rxd_114 : rx_chk rxm_114 = true := by decide +kernel
set_option maxRecDepth 100000 in
theorem rxd_115 : rx_chk rxm_115 = true := by decide +kernel
set_option maxRecDepth 100000 in
theorem rxd_116 : rx_chk rxm_116 = true := by decide +kernel
set_option maxRecDepth 100000 in
theorem rxd_117 : rx_chk rxm_117 = true := by decide +kernel
set_option maxRecDepth 100000 in
theorem rxd_118 : rx_chk rxm_118 = true := by decide +kernel
set_option maxRecDepth 100000 in
theorem rxd_119 : rx_chk rxm_119 = true := by decide +kernel
set_option maxRecDepth 100000 in
theorem rxd_120 : rx_chk rxm_120 = true := by decide +kernel
set_option maxRecDepth 100000 in
theorem rxd_121 : rx_chk rxm_121 = true := by decide +kernel
set_option maxRecDepth 100000 in
theorem rxd_122 : rx_chk rxm_122 = true := by decide +kernel
set_option maxRecDepth 100000 in
theorem rxd_123 : rx_chk rxm_123 = true := by decide +kernel
set_option maxRecDepth 100000 in
theorem rxd_124 : rx_chk rxm_124 = true := by decide +kernel
set_option maxRecDepth 100000 in
theorem rxd_125 : rx_chk rxm_125 = true := by decide +kernel
set_option maxRecDepth 100000 in
theorem rxd_126 : rx_chk rxm_126 = true := by decide +kernel
set_option maxRecDepth 100000 in
theorem rxd_127 : rx_chk rxm_127 = true := by decide +kernel
set_option maxRecDepth 100000 in
theorem rxd_128 : rx_chk rxm_128 = true := by decide +kernel
set_option maxRecDepth 100000 in
theorem rxd_129 : rx_chk rxm_129 = true := by decide +kernel
set_option maxRecDepth 100000 in
theorem rxd_130 : rx_chk rxm_130 = true := by decide +kernel
set_option maxRecDepth 100000 in
theorem rxd_131 : rx_chk rxm_131 = true := by decide +kernel
set_option maxRecDepth 100000 in
theorem rxd_132 : rx_chk rxm_132 = true := by decide +kernel
set_option maxRecDepth 100000 in
theorem rxd_133 : rx_chk rxm_133 = true := by decide +kernel
set_option maxRecDepth 100000 in
theorem rxd_134 : rx_chk rxm_134 = true := by decide +kernel
set_option maxRecDepth 100000 in
theorem rxd_135 : rx_chk rxm_135 = true := by decide +kernel
set_option maxRecDepth 100000 in
theorem rxd_136 : rx_chk rxm_136 = true := by decide +kernel
set_option maxRecDepth 100000 in
theorem rxd_137 : rx_chk rxm_137 = true := by decide +kernel
set_option maxRecDepth 100000 in
theorem rxd_138 : rx_chk rxm_138 = true := by decide +kernel
set_option maxRecDepth 100000 in
theorem rxd_139 : rx_chk rxm_139 = true := by decide +kernel
set_option maxRecDepth 100000 in
theorem rxd_140 : rx_chk rxm_140 = true := by decide +kernel
set_option maxRecDepth 100000 in
theorem rxd_141 : rx_chk rxm_141 = true := by decide +kernel
set_option maxRecDepth 100000 in
theorem rxd_142 : rx_chk rxm_142 = true := by decide +kernel
set_option maxRecDepth 100000 in
theorem rxd_143 : rx_chk rxm_143 = true := by decide +kernel
set_option maxRecDepth 100000 in
theorem rxd_144 : rx_chk rxm_144 = true := by decide +kernel
set_option maxRecDepth 100000 in
theorem rxd_145 : rx_chk rxm_145 = true := by decide +kernel
set_option maxRecDepth 100000 in
theorem rxd_146 : rx_chk rxm_146 = true := by decide +kernel
set_option maxRecDepth 100000 in
theorem rxd_147 : rx_chk rxm_147 = true := by decide +kernel
set_option maxRecDepth 100000 in
theorem rxd_148 : rx_chk rxm_148 = true := by decide +kernel
set_option maxRecDepth 100000 in
theorem rxd_149 : rx_chk rxm_149 = true := by decide +kernel
set_option maxRecDepth 100000 in
theorem rxd_150 : rx_chk rxm_150 = true := by decide +kernel
set_option maxRecDepth 100000 in
theorem rxd_151 : rx_chk rxm_151 = true := by decide +kernel
set_option maxRecDepth 100000 in
theorem rxd_152 : rx_chk rxm_152 = true := by decide +kernel
set_option maxRecDepth 100000 in
theorem rxd_153 : rx_chk rxm_153 = true := by decide +kernel
set_option maxRecDepth 100000 in
theorem rxd_154 : rx_chk rxm_154 = true := by decide +kernel
set_option maxRecDepth 100000 in
theorem rxd_155 : rx_chk rxm_155 = true := by decide +kernel
set_option maxRecDepth 100000 in
theorem rxd_156 : rx_chk rxm_156 = true := by decide +kernel
set_option maxRecDepth 100000 in
theorem rxd_157 : rx_chk rxm_157 = true := by decide +kernel
set_option maxRecDepth 100000 in
theorem rxd_158 : rx_chk rxm_158 = true := by decide +kernel
set_option maxRecDepth 100000 in
theorem rxd_159 : rx_chk rxm_159 = true := by decide +kernel
set_option maxRecDepth 100000 in
theorem rxd_160 : rx_chk rxm_160 = true := by decide +kernel
set_option maxRecDepth 100000 in
theorem rxd_161 : rx_chk rxm_161 = true := by decide +kernel
set_option maxRecDepth 100000 in
theorem rxd_162 : rx_chk rxm_162 = true := by decide +kernel
set_option maxRecDepth 100000 in
theorem rxd_163 : rx_chk rxm_163 = true := by decide +kernel
