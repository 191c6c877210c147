set_option maxRecDepth 100000 in
theorem rxd_110 : rx_chk rx_m110 = true := by decide +kernel
set_option maxRecDepth 100000 in
theorem rxd_111 : rx_chk rx_m111 = true := by decide +kernel
set_option maxRecDepth 100000 in
theorem rxd_112 : rx_chk rx_m112 = true := by decide +kernel
set_option maxRecDepth 100000 in
theorem rxd_113 : rx_chk rx_m113 = true := by decide +kernel
set_option maxRecDepth 100000 in
theorem rxd_114 : rx_chk rx_m114 = true := by decide +kernel
set_option maxRecDepth 100000 in
theorem rxd_115 : rx_chk rx_m115 = true := by decide +kernel
set_option maxRecDepth 100000 in
theorem rxd_116 : rx_chk rx_m116 = true := by decide +kernel
set_option maxRecDepth 100000 in
theorem rxd_117 : rx_chk rx_m117 = true := by decide +kernel
set_option maxRecDepth 100000 in
theorem rxd_118 : rx_chk rx_m118 = true := by decide +kernel
set_option maxRecDepth 100000 in
theorem rxd_119 : rx_chk rx_m119 = true := by decide +kernel
set_option maxRecDepth 100000 in
theorem rxd_120 : rx_chk rx_m120 = true := by decide +kernel
set_option maxRecDepth 100000 in
theorem rxd_121 : rx_chk rx_m121 = true := by decide +kernel
set_option maxRecDepth 100000 in
theorem rxd_122 : rx_chk rx_m122 = true := by decide +kernel
set_option maxRecDepth 100000 in
theorem rxd_123 : rx_chk rx_m123 = true := by decide +kernel
set_option maxRecDepth 100000 in
theorem rxd_124 : rx_chk rx_m124 = true := by decide +kernel
set_option maxRecDepth 100000 in
theorem rxd_125 : rx_chk rx_m125 = true := by decide +kernel
set_option maxRecDepth 100000 in
theorem rxd_126 : rx_chk rx_m126 = true := by decide +kernel
set_option maxRecDepth 100000 in
theorem rxd_127 : rx_chk rx_m127 = true := by decide +kernel
set_option maxRecDepth 100000 in
theorem rxd_128 : rx_chk rx_m128 = true := by decide +kernel
set_option maxRecDepth 100000 in
theorem rxd_129 : rx_chk rx_m129 = true := by decide +kernel
set_option maxRecDepth 100000 in
theorem rxd_130 : rx_chk rx_m130 = true := by decide +kernel
set_option maxRecDepth 100000 in
theorem rxd_131 : rx_chk rx_m131 = true := by decide +kernel
set_option maxRecDepth 100000 in
theorem rxd_132 : rx_chk rx_m132 = true := by decide +kernel
set_option maxRecDepth 100000 in
theorem rxd_133 : rx_chk rx_m133 = true := by decide +kernel
set_option maxRecDepth 100000 in
theorem rxd_134 : rx_chk rx_m134 = true := by decide +kernel
set_option maxRecDepth 100000 in
theorem rxd_135 : rx_chk rx_m135 = true := by decide +kernel
set_option maxRecDepth 100000 in
theorem rxd_136 : rx_chk rx_m136 = true := by decide +kernel
set_option maxRecDepth 100000 in
theorem rxd_137 : rx_chk rx_m137 = true := by decide +kernel
set_option maxRecDepth 100000 in
theorem rxd_138 : rx_chk rx_m138 = true := by decide +kernel
set_option maxRecDepth 100000 in
theorem rxd_139 : rx_chk rx_m139 = true := by decide +kernel
set_option maxRecDepth 100000 in
theorem rxd_140 : rx_chk rx_m140 = true := by decide +kernel
set_option maxRecDepth 100000 in
theorem rxd_141 : rx_chk rx_m141 = true := by decide +kernel
set_option maxRecDepth 100000 in
theorem rxd_142 : rx_chk rx_m142 = true := by decide +kernel
set_option maxRecDepth 100000 in
theorem rxd_143 : rx_chk rx_m143 = true := by decide +kernel
set_option maxRecDepth 100000 in
theorem rxd_144 : rx_chk rx_m144 = true := by decide +kernel
set_option maxRecDepth 100000 in
theorem rxd_145 : rx_chk rx_m145 = true := by decide +kernel
set_option maxRecDepth 100000 in
theorem rxd_146 : rx_chk rx_m146 = true := by decide +kernel
set_option maxRecDepth 100000 in
theorem rxd_147 : rx_chk rx_m147 = true := by decide +kernel
set_option maxRecDepth 100000 in
theorem rxd_148 : rx_chk rx_m148 = true := by decide +kernel
set_option maxRecDepth 100000 in
theorem rxd_149 : rx_chk rx_m149 = true := by decide +kernel
set_option maxRecDepth 100000 in
theorem rxd_150 : rx_chk rx_m150 = true := by decide +kernel
set_option maxRecDepth 100000 in
theorem rxd_151 : rx_chk rx_m151 = true := by decide +kernel
set_option maxRecDepth 100000 in
theorem rxd_152 : rx_chk rx_m152 = true := by decide +kernel
set_option maxRecDepth 100000 in
theorem rxd_153 : rx_chk rx_m153 = true := by decide +kernel
set_option maxRecDepth 100000 in
theorem rxd_154 : rx_chk rx_m154 = true := by decide +kernel
set_option maxRecDepth 100000 in
theorem rxd_155 : rx_chk rx_m155 = true := by decide +kernel
set_option maxRecDepth 100000 in
theorem rxd_156 : rx_chk rx_m156 = true := by decide +kernel
set_option maxRecDepth 100000 in
theorem rxd_157 : rx_chk rx_m157 = true := by decide +kernel
set_option maxRecDepth 100000 in
theorem rxd_158 : rx_chk rx_m158 = true := by decide +kernel
set_option maxRecDepth 100000 in
theorem rxd_159 : rx_chk rx_m159 = true := by decide +kernel
set_option maxRecDepth 100000 in
theorem rxd_160 : rx_chk rx_m160 = true := by decide +kernel
set_option maxRecDepth 100000 in
theorem rxd_161 : rx_chk rx_m161 = true := by decide +kernel
set_option maxRecDepth 100000 in
theorem rxd_162 : rx_chk rx_m162 = true := by decide +kernel
