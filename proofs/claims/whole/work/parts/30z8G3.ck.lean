/-! ===== the checks, by the kernel ===== -/
set_option maxRecDepth 100000 in
theorem ck_138 : mb_ me_138 = true := by decide +kernel
set_option maxRecDepth 100000 in
theorem ce_138 : cz_138.all (ek_ mt_F me_138.2) = true := by decide +kernel
set_option maxRecDepth 100000 in
theorem ck_139 : mb_ me_139 = true := by decide +kernel
set_option maxRecDepth 100000 in
theorem ce_139 : cz_139.all (ek_ mt_F me_139.2) = true := by decide +kernel
set_option maxRecDepth 100000 in
theorem ck_140 : mb_ me_140 = true := by decide +kernel
set_option maxRecDepth 100000 in
theorem ce_140 : cz_140.all (ek_ mt_F me_140.2) = true := by decide +kernel
set_option maxRecDepth 100000 in
theorem ck_141 : mb_ me_141 = true := by decide +kernel
set_option maxRecDepth 100000 in
theorem ce_141 : cz_141.all (ek_ mt_F me_141.2) = true := by decide +kernel
set_option maxRecDepth 100000 in
theorem ck_142 : mb_ me_142 = true := by decide +kernel
set_option maxRecDepth 100000 in
theorem ce_142 : cz_142.all (ek_ mt_F me_142.2) = true := by decide +kernel
set_option maxRecDepth 100000 in
theorem ck_143 : mb_ me_143 = true := by decide +kernel
set_option maxRecDepth 100000 in
theorem ce_143 : cz_143.all (ek_ mt_F me_143.2) = true := by decide +kernel
set_option maxRecDepth 100000 in
theorem ck_144 : mb_ me_144 = true := by decide +kernel
set_option maxRecDepth 100000 in
theorem ce_144 : cz_144.all (ek_ mt_F me_144.2) = true := by decide +kernel
set_option maxRecDepth 100000 in
theorem ck_145 : mb_ me_145 = true := by decide +kernel
set_option maxRecDepth 100000 in
theorem ce_145 : cz_145.all (ek_ mt_F me_145.2) = true := by decide +kernel
set_option maxRecDepth 100000 in
theorem ck_146 : mb_ me_146 = true := by decide +kernel
set_option maxRecDepth 100000 in
theorem ce_146 : cz_146.all (ek_ mt_F me_146.2) = true := by decide +kernel
set_option maxRecDepth 100000 in
theorem ck_147 : mb_ me_147 = true := by decide +kernel
set_option maxRecDepth 100000 in
theorem ce_147 : cz_147.all (ek_ mt_F me_147.2) = true := by decide +kernel
set_option maxRecDepth 100000 in
theorem ck_148 : mb_ me_148 = true := by decide +kernel
set_option maxRecDepth 100000 in
theorem ce_148 : cz_148.all (ek_ mt_F me_148.2) = true := by decide +kernel
set_option maxRecDepth 100000 in
theorem ck_149 : mb_ me_149 = true := by decide +kernel
set_option maxRecDepth 100000 in
theorem ce_149 : cz_149.all (ek_ mt_F me_149.2) = true := by decide +kernel
set_option maxRecDepth 100000 in
theorem ck_150 : mb_ me_150 = true := by decide +kernel
set_option maxRecDepth 100000 in
theorem ce_150 : cz_150.all (ek_ mt_F me_150.2) = true := by decide +kernel
set_option maxRecDepth 100000 in
theorem ck_151 : mb_ me_151 = true := by decide +kernel
set_option maxRecDepth 100000 in
theorem ce_151 : cz_151.all (ek_ mt_F me_151.2) = true := by decide +kernel
set_option maxRecDepth 100000 in
theorem ck_152 : mb_ me_152 = true := by decide +kernel
set_option maxRecDepth 100000 in
theorem ce_152 : cz_152.all (ek_ mt_F me_152.2) = true := by decide +kernel
set_option maxRecDepth 100000 in
theorem ck_153 : mb_ me_153 = true := by decide +kernel
set_option maxRecDepth 100000 in
theorem ce_153 : cz_153.all (ek_ mt_F me_153.2) = true := by decide +kernel
set_option maxRecDepth 100000 in
theorem ck_154 : mb_ me_154 = true := by decide +kernel
set_option maxRecDepth 100000 in
theorem ce_154 : cz_154.all (ek_ mt_F me_154.2) = true := by decide +kernel
set_option maxRecDepth 100000 in
theorem ck_155 : mb_ me_155 = true := by decide +kernel
set_option maxRecDepth 100000 in
theorem ce_155 : cz_155.all (ek_ mt_F me_155.2) = true := by decide +kernel
set_option maxRecDepth 100000 in
theorem ck_156 : mb_ me_156 = true := by decide +kernel
set_option maxRecDepth 100000 in
theorem ce_156 : cz_156.all (ek_ mt_F me_156.2) = true := by decide +kernel
set_option maxRecDepth 100000 in
theorem ck_157 : mb_ me_157 = true := by decide +kernel
set_option maxRecDepth 100000 in
theorem ce_157 : cz_157.all (ek_ mt_F me_157.2) = true := by decide +kernel
set_option maxRecDepth 100000 in
theorem ck_158 : mb_ me_158 = true := by decide +kernel
set_option maxRecDepth 100000 in
theorem ce_158 : cz_158.all (ek_ mt_F me_158.2) = true := by decide +kernel
set_option maxRecDepth 100000 in
theorem ck_159 : mb_ me_159 = true := by decide +kernel
set_option maxRecDepth 100000 in
theorem ce_159 : cz_159.all (ek_ mt_F me_159.2) = true := by decide +kernel
set_option maxRecDepth 100000 in
theorem ck_160 : mb_ me_160 = true := by decide +kernel
set_option maxRecDepth 100000 in
theorem ce_160 : cz_160.all (ek_ mt_F me_160.2) = true := by decide +kernel
set_option maxRecDepth 100000 in
theorem ck_161 : mb_ me_161 = true := by decide +kernel
set_option maxRecDepth 100000 in
theorem ce_161 : cz_161.all (ek_ mt_F me_161.2) = true := by decide +kernel
set_option maxRecDepth 100000 in
theorem ck_162 : mb_ me_162 = true := by decide +kernel
set_option maxRecDepth 100000 in
theorem ce_162 : cz_162.all (ek_ mt_F me_162.2) = true := by decide +kernel
set_option maxRecDepth 100000 in
theorem ck_163 : mb_ me_163 = true := by decide +kernel
set_option maxRecDepth 100000 in
theorem ce_163 : cz_163.all (ek_ mt_F me_163.2) = true := by decide +kernel
set_option maxRecDepth 100000 in
theorem ck_164 : mb_ me_164 = true := by decide +kernel
set_option maxRecDepth 100000 in
theorem ce_164 : cz_164.all (ek_ mt_F me_164.2) = true := by decide +kernel
set_option maxRecDepth 100000 in
theorem ck_165 : mb_ me_165 = true := by decide +kernel
set_option maxRecDepth 100000 in
theorem ce_165 : cz_165.all (ek_ mt_F me_165.2) = true := by decide +kernel
set_option maxRecDepth 100000 in
theorem ck_166 : mb_ me_166 = true := by decide +kernel
set_option maxRecDepth 100000 in
theorem ce_166 : cz_166.all (ek_ mt_F me_166.2) = true := by decide +kernel
set_option maxRecDepth 100000 in
theorem ck_167 : mb_ me_167 = true := by decide +kernel
set_option maxRecDepth 100000 in
theorem ce_167 : cz_167.all (ek_ mt_F me_167.2) = true := by decide +kernel
set_option maxRecDepth 100000 in
theorem ck_168 : mb_ me_168 = true := by decide +kernel
set_option maxRecDepth 100000 in
theorem ce_168 : cz_168.all (ek_ mt_F me_168.2) = true := by decide +kernel
set_option maxRecDepth 100000 in
theorem ck_169 : mb_ me_169 = true := by decide +kernel
set_option maxRecDepth 100000 in
theorem ce_169 : cz_169.all (ek_ mt_F me_169.2) = true := by decide +kernel
set_option maxRecDepth 100000 in
theorem ck_170 : mb_ me_170 = true := by decide +kernel
set_option maxRecDepth 100000 in
theorem ce_170 : cz_170.all (ek_ mt_F me_170.2) = true := by decide +kernel
set_option maxRecDepth 100000 in
theorem ck_171 : mb_ me_171 = true := by decide +kernel
set_option maxRecDepth 100000 in
theorem ce_171 : cz_171.all (ek_ mt_F me_171.2) = true := by decide +kernel
set_option maxRecDepth 100000 in
theorem ck_172 : mb_ me_172 = true := by decide +kernel
set_option maxRecDepth 100000 in
theorem ce_172 : cz_172.all (ek_ mt_F me_172.2) = true := by decide +kernel
set_option maxRecDepth 100000 in
theorem ck_173 : mb_ me_173 = true := by decide +kernel
set_option maxRecDepth 100000 in
theorem ce_173 : cz_173.all (ek_ mt_F me_173.2) = true := by decide +kernel
set_option maxRecDepth 100000 in
theorem ck_174 : mb_ me_174 = true := by decide +kernel
set_option maxRecDepth 100000 in
theorem ce_174 : cz_174.all (ek_ mt_F me_174.2) = true := by decide +kernel
set_option maxRecDepth 100000 in
theorem ck_175 : mb_ me_175 = true := by decide +kernel
set_option maxRecDepth 100000 in
theorem ce_175 : cz_175.all (ek_ mt_F me_175.2) = true := by decide +kernel
set_option maxRecDepth 100000 in
theorem ck_176 : mb_ me_176 = true := by decide +kernel
set_option maxRecDepth 100000 in
theorem ce_176 : cz_176.all (ek_ mt_F me_176.2) = true := by decide +kernel
set_option maxRecDepth 100000 in
theorem ck_177 : mb_ me_177 = true := by decide +kernel
set_option maxRecDepth 100000 in
theorem ce_177 : cz_177.all (ek_ mt_F me_177.2) = true := by decide +kernel
set_option maxRecDepth 100000 in
theorem ck_178 : mb_ me_178 = true := by decide +kernel
set_option maxRecDepth 100000 in
theorem ce_178 : cz_178.all (ek_ mt_F me_178.2) = true := by decide +kernel
set_option maxRecDepth 100000 in
theorem ck_179 : mb_ me_179 = true := by decide +kernel
set_option maxRecDepth 100000 in
theorem ce_179 : cz_179.all (ek_ mt_F me_179.2) = true := by decide +kernel
set_option maxRecDepth 100000 in
theorem ck_180 : mb_ me_180 = true := by decide +kernel
set_option maxRecDepth 100000 in
theorem ce_180 : cz_180.all (ek_ mt_F me_180.2) = true := by decide +kernel
set_option maxRecDepth 100000 in
theorem ck_181 : mb_ me_181 = true := by decide +kernel
set_option maxRecDepth 100000 in
theorem ce_181 : cz_181.all (ek_ mt_F me_181.2) = true := by decide +kernel
set_option maxRecDepth 100000 in
theorem ck_182 : mb_ me_182 = true := by decide +kernel
set_option maxRecDepth 100000 in
theorem ce_182 : cz_182.all (ek_ mt_F me_182.2) = true := by decide +kernel
set_option maxRecDepth 100000 in
theorem ck_183 : mb_ me_183 = true := by decide +kernel
set_option maxRecDepth 100000 in
theorem ce_183 : cz_183.all (ek_ mt_F me_183.2) = true := by decide +kernel
