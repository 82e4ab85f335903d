theorem xnd_LW_law_138 : decode xnc_LW_law 138 = .ok (.aload_n 0, 1) := by decide +kernel
theorem xnd_LW_law_139 : decode xnc_LW_law 139 = .ok (.iload_n 3, 1) := by decide +kernel
theorem xnd_LW_law_140 : decode xnc_LW_law 140 = .ok (.iconst 2, 1) := by decide +kernel
theorem xnd_LW_law_141 : decode xnc_LW_law 141 = .ok (.iadd, 1) := by decide +kernel
theorem xnd_LW_law_142 : decode xnc_LW_law 142 = .ok (.iaload, 1) := by decide +kernel
theorem xnd_LW_law_143 : decode xnc_LW_law 143 = .ok (.aload_n 0, 1) := by decide +kernel
theorem xnd_LW_law_144 : decode xnc_LW_law 144 = .ok (.iload_n 3, 1) := by decide +kernel
theorem xnd_LW_law_145 : decode xnc_LW_law 145 = .ok (.iconst 3, 1) := by decide +kernel
theorem xnd_LW_law_146 : decode xnc_LW_law 146 = .ok (.iadd, 1) := by decide +kernel
theorem xnd_LW_law_147 : decode xnc_LW_law 147 = .ok (.iaload, 1) := by decide +kernel
theorem xnd_LW_law_148 : decode xnc_LW_law 148 = .ok (.aload_n 0, 1) := by decide +kernel
theorem xnd_LW_law_149 : decode xnc_LW_law 149 = .ok (.iload_n 3, 1) := by decide +kernel
theorem xnd_LW_law_150 : decode xnc_LW_law 150 = .ok (.iconst 4, 1) := by decide +kernel
theorem xnd_LW_law_151 : decode xnc_LW_law 151 = .ok (.iadd, 1) := by decide +kernel
theorem xnd_LW_law_152 : decode xnc_LW_law 152 = .ok (.iaload, 1) := by decide +kernel
theorem xnd_LW_law_153 : decode xnc_LW_law 153 = .ok (.aload_n 0, 1) := by decide +kernel
theorem xnd_LW_law_154 : decode xnc_LW_law 154 = .ok (.iload_n 3, 1) := by decide +kernel
theorem xnd_LW_law_155 : decode xnc_LW_law 155 = .ok (.iconst 5, 1) := by decide +kernel
theorem xnd_LW_law_156 : decode xnc_LW_law 156 = .ok (.iadd, 1) := by decide +kernel
theorem xnd_LW_law_157 : decode xnc_LW_law 157 = .ok (.iaload, 1) := by decide +kernel
theorem xnd_LW_law_158 : decode xnc_LW_law 158 = .ok (.invokevirtual 21, 3) := by decide +kernel
theorem xnd_LW_law_161 : decode xnc_LW_law 161 = .ok (.aload_n 2, 1) := by decide +kernel
theorem xnd_LW_law_162 : decode xnc_LW_law 162 = .ok (.aload_n 0, 1) := by decide +kernel
theorem xnd_LW_law_163 : decode xnc_LW_law 163 = .ok (.iload_n 3, 1) := by decide +kernel
theorem xnd_LW_law_164 : decode xnc_LW_law 164 = .ok (.iconst 1, 1) := by decide +kernel
theorem xnd_LW_law_165 : decode xnc_LW_law 165 = .ok (.iadd, 1) := by decide +kernel
theorem xnd_LW_law_166 : decode xnc_LW_law 166 = .ok (.iaload, 1) := by decide +kernel
theorem xnd_LW_law_167 : decode xnc_LW_law 167 = .ok (.aload_n 0, 1) := by decide +kernel
theorem xnd_LW_law_168 : decode xnc_LW_law 168 = .ok (.iload_n 3, 1) := by decide +kernel
theorem xnd_LW_law_169 : decode xnc_LW_law 169 = .ok (.iconst 2, 1) := by decide +kernel
theorem xnd_LW_law_170 : decode xnc_LW_law 170 = .ok (.iadd, 1) := by decide +kernel
theorem xnd_LW_law_171 : decode xnc_LW_law 171 = .ok (.iaload, 1) := by decide +kernel
theorem xnd_LW_law_172 : decode xnc_LW_law 172 = .ok (.aload_n 0, 1) := by decide +kernel
theorem xnd_LW_law_173 : decode xnc_LW_law 173 = .ok (.iload_n 3, 1) := by decide +kernel
theorem xnd_LW_law_174 : decode xnc_LW_law 174 = .ok (.iconst 3, 1) := by decide +kernel
theorem xnd_LW_law_175 : decode xnc_LW_law 175 = .ok (.iadd, 1) := by decide +kernel
theorem xnd_LW_law_176 : decode xnc_LW_law 176 = .ok (.iaload, 1) := by decide +kernel
theorem xnd_LW_law_177 : decode xnc_LW_law 177 = .ok (.aload_n 0, 1) := by decide +kernel
theorem xnd_LW_law_178 : decode xnc_LW_law 178 = .ok (.iload_n 3, 1) := by decide +kernel
theorem xnd_LW_law_179 : decode xnc_LW_law 179 = .ok (.iconst 4, 1) := by decide +kernel
theorem xnd_LW_law_180 : decode xnc_LW_law 180 = .ok (.iadd, 1) := by decide +kernel
theorem xnd_LW_law_181 : decode xnc_LW_law 181 = .ok (.iaload, 1) := by decide +kernel
theorem xnd_LW_law_182 : decode xnc_LW_law 182 = .ok (.aload_n 0, 1) := by decide +kernel
theorem xnd_LW_law_183 : decode xnc_LW_law 183 = .ok (.iload_n 3, 1) := by decide +kernel
theorem xnd_LW_law_184 : decode xnc_LW_law 184 = .ok (.iconst 5, 1) := by decide +kernel
theorem xnd_LW_law_185 : decode xnc_LW_law 185 = .ok (.iadd, 1) := by decide +kernel
theorem xnd_LW_law_186 : decode xnc_LW_law 186 = .ok (.iaload, 1) := by decide +kernel
theorem xnd_LW_law_187 : decode xnc_LW_law 187 = .ok (.invokevirtual 25, 3) := by decide +kernel
theorem xnd_LW_law_190 : decode xnc_LW_law 190 = .ok (.if_icmp .eq 360, 3) := by decide +kernel
theorem xnd_LW_law_193 : decode xnc_LW_law 193 = .ok (.iconst 0, 1) := by decide +kernel
