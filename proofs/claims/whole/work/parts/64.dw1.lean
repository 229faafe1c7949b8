theorem zd_W_law_150 : decode code 150 = .ok (.aload_n 0, 1) := by decide +kernel
theorem zd_W_law_151 : decode code 151 = .ok (.iload_n 3, 1) := by decide +kernel
theorem zd_W_law_152 : decode code 152 = .ok (.iconst 3, 1) := by decide +kernel
theorem zd_W_law_153 : decode code 153 = .ok (.iadd, 1) := by decide +kernel
theorem zd_W_law_154 : decode code 154 = .ok (.iaload, 1) := by decide +kernel
theorem zd_W_law_155 : decode code 155 = .ok (.invokevirtual 17, 3) := by decide +kernel
theorem zd_W_law_158 : decode code 158 = .ok (.if_icmp .eq 486, 3) := by decide +kernel
theorem zd_W_law_161 : decode code 161 = .ok (.iconst 0, 1) := by decide +kernel
theorem zd_W_law_162 : decode code 162 = .ok (.ireturn, 1) := by decide +kernel
theorem zd_W_law_163 : decode code 163 = .ok (.aload_n 1, 1) := by decide +kernel
theorem zd_W_law_164 : decode code 164 = .ok (.aload_n 0, 1) := by decide +kernel
theorem zd_W_law_165 : decode code 165 = .ok (.iload_n 3, 1) := by decide +kernel
theorem zd_W_law_166 : decode code 166 = .ok (.iconst 1, 1) := by decide +kernel
theorem zd_W_law_167 : decode code 167 = .ok (.iadd, 1) := by decide +kernel
theorem zd_W_law_168 : decode code 168 = .ok (.iaload, 1) := by decide +kernel
theorem zd_W_law_169 : decode code 169 = .ok (.aload_n 0, 1) := by decide +kernel
theorem zd_W_law_170 : decode code 170 = .ok (.iload_n 3, 1) := by decide +kernel
theorem zd_W_law_171 : decode code 171 = .ok (.iconst 2, 1) := by decide +kernel
theorem zd_W_law_172 : decode code 172 = .ok (.iadd, 1) := by decide +kernel
theorem zd_W_law_173 : decode code 173 = .ok (.iaload, 1) := by decide +kernel
theorem zd_W_law_174 : decode code 174 = .ok (.aload_n 0, 1) := by decide +kernel
theorem zd_W_law_175 : decode code 175 = .ok (.iload_n 3, 1) := by decide +kernel
theorem zd_W_law_176 : decode code 176 = .ok (.iconst 3, 1) := by decide +kernel
theorem zd_W_law_177 : decode code 177 = .ok (.iadd, 1) := by decide +kernel
theorem zd_W_law_178 : decode code 178 = .ok (.iaload, 1) := by decide +kernel
theorem zd_W_law_179 : decode code 179 = .ok (.invokevirtual 18, 3) := by decide +kernel
theorem zd_W_law_182 : decode code 182 = .ok (.aload_n 2, 1) := by decide +kernel
theorem zd_W_law_183 : decode code 183 = .ok (.aload_n 0, 1) := by decide +kernel
theorem zd_W_law_184 : decode code 184 = .ok (.iload_n 3, 1) := by decide +kernel
theorem zd_W_law_185 : decode code 185 = .ok (.iconst 1, 1) := by decide +kernel
theorem zd_W_law_186 : decode code 186 = .ok (.iadd, 1) := by decide +kernel
theorem zd_W_law_187 : decode code 187 = .ok (.iaload, 1) := by decide +kernel
theorem zd_W_law_188 : decode code 188 = .ok (.aload_n 0, 1) := by decide +kernel
theorem zd_W_law_189 : decode code 189 = .ok (.iload_n 3, 1) := by decide +kernel
theorem zd_W_law_190 : decode code 190 = .ok (.iconst 2, 1) := by decide +kernel
theorem zd_W_law_191 : decode code 191 = .ok (.iadd, 1) := by decide +kernel
theorem zd_W_law_192 : decode code 192 = .ok (.iaload, 1) := by decide +kernel
theorem zd_W_law_193 : decode code 193 = .ok (.aload_n 0, 1) := by decide +kernel
theorem zd_W_law_194 : decode code 194 = .ok (.iload_n 3, 1) := by decide +kernel
theorem zd_W_law_195 : decode code 195 = .ok (.iconst 3, 1) := by decide +kernel
theorem zd_W_law_196 : decode code 196 = .ok (.iadd, 1) := by decide +kernel
theorem zd_W_law_197 : decode code 197 = .ok (.iaload, 1) := by decide +kernel
theorem zd_W_law_198 : decode code 198 = .ok (.invokevirtual 21, 3) := by decide +kernel
theorem zd_W_law_201 : decode code 201 = .ok (.if_icmp .eq 443, 3) := by decide +kernel
theorem zd_W_law_204 : decode code 204 = .ok (.iconst 0, 1) := by decide +kernel
theorem zd_W_law_205 : decode code 205 = .ok (.ireturn, 1) := by decide +kernel
theorem zd_W_law_206 : decode code 206 = .ok (.aload_n 1, 1) := by decide +kernel
theorem zd_W_law_207 : decode code 207 = .ok (.aload_n 0, 1) := by decide +kernel
theorem zd_W_law_208 : decode code 208 = .ok (.iload_n 3, 1) := by decide +kernel
theorem zd_W_law_209 : decode code 209 = .ok (.iconst 1, 1) := by decide +kernel
