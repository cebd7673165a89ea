theorem dL_law_136 : decode cL_law 136 = .ok (.iload 14, 2) := by decide +kernel
theorem dL_law_138 : decode cL_law 138 = .ok (.bipush 60, 2) := by decide +kernel
theorem dL_law_140 : decode cL_law 140 = .ok (.if_icmp .ge 209, 3) := by decide +kernel
theorem dL_law_143 : decode cL_law 143 = .ok (.iload 8, 2) := by decide +kernel
theorem dL_law_145 : decode cL_law 145 = .ok (.bipush 60, 2) := by decide +kernel
theorem dL_law_147 : decode cL_law 147 = .ok (.if_icmp .ge 202, 3) := by decide +kernel
theorem dL_law_150 : decode cL_law 150 = .ok (.aload_n 2, 1) := by decide +kernel
theorem dL_law_151 : decode cL_law 151 = .ok (.iload 8, 2) := by decide +kernel
theorem dL_law_153 : decode cL_law 153 = .ok (.iconst 1, 1) := by decide +kernel
theorem dL_law_154 : decode cL_law 154 = .ok (.iload 11, 2) := by decide +kernel
theorem dL_law_156 : decode cL_law 156 = .ok (.bipush 15, 2) := by decide +kernel
theorem dL_law_158 : decode cL_law 158 = .ok (.invokestatic 38, 3) := by decide +kernel
theorem dL_law_161 : decode cL_law 161 = .ok (.iadd, 1) := by decide +kernel
theorem dL_law_162 : decode cL_law 162 = .ok (.iastore, 1) := by decide +kernel
theorem dL_law_163 : decode cL_law 163 = .ok (.aload_n 3, 1) := by decide +kernel
theorem dL_law_164 : decode cL_law 164 = .ok (.iload 8, 2) := by decide +kernel
theorem dL_law_166 : decode cL_law 166 = .ok (.iload 11, 2) := by decide +kernel
theorem dL_law_168 : decode cL_law 168 = .ok (.iconst 4, 1) := by decide +kernel
theorem dL_law_169 : decode cL_law 169 = .ok (.ishr, 1) := by decide +kernel
theorem dL_law_170 : decode cL_law 170 = .ok (.bipush 41, 2) := by decide +kernel
theorem dL_law_172 : decode cL_law 172 = .ok (.invokestatic 38, 3) := by decide +kernel
theorem dL_law_175 : decode cL_law 175 = .ok (.bipush 20, 2) := by decide +kernel
theorem dL_law_177 : decode cL_law 177 = .ok (.isub, 1) := by decide +kernel
theorem dL_law_178 : decode cL_law 178 = .ok (.iastore, 1) := by decide +kernel
theorem dL_law_179 : decode cL_law 179 = .ok (.aload 4, 2) := by decide +kernel
theorem dL_law_181 : decode cL_law 181 = .ok (.iload 8, 2) := by decide +kernel
theorem dL_law_183 : decode cL_law 183 = .ok (.iload 10, 2) := by decide +kernel
theorem dL_law_185 : decode cL_law 185 = .ok (.iconst 4, 1) := by decide +kernel
theorem dL_law_186 : decode cL_law 186 = .ok (.ishr, 1) := by decide +kernel
theorem dL_law_187 : decode cL_law 187 = .ok (.iconst 2, 1) := by decide +kernel
theorem dL_law_188 : decode cL_law 188 = .ok (.invokestatic 38, 3) := by decide +kernel
theorem dL_law_191 : decode cL_law 191 = .ok (.ifCond .ne 18, 3) := by decide +kernel
theorem dL_law_194 : decode cL_law 194 = .ok (.iconst 1, 1) := by decide +kernel
theorem dL_law_195 : decode cL_law 195 = .ok (.iload 11, 2) := by decide +kernel
theorem dL_law_197 : decode cL_law 197 = .ok (.bipush 10, 2) := by decide +kernel
theorem dL_law_199 : decode cL_law 199 = .ok (.ishr, 1) := by decide +kernel
theorem dL_law_200 : decode cL_law 200 = .ok (.bipush 15, 2) := by decide +kernel
theorem dL_law_202 : decode cL_law 202 = .ok (.invokestatic 38, 3) := by decide +kernel
theorem dL_law_205 : decode cL_law 205 = .ok (.iadd, 1) := by decide +kernel
theorem dL_law_206 : decode cL_law 206 = .ok (.goto 4, 3) := by decide +kernel
theorem dL_law_209 : decode cL_law 209 = .ok (.iconst 0, 1) := by decide +kernel
theorem dL_law_210 : decode cL_law 210 = .ok (.iastore, 1) := by decide +kernel
theorem dL_law_211 : decode cL_law 211 = .ok (.aload 5, 2) := by decide +kernel
theorem dL_law_213 : decode cL_law 213 = .ok (.iload 8, 2) := by decide +kernel
theorem dL_law_215 : decode cL_law 215 = .ok (.aload 4, 2) := by decide +kernel
theorem dL_law_217 : decode cL_law 217 = .ok (.iload 8, 2) := by decide +kernel
theorem dL_law_219 : decode cL_law 219 = .ok (.iaload, 1) := by decide +kernel
theorem dL_law_220 : decode cL_law 220 = .ok (.ifCond .ne 7, 3) := by decide +kernel
theorem dL_law_223 : decode cL_law 223 = .ok (.iconst 0, 1) := by decide +kernel
theorem dL_law_224 : decode cL_law 224 = .ok (.goto 15, 3) := by decide +kernel
theorem dL_law_227 : decode cL_law 227 = .ok (.iload 11, 2) := by decide +kernel
theorem dL_law_229 : decode cL_law 229 = .ok (.bipush 14, 2) := by decide +kernel
theorem dL_law_231 : decode cL_law 231 = .ok (.ishr, 1) := by decide +kernel
theorem dL_law_232 : decode cL_law 232 = .ok (.iload 14, 2) := by decide +kernel
theorem dL_law_234 : decode cL_law 234 = .ok (.iconst 1, 1) := by decide +kernel
theorem dL_law_235 : decode cL_law 235 = .ok (.iadd, 1) := by decide +kernel
theorem dL_law_236 : decode cL_law 236 = .ok (.invokestatic 38, 3) := by decide +kernel
theorem dL_law_239 : decode cL_law 239 = .ok (.iastore, 1) := by decide +kernel
theorem dL_law_240 : decode cL_law 240 = .ok (.aload 6, 2) := by decide +kernel
theorem dL_law_242 : decode cL_law 242 = .ok (.iload 8, 2) := by decide +kernel
theorem dL_law_244 : decode cL_law 244 = .ok (.aload_n 1, 1) := by decide +kernel
theorem dL_law_245 : decode cL_law 245 = .ok (.invokevirtual 45, 3) := by decide +kernel
theorem dL_law_248 : decode cL_law 248 = .ok (.iastore, 1) := by decide +kernel
theorem dL_law_249 : decode cL_law 249 = .ok (.iinc 8 1, 3) := by decide +kernel
theorem dL_law_252 : decode cL_law 252 = .ok (.aload 4, 2) := by decide +kernel
theorem dL_law_254 : decode cL_law 254 = .ok (.iload 8, 2) := by decide +kernel
theorem dL_law_256 : decode cL_law 256 = .ok (.iconst 1, 1) := by decide +kernel
theorem dL_law_257 : decode cL_law 257 = .ok (.isub, 1) := by decide +kernel
theorem dL_law_258 : decode cL_law 258 = .ok (.iaload, 1) := by decide +kernel
theorem dL_law_259 : decode cL_law 259 = .ok (.ifCond .ne 22, 3) := by decide +kernel
theorem dL_law_262 : decode cL_law 262 = .ok (.aload_n 1, 1) := by decide +kernel
theorem dL_law_263 : decode cL_law 263 = .ok (.aload_n 2, 1) := by decide +kernel
