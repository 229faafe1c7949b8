theorem zd_W_law_210 : decode code 210 = .ok (.iadd, 1) := by decide +kernel
theorem zd_W_law_211 : decode code 211 = .ok (.iaload, 1) := by decide +kernel
theorem zd_W_law_212 : decode code 212 = .ok (.aload_n 0, 1) := by decide +kernel
theorem zd_W_law_213 : decode code 213 = .ok (.iload_n 3, 1) := by decide +kernel
theorem zd_W_law_214 : decode code 214 = .ok (.iconst 2, 1) := by decide +kernel
theorem zd_W_law_215 : decode code 215 = .ok (.iadd, 1) := by decide +kernel
theorem zd_W_law_216 : decode code 216 = .ok (.iaload, 1) := by decide +kernel
theorem zd_W_law_217 : decode code 217 = .ok (.invokevirtual 22, 3) := by decide +kernel
theorem zd_W_law_220 : decode code 220 = .ok (.aload_n 2, 1) := by decide +kernel
theorem zd_W_law_221 : decode code 221 = .ok (.aload_n 0, 1) := by decide +kernel
theorem zd_W_law_222 : decode code 222 = .ok (.iload_n 3, 1) := by decide +kernel
theorem zd_W_law_223 : decode code 223 = .ok (.iconst 1, 1) := by decide +kernel
theorem zd_W_law_224 : decode code 224 = .ok (.iadd, 1) := by decide +kernel
theorem zd_W_law_225 : decode code 225 = .ok (.iaload, 1) := by decide +kernel
theorem zd_W_law_226 : decode code 226 = .ok (.aload_n 0, 1) := by decide +kernel
theorem zd_W_law_227 : decode code 227 = .ok (.iload_n 3, 1) := by decide +kernel
theorem zd_W_law_228 : decode code 228 = .ok (.iconst 2, 1) := by decide +kernel
theorem zd_W_law_229 : decode code 229 = .ok (.iadd, 1) := by decide +kernel
theorem zd_W_law_230 : decode code 230 = .ok (.iaload, 1) := by decide +kernel
theorem zd_W_law_231 : decode code 231 = .ok (.invokevirtual 26, 3) := by decide +kernel
theorem zd_W_law_234 : decode code 234 = .ok (.if_icmp .eq 410, 3) := by decide +kernel
theorem zd_W_law_237 : decode code 237 = .ok (.iconst 0, 1) := by decide +kernel
theorem zd_W_law_238 : decode code 238 = .ok (.ireturn, 1) := by decide +kernel
theorem zd_W_law_239 : decode code 239 = .ok (.aload_n 1, 1) := by decide +kernel
theorem zd_W_law_240 : decode code 240 = .ok (.invokevirtual 27, 3) := by decide +kernel
theorem zd_W_law_243 : decode code 243 = .ok (.aload_n 2, 1) := by decide +kernel
theorem zd_W_law_244 : decode code 244 = .ok (.invokevirtual 31, 3) := by decide +kernel
theorem zd_W_law_247 : decode code 247 = .ok (.if_icmp .eq 397, 3) := by decide +kernel
theorem zd_W_law_250 : decode code 250 = .ok (.iconst 0, 1) := by decide +kernel
theorem zd_W_law_251 : decode code 251 = .ok (.ireturn, 1) := by decide +kernel
theorem zd_W_law_252 : decode code 252 = .ok (.aload_n 1, 1) := by decide +kernel
theorem zd_W_law_253 : decode code 253 = .ok (.invokevirtual 32, 3) := by decide +kernel
theorem zd_W_law_256 : decode code 256 = .ok (.aload_n 2, 1) := by decide +kernel
theorem zd_W_law_257 : decode code 257 = .ok (.invokevirtual 35, 3) := by decide +kernel
theorem zd_W_law_260 : decode code 260 = .ok (.if_icmp .eq 384, 3) := by decide +kernel
theorem zd_W_law_263 : decode code 263 = .ok (.iconst 0, 1) := by decide +kernel
theorem zd_W_law_264 : decode code 264 = .ok (.ireturn, 1) := by decide +kernel
theorem zd_W_law_265 : decode code 265 = .ok (.aload_n 1, 1) := by decide +kernel
theorem zd_W_law_266 : decode code 266 = .ok (.aload_n 0, 1) := by decide +kernel
theorem zd_W_law_267 : decode code 267 = .ok (.iload_n 3, 1) := by decide +kernel
theorem zd_W_law_268 : decode code 268 = .ok (.iconst 1, 1) := by decide +kernel
theorem zd_W_law_269 : decode code 269 = .ok (.iadd, 1) := by decide +kernel
theorem zd_W_law_270 : decode code 270 = .ok (.iaload, 1) := by decide +kernel
theorem zd_W_law_271 : decode code 271 = .ok (.aload_n 0, 1) := by decide +kernel
theorem zd_W_law_272 : decode code 272 = .ok (.iload_n 3, 1) := by decide +kernel
theorem zd_W_law_273 : decode code 273 = .ok (.iconst 2, 1) := by decide +kernel
theorem zd_W_law_274 : decode code 274 = .ok (.iadd, 1) := by decide +kernel
theorem zd_W_law_275 : decode code 275 = .ok (.iaload, 1) := by decide +kernel
theorem zd_W_law_276 : decode code 276 = .ok (.invokevirtual 36, 3) := by decide +kernel
theorem zd_W_law_279 : decode code 279 = .ok (.aload_n 2, 1) := by decide +kernel
