theorem xnd_LW_law_194 : decode xnc_LW_law 194 = .ok (.ireturn, 1) := by decide +kernel
theorem xnd_LW_law_195 : decode xnc_LW_law 195 = .ok (.aload_n 1, 1) := by decide +kernel
theorem xnd_LW_law_196 : decode xnc_LW_law 196 = .ok (.aload_n 0, 1) := by decide +kernel
theorem xnd_LW_law_197 : decode xnc_LW_law 197 = .ok (.iload_n 3, 1) := by decide +kernel
theorem xnd_LW_law_198 : decode xnc_LW_law 198 = .ok (.iconst 1, 1) := by decide +kernel
theorem xnd_LW_law_199 : decode xnc_LW_law 199 = .ok (.iadd, 1) := by decide +kernel
theorem xnd_LW_law_200 : decode xnc_LW_law 200 = .ok (.iaload, 1) := by decide +kernel
theorem xnd_LW_law_201 : decode xnc_LW_law 201 = .ok (.invokevirtual 26, 3) := by decide +kernel
theorem xnd_LW_law_204 : decode xnc_LW_law 204 = .ok (.aload_n 2, 1) := by decide +kernel
theorem xnd_LW_law_205 : decode xnc_LW_law 205 = .ok (.aload_n 0, 1) := by decide +kernel
theorem xnd_LW_law_206 : decode xnc_LW_law 206 = .ok (.iload_n 3, 1) := by decide +kernel
theorem xnd_LW_law_207 : decode xnc_LW_law 207 = .ok (.iconst 1, 1) := by decide +kernel
theorem xnd_LW_law_208 : decode xnc_LW_law 208 = .ok (.iadd, 1) := by decide +kernel
theorem xnd_LW_law_209 : decode xnc_LW_law 209 = .ok (.iaload, 1) := by decide +kernel
theorem xnd_LW_law_210 : decode xnc_LW_law 210 = .ok (.invokevirtual 30, 3) := by decide +kernel
theorem xnd_LW_law_213 : decode xnc_LW_law 213 = .ok (.if_icmp .eq 337, 3) := by decide +kernel
theorem xnd_LW_law_216 : decode xnc_LW_law 216 = .ok (.iconst 0, 1) := by decide +kernel
theorem xnd_LW_law_217 : decode xnc_LW_law 217 = .ok (.ireturn, 1) := by decide +kernel
theorem xnd_LW_law_218 : decode xnc_LW_law 218 = .ok (.aload_n 1, 1) := by decide +kernel
theorem xnd_LW_law_219 : decode xnc_LW_law 219 = .ok (.invokevirtual 31, 3) := by decide +kernel
theorem xnd_LW_law_222 : decode xnc_LW_law 222 = .ok (.aload_n 2, 1) := by decide +kernel
theorem xnd_LW_law_223 : decode xnc_LW_law 223 = .ok (.invokevirtual 35, 3) := by decide +kernel
theorem xnd_LW_law_226 : decode xnc_LW_law 226 = .ok (.if_icmp .eq 324, 3) := by decide +kernel
theorem xnd_LW_law_229 : decode xnc_LW_law 229 = .ok (.iconst 0, 1) := by decide +kernel
theorem xnd_LW_law_230 : decode xnc_LW_law 230 = .ok (.ireturn, 1) := by decide +kernel
theorem xnd_LW_law_231 : decode xnc_LW_law 231 = .ok (.aload_n 1, 1) := by decide +kernel
theorem xnd_LW_law_232 : decode xnc_LW_law 232 = .ok (.aload_n 0, 1) := by decide +kernel
theorem xnd_LW_law_233 : decode xnc_LW_law 233 = .ok (.iload_n 3, 1) := by decide +kernel
theorem xnd_LW_law_234 : decode xnc_LW_law 234 = .ok (.iconst 1, 1) := by decide +kernel
theorem xnd_LW_law_235 : decode xnc_LW_law 235 = .ok (.iadd, 1) := by decide +kernel
theorem xnd_LW_law_236 : decode xnc_LW_law 236 = .ok (.iaload, 1) := by decide +kernel
theorem xnd_LW_law_237 : decode xnc_LW_law 237 = .ok (.aload_n 0, 1) := by decide +kernel
theorem xnd_LW_law_238 : decode xnc_LW_law 238 = .ok (.iload_n 3, 1) := by decide +kernel
theorem xnd_LW_law_239 : decode xnc_LW_law 239 = .ok (.iconst 2, 1) := by decide +kernel
theorem xnd_LW_law_240 : decode xnc_LW_law 240 = .ok (.iadd, 1) := by decide +kernel
theorem xnd_LW_law_241 : decode xnc_LW_law 241 = .ok (.iaload, 1) := by decide +kernel
theorem xnd_LW_law_242 : decode xnc_LW_law 242 = .ok (.invokevirtual 36, 3) := by decide +kernel
theorem xnd_LW_law_245 : decode xnc_LW_law 245 = .ok (.aload_n 2, 1) := by decide +kernel
theorem xnd_LW_law_246 : decode xnc_LW_law 246 = .ok (.aload_n 0, 1) := by decide +kernel
theorem xnd_LW_law_247 : decode xnc_LW_law 247 = .ok (.iload_n 3, 1) := by decide +kernel
theorem xnd_LW_law_248 : decode xnc_LW_law 248 = .ok (.iconst 1, 1) := by decide +kernel
theorem xnd_LW_law_249 : decode xnc_LW_law 249 = .ok (.iadd, 1) := by decide +kernel
theorem xnd_LW_law_250 : decode xnc_LW_law 250 = .ok (.iaload, 1) := by decide +kernel
theorem xnd_LW_law_251 : decode xnc_LW_law 251 = .ok (.aload_n 0, 1) := by decide +kernel
theorem xnd_LW_law_252 : decode xnc_LW_law 252 = .ok (.iload_n 3, 1) := by decide +kernel
theorem xnd_LW_law_253 : decode xnc_LW_law 253 = .ok (.iconst 2, 1) := by decide +kernel
theorem xnd_LW_law_254 : decode xnc_LW_law 254 = .ok (.iadd, 1) := by decide +kernel
theorem xnd_LW_law_255 : decode xnc_LW_law 255 = .ok (.iaload, 1) := by decide +kernel
theorem xnd_LW_law_256 : decode xnc_LW_law 256 = .ok (.invokevirtual 40, 3) := by decide +kernel
theorem xnd_LW_law_259 : decode xnc_LW_law 259 = .ok (.if_icmp .eq 291, 3) := by decide +kernel
