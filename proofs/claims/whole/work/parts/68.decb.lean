theorem d_LA_law_164 : decode code 164 = .ok (.invokevirtual 73, 3) := by decide +kernel
theorem d_LA_law_167 : decode code 167 = .ok (.istore 6, 2) := by decide +kernel
theorem d_LA_law_169 : decode code 169 = .ok (.aload_n 2, 1) := by decide +kernel
theorem d_LA_law_170 : decode code 170 = .ok (.invokevirtual 74, 3) := by decide +kernel
theorem d_LA_law_173 : decode code 173 = .ok (.iload 5, 2) := by decide +kernel
theorem d_LA_law_175 : decode code 175 = .ok (.if_icmp .eq 5, 3) := by decide +kernel
theorem d_LA_law_180 : decode code 180 = .ok (.iload 5, 2) := by decide +kernel
theorem d_LA_law_182 : decode code 182 = .ok (.ifCond .ne 15, 3) := by decide +kernel
theorem d_LA_law_185 : decode code 185 = .ok (.aload_n 3, 1) := by decide +kernel
theorem d_LA_law_186 : decode code 186 = .ok (.iconst 0, 1) := by decide +kernel
theorem d_LA_law_187 : decode code 187 = .ok (.laload, 1) := by decide +kernel
theorem d_LA_law_188 : decode code 188 = .ok (.iload 6, 2) := by decide +kernel
theorem d_LA_law_190 : decode code 190 = .ok (.i2l, 1) := by decide +kernel
theorem d_LA_law_191 : decode code 191 = .ok (.lcmp, 1) := by decide +kernel
theorem d_LA_law_192 : decode code 192 = .ok (.ifCond .eq 5, 3) := by decide +kernel
theorem d_LA_law_197 : decode code 197 = .ok (.goto 911, 3) := by decide +kernel
theorem d_LA_law_200 : decode code 200 = .ok (.aload_n 1, 1) := by decide +kernel
theorem d_LA_law_201 : decode code 201 = .ok (.aload_n 0, 1) := by decide +kernel
theorem d_LA_law_202 : decode code 202 = .ok (.iload 4, 2) := by decide +kernel
theorem d_LA_law_204 : decode code 204 = .ok (.iconst 1, 1) := by decide +kernel
theorem d_LA_law_205 : decode code 205 = .ok (.iadd, 1) := by decide +kernel
theorem d_LA_law_206 : decode code 206 = .ok (.iaload, 1) := by decide +kernel
theorem d_LA_law_207 : decode code 207 = .ok (.aload_n 0, 1) := by decide +kernel
theorem d_LA_law_208 : decode code 208 = .ok (.iload 4, 2) := by decide +kernel
theorem d_LA_law_210 : decode code 210 = .ok (.iconst 2, 1) := by decide +kernel
theorem d_LA_law_211 : decode code 211 = .ok (.iadd, 1) := by decide +kernel
theorem d_LA_law_212 : decode code 212 = .ok (.iaload, 1) := by decide +kernel
theorem d_LA_law_213 : decode code 213 = .ok (.aload_n 0, 1) := by decide +kernel
theorem d_LA_law_214 : decode code 214 = .ok (.iload 4, 2) := by decide +kernel
theorem d_LA_law_216 : decode code 216 = .ok (.iconst 3, 1) := by decide +kernel
theorem d_LA_law_217 : decode code 217 = .ok (.iadd, 1) := by decide +kernel
theorem d_LA_law_218 : decode code 218 = .ok (.iaload, 1) := by decide +kernel
theorem d_LA_law_219 : decode code 219 = .ok (.aload_n 0, 1) := by decide +kernel
theorem d_LA_law_220 : decode code 220 = .ok (.iload 4, 2) := by decide +kernel
theorem d_LA_law_222 : decode code 222 = .ok (.iconst 4, 1) := by decide +kernel
theorem d_LA_law_223 : decode code 223 = .ok (.iadd, 1) := by decide +kernel
theorem d_LA_law_224 : decode code 224 = .ok (.iaload, 1) := by decide +kernel
theorem d_LA_law_225 : decode code 225 = .ok (.aload_n 3, 1) := by decide +kernel
theorem d_LA_law_226 : decode code 226 = .ok (.invokestatic 78, 3) := by decide +kernel
theorem d_LA_law_229 : decode code 229 = .ok (.istore 5, 2) := by decide +kernel
theorem d_LA_law_231 : decode code 231 = .ok (.aload_n 2, 1) := by decide +kernel
theorem d_LA_law_232 : decode code 232 = .ok (.aload_n 0, 1) := by decide +kernel
theorem d_LA_law_233 : decode code 233 = .ok (.iload 4, 2) := by decide +kernel
theorem d_LA_law_235 : decode code 235 = .ok (.iconst 1, 1) := by decide +kernel
theorem d_LA_law_236 : decode code 236 = .ok (.iadd, 1) := by decide +kernel
theorem d_LA_law_237 : decode code 237 = .ok (.iaload, 1) := by decide +kernel
theorem d_LA_law_238 : decode code 238 = .ok (.aload_n 0, 1) := by decide +kernel
theorem d_LA_law_239 : decode code 239 = .ok (.iload 4, 2) := by decide +kernel
theorem d_LA_law_241 : decode code 241 = .ok (.iconst 2, 1) := by decide +kernel
theorem d_LA_law_242 : decode code 242 = .ok (.iadd, 1) := by decide +kernel
theorem d_LA_law_243 : decode code 243 = .ok (.iaload, 1) := by decide +kernel
theorem d_LA_law_244 : decode code 244 = .ok (.aload_n 0, 1) := by decide +kernel
theorem d_LA_law_245 : decode code 245 = .ok (.iload 4, 2) := by decide +kernel
theorem d_LA_law_247 : decode code 247 = .ok (.iconst 3, 1) := by decide +kernel
theorem d_LA_law_248 : decode code 248 = .ok (.iadd, 1) := by decide +kernel
theorem d_LA_law_249 : decode code 249 = .ok (.iaload, 1) := by decide +kernel
theorem d_LA_law_250 : decode code 250 = .ok (.aload_n 0, 1) := by decide +kernel
theorem d_LA_law_251 : decode code 251 = .ok (.iload 4, 2) := by decide +kernel
theorem d_LA_law_253 : decode code 253 = .ok (.iconst 4, 1) := by decide +kernel
theorem d_LA_law_254 : decode code 254 = .ok (.iadd, 1) := by decide +kernel
