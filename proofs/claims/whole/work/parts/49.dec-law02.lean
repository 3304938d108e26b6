theorem dLa_law_157 : decode cLa_law 157 = .ok (.aload_n 3, 1) := by decide +kernel
theorem dLa_law_158 : decode cLa_law 158 = .ok (.iconst 0, 1) := by decide +kernel
theorem dLa_law_159 : decode cLa_law 159 = .ok (.laload, 1) := by decide +kernel
theorem dLa_law_160 : decode cLa_law 160 = .ok (.iload 6, 2) := by decide +kernel
theorem dLa_law_162 : decode cLa_law 162 = .ok (.i2l, 1) := by decide +kernel
theorem dLa_law_163 : decode cLa_law 163 = .ok (.lcmp, 1) := by decide +kernel
theorem dLa_law_164 : decode cLa_law 164 = .ok (.ifCond .eq 5, 3) := by decide +kernel
theorem dLa_law_167 : decode cLa_law 167 = .ok (.iconst 0, 1) := by decide +kernel
theorem dLa_law_168 : decode cLa_law 168 = .ok (.ireturn, 1) := by decide +kernel
theorem dLa_law_169 : decode cLa_law 169 = .ok (.goto 811, 3) := by decide +kernel
theorem dLa_law_172 : decode cLa_law 172 = .ok (.aload_n 1, 1) := by decide +kernel
theorem dLa_law_173 : decode cLa_law 173 = .ok (.aload_n 0, 1) := by decide +kernel
theorem dLa_law_174 : decode cLa_law 174 = .ok (.iload 4, 2) := by decide +kernel
theorem dLa_law_176 : decode cLa_law 176 = .ok (.iconst 1, 1) := by decide +kernel
theorem dLa_law_177 : decode cLa_law 177 = .ok (.iadd, 1) := by decide +kernel
theorem dLa_law_178 : decode cLa_law 178 = .ok (.iaload, 1) := by decide +kernel
theorem dLa_law_179 : decode cLa_law 179 = .ok (.invokestatic 72, 3) := by decide +kernel
theorem dLa_law_182 : decode cLa_law 182 = .ok (.istore 5, 2) := by decide +kernel
theorem dLa_law_184 : decode cLa_law 184 = .ok (.aload_n 2, 1) := by decide +kernel
theorem dLa_law_185 : decode cLa_law 185 = .ok (.aload_n 0, 1) := by decide +kernel
theorem dLa_law_186 : decode cLa_law 186 = .ok (.iload 4, 2) := by decide +kernel
theorem dLa_law_188 : decode cLa_law 188 = .ok (.iconst 1, 1) := by decide +kernel
theorem dLa_law_189 : decode cLa_law 189 = .ok (.iadd, 1) := by decide +kernel
theorem dLa_law_190 : decode cLa_law 190 = .ok (.iaload, 1) := by decide +kernel
theorem dLa_law_191 : decode cLa_law 191 = .ok (.invokevirtual 75, 3) := by decide +kernel
theorem dLa_law_194 : decode cLa_law 194 = .ok (.aload_n 2, 1) := by decide +kernel
theorem dLa_law_195 : decode cLa_law 195 = .ok (.invokevirtual 68, 3) := by decide +kernel
theorem dLa_law_198 : decode cLa_law 198 = .ok (.iload 5, 2) := by decide +kernel
theorem dLa_law_200 : decode cLa_law 200 = .ok (.if_icmp .eq 5, 3) := by decide +kernel
theorem dLa_law_203 : decode cLa_law 203 = .ok (.iconst 0, 1) := by decide +kernel
theorem dLa_law_204 : decode cLa_law 204 = .ok (.ireturn, 1) := by decide +kernel
theorem dLa_law_205 : decode cLa_law 205 = .ok (.goto 775, 3) := by decide +kernel
theorem dLa_law_208 : decode cLa_law 208 = .ok (.aload_n 1, 1) := by decide +kernel
theorem dLa_law_209 : decode cLa_law 209 = .ok (.aload_n 0, 1) := by decide +kernel
theorem dLa_law_210 : decode cLa_law 210 = .ok (.iload 4, 2) := by decide +kernel
theorem dLa_law_212 : decode cLa_law 212 = .ok (.iconst 1, 1) := by decide +kernel
theorem dLa_law_213 : decode cLa_law 213 = .ok (.iadd, 1) := by decide +kernel
theorem dLa_law_214 : decode cLa_law 214 = .ok (.iaload, 1) := by decide +kernel
theorem dLa_law_215 : decode cLa_law 215 = .ok (.aload_n 3, 1) := by decide +kernel
theorem dLa_law_216 : decode cLa_law 216 = .ok (.invokestatic 76, 3) := by decide +kernel
theorem dLa_law_219 : decode cLa_law 219 = .ok (.istore 5, 2) := by decide +kernel
theorem dLa_law_221 : decode cLa_law 221 = .ok (.aload_n 2, 1) := by decide +kernel
theorem dLa_law_222 : decode cLa_law 222 = .ok (.aload_n 0, 1) := by decide +kernel
theorem dLa_law_223 : decode cLa_law 223 = .ok (.iload 4, 2) := by decide +kernel
theorem dLa_law_225 : decode cLa_law 225 = .ok (.iconst 1, 1) := by decide +kernel
theorem dLa_law_226 : decode cLa_law 226 = .ok (.iadd, 1) := by decide +kernel
theorem dLa_law_227 : decode cLa_law 227 = .ok (.iaload, 1) := by decide +kernel
theorem dLa_law_228 : decode cLa_law 228 = .ok (.invokevirtual 79, 3) := by decide +kernel
theorem dLa_law_231 : decode cLa_law 231 = .ok (.istore 6, 2) := by decide +kernel
theorem dLa_law_233 : decode cLa_law 233 = .ok (.aload_n 2, 1) := by decide +kernel
theorem dLa_law_234 : decode cLa_law 234 = .ok (.invokevirtual 68, 3) := by decide +kernel
theorem dLa_law_237 : decode cLa_law 237 = .ok (.iload 5, 2) := by decide +kernel
theorem dLa_law_239 : decode cLa_law 239 = .ok (.if_icmp .eq 5, 3) := by decide +kernel
theorem dLa_law_242 : decode cLa_law 242 = .ok (.iconst 0, 1) := by decide +kernel
theorem dLa_law_243 : decode cLa_law 243 = .ok (.ireturn, 1) := by decide +kernel
theorem dLa_law_244 : decode cLa_law 244 = .ok (.iload 5, 2) := by decide +kernel
theorem dLa_law_246 : decode cLa_law 246 = .ok (.ifCond .ne 15, 3) := by decide +kernel
theorem dLa_law_249 : decode cLa_law 249 = .ok (.aload_n 3, 1) := by decide +kernel
theorem dLa_law_250 : decode cLa_law 250 = .ok (.iconst 0, 1) := by decide +kernel
theorem dLa_law_251 : decode cLa_law 251 = .ok (.laload, 1) := by decide +kernel
