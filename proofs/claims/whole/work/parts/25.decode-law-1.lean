theorem d_Lw_law_190 : decode code 190 = .ok (.iconst 0, 1) := by decide +kernel
theorem d_Lw_law_191 : decode code 191 = .ok (.ireturn, 1) := by decide +kernel
theorem d_Lw_law_192 : decode code 192 = .ok (.aload_n 1, 1) := by decide +kernel
theorem d_Lw_law_193 : decode code 193 = .ok (.aload_n 0, 1) := by decide +kernel
theorem d_Lw_law_194 : decode code 194 = .ok (.iload_n 3, 1) := by decide +kernel
theorem d_Lw_law_195 : decode code 195 = .ok (.iconst 1, 1) := by decide +kernel
theorem d_Lw_law_196 : decode code 196 = .ok (.iadd, 1) := by decide +kernel
theorem d_Lw_law_197 : decode code 197 = .ok (.iaload, 1) := by decide +kernel
theorem d_Lw_law_198 : decode code 198 = .ok (.invokevirtual 31, 3) := by decide +kernel
theorem d_Lw_law_201 : decode code 201 = .ok (.aload_n 2, 1) := by decide +kernel
theorem d_Lw_law_202 : decode code 202 = .ok (.aload_n 0, 1) := by decide +kernel
theorem d_Lw_law_203 : decode code 203 = .ok (.iload_n 3, 1) := by decide +kernel
theorem d_Lw_law_204 : decode code 204 = .ok (.iconst 1, 1) := by decide +kernel
theorem d_Lw_law_205 : decode code 205 = .ok (.iadd, 1) := by decide +kernel
theorem d_Lw_law_206 : decode code 206 = .ok (.iaload, 1) := by decide +kernel
theorem d_Lw_law_207 : decode code 207 = .ok (.invokevirtual 35, 3) := by decide +kernel
theorem d_Lw_law_210 : decode code 210 = .ok (.if_icmp .eq 301, 3) := by decide +kernel
theorem d_Lw_law_213 : decode code 213 = .ok (.iconst 0, 1) := by decide +kernel
theorem d_Lw_law_214 : decode code 214 = .ok (.ireturn, 1) := by decide +kernel
theorem d_Lw_law_215 : decode code 215 = .ok (.aload_n 1, 1) := by decide +kernel
theorem d_Lw_law_216 : decode code 216 = .ok (.aload_n 0, 1) := by decide +kernel
theorem d_Lw_law_217 : decode code 217 = .ok (.iload_n 3, 1) := by decide +kernel
theorem d_Lw_law_218 : decode code 218 = .ok (.iconst 1, 1) := by decide +kernel
theorem d_Lw_law_219 : decode code 219 = .ok (.iadd, 1) := by decide +kernel
theorem d_Lw_law_220 : decode code 220 = .ok (.iaload, 1) := by decide +kernel
theorem d_Lw_law_221 : decode code 221 = .ok (.aload_n 0, 1) := by decide +kernel
theorem d_Lw_law_222 : decode code 222 = .ok (.iload_n 3, 1) := by decide +kernel
theorem d_Lw_law_223 : decode code 223 = .ok (.iconst 2, 1) := by decide +kernel
theorem d_Lw_law_224 : decode code 224 = .ok (.iadd, 1) := by decide +kernel
theorem d_Lw_law_225 : decode code 225 = .ok (.iaload, 1) := by decide +kernel
theorem d_Lw_law_226 : decode code 226 = .ok (.invokevirtual 36, 3) := by decide +kernel
theorem d_Lw_law_229 : decode code 229 = .ok (.aload_n 2, 1) := by decide +kernel
theorem d_Lw_law_230 : decode code 230 = .ok (.aload_n 0, 1) := by decide +kernel
theorem d_Lw_law_231 : decode code 231 = .ok (.iload_n 3, 1) := by decide +kernel
theorem d_Lw_law_232 : decode code 232 = .ok (.iconst 1, 1) := by decide +kernel
theorem d_Lw_law_233 : decode code 233 = .ok (.iadd, 1) := by decide +kernel
theorem d_Lw_law_234 : decode code 234 = .ok (.iaload, 1) := by decide +kernel
theorem d_Lw_law_235 : decode code 235 = .ok (.aload_n 0, 1) := by decide +kernel
theorem d_Lw_law_236 : decode code 236 = .ok (.iload_n 3, 1) := by decide +kernel
theorem d_Lw_law_237 : decode code 237 = .ok (.iconst 2, 1) := by decide +kernel
theorem d_Lw_law_238 : decode code 238 = .ok (.iadd, 1) := by decide +kernel
theorem d_Lw_law_239 : decode code 239 = .ok (.iaload, 1) := by decide +kernel
theorem d_Lw_law_240 : decode code 240 = .ok (.invokevirtual 39, 3) := by decide +kernel
theorem d_Lw_law_243 : decode code 243 = .ok (.if_icmp .eq 268, 3) := by decide +kernel
theorem d_Lw_law_246 : decode code 246 = .ok (.iconst 0, 1) := by decide +kernel
theorem d_Lw_law_247 : decode code 247 = .ok (.ireturn, 1) := by decide +kernel
theorem d_Lw_law_248 : decode code 248 = .ok (.aload_n 1, 1) := by decide +kernel
theorem d_Lw_law_249 : decode code 249 = .ok (.invokevirtual 40, 3) := by decide +kernel
theorem d_Lw_law_252 : decode code 252 = .ok (.aload_n 2, 1) := by decide +kernel
theorem d_Lw_law_253 : decode code 253 = .ok (.invokevirtual 44, 3) := by decide +kernel
theorem d_Lw_law_256 : decode code 256 = .ok (.if_icmp .eq 255, 3) := by decide +kernel
theorem d_Lw_law_259 : decode code 259 = .ok (.iconst 0, 1) := by decide +kernel
theorem d_Lw_law_260 : decode code 260 = .ok (.ireturn, 1) := by decide +kernel
theorem d_Lw_law_261 : decode code 261 = .ok (.aload_n 1, 1) := by decide +kernel
theorem d_Lw_law_262 : decode code 262 = .ok (.aload_n 0, 1) := by decide +kernel
theorem d_Lw_law_263 : decode code 263 = .ok (.iload_n 3, 1) := by decide +kernel
theorem d_Lw_law_264 : decode code 264 = .ok (.iconst 1, 1) := by decide +kernel
theorem d_Lw_law_265 : decode code 265 = .ok (.iadd, 1) := by decide +kernel
theorem d_Lw_law_266 : decode code 266 = .ok (.iaload, 1) := by decide +kernel
theorem d_Lw_law_267 : decode code 267 = .ok (.aload_n 0, 1) := by decide +kernel
theorem d_Lw_law_268 : decode code 268 = .ok (.iload_n 3, 1) := by decide +kernel
theorem d_Lw_law_269 : decode code 269 = .ok (.iconst 2, 1) := by decide +kernel
theorem d_Lw_law_270 : decode code 270 = .ok (.iadd, 1) := by decide +kernel
theorem d_Lw_law_271 : decode code 271 = .ok (.iaload, 1) := by decide +kernel
theorem d_Lw_law_272 : decode code 272 = .ok (.invokevirtual 45, 3) := by decide +kernel
theorem d_Lw_law_275 : decode code 275 = .ok (.aload_n 2, 1) := by decide +kernel
theorem d_Lw_law_276 : decode code 276 = .ok (.aload_n 0, 1) := by decide +kernel
theorem d_Lw_law_277 : decode code 277 = .ok (.iload_n 3, 1) := by decide +kernel
theorem d_Lw_law_278 : decode code 278 = .ok (.iconst 1, 1) := by decide +kernel
theorem d_Lw_law_279 : decode code 279 = .ok (.iadd, 1) := by decide +kernel
theorem d_Lw_law_280 : decode code 280 = .ok (.iaload, 1) := by decide +kernel
theorem d_Lw_law_281 : decode code 281 = .ok (.aload_n 0, 1) := by decide +kernel
theorem d_Lw_law_282 : decode code 282 = .ok (.iload_n 3, 1) := by decide +kernel
theorem d_Lw_law_283 : decode code 283 = .ok (.iconst 2, 1) := by decide +kernel
theorem d_Lw_law_284 : decode code 284 = .ok (.iadd, 1) := by decide +kernel
theorem d_Lw_law_285 : decode code 285 = .ok (.iaload, 1) := by decide +kernel
theorem d_Lw_law_286 : decode code 286 = .ok (.invokevirtual 48, 3) := by decide +kernel
theorem d_Lw_law_289 : decode code 289 = .ok (.if_icmp .eq 222, 3) := by decide +kernel
theorem d_Lw_law_292 : decode code 292 = .ok (.iconst 0, 1) := by decide +kernel
theorem d_Lw_law_293 : decode code 293 = .ok (.ireturn, 1) := by decide +kernel
theorem d_Lw_law_294 : decode code 294 = .ok (.aload_n 1, 1) := by decide +kernel
theorem d_Lw_law_295 : decode code 295 = .ok (.aload_n 0, 1) := by decide +kernel
theorem d_Lw_law_296 : decode code 296 = .ok (.iload_n 3, 1) := by decide +kernel
theorem d_Lw_law_297 : decode code 297 = .ok (.iconst 1, 1) := by decide +kernel
theorem d_Lw_law_298 : decode code 298 = .ok (.iadd, 1) := by decide +kernel
theorem d_Lw_law_299 : decode code 299 = .ok (.iaload, 1) := by decide +kernel
theorem d_Lw_law_300 : decode code 300 = .ok (.invokevirtual 49, 3) := by decide +kernel
theorem d_Lw_law_303 : decode code 303 = .ok (.aload_n 2, 1) := by decide +kernel
theorem d_Lw_law_304 : decode code 304 = .ok (.aload_n 0, 1) := by decide +kernel
theorem d_Lw_law_305 : decode code 305 = .ok (.iload_n 3, 1) := by decide +kernel
