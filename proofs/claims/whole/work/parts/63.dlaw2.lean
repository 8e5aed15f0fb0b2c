/-! decode rows of the law (written by wip/whole/mk_law2.py) -/
theorem d_Law_law_199 : decode code 199 = .ok (.laload, 1) := by decide +kernel
theorem d_Law_law_200 : decode code 200 = .ok (.iload 6, 2) := by decide +kernel
theorem d_Law_law_202 : decode code 202 = .ok (.i2l, 1) := by decide +kernel
theorem d_Law_law_203 : decode code 203 = .ok (.lcmp, 1) := by decide +kernel
theorem d_Law_law_204 : decode code 204 = .ok (.ifCond .eq 5, 3) := by decide +kernel
theorem d_Law_law_207 : decode code 207 = .ok (.iconst 0, 1) := by decide +kernel
theorem d_Law_law_208 : decode code 208 = .ok (.ireturn, 1) := by decide +kernel
theorem d_Law_law_209 : decode code 209 = .ok (.goto 632, 3) := by decide +kernel
theorem d_Law_law_212 : decode code 212 = .ok (.aload_n 1, 1) := by decide +kernel
theorem d_Law_law_213 : decode code 213 = .ok (.aload_n 0, 1) := by decide +kernel
theorem d_Law_law_214 : decode code 214 = .ok (.iload 4, 2) := by decide +kernel
theorem d_Law_law_216 : decode code 216 = .ok (.iconst 1, 1) := by decide +kernel
theorem d_Law_law_217 : decode code 217 = .ok (.iadd, 1) := by decide +kernel
theorem d_Law_law_218 : decode code 218 = .ok (.iaload, 1) := by decide +kernel
theorem d_Law_law_219 : decode code 219 = .ok (.aload_n 0, 1) := by decide +kernel
theorem d_Law_law_220 : decode code 220 = .ok (.iload 4, 2) := by decide +kernel
theorem d_Law_law_222 : decode code 222 = .ok (.iconst 2, 1) := by decide +kernel
theorem d_Law_law_223 : decode code 223 = .ok (.iadd, 1) := by decide +kernel
theorem d_Law_law_224 : decode code 224 = .ok (.iaload, 1) := by decide +kernel
theorem d_Law_law_225 : decode code 225 = .ok (.aload_n 3, 1) := by decide +kernel
theorem d_Law_law_226 : decode code 226 = .ok (.invokestatic 76, 3) := by decide +kernel
theorem d_Law_law_229 : decode code 229 = .ok (.istore 5, 2) := by decide +kernel
theorem d_Law_law_231 : decode code 231 = .ok (.aload_n 2, 1) := by decide +kernel
theorem d_Law_law_232 : decode code 232 = .ok (.aload_n 0, 1) := by decide +kernel
theorem d_Law_law_233 : decode code 233 = .ok (.iload 4, 2) := by decide +kernel
theorem d_Law_law_235 : decode code 235 = .ok (.iconst 1, 1) := by decide +kernel
theorem d_Law_law_236 : decode code 236 = .ok (.iadd, 1) := by decide +kernel
theorem d_Law_law_237 : decode code 237 = .ok (.iaload, 1) := by decide +kernel
theorem d_Law_law_238 : decode code 238 = .ok (.aload_n 0, 1) := by decide +kernel
theorem d_Law_law_239 : decode code 239 = .ok (.iload 4, 2) := by decide +kernel
theorem d_Law_law_241 : decode code 241 = .ok (.iconst 2, 1) := by decide +kernel
theorem d_Law_law_242 : decode code 242 = .ok (.iadd, 1) := by decide +kernel
theorem d_Law_law_243 : decode code 243 = .ok (.iaload, 1) := by decide +kernel
theorem d_Law_law_244 : decode code 244 = .ok (.invokevirtual 79, 3) := by decide +kernel
theorem d_Law_law_247 : decode code 247 = .ok (.istore 6, 2) := by decide +kernel
theorem d_Law_law_249 : decode code 249 = .ok (.aload_n 2, 1) := by decide +kernel
theorem d_Law_law_250 : decode code 250 = .ok (.invokevirtual 69, 3) := by decide +kernel
theorem d_Law_law_253 : decode code 253 = .ok (.iload 5, 2) := by decide +kernel
theorem d_Law_law_255 : decode code 255 = .ok (.if_icmp .eq 5, 3) := by decide +kernel
theorem d_Law_law_258 : decode code 258 = .ok (.iconst 0, 1) := by decide +kernel
theorem d_Law_law_259 : decode code 259 = .ok (.ireturn, 1) := by decide +kernel
theorem d_Law_law_260 : decode code 260 = .ok (.iload 5, 2) := by decide +kernel
theorem d_Law_law_262 : decode code 262 = .ok (.ifCond .ne 15, 3) := by decide +kernel
theorem d_Law_law_265 : decode code 265 = .ok (.aload_n 3, 1) := by decide +kernel
theorem d_Law_law_266 : decode code 266 = .ok (.iconst 0, 1) := by decide +kernel
theorem d_Law_law_267 : decode code 267 = .ok (.laload, 1) := by decide +kernel
theorem d_Law_law_268 : decode code 268 = .ok (.iload 6, 2) := by decide +kernel
theorem d_Law_law_270 : decode code 270 = .ok (.i2l, 1) := by decide +kernel
theorem d_Law_law_271 : decode code 271 = .ok (.lcmp, 1) := by decide +kernel
theorem d_Law_law_272 : decode code 272 = .ok (.ifCond .eq 5, 3) := by decide +kernel
theorem d_Law_law_275 : decode code 275 = .ok (.iconst 0, 1) := by decide +kernel
theorem d_Law_law_276 : decode code 276 = .ok (.ireturn, 1) := by decide +kernel
theorem d_Law_law_277 : decode code 277 = .ok (.goto 564, 3) := by decide +kernel
theorem d_Law_law_280 : decode code 280 = .ok (.aload_n 1, 1) := by decide +kernel
theorem d_Law_law_281 : decode code 281 = .ok (.aload_n 0, 1) := by decide +kernel
theorem d_Law_law_282 : decode code 282 = .ok (.iload 4, 2) := by decide +kernel
theorem d_Law_law_284 : decode code 284 = .ok (.iconst 1, 1) := by decide +kernel
theorem d_Law_law_285 : decode code 285 = .ok (.iadd, 1) := by decide +kernel
theorem d_Law_law_286 : decode code 286 = .ok (.iaload, 1) := by decide +kernel
theorem d_Law_law_287 : decode code 287 = .ok (.aload_n 0, 1) := by decide +kernel
theorem d_Law_law_288 : decode code 288 = .ok (.iload 4, 2) := by decide +kernel
theorem d_Law_law_290 : decode code 290 = .ok (.iconst 2, 1) := by decide +kernel
theorem d_Law_law_291 : decode code 291 = .ok (.iadd, 1) := by decide +kernel
theorem d_Law_law_292 : decode code 292 = .ok (.iaload, 1) := by decide +kernel
theorem d_Law_law_293 : decode code 293 = .ok (.aload_n 0, 1) := by decide +kernel
theorem d_Law_law_294 : decode code 294 = .ok (.iload 4, 2) := by decide +kernel
theorem d_Law_law_296 : decode code 296 = .ok (.iconst 3, 1) := by decide +kernel
theorem d_Law_law_297 : decode code 297 = .ok (.iadd, 1) := by decide +kernel
theorem d_Law_law_298 : decode code 298 = .ok (.iaload, 1) := by decide +kernel
theorem d_Law_law_299 : decode code 299 = .ok (.invokestatic 80, 3) := by decide +kernel
theorem d_Law_law_302 : decode code 302 = .ok (.istore 5, 2) := by decide +kernel
theorem d_Law_law_304 : decode code 304 = .ok (.aload_n 2, 1) := by decide +kernel
theorem d_Law_law_305 : decode code 305 = .ok (.aload_n 0, 1) := by decide +kernel
theorem d_Law_law_306 : decode code 306 = .ok (.iload 4, 2) := by decide +kernel
theorem d_Law_law_308 : decode code 308 = .ok (.iconst 1, 1) := by decide +kernel
theorem d_Law_law_309 : decode code 309 = .ok (.iadd, 1) := by decide +kernel
theorem d_Law_law_310 : decode code 310 = .ok (.iaload, 1) := by decide +kernel
theorem d_Law_law_311 : decode code 311 = .ok (.aload_n 0, 1) := by decide +kernel
theorem d_Law_law_312 : decode code 312 = .ok (.iload 4, 2) := by decide +kernel
theorem d_Law_law_314 : decode code 314 = .ok (.iconst 2, 1) := by decide +kernel
theorem d_Law_law_315 : decode code 315 = .ok (.iadd, 1) := by decide +kernel
theorem d_Law_law_316 : decode code 316 = .ok (.iaload, 1) := by decide +kernel
theorem d_Law_law_317 : decode code 317 = .ok (.aload_n 0, 1) := by decide +kernel
theorem d_Law_law_318 : decode code 318 = .ok (.iload 4, 2) := by decide +kernel
