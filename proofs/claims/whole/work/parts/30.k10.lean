section
variable {d : Nat} {S : pm_T} {Q : Option Value → pm_T → Prop} {an r0n r1n r2n r3n r4n r5n v0n v1n v2n vn xn yn : Nat} {ki r0i r1i r2i r3i r4i v0i v1i v2i v3i v4i v5i vi xi yi : Int32} {l0 l1 l10 l2 l3 l4 l5 l6 l7 l8 l9 v0v v1v v2v : Value} {r0j r1j v0j v1j v2j v3j vj xj yj : Int64} {st : List Value}
/-! 145: ViewsJoinsLaw.law([I)Z -/
theorem dL_law_0 : decode cL_law 0 = .ok (.new 7, 3) := by decide +kernel
theorem dL_law_3 : decode cL_law 3 = .ok (.dup, 1) := by decide +kernel
theorem dL_law_4 : decode cL_law 4 = .ok (.invokespecial 9, 3) := by decide +kernel
theorem dL_law_7 : decode cL_law 7 = .ok (.astore_n 1, 1) := by decide +kernel
theorem dL_law_8 : decode cL_law 8 = .ok (.new 10, 3) := by decide +kernel
theorem dL_law_11 : decode cL_law 11 = .ok (.dup, 1) := by decide +kernel
theorem dL_law_12 : decode cL_law 12 = .ok (.invokespecial 12, 3) := by decide +kernel
theorem dL_law_15 : decode cL_law 15 = .ok (.astore_n 2, 1) := by decide +kernel
theorem dL_law_16 : decode cL_law 16 = .ok (.iconst 0, 1) := by decide +kernel
theorem dL_law_17 : decode cL_law 17 = .ok (.istore_n 3, 1) := by decide +kernel
theorem dL_law_18 : decode cL_law 18 = .ok (.iload_n 3, 1) := by decide +kernel
theorem dL_law_19 : decode cL_law 19 = .ok (.aload_n 0, 1) := by decide +kernel
theorem dL_law_20 : decode cL_law 20 = .ok (.arraylength, 1) := by decide +kernel
theorem dL_law_21 : decode cL_law 21 = .ok (.bipush 6, 2) := by decide +kernel
theorem dL_law_23 : decode cL_law 23 = .ok (.isub, 1) := by decide +kernel
theorem dL_law_24 : decode cL_law 24 = .ok (.if_icmp .gt 953, 3) := by decide +kernel
theorem dL_law_27 : decode cL_law 27 = .ok (.aload_n 0, 1) := by decide +kernel
theorem dL_law_28 : decode cL_law 28 = .ok (.iload_n 3, 1) := by decide +kernel
theorem dL_law_29 : decode cL_law 29 = .ok (.iaload, 1) := by decide +kernel
theorem dL_law_30 : decode cL_law 30 = .ok (.bipush 31, 2) := by decide +kernel
theorem dL_law_32 : decode cL_law 32 = .ok (.iand, 1) := by decide +kernel
theorem dL_law_33 : decode cL_law 33 = .ok (.tableswitch 938 0 17 #[87, 110, 193, 276, 319, 402, 465, 514, 547, 590, 634, 687, 740, 783, 816, 849, 902, 925], 87) := by decide +kernel
theorem dL_law_120 : decode cL_law 120 = .ok (.aload_n 1, 1) := by decide +kernel
theorem dL_law_121 : decode cL_law 121 = .ok (.aload_n 0, 1) := by decide +kernel
theorem dL_law_122 : decode cL_law 122 = .ok (.iload_n 3, 1) := by decide +kernel
theorem dL_law_123 : decode cL_law 123 = .ok (.iconst 1, 1) := by decide +kernel
theorem dL_law_124 : decode cL_law 124 = .ok (.iadd, 1) := by decide +kernel
theorem dL_law_125 : decode cL_law 125 = .ok (.iaload, 1) := by decide +kernel
theorem dL_law_126 : decode cL_law 126 = .ok (.invokevirtual 13, 3) := by decide +kernel
theorem dL_law_129 : decode cL_law 129 = .ok (.aload_n 2, 1) := by decide +kernel
theorem dL_law_130 : decode cL_law 130 = .ok (.aload_n 0, 1) := by decide +kernel
theorem dL_law_131 : decode cL_law 131 = .ok (.iload_n 3, 1) := by decide +kernel
theorem dL_law_132 : decode cL_law 132 = .ok (.iconst 1, 1) := by decide +kernel
theorem dL_law_133 : decode cL_law 133 = .ok (.iadd, 1) := by decide +kernel
theorem dL_law_134 : decode cL_law 134 = .ok (.iaload, 1) := by decide +kernel
theorem dL_law_135 : decode cL_law 135 = .ok (.invokevirtual 17, 3) := by decide +kernel
theorem dL_law_138 : decode cL_law 138 = .ok (.if_icmp .eq 833, 3) := by decide +kernel
theorem dL_law_141 : decode cL_law 141 = .ok (.iconst 0, 1) := by decide +kernel
theorem dL_law_142 : decode cL_law 142 = .ok (.ireturn, 1) := by decide +kernel
theorem dL_law_143 : decode cL_law 143 = .ok (.aload_n 1, 1) := by decide +kernel
theorem dL_law_144 : decode cL_law 144 = .ok (.aload_n 0, 1) := by decide +kernel
theorem dL_law_145 : decode cL_law 145 = .ok (.iload_n 3, 1) := by decide +kernel
theorem dL_law_146 : decode cL_law 146 = .ok (.iconst 1, 1) := by decide +kernel
theorem dL_law_147 : decode cL_law 147 = .ok (.iadd, 1) := by decide +kernel
theorem dL_law_148 : decode cL_law 148 = .ok (.iaload, 1) := by decide +kernel
theorem dL_law_149 : decode cL_law 149 = .ok (.aload_n 0, 1) := by decide +kernel
theorem dL_law_150 : decode cL_law 150 = .ok (.iload_n 3, 1) := by decide +kernel
theorem dL_law_151 : decode cL_law 151 = .ok (.iconst 2, 1) := by decide +kernel
theorem dL_law_152 : decode cL_law 152 = .ok (.iadd, 1) := by decide +kernel
theorem dL_law_153 : decode cL_law 153 = .ok (.iaload, 1) := by decide +kernel
theorem dL_law_154 : decode cL_law 154 = .ok (.aload_n 0, 1) := by decide +kernel
theorem dL_law_155 : decode cL_law 155 = .ok (.iload_n 3, 1) := by decide +kernel
theorem dL_law_156 : decode cL_law 156 = .ok (.iconst 3, 1) := by decide +kernel
theorem dL_law_157 : decode cL_law 157 = .ok (.iadd, 1) := by decide +kernel
theorem dL_law_158 : decode cL_law 158 = .ok (.iaload, 1) := by decide +kernel
theorem dL_law_159 : decode cL_law 159 = .ok (.aload_n 0, 1) := by decide +kernel
theorem dL_law_160 : decode cL_law 160 = .ok (.iload_n 3, 1) := by decide +kernel
theorem dL_law_161 : decode cL_law 161 = .ok (.iconst 4, 1) := by decide +kernel
theorem dL_law_162 : decode cL_law 162 = .ok (.iadd, 1) := by decide +kernel
theorem dL_law_163 : decode cL_law 163 = .ok (.iaload, 1) := by decide +kernel
theorem dL_law_164 : decode cL_law 164 = .ok (.i2l, 1) := by decide +kernel
theorem dL_law_165 : decode cL_law 165 = .ok (.bipush 32, 2) := by decide +kernel
theorem dL_law_167 : decode cL_law 167 = .ok (.lshl, 1) := by decide +kernel
theorem dL_law_168 : decode cL_law 168 = .ok (.aload_n 0, 1) := by decide +kernel
theorem dL_law_169 : decode cL_law 169 = .ok (.iload_n 3, 1) := by decide +kernel
theorem dL_law_170 : decode cL_law 170 = .ok (.iconst 5, 1) := by decide +kernel
theorem dL_law_171 : decode cL_law 171 = .ok (.iadd, 1) := by decide +kernel
theorem dL_law_172 : decode cL_law 172 = .ok (.iaload, 1) := by decide +kernel
theorem dL_law_173 : decode cL_law 173 = .ok (.i2l, 1) := by decide +kernel
theorem dL_law_174 : decode cL_law 174 = .ok (.ldc2_w 18, 3) := by decide +kernel
theorem dL_law_177 : decode cL_law 177 = .ok (.land, 1) := by decide +kernel
theorem dL_law_178 : decode cL_law 178 = .ok (.lor, 1) := by decide +kernel
theorem dL_law_179 : decode cL_law 179 = .ok (.invokevirtual 20, 3) := by decide +kernel
theorem dL_law_182 : decode cL_law 182 = .ok (.aload_n 2, 1) := by decide +kernel
theorem dL_law_183 : decode cL_law 183 = .ok (.aload_n 0, 1) := by decide +kernel
theorem dL_law_184 : decode cL_law 184 = .ok (.iload_n 3, 1) := by decide +kernel
theorem dL_law_185 : decode cL_law 185 = .ok (.iconst 1, 1) := by decide +kernel
theorem dL_law_186 : decode cL_law 186 = .ok (.iadd, 1) := by decide +kernel
theorem dL_law_187 : decode cL_law 187 = .ok (.iaload, 1) := by decide +kernel
theorem dL_law_188 : decode cL_law 188 = .ok (.aload_n 0, 1) := by decide +kernel
theorem dL_law_189 : decode cL_law 189 = .ok (.iload_n 3, 1) := by decide +kernel
theorem dL_law_190 : decode cL_law 190 = .ok (.iconst 2, 1) := by decide +kernel
theorem dL_law_191 : decode cL_law 191 = .ok (.iadd, 1) := by decide +kernel
theorem dL_law_192 : decode cL_law 192 = .ok (.iaload, 1) := by decide +kernel
theorem dL_law_193 : decode cL_law 193 = .ok (.aload_n 0, 1) := by decide +kernel
theorem dL_law_194 : decode cL_law 194 = .ok (.iload_n 3, 1) := by decide +kernel
theorem dL_law_195 : decode cL_law 195 = .ok (.iconst 3, 1) := by decide +kernel
theorem dL_law_196 : decode cL_law 196 = .ok (.iadd, 1) := by decide +kernel
theorem dL_law_197 : decode cL_law 197 = .ok (.iaload, 1) := by decide +kernel
theorem dL_law_198 : decode cL_law 198 = .ok (.aload_n 0, 1) := by decide +kernel
theorem dL_law_199 : decode cL_law 199 = .ok (.iload_n 3, 1) := by decide +kernel
theorem dL_law_200 : decode cL_law 200 = .ok (.iconst 4, 1) := by decide +kernel
theorem dL_law_201 : decode cL_law 201 = .ok (.iadd, 1) := by decide +kernel
theorem dL_law_202 : decode cL_law 202 = .ok (.iaload, 1) := by decide +kernel
theorem dL_law_203 : decode cL_law 203 = .ok (.i2l, 1) := by decide +kernel
theorem dL_law_204 : decode cL_law 204 = .ok (.bipush 32, 2) := by decide +kernel
theorem dL_law_206 : decode cL_law 206 = .ok (.lshl, 1) := by decide +kernel
theorem dL_law_207 : decode cL_law 207 = .ok (.aload_n 0, 1) := by decide +kernel
theorem dL_law_208 : decode cL_law 208 = .ok (.iload_n 3, 1) := by decide +kernel
theorem dL_law_209 : decode cL_law 209 = .ok (.iconst 5, 1) := by decide +kernel
theorem dL_law_210 : decode cL_law 210 = .ok (.iadd, 1) := by decide +kernel
theorem dL_law_211 : decode cL_law 211 = .ok (.iaload, 1) := by decide +kernel
theorem dL_law_212 : decode cL_law 212 = .ok (.i2l, 1) := by decide +kernel
theorem dL_law_213 : decode cL_law 213 = .ok (.ldc2_w 18, 3) := by decide +kernel
theorem dL_law_216 : decode cL_law 216 = .ok (.land, 1) := by decide +kernel
theorem dL_law_217 : decode cL_law 217 = .ok (.lor, 1) := by decide +kernel
theorem dL_law_218 : decode cL_law 218 = .ok (.invokevirtual 24, 3) := by decide +kernel
theorem dL_law_221 : decode cL_law 221 = .ok (.if_icmp .eq 750, 3) := by decide +kernel
theorem dL_law_224 : decode cL_law 224 = .ok (.iconst 0, 1) := by decide +kernel
theorem dL_law_225 : decode cL_law 225 = .ok (.ireturn, 1) := by decide +kernel
theorem dL_law_226 : decode cL_law 226 = .ok (.aload_n 1, 1) := by decide +kernel
theorem dL_law_227 : decode cL_law 227 = .ok (.aload_n 0, 1) := by decide +kernel
theorem dL_law_228 : decode cL_law 228 = .ok (.iload_n 3, 1) := by decide +kernel
theorem dL_law_229 : decode cL_law 229 = .ok (.iconst 1, 1) := by decide +kernel
theorem dL_law_230 : decode cL_law 230 = .ok (.iadd, 1) := by decide +kernel
theorem dL_law_231 : decode cL_law 231 = .ok (.iaload, 1) := by decide +kernel
theorem dL_law_232 : decode cL_law 232 = .ok (.aload_n 0, 1) := by decide +kernel
theorem dL_law_233 : decode cL_law 233 = .ok (.iload_n 3, 1) := by decide +kernel
theorem dL_law_234 : decode cL_law 234 = .ok (.iconst 2, 1) := by decide +kernel
theorem dL_law_235 : decode cL_law 235 = .ok (.iadd, 1) := by decide +kernel
theorem dL_law_236 : decode cL_law 236 = .ok (.iaload, 1) := by decide +kernel
theorem dL_law_237 : decode cL_law 237 = .ok (.aload_n 0, 1) := by decide +kernel
theorem dL_law_238 : decode cL_law 238 = .ok (.iload_n 3, 1) := by decide +kernel
theorem dL_law_239 : decode cL_law 239 = .ok (.iconst 3, 1) := by decide +kernel
theorem dL_law_240 : decode cL_law 240 = .ok (.iadd, 1) := by decide +kernel
theorem dL_law_241 : decode cL_law 241 = .ok (.iaload, 1) := by decide +kernel
theorem dL_law_242 : decode cL_law 242 = .ok (.aload_n 0, 1) := by decide +kernel
theorem dL_law_243 : decode cL_law 243 = .ok (.iload_n 3, 1) := by decide +kernel
theorem dL_law_244 : decode cL_law 244 = .ok (.iconst 4, 1) := by decide +kernel
theorem dL_law_245 : decode cL_law 245 = .ok (.iadd, 1) := by decide +kernel
theorem dL_law_246 : decode cL_law 246 = .ok (.iaload, 1) := by decide +kernel
theorem dL_law_247 : decode cL_law 247 = .ok (.i2l, 1) := by decide +kernel
theorem dL_law_248 : decode cL_law 248 = .ok (.bipush 32, 2) := by decide +kernel
theorem dL_law_250 : decode cL_law 250 = .ok (.lshl, 1) := by decide +kernel
theorem dL_law_251 : decode cL_law 251 = .ok (.aload_n 0, 1) := by decide +kernel
theorem dL_law_252 : decode cL_law 252 = .ok (.iload_n 3, 1) := by decide +kernel
theorem dL_law_253 : decode cL_law 253 = .ok (.iconst 5, 1) := by decide +kernel
theorem dL_law_254 : decode cL_law 254 = .ok (.iadd, 1) := by decide +kernel
theorem dL_law_255 : decode cL_law 255 = .ok (.iaload, 1) := by decide +kernel
theorem dL_law_256 : decode cL_law 256 = .ok (.i2l, 1) := by decide +kernel
theorem dL_law_257 : decode cL_law 257 = .ok (.ldc2_w 18, 3) := by decide +kernel
theorem dL_law_260 : decode cL_law 260 = .ok (.land, 1) := by decide +kernel
theorem dL_law_261 : decode cL_law 261 = .ok (.lor, 1) := by decide +kernel
theorem dL_law_262 : decode cL_law 262 = .ok (.invokevirtual 25, 3) := by decide +kernel
theorem dL_law_265 : decode cL_law 265 = .ok (.aload_n 2, 1) := by decide +kernel
theorem dL_law_266 : decode cL_law 266 = .ok (.aload_n 0, 1) := by decide +kernel
theorem dL_law_267 : decode cL_law 267 = .ok (.iload_n 3, 1) := by decide +kernel
theorem dL_law_268 : decode cL_law 268 = .ok (.iconst 1, 1) := by decide +kernel
theorem dL_law_269 : decode cL_law 269 = .ok (.iadd, 1) := by decide +kernel
theorem dL_law_270 : decode cL_law 270 = .ok (.iaload, 1) := by decide +kernel
theorem dL_law_271 : decode cL_law 271 = .ok (.aload_n 0, 1) := by decide +kernel
theorem dL_law_272 : decode cL_law 272 = .ok (.iload_n 3, 1) := by decide +kernel
theorem dL_law_273 : decode cL_law 273 = .ok (.iconst 2, 1) := by decide +kernel
theorem dL_law_274 : decode cL_law 274 = .ok (.iadd, 1) := by decide +kernel
theorem dL_law_275 : decode cL_law 275 = .ok (.iaload, 1) := by decide +kernel
theorem dL_law_276 : decode cL_law 276 = .ok (.aload_n 0, 1) := by decide +kernel
theorem dL_law_277 : decode cL_law 277 = .ok (.iload_n 3, 1) := by decide +kernel
theorem dL_law_278 : decode cL_law 278 = .ok (.iconst 3, 1) := by decide +kernel
theorem dL_law_279 : decode cL_law 279 = .ok (.iadd, 1) := by decide +kernel
theorem dL_law_280 : decode cL_law 280 = .ok (.iaload, 1) := by decide +kernel
theorem dL_law_281 : decode cL_law 281 = .ok (.aload_n 0, 1) := by decide +kernel
theorem dL_law_282 : decode cL_law 282 = .ok (.iload_n 3, 1) := by decide +kernel
theorem dL_law_283 : decode cL_law 283 = .ok (.iconst 4, 1) := by decide +kernel
theorem dL_law_284 : decode cL_law 284 = .ok (.iadd, 1) := by decide +kernel
theorem dL_law_285 : decode cL_law 285 = .ok (.iaload, 1) := by decide +kernel
theorem dL_law_286 : decode cL_law 286 = .ok (.i2l, 1) := by decide +kernel
theorem dL_law_287 : decode cL_law 287 = .ok (.bipush 32, 2) := by decide +kernel
theorem dL_law_289 : decode cL_law 289 = .ok (.lshl, 1) := by decide +kernel
theorem dL_law_290 : decode cL_law 290 = .ok (.aload_n 0, 1) := by decide +kernel
theorem dL_law_291 : decode cL_law 291 = .ok (.iload_n 3, 1) := by decide +kernel
theorem dL_law_292 : decode cL_law 292 = .ok (.iconst 5, 1) := by decide +kernel
theorem dL_law_293 : decode cL_law 293 = .ok (.iadd, 1) := by decide +kernel
theorem dL_law_294 : decode cL_law 294 = .ok (.iaload, 1) := by decide +kernel
theorem dL_law_295 : decode cL_law 295 = .ok (.i2l, 1) := by decide +kernel
theorem dL_law_296 : decode cL_law 296 = .ok (.ldc2_w 18, 3) := by decide +kernel
theorem dL_law_299 : decode cL_law 299 = .ok (.land, 1) := by decide +kernel
theorem dL_law_300 : decode cL_law 300 = .ok (.lor, 1) := by decide +kernel
theorem dL_law_301 : decode cL_law 301 = .ok (.invokevirtual 28, 3) := by decide +kernel
theorem dL_law_304 : decode cL_law 304 = .ok (.if_icmp .eq 667, 3) := by decide +kernel
theorem dL_law_307 : decode cL_law 307 = .ok (.iconst 0, 1) := by decide +kernel
theorem dL_law_308 : decode cL_law 308 = .ok (.ireturn, 1) := by decide +kernel
theorem dL_law_309 : decode cL_law 309 = .ok (.aload_n 1, 1) := by decide +kernel
theorem dL_law_310 : decode cL_law 310 = .ok (.aload_n 0, 1) := by decide +kernel
theorem dL_law_311 : decode cL_law 311 = .ok (.iload_n 3, 1) := by decide +kernel
theorem dL_law_312 : decode cL_law 312 = .ok (.iconst 1, 1) := by decide +kernel
theorem dL_law_313 : decode cL_law 313 = .ok (.iadd, 1) := by decide +kernel
theorem dL_law_314 : decode cL_law 314 = .ok (.iaload, 1) := by decide +kernel
theorem dL_law_315 : decode cL_law 315 = .ok (.aload_n 0, 1) := by decide +kernel
theorem dL_law_316 : decode cL_law 316 = .ok (.iload_n 3, 1) := by decide +kernel
theorem dL_law_317 : decode cL_law 317 = .ok (.iconst 2, 1) := by decide +kernel
theorem dL_law_318 : decode cL_law 318 = .ok (.iadd, 1) := by decide +kernel
theorem dL_law_319 : decode cL_law 319 = .ok (.iaload, 1) := by decide +kernel
theorem dL_law_320 : decode cL_law 320 = .ok (.aload_n 0, 1) := by decide +kernel
theorem dL_law_321 : decode cL_law 321 = .ok (.iload_n 3, 1) := by decide +kernel
theorem dL_law_322 : decode cL_law 322 = .ok (.iconst 3, 1) := by decide +kernel
theorem dL_law_323 : decode cL_law 323 = .ok (.iadd, 1) := by decide +kernel
theorem dL_law_324 : decode cL_law 324 = .ok (.iaload, 1) := by decide +kernel
theorem dL_law_325 : decode cL_law 325 = .ok (.invokevirtual 29, 3) := by decide +kernel
theorem dL_law_328 : decode cL_law 328 = .ok (.aload_n 2, 1) := by decide +kernel
theorem dL_law_329 : decode cL_law 329 = .ok (.aload_n 0, 1) := by decide +kernel
theorem dL_law_330 : decode cL_law 330 = .ok (.iload_n 3, 1) := by decide +kernel
theorem dL_law_331 : decode cL_law 331 = .ok (.iconst 1, 1) := by decide +kernel
theorem dL_law_332 : decode cL_law 332 = .ok (.iadd, 1) := by decide +kernel
theorem dL_law_333 : decode cL_law 333 = .ok (.iaload, 1) := by decide +kernel
theorem dL_law_334 : decode cL_law 334 = .ok (.aload_n 0, 1) := by decide +kernel
theorem dL_law_335 : decode cL_law 335 = .ok (.iload_n 3, 1) := by decide +kernel
theorem dL_law_336 : decode cL_law 336 = .ok (.iconst 2, 1) := by decide +kernel
theorem dL_law_337 : decode cL_law 337 = .ok (.iadd, 1) := by decide +kernel
theorem dL_law_338 : decode cL_law 338 = .ok (.iaload, 1) := by decide +kernel
theorem dL_law_339 : decode cL_law 339 = .ok (.aload_n 0, 1) := by decide +kernel
theorem dL_law_340 : decode cL_law 340 = .ok (.iload_n 3, 1) := by decide +kernel
theorem dL_law_341 : decode cL_law 341 = .ok (.iconst 3, 1) := by decide +kernel
theorem dL_law_342 : decode cL_law 342 = .ok (.iadd, 1) := by decide +kernel
theorem dL_law_343 : decode cL_law 343 = .ok (.iaload, 1) := by decide +kernel
theorem dL_law_344 : decode cL_law 344 = .ok (.invokevirtual 33, 3) := by decide +kernel
theorem dL_law_347 : decode cL_law 347 = .ok (.if_icmp .eq 624, 3) := by decide +kernel
theorem dL_law_350 : decode cL_law 350 = .ok (.iconst 0, 1) := by decide +kernel
theorem dL_law_351 : decode cL_law 351 = .ok (.ireturn, 1) := by decide +kernel
theorem dL_law_352 : decode cL_law 352 = .ok (.aload_n 1, 1) := by decide +kernel
theorem dL_law_353 : decode cL_law 353 = .ok (.aload_n 0, 1) := by decide +kernel
theorem dL_law_354 : decode cL_law 354 = .ok (.iload_n 3, 1) := by decide +kernel
theorem dL_law_355 : decode cL_law 355 = .ok (.iconst 1, 1) := by decide +kernel
theorem dL_law_356 : decode cL_law 356 = .ok (.iadd, 1) := by decide +kernel
theorem dL_law_357 : decode cL_law 357 = .ok (.iaload, 1) := by decide +kernel
theorem dL_law_358 : decode cL_law 358 = .ok (.aload_n 0, 1) := by decide +kernel
theorem dL_law_359 : decode cL_law 359 = .ok (.iload_n 3, 1) := by decide +kernel
theorem dL_law_360 : decode cL_law 360 = .ok (.iconst 2, 1) := by decide +kernel
theorem dL_law_361 : decode cL_law 361 = .ok (.iadd, 1) := by decide +kernel
theorem dL_law_362 : decode cL_law 362 = .ok (.iaload, 1) := by decide +kernel
theorem dL_law_363 : decode cL_law 363 = .ok (.i2l, 1) := by decide +kernel
theorem dL_law_364 : decode cL_law 364 = .ok (.bipush 32, 2) := by decide +kernel
theorem dL_law_366 : decode cL_law 366 = .ok (.lshl, 1) := by decide +kernel
theorem dL_law_367 : decode cL_law 367 = .ok (.aload_n 0, 1) := by decide +kernel
theorem dL_law_368 : decode cL_law 368 = .ok (.iload_n 3, 1) := by decide +kernel
theorem dL_law_369 : decode cL_law 369 = .ok (.iconst 3, 1) := by decide +kernel
theorem dL_law_370 : decode cL_law 370 = .ok (.iadd, 1) := by decide +kernel
theorem dL_law_371 : decode cL_law 371 = .ok (.iaload, 1) := by decide +kernel
theorem dL_law_372 : decode cL_law 372 = .ok (.i2l, 1) := by decide +kernel
theorem dL_law_373 : decode cL_law 373 = .ok (.ldc2_w 18, 3) := by decide +kernel
theorem dL_law_376 : decode cL_law 376 = .ok (.land, 1) := by decide +kernel
theorem dL_law_377 : decode cL_law 377 = .ok (.lor, 1) := by decide +kernel
theorem dL_law_378 : decode cL_law 378 = .ok (.aload_n 0, 1) := by decide +kernel
theorem dL_law_379 : decode cL_law 379 = .ok (.iload_n 3, 1) := by decide +kernel
theorem dL_law_380 : decode cL_law 380 = .ok (.iconst 4, 1) := by decide +kernel
theorem dL_law_381 : decode cL_law 381 = .ok (.iadd, 1) := by decide +kernel
theorem dL_law_382 : decode cL_law 382 = .ok (.iaload, 1) := by decide +kernel
theorem dL_law_383 : decode cL_law 383 = .ok (.aload_n 0, 1) := by decide +kernel
theorem dL_law_384 : decode cL_law 384 = .ok (.iload_n 3, 1) := by decide +kernel
theorem dL_law_385 : decode cL_law 385 = .ok (.iconst 5, 1) := by decide +kernel
theorem dL_law_386 : decode cL_law 386 = .ok (.iadd, 1) := by decide +kernel
theorem dL_law_387 : decode cL_law 387 = .ok (.iaload, 1) := by decide +kernel
theorem dL_law_388 : decode cL_law 388 = .ok (.invokevirtual 34, 3) := by decide +kernel
theorem dL_law_391 : decode cL_law 391 = .ok (.aload_n 2, 1) := by decide +kernel
theorem dL_law_392 : decode cL_law 392 = .ok (.aload_n 0, 1) := by decide +kernel
theorem dL_law_393 : decode cL_law 393 = .ok (.iload_n 3, 1) := by decide +kernel
theorem dL_law_394 : decode cL_law 394 = .ok (.iconst 1, 1) := by decide +kernel
theorem dL_law_395 : decode cL_law 395 = .ok (.iadd, 1) := by decide +kernel
theorem dL_law_396 : decode cL_law 396 = .ok (.iaload, 1) := by decide +kernel
theorem dL_law_397 : decode cL_law 397 = .ok (.aload_n 0, 1) := by decide +kernel
theorem dL_law_398 : decode cL_law 398 = .ok (.iload_n 3, 1) := by decide +kernel
theorem dL_law_399 : decode cL_law 399 = .ok (.iconst 2, 1) := by decide +kernel
theorem dL_law_400 : decode cL_law 400 = .ok (.iadd, 1) := by decide +kernel
theorem dL_law_401 : decode cL_law 401 = .ok (.iaload, 1) := by decide +kernel
theorem dL_law_402 : decode cL_law 402 = .ok (.i2l, 1) := by decide +kernel
theorem dL_law_403 : decode cL_law 403 = .ok (.bipush 32, 2) := by decide +kernel
theorem dL_law_405 : decode cL_law 405 = .ok (.lshl, 1) := by decide +kernel
theorem dL_law_406 : decode cL_law 406 = .ok (.aload_n 0, 1) := by decide +kernel
theorem dL_law_407 : decode cL_law 407 = .ok (.iload_n 3, 1) := by decide +kernel
theorem dL_law_408 : decode cL_law 408 = .ok (.iconst 3, 1) := by decide +kernel
theorem dL_law_409 : decode cL_law 409 = .ok (.iadd, 1) := by decide +kernel
theorem dL_law_410 : decode cL_law 410 = .ok (.iaload, 1) := by decide +kernel
theorem dL_law_411 : decode cL_law 411 = .ok (.i2l, 1) := by decide +kernel
theorem dL_law_412 : decode cL_law 412 = .ok (.ldc2_w 18, 3) := by decide +kernel
theorem dL_law_415 : decode cL_law 415 = .ok (.land, 1) := by decide +kernel
theorem dL_law_416 : decode cL_law 416 = .ok (.lor, 1) := by decide +kernel
theorem dL_law_417 : decode cL_law 417 = .ok (.aload_n 0, 1) := by decide +kernel
theorem dL_law_418 : decode cL_law 418 = .ok (.iload_n 3, 1) := by decide +kernel
theorem dL_law_419 : decode cL_law 419 = .ok (.iconst 4, 1) := by decide +kernel
theorem dL_law_420 : decode cL_law 420 = .ok (.iadd, 1) := by decide +kernel
theorem dL_law_421 : decode cL_law 421 = .ok (.iaload, 1) := by decide +kernel
theorem dL_law_422 : decode cL_law 422 = .ok (.aload_n 0, 1) := by decide +kernel
theorem dL_law_423 : decode cL_law 423 = .ok (.iload_n 3, 1) := by decide +kernel
theorem dL_law_424 : decode cL_law 424 = .ok (.iconst 5, 1) := by decide +kernel
theorem dL_law_425 : decode cL_law 425 = .ok (.iadd, 1) := by decide +kernel
theorem dL_law_426 : decode cL_law 426 = .ok (.iaload, 1) := by decide +kernel
theorem dL_law_427 : decode cL_law 427 = .ok (.invokevirtual 38, 3) := by decide +kernel
theorem dL_law_430 : decode cL_law 430 = .ok (.if_icmp .eq 541, 3) := by decide +kernel
theorem dL_law_433 : decode cL_law 433 = .ok (.iconst 0, 1) := by decide +kernel
theorem dL_law_434 : decode cL_law 434 = .ok (.ireturn, 1) := by decide +kernel
theorem dL_law_435 : decode cL_law 435 = .ok (.aload_n 1, 1) := by decide +kernel
theorem dL_law_436 : decode cL_law 436 = .ok (.aload_n 0, 1) := by decide +kernel
theorem dL_law_437 : decode cL_law 437 = .ok (.iload_n 3, 1) := by decide +kernel
theorem dL_law_438 : decode cL_law 438 = .ok (.iconst 1, 1) := by decide +kernel
theorem dL_law_439 : decode cL_law 439 = .ok (.iadd, 1) := by decide +kernel
theorem dL_law_440 : decode cL_law 440 = .ok (.iaload, 1) := by decide +kernel
theorem dL_law_441 : decode cL_law 441 = .ok (.aload_n 0, 1) := by decide +kernel
theorem dL_law_442 : decode cL_law 442 = .ok (.iload_n 3, 1) := by decide +kernel
theorem dL_law_443 : decode cL_law 443 = .ok (.iconst 2, 1) := by decide +kernel
theorem dL_law_444 : decode cL_law 444 = .ok (.iadd, 1) := by decide +kernel
theorem dL_law_445 : decode cL_law 445 = .ok (.iaload, 1) := by decide +kernel
theorem dL_law_446 : decode cL_law 446 = .ok (.aload_n 0, 1) := by decide +kernel
theorem dL_law_447 : decode cL_law 447 = .ok (.iload_n 3, 1) := by decide +kernel
theorem dL_law_448 : decode cL_law 448 = .ok (.iconst 3, 1) := by decide +kernel
theorem dL_law_449 : decode cL_law 449 = .ok (.iadd, 1) := by decide +kernel
theorem dL_law_450 : decode cL_law 450 = .ok (.iaload, 1) := by decide +kernel
theorem dL_law_451 : decode cL_law 451 = .ok (.aload_n 0, 1) := by decide +kernel
theorem dL_law_452 : decode cL_law 452 = .ok (.iload_n 3, 1) := by decide +kernel
theorem dL_law_453 : decode cL_law 453 = .ok (.iconst 4, 1) := by decide +kernel
theorem dL_law_454 : decode cL_law 454 = .ok (.iadd, 1) := by decide +kernel
theorem dL_law_455 : decode cL_law 455 = .ok (.iaload, 1) := by decide +kernel
theorem dL_law_456 : decode cL_law 456 = .ok (.aload_n 0, 1) := by decide +kernel
theorem dL_law_457 : decode cL_law 457 = .ok (.iload_n 3, 1) := by decide +kernel
theorem dL_law_458 : decode cL_law 458 = .ok (.iconst 5, 1) := by decide +kernel
theorem dL_law_459 : decode cL_law 459 = .ok (.iadd, 1) := by decide +kernel
theorem dL_law_460 : decode cL_law 460 = .ok (.iaload, 1) := by decide +kernel
theorem dL_law_461 : decode cL_law 461 = .ok (.invokevirtual 39, 3) := by decide +kernel
theorem dL_law_464 : decode cL_law 464 = .ok (.aload_n 2, 1) := by decide +kernel
theorem dL_law_465 : decode cL_law 465 = .ok (.aload_n 0, 1) := by decide +kernel
theorem dL_law_466 : decode cL_law 466 = .ok (.iload_n 3, 1) := by decide +kernel
theorem dL_law_467 : decode cL_law 467 = .ok (.iconst 1, 1) := by decide +kernel
theorem dL_law_468 : decode cL_law 468 = .ok (.iadd, 1) := by decide +kernel
theorem dL_law_469 : decode cL_law 469 = .ok (.iaload, 1) := by decide +kernel
theorem dL_law_470 : decode cL_law 470 = .ok (.aload_n 0, 1) := by decide +kernel
theorem dL_law_471 : decode cL_law 471 = .ok (.iload_n 3, 1) := by decide +kernel
theorem dL_law_472 : decode cL_law 472 = .ok (.iconst 2, 1) := by decide +kernel
theorem dL_law_473 : decode cL_law 473 = .ok (.iadd, 1) := by decide +kernel
theorem dL_law_474 : decode cL_law 474 = .ok (.iaload, 1) := by decide +kernel
theorem dL_law_475 : decode cL_law 475 = .ok (.aload_n 0, 1) := by decide +kernel
theorem dL_law_476 : decode cL_law 476 = .ok (.iload_n 3, 1) := by decide +kernel
theorem dL_law_477 : decode cL_law 477 = .ok (.iconst 3, 1) := by decide +kernel
theorem dL_law_478 : decode cL_law 478 = .ok (.iadd, 1) := by decide +kernel
theorem dL_law_479 : decode cL_law 479 = .ok (.iaload, 1) := by decide +kernel
theorem dL_law_480 : decode cL_law 480 = .ok (.aload_n 0, 1) := by decide +kernel
theorem dL_law_481 : decode cL_law 481 = .ok (.iload_n 3, 1) := by decide +kernel
theorem dL_law_482 : decode cL_law 482 = .ok (.iconst 4, 1) := by decide +kernel
theorem dL_law_483 : decode cL_law 483 = .ok (.iadd, 1) := by decide +kernel
theorem dL_law_484 : decode cL_law 484 = .ok (.iaload, 1) := by decide +kernel
theorem dL_law_485 : decode cL_law 485 = .ok (.aload_n 0, 1) := by decide +kernel
theorem dL_law_486 : decode cL_law 486 = .ok (.iload_n 3, 1) := by decide +kernel
theorem dL_law_487 : decode cL_law 487 = .ok (.iconst 5, 1) := by decide +kernel
theorem dL_law_488 : decode cL_law 488 = .ok (.iadd, 1) := by decide +kernel
theorem dL_law_489 : decode cL_law 489 = .ok (.iaload, 1) := by decide +kernel
theorem dL_law_490 : decode cL_law 490 = .ok (.invokevirtual 43, 3) := by decide +kernel
theorem dL_law_493 : decode cL_law 493 = .ok (.if_icmp .eq 478, 3) := by decide +kernel
theorem dL_law_496 : decode cL_law 496 = .ok (.iconst 0, 1) := by decide +kernel
theorem dL_law_497 : decode cL_law 497 = .ok (.ireturn, 1) := by decide +kernel
theorem dL_law_498 : decode cL_law 498 = .ok (.aload_n 1, 1) := by decide +kernel
theorem dL_law_499 : decode cL_law 499 = .ok (.aload_n 0, 1) := by decide +kernel
theorem dL_law_500 : decode cL_law 500 = .ok (.iload_n 3, 1) := by decide +kernel
theorem dL_law_501 : decode cL_law 501 = .ok (.iconst 1, 1) := by decide +kernel
theorem dL_law_502 : decode cL_law 502 = .ok (.iadd, 1) := by decide +kernel
theorem dL_law_503 : decode cL_law 503 = .ok (.iaload, 1) := by decide +kernel
theorem dL_law_504 : decode cL_law 504 = .ok (.aload_n 0, 1) := by decide +kernel
theorem dL_law_505 : decode cL_law 505 = .ok (.iload_n 3, 1) := by decide +kernel
theorem dL_law_506 : decode cL_law 506 = .ok (.iconst 2, 1) := by decide +kernel
theorem dL_law_507 : decode cL_law 507 = .ok (.iadd, 1) := by decide +kernel
theorem dL_law_508 : decode cL_law 508 = .ok (.iaload, 1) := by decide +kernel
theorem dL_law_509 : decode cL_law 509 = .ok (.ifCond .eq 7, 3) := by decide +kernel
theorem dL_law_512 : decode cL_law 512 = .ok (.iconst 1, 1) := by decide +kernel
theorem dL_law_513 : decode cL_law 513 = .ok (.goto 4, 3) := by decide +kernel
theorem dL_law_516 : decode cL_law 516 = .ok (.iconst 0, 1) := by decide +kernel
theorem dL_law_517 : decode cL_law 517 = .ok (.invokevirtual 44, 3) := by decide +kernel
theorem dL_law_520 : decode cL_law 520 = .ok (.aload_n 2, 1) := by decide +kernel
theorem dL_law_521 : decode cL_law 521 = .ok (.aload_n 0, 1) := by decide +kernel
theorem dL_law_522 : decode cL_law 522 = .ok (.iload_n 3, 1) := by decide +kernel
theorem dL_law_523 : decode cL_law 523 = .ok (.iconst 1, 1) := by decide +kernel
theorem dL_law_524 : decode cL_law 524 = .ok (.iadd, 1) := by decide +kernel
theorem dL_law_525 : decode cL_law 525 = .ok (.iaload, 1) := by decide +kernel
theorem dL_law_526 : decode cL_law 526 = .ok (.aload_n 0, 1) := by decide +kernel
theorem dL_law_527 : decode cL_law 527 = .ok (.iload_n 3, 1) := by decide +kernel
theorem dL_law_528 : decode cL_law 528 = .ok (.iconst 2, 1) := by decide +kernel
theorem dL_law_529 : decode cL_law 529 = .ok (.iadd, 1) := by decide +kernel
theorem dL_law_530 : decode cL_law 530 = .ok (.iaload, 1) := by decide +kernel
theorem dL_law_531 : decode cL_law 531 = .ok (.ifCond .eq 7, 3) := by decide +kernel
theorem dL_law_534 : decode cL_law 534 = .ok (.iconst 1, 1) := by decide +kernel
theorem dL_law_535 : decode cL_law 535 = .ok (.goto 4, 3) := by decide +kernel
theorem dL_law_538 : decode cL_law 538 = .ok (.iconst 0, 1) := by decide +kernel
theorem dL_law_539 : decode cL_law 539 = .ok (.invokevirtual 48, 3) := by decide +kernel
theorem dL_law_542 : decode cL_law 542 = .ok (.if_icmp .eq 429, 3) := by decide +kernel
theorem dL_law_545 : decode cL_law 545 = .ok (.iconst 0, 1) := by decide +kernel
theorem dL_law_546 : decode cL_law 546 = .ok (.ireturn, 1) := by decide +kernel
theorem dL_law_547 : decode cL_law 547 = .ok (.aload_n 1, 1) := by decide +kernel
theorem dL_law_548 : decode cL_law 548 = .ok (.aload_n 0, 1) := by decide +kernel
theorem dL_law_549 : decode cL_law 549 = .ok (.iload_n 3, 1) := by decide +kernel
theorem dL_law_550 : decode cL_law 550 = .ok (.iconst 1, 1) := by decide +kernel
theorem dL_law_551 : decode cL_law 551 = .ok (.iadd, 1) := by decide +kernel
theorem dL_law_552 : decode cL_law 552 = .ok (.iaload, 1) := by decide +kernel
theorem dL_law_553 : decode cL_law 553 = .ok (.aload_n 0, 1) := by decide +kernel
theorem dL_law_554 : decode cL_law 554 = .ok (.iload_n 3, 1) := by decide +kernel
theorem dL_law_555 : decode cL_law 555 = .ok (.iconst 2, 1) := by decide +kernel
theorem dL_law_556 : decode cL_law 556 = .ok (.iadd, 1) := by decide +kernel
theorem dL_law_557 : decode cL_law 557 = .ok (.iaload, 1) := by decide +kernel
theorem dL_law_558 : decode cL_law 558 = .ok (.invokevirtual 49, 3) := by decide +kernel
theorem dL_law_561 : decode cL_law 561 = .ok (.aload_n 2, 1) := by decide +kernel
theorem dL_law_562 : decode cL_law 562 = .ok (.aload_n 0, 1) := by decide +kernel
theorem dL_law_563 : decode cL_law 563 = .ok (.iload_n 3, 1) := by decide +kernel
theorem dL_law_564 : decode cL_law 564 = .ok (.iconst 1, 1) := by decide +kernel
theorem dL_law_565 : decode cL_law 565 = .ok (.iadd, 1) := by decide +kernel
theorem dL_law_566 : decode cL_law 566 = .ok (.iaload, 1) := by decide +kernel
theorem dL_law_567 : decode cL_law 567 = .ok (.aload_n 0, 1) := by decide +kernel
theorem dL_law_568 : decode cL_law 568 = .ok (.iload_n 3, 1) := by decide +kernel
theorem dL_law_569 : decode cL_law 569 = .ok (.iconst 2, 1) := by decide +kernel
theorem dL_law_570 : decode cL_law 570 = .ok (.iadd, 1) := by decide +kernel
theorem dL_law_571 : decode cL_law 571 = .ok (.iaload, 1) := by decide +kernel
theorem dL_law_572 : decode cL_law 572 = .ok (.invokevirtual 53, 3) := by decide +kernel
theorem dL_law_575 : decode cL_law 575 = .ok (.if_icmp .eq 396, 3) := by decide +kernel
theorem dL_law_578 : decode cL_law 578 = .ok (.iconst 0, 1) := by decide +kernel
theorem dL_law_579 : decode cL_law 579 = .ok (.ireturn, 1) := by decide +kernel
theorem dL_law_580 : decode cL_law 580 = .ok (.aload_n 1, 1) := by decide +kernel
theorem dL_law_581 : decode cL_law 581 = .ok (.aload_n 0, 1) := by decide +kernel
theorem dL_law_582 : decode cL_law 582 = .ok (.iload_n 3, 1) := by decide +kernel
theorem dL_law_583 : decode cL_law 583 = .ok (.iconst 1, 1) := by decide +kernel
theorem dL_law_584 : decode cL_law 584 = .ok (.iadd, 1) := by decide +kernel
theorem dL_law_585 : decode cL_law 585 = .ok (.iaload, 1) := by decide +kernel
theorem dL_law_586 : decode cL_law 586 = .ok (.aload_n 0, 1) := by decide +kernel
theorem dL_law_587 : decode cL_law 587 = .ok (.iload_n 3, 1) := by decide +kernel
theorem dL_law_588 : decode cL_law 588 = .ok (.iconst 2, 1) := by decide +kernel
theorem dL_law_589 : decode cL_law 589 = .ok (.iadd, 1) := by decide +kernel
theorem dL_law_590 : decode cL_law 590 = .ok (.iaload, 1) := by decide +kernel
theorem dL_law_591 : decode cL_law 591 = .ok (.aload_n 0, 1) := by decide +kernel
theorem dL_law_592 : decode cL_law 592 = .ok (.iload_n 3, 1) := by decide +kernel
theorem dL_law_593 : decode cL_law 593 = .ok (.iconst 3, 1) := by decide +kernel
theorem dL_law_594 : decode cL_law 594 = .ok (.iadd, 1) := by decide +kernel
theorem dL_law_595 : decode cL_law 595 = .ok (.iaload, 1) := by decide +kernel
theorem dL_law_596 : decode cL_law 596 = .ok (.invokevirtual 54, 3) := by decide +kernel
theorem dL_law_599 : decode cL_law 599 = .ok (.aload_n 2, 1) := by decide +kernel
theorem dL_law_600 : decode cL_law 600 = .ok (.aload_n 0, 1) := by decide +kernel
theorem dL_law_601 : decode cL_law 601 = .ok (.iload_n 3, 1) := by decide +kernel
theorem dL_law_602 : decode cL_law 602 = .ok (.iconst 1, 1) := by decide +kernel
theorem dL_law_603 : decode cL_law 603 = .ok (.iadd, 1) := by decide +kernel
theorem dL_law_604 : decode cL_law 604 = .ok (.iaload, 1) := by decide +kernel
theorem dL_law_605 : decode cL_law 605 = .ok (.aload_n 0, 1) := by decide +kernel
theorem dL_law_606 : decode cL_law 606 = .ok (.iload_n 3, 1) := by decide +kernel
theorem dL_law_607 : decode cL_law 607 = .ok (.iconst 2, 1) := by decide +kernel
theorem dL_law_608 : decode cL_law 608 = .ok (.iadd, 1) := by decide +kernel
theorem dL_law_609 : decode cL_law 609 = .ok (.iaload, 1) := by decide +kernel
theorem dL_law_610 : decode cL_law 610 = .ok (.aload_n 0, 1) := by decide +kernel
theorem dL_law_611 : decode cL_law 611 = .ok (.iload_n 3, 1) := by decide +kernel
theorem dL_law_612 : decode cL_law 612 = .ok (.iconst 3, 1) := by decide +kernel
theorem dL_law_613 : decode cL_law 613 = .ok (.iadd, 1) := by decide +kernel
theorem dL_law_614 : decode cL_law 614 = .ok (.iaload, 1) := by decide +kernel
theorem dL_law_615 : decode cL_law 615 = .ok (.invokevirtual 57, 3) := by decide +kernel
theorem dL_law_618 : decode cL_law 618 = .ok (.if_icmp .eq 353, 3) := by decide +kernel
theorem dL_law_621 : decode cL_law 621 = .ok (.iconst 0, 1) := by decide +kernel
theorem dL_law_622 : decode cL_law 622 = .ok (.ireturn, 1) := by decide +kernel
theorem dL_law_623 : decode cL_law 623 = .ok (.aload_n 1, 1) := by decide +kernel
theorem dL_law_624 : decode cL_law 624 = .ok (.aload_n 0, 1) := by decide +kernel
theorem dL_law_625 : decode cL_law 625 = .ok (.iload_n 3, 1) := by decide +kernel
theorem dL_law_626 : decode cL_law 626 = .ok (.iconst 1, 1) := by decide +kernel
theorem dL_law_627 : decode cL_law 627 = .ok (.iadd, 1) := by decide +kernel
theorem dL_law_628 : decode cL_law 628 = .ok (.iaload, 1) := by decide +kernel
theorem dL_law_629 : decode cL_law 629 = .ok (.aload_n 0, 1) := by decide +kernel
theorem dL_law_630 : decode cL_law 630 = .ok (.iload_n 3, 1) := by decide +kernel
theorem dL_law_631 : decode cL_law 631 = .ok (.iconst 2, 1) := by decide +kernel
theorem dL_law_632 : decode cL_law 632 = .ok (.iadd, 1) := by decide +kernel
theorem dL_law_633 : decode cL_law 633 = .ok (.iaload, 1) := by decide +kernel
theorem dL_law_634 : decode cL_law 634 = .ok (.aload_n 0, 1) := by decide +kernel
theorem dL_law_635 : decode cL_law 635 = .ok (.iload_n 3, 1) := by decide +kernel
theorem dL_law_636 : decode cL_law 636 = .ok (.iconst 3, 1) := by decide +kernel
theorem dL_law_637 : decode cL_law 637 = .ok (.iadd, 1) := by decide +kernel
theorem dL_law_638 : decode cL_law 638 = .ok (.iaload, 1) := by decide +kernel
theorem dL_law_639 : decode cL_law 639 = .ok (.invokevirtual 58, 3) := by decide +kernel
theorem dL_law_642 : decode cL_law 642 = .ok (.aload_n 2, 1) := by decide +kernel
theorem dL_law_643 : decode cL_law 643 = .ok (.aload_n 0, 1) := by decide +kernel
theorem dL_law_644 : decode cL_law 644 = .ok (.iload_n 3, 1) := by decide +kernel
theorem dL_law_645 : decode cL_law 645 = .ok (.iconst 1, 1) := by decide +kernel
theorem dL_law_646 : decode cL_law 646 = .ok (.iadd, 1) := by decide +kernel
theorem dL_law_647 : decode cL_law 647 = .ok (.iaload, 1) := by decide +kernel
theorem dL_law_648 : decode cL_law 648 = .ok (.aload_n 0, 1) := by decide +kernel
theorem dL_law_649 : decode cL_law 649 = .ok (.iload_n 3, 1) := by decide +kernel
theorem dL_law_650 : decode cL_law 650 = .ok (.iconst 2, 1) := by decide +kernel
theorem dL_law_651 : decode cL_law 651 = .ok (.iadd, 1) := by decide +kernel
theorem dL_law_652 : decode cL_law 652 = .ok (.iaload, 1) := by decide +kernel
theorem dL_law_653 : decode cL_law 653 = .ok (.aload_n 0, 1) := by decide +kernel
theorem dL_law_654 : decode cL_law 654 = .ok (.iload_n 3, 1) := by decide +kernel
theorem dL_law_655 : decode cL_law 655 = .ok (.iconst 3, 1) := by decide +kernel
theorem dL_law_656 : decode cL_law 656 = .ok (.iadd, 1) := by decide +kernel
theorem dL_law_657 : decode cL_law 657 = .ok (.iaload, 1) := by decide +kernel
theorem dL_law_658 : decode cL_law 658 = .ok (.invokevirtual 62, 3) := by decide +kernel
theorem dL_law_661 : decode cL_law 661 = .ok (.lcmp, 1) := by decide +kernel
theorem dL_law_662 : decode cL_law 662 = .ok (.ifCond .eq 309, 3) := by decide +kernel
theorem dL_law_665 : decode cL_law 665 = .ok (.iconst 0, 1) := by decide +kernel
theorem dL_law_666 : decode cL_law 666 = .ok (.ireturn, 1) := by decide +kernel
theorem dL_law_667 : decode cL_law 667 = .ok (.aload_n 1, 1) := by decide +kernel
theorem dL_law_668 : decode cL_law 668 = .ok (.aload_n 0, 1) := by decide +kernel
theorem dL_law_669 : decode cL_law 669 = .ok (.iload_n 3, 1) := by decide +kernel
theorem dL_law_670 : decode cL_law 670 = .ok (.iconst 1, 1) := by decide +kernel
theorem dL_law_671 : decode cL_law 671 = .ok (.iadd, 1) := by decide +kernel
theorem dL_law_672 : decode cL_law 672 = .ok (.iaload, 1) := by decide +kernel
theorem dL_law_673 : decode cL_law 673 = .ok (.aload_n 0, 1) := by decide +kernel
theorem dL_law_674 : decode cL_law 674 = .ok (.iload_n 3, 1) := by decide +kernel
theorem dL_law_675 : decode cL_law 675 = .ok (.iconst 2, 1) := by decide +kernel
theorem dL_law_676 : decode cL_law 676 = .ok (.iadd, 1) := by decide +kernel
theorem dL_law_677 : decode cL_law 677 = .ok (.iaload, 1) := by decide +kernel
theorem dL_law_678 : decode cL_law 678 = .ok (.aload_n 0, 1) := by decide +kernel
theorem dL_law_679 : decode cL_law 679 = .ok (.iload_n 3, 1) := by decide +kernel
theorem dL_law_680 : decode cL_law 680 = .ok (.iconst 3, 1) := by decide +kernel
theorem dL_law_681 : decode cL_law 681 = .ok (.iadd, 1) := by decide +kernel
theorem dL_law_682 : decode cL_law 682 = .ok (.iaload, 1) := by decide +kernel
theorem dL_law_683 : decode cL_law 683 = .ok (.aload_n 0, 1) := by decide +kernel
theorem dL_law_684 : decode cL_law 684 = .ok (.iload_n 3, 1) := by decide +kernel
theorem dL_law_685 : decode cL_law 685 = .ok (.iconst 4, 1) := by decide +kernel
theorem dL_law_686 : decode cL_law 686 = .ok (.iadd, 1) := by decide +kernel
theorem dL_law_687 : decode cL_law 687 = .ok (.iaload, 1) := by decide +kernel
theorem dL_law_688 : decode cL_law 688 = .ok (.invokevirtual 63, 3) := by decide +kernel
theorem dL_law_691 : decode cL_law 691 = .ok (.aload_n 2, 1) := by decide +kernel
theorem dL_law_692 : decode cL_law 692 = .ok (.aload_n 0, 1) := by decide +kernel
theorem dL_law_693 : decode cL_law 693 = .ok (.iload_n 3, 1) := by decide +kernel
theorem dL_law_694 : decode cL_law 694 = .ok (.iconst 1, 1) := by decide +kernel
theorem dL_law_695 : decode cL_law 695 = .ok (.iadd, 1) := by decide +kernel
theorem dL_law_696 : decode cL_law 696 = .ok (.iaload, 1) := by decide +kernel
theorem dL_law_697 : decode cL_law 697 = .ok (.aload_n 0, 1) := by decide +kernel
theorem dL_law_698 : decode cL_law 698 = .ok (.iload_n 3, 1) := by decide +kernel
theorem dL_law_699 : decode cL_law 699 = .ok (.iconst 2, 1) := by decide +kernel
theorem dL_law_700 : decode cL_law 700 = .ok (.iadd, 1) := by decide +kernel
theorem dL_law_701 : decode cL_law 701 = .ok (.iaload, 1) := by decide +kernel
theorem dL_law_702 : decode cL_law 702 = .ok (.aload_n 0, 1) := by decide +kernel
theorem dL_law_703 : decode cL_law 703 = .ok (.iload_n 3, 1) := by decide +kernel
theorem dL_law_704 : decode cL_law 704 = .ok (.iconst 3, 1) := by decide +kernel
theorem dL_law_705 : decode cL_law 705 = .ok (.iadd, 1) := by decide +kernel
theorem dL_law_706 : decode cL_law 706 = .ok (.iaload, 1) := by decide +kernel
theorem dL_law_707 : decode cL_law 707 = .ok (.aload_n 0, 1) := by decide +kernel
theorem dL_law_708 : decode cL_law 708 = .ok (.iload_n 3, 1) := by decide +kernel
theorem dL_law_709 : decode cL_law 709 = .ok (.iconst 4, 1) := by decide +kernel
theorem dL_law_710 : decode cL_law 710 = .ok (.iadd, 1) := by decide +kernel
theorem dL_law_711 : decode cL_law 711 = .ok (.iaload, 1) := by decide +kernel
theorem dL_law_712 : decode cL_law 712 = .ok (.invokevirtual 67, 3) := by decide +kernel
theorem dL_law_715 : decode cL_law 715 = .ok (.if_icmp .eq 256, 3) := by decide +kernel
theorem dL_law_718 : decode cL_law 718 = .ok (.iconst 0, 1) := by decide +kernel
theorem dL_law_719 : decode cL_law 719 = .ok (.ireturn, 1) := by decide +kernel
theorem dL_law_720 : decode cL_law 720 = .ok (.aload_n 1, 1) := by decide +kernel
theorem dL_law_721 : decode cL_law 721 = .ok (.aload_n 0, 1) := by decide +kernel
theorem dL_law_722 : decode cL_law 722 = .ok (.iload_n 3, 1) := by decide +kernel
theorem dL_law_723 : decode cL_law 723 = .ok (.iconst 1, 1) := by decide +kernel
theorem dL_law_724 : decode cL_law 724 = .ok (.iadd, 1) := by decide +kernel
theorem dL_law_725 : decode cL_law 725 = .ok (.iaload, 1) := by decide +kernel
theorem dL_law_726 : decode cL_law 726 = .ok (.aload_n 0, 1) := by decide +kernel
theorem dL_law_727 : decode cL_law 727 = .ok (.iload_n 3, 1) := by decide +kernel
theorem dL_law_728 : decode cL_law 728 = .ok (.iconst 2, 1) := by decide +kernel
theorem dL_law_729 : decode cL_law 729 = .ok (.iadd, 1) := by decide +kernel
theorem dL_law_730 : decode cL_law 730 = .ok (.iaload, 1) := by decide +kernel
theorem dL_law_731 : decode cL_law 731 = .ok (.aload_n 0, 1) := by decide +kernel
theorem dL_law_732 : decode cL_law 732 = .ok (.iload_n 3, 1) := by decide +kernel
theorem dL_law_733 : decode cL_law 733 = .ok (.iconst 3, 1) := by decide +kernel
theorem dL_law_734 : decode cL_law 734 = .ok (.iadd, 1) := by decide +kernel
theorem dL_law_735 : decode cL_law 735 = .ok (.iaload, 1) := by decide +kernel
theorem dL_law_736 : decode cL_law 736 = .ok (.aload_n 0, 1) := by decide +kernel
theorem dL_law_737 : decode cL_law 737 = .ok (.iload_n 3, 1) := by decide +kernel
theorem dL_law_738 : decode cL_law 738 = .ok (.iconst 4, 1) := by decide +kernel
theorem dL_law_739 : decode cL_law 739 = .ok (.iadd, 1) := by decide +kernel
theorem dL_law_740 : decode cL_law 740 = .ok (.iaload, 1) := by decide +kernel
theorem dL_law_741 : decode cL_law 741 = .ok (.invokevirtual 68, 3) := by decide +kernel
theorem dL_law_744 : decode cL_law 744 = .ok (.aload_n 2, 1) := by decide +kernel
theorem dL_law_745 : decode cL_law 745 = .ok (.aload_n 0, 1) := by decide +kernel
theorem dL_law_746 : decode cL_law 746 = .ok (.iload_n 3, 1) := by decide +kernel
theorem dL_law_747 : decode cL_law 747 = .ok (.iconst 1, 1) := by decide +kernel
theorem dL_law_748 : decode cL_law 748 = .ok (.iadd, 1) := by decide +kernel
theorem dL_law_749 : decode cL_law 749 = .ok (.iaload, 1) := by decide +kernel
theorem dL_law_750 : decode cL_law 750 = .ok (.aload_n 0, 1) := by decide +kernel
theorem dL_law_751 : decode cL_law 751 = .ok (.iload_n 3, 1) := by decide +kernel
theorem dL_law_752 : decode cL_law 752 = .ok (.iconst 2, 1) := by decide +kernel
theorem dL_law_753 : decode cL_law 753 = .ok (.iadd, 1) := by decide +kernel
theorem dL_law_754 : decode cL_law 754 = .ok (.iaload, 1) := by decide +kernel
theorem dL_law_755 : decode cL_law 755 = .ok (.aload_n 0, 1) := by decide +kernel
theorem dL_law_756 : decode cL_law 756 = .ok (.iload_n 3, 1) := by decide +kernel
theorem dL_law_757 : decode cL_law 757 = .ok (.iconst 3, 1) := by decide +kernel
theorem dL_law_758 : decode cL_law 758 = .ok (.iadd, 1) := by decide +kernel
theorem dL_law_759 : decode cL_law 759 = .ok (.iaload, 1) := by decide +kernel
theorem dL_law_760 : decode cL_law 760 = .ok (.aload_n 0, 1) := by decide +kernel
theorem dL_law_761 : decode cL_law 761 = .ok (.iload_n 3, 1) := by decide +kernel
theorem dL_law_762 : decode cL_law 762 = .ok (.iconst 4, 1) := by decide +kernel
theorem dL_law_763 : decode cL_law 763 = .ok (.iadd, 1) := by decide +kernel
theorem dL_law_764 : decode cL_law 764 = .ok (.iaload, 1) := by decide +kernel
theorem dL_law_765 : decode cL_law 765 = .ok (.invokevirtual 71, 3) := by decide +kernel
theorem dL_law_768 : decode cL_law 768 = .ok (.if_icmp .eq 203, 3) := by decide +kernel
theorem dL_law_771 : decode cL_law 771 = .ok (.iconst 0, 1) := by decide +kernel
theorem dL_law_772 : decode cL_law 772 = .ok (.ireturn, 1) := by decide +kernel
theorem dL_law_773 : decode cL_law 773 = .ok (.aload_n 1, 1) := by decide +kernel
theorem dL_law_774 : decode cL_law 774 = .ok (.aload_n 0, 1) := by decide +kernel
theorem dL_law_775 : decode cL_law 775 = .ok (.iload_n 3, 1) := by decide +kernel
theorem dL_law_776 : decode cL_law 776 = .ok (.iconst 1, 1) := by decide +kernel
theorem dL_law_777 : decode cL_law 777 = .ok (.iadd, 1) := by decide +kernel
theorem dL_law_778 : decode cL_law 778 = .ok (.iaload, 1) := by decide +kernel
theorem dL_law_779 : decode cL_law 779 = .ok (.aload_n 0, 1) := by decide +kernel
theorem dL_law_780 : decode cL_law 780 = .ok (.iload_n 3, 1) := by decide +kernel
theorem dL_law_781 : decode cL_law 781 = .ok (.iconst 2, 1) := by decide +kernel
theorem dL_law_782 : decode cL_law 782 = .ok (.iadd, 1) := by decide +kernel
theorem dL_law_783 : decode cL_law 783 = .ok (.iaload, 1) := by decide +kernel
theorem dL_law_784 : decode cL_law 784 = .ok (.aload_n 0, 1) := by decide +kernel
theorem dL_law_785 : decode cL_law 785 = .ok (.iload_n 3, 1) := by decide +kernel
theorem dL_law_786 : decode cL_law 786 = .ok (.iconst 3, 1) := by decide +kernel
theorem dL_law_787 : decode cL_law 787 = .ok (.iadd, 1) := by decide +kernel
theorem dL_law_788 : decode cL_law 788 = .ok (.iaload, 1) := by decide +kernel
theorem dL_law_789 : decode cL_law 789 = .ok (.invokevirtual 72, 3) := by decide +kernel
theorem dL_law_792 : decode cL_law 792 = .ok (.aload_n 2, 1) := by decide +kernel
theorem dL_law_793 : decode cL_law 793 = .ok (.aload_n 0, 1) := by decide +kernel
theorem dL_law_794 : decode cL_law 794 = .ok (.iload_n 3, 1) := by decide +kernel
theorem dL_law_795 : decode cL_law 795 = .ok (.iconst 1, 1) := by decide +kernel
theorem dL_law_796 : decode cL_law 796 = .ok (.iadd, 1) := by decide +kernel
theorem dL_law_797 : decode cL_law 797 = .ok (.iaload, 1) := by decide +kernel
theorem dL_law_798 : decode cL_law 798 = .ok (.aload_n 0, 1) := by decide +kernel
theorem dL_law_799 : decode cL_law 799 = .ok (.iload_n 3, 1) := by decide +kernel
theorem dL_law_800 : decode cL_law 800 = .ok (.iconst 2, 1) := by decide +kernel
theorem dL_law_801 : decode cL_law 801 = .ok (.iadd, 1) := by decide +kernel
theorem dL_law_802 : decode cL_law 802 = .ok (.iaload, 1) := by decide +kernel
theorem dL_law_803 : decode cL_law 803 = .ok (.aload_n 0, 1) := by decide +kernel
theorem dL_law_804 : decode cL_law 804 = .ok (.iload_n 3, 1) := by decide +kernel
theorem dL_law_805 : decode cL_law 805 = .ok (.iconst 3, 1) := by decide +kernel
theorem dL_law_806 : decode cL_law 806 = .ok (.iadd, 1) := by decide +kernel
theorem dL_law_807 : decode cL_law 807 = .ok (.iaload, 1) := by decide +kernel
theorem dL_law_808 : decode cL_law 808 = .ok (.invokevirtual 75, 3) := by decide +kernel
theorem dL_law_811 : decode cL_law 811 = .ok (.if_icmp .eq 160, 3) := by decide +kernel
theorem dL_law_814 : decode cL_law 814 = .ok (.iconst 0, 1) := by decide +kernel
theorem dL_law_815 : decode cL_law 815 = .ok (.ireturn, 1) := by decide +kernel
theorem dL_law_816 : decode cL_law 816 = .ok (.aload_n 1, 1) := by decide +kernel
theorem dL_law_817 : decode cL_law 817 = .ok (.aload_n 0, 1) := by decide +kernel
theorem dL_law_818 : decode cL_law 818 = .ok (.iload_n 3, 1) := by decide +kernel
theorem dL_law_819 : decode cL_law 819 = .ok (.iconst 1, 1) := by decide +kernel
theorem dL_law_820 : decode cL_law 820 = .ok (.iadd, 1) := by decide +kernel
theorem dL_law_821 : decode cL_law 821 = .ok (.iaload, 1) := by decide +kernel
theorem dL_law_822 : decode cL_law 822 = .ok (.aload_n 0, 1) := by decide +kernel
theorem dL_law_823 : decode cL_law 823 = .ok (.iload_n 3, 1) := by decide +kernel
theorem dL_law_824 : decode cL_law 824 = .ok (.iconst 2, 1) := by decide +kernel
theorem dL_law_825 : decode cL_law 825 = .ok (.iadd, 1) := by decide +kernel
theorem dL_law_826 : decode cL_law 826 = .ok (.iaload, 1) := by decide +kernel
theorem dL_law_827 : decode cL_law 827 = .ok (.invokevirtual 76, 3) := by decide +kernel
theorem dL_law_830 : decode cL_law 830 = .ok (.aload_n 2, 1) := by decide +kernel
theorem dL_law_831 : decode cL_law 831 = .ok (.aload_n 0, 1) := by decide +kernel
theorem dL_law_832 : decode cL_law 832 = .ok (.iload_n 3, 1) := by decide +kernel
theorem dL_law_833 : decode cL_law 833 = .ok (.iconst 1, 1) := by decide +kernel
theorem dL_law_834 : decode cL_law 834 = .ok (.iadd, 1) := by decide +kernel
theorem dL_law_835 : decode cL_law 835 = .ok (.iaload, 1) := by decide +kernel
theorem dL_law_836 : decode cL_law 836 = .ok (.aload_n 0, 1) := by decide +kernel
theorem dL_law_837 : decode cL_law 837 = .ok (.iload_n 3, 1) := by decide +kernel
theorem dL_law_838 : decode cL_law 838 = .ok (.iconst 2, 1) := by decide +kernel
theorem dL_law_839 : decode cL_law 839 = .ok (.iadd, 1) := by decide +kernel
theorem dL_law_840 : decode cL_law 840 = .ok (.iaload, 1) := by decide +kernel
theorem dL_law_841 : decode cL_law 841 = .ok (.invokevirtual 79, 3) := by decide +kernel
theorem dL_law_844 : decode cL_law 844 = .ok (.if_icmp .eq 127, 3) := by decide +kernel
theorem dL_law_847 : decode cL_law 847 = .ok (.iconst 0, 1) := by decide +kernel
theorem dL_law_848 : decode cL_law 848 = .ok (.ireturn, 1) := by decide +kernel
theorem dL_law_849 : decode cL_law 849 = .ok (.aload_n 1, 1) := by decide +kernel
theorem dL_law_850 : decode cL_law 850 = .ok (.aload_n 0, 1) := by decide +kernel
theorem dL_law_851 : decode cL_law 851 = .ok (.iload_n 3, 1) := by decide +kernel
theorem dL_law_852 : decode cL_law 852 = .ok (.iconst 1, 1) := by decide +kernel
theorem dL_law_853 : decode cL_law 853 = .ok (.iadd, 1) := by decide +kernel
theorem dL_law_854 : decode cL_law 854 = .ok (.iaload, 1) := by decide +kernel
theorem dL_law_855 : decode cL_law 855 = .ok (.aload_n 0, 1) := by decide +kernel
theorem dL_law_856 : decode cL_law 856 = .ok (.iload_n 3, 1) := by decide +kernel
theorem dL_law_857 : decode cL_law 857 = .ok (.iconst 2, 1) := by decide +kernel
theorem dL_law_858 : decode cL_law 858 = .ok (.iadd, 1) := by decide +kernel
theorem dL_law_859 : decode cL_law 859 = .ok (.iaload, 1) := by decide +kernel
theorem dL_law_860 : decode cL_law 860 = .ok (.invokevirtual 80, 3) := by decide +kernel
theorem dL_law_863 : decode cL_law 863 = .ok (.aload_n 2, 1) := by decide +kernel
theorem dL_law_864 : decode cL_law 864 = .ok (.aload_n 0, 1) := by decide +kernel
theorem dL_law_865 : decode cL_law 865 = .ok (.iload_n 3, 1) := by decide +kernel
theorem dL_law_866 : decode cL_law 866 = .ok (.iconst 1, 1) := by decide +kernel
theorem dL_law_867 : decode cL_law 867 = .ok (.iadd, 1) := by decide +kernel
theorem dL_law_868 : decode cL_law 868 = .ok (.iaload, 1) := by decide +kernel
theorem dL_law_869 : decode cL_law 869 = .ok (.aload_n 0, 1) := by decide +kernel
theorem dL_law_870 : decode cL_law 870 = .ok (.iload_n 3, 1) := by decide +kernel
theorem dL_law_871 : decode cL_law 871 = .ok (.iconst 2, 1) := by decide +kernel
theorem dL_law_872 : decode cL_law 872 = .ok (.iadd, 1) := by decide +kernel
theorem dL_law_873 : decode cL_law 873 = .ok (.iaload, 1) := by decide +kernel
theorem dL_law_874 : decode cL_law 874 = .ok (.invokevirtual 83, 3) := by decide +kernel
theorem dL_law_877 : decode cL_law 877 = .ok (.if_icmp .eq 94, 3) := by decide +kernel
theorem dL_law_880 : decode cL_law 880 = .ok (.iconst 0, 1) := by decide +kernel
theorem dL_law_881 : decode cL_law 881 = .ok (.ireturn, 1) := by decide +kernel
theorem dL_law_882 : decode cL_law 882 = .ok (.aload_n 1, 1) := by decide +kernel
theorem dL_law_883 : decode cL_law 883 = .ok (.aload_n 0, 1) := by decide +kernel
theorem dL_law_884 : decode cL_law 884 = .ok (.iload_n 3, 1) := by decide +kernel
theorem dL_law_885 : decode cL_law 885 = .ok (.iconst 1, 1) := by decide +kernel
theorem dL_law_886 : decode cL_law 886 = .ok (.iadd, 1) := by decide +kernel
theorem dL_law_887 : decode cL_law 887 = .ok (.iaload, 1) := by decide +kernel
theorem dL_law_888 : decode cL_law 888 = .ok (.aload_n 0, 1) := by decide +kernel
theorem dL_law_889 : decode cL_law 889 = .ok (.iload_n 3, 1) := by decide +kernel
theorem dL_law_890 : decode cL_law 890 = .ok (.iconst 2, 1) := by decide +kernel
theorem dL_law_891 : decode cL_law 891 = .ok (.iadd, 1) := by decide +kernel
theorem dL_law_892 : decode cL_law 892 = .ok (.iaload, 1) := by decide +kernel
theorem dL_law_893 : decode cL_law 893 = .ok (.aload_n 0, 1) := by decide +kernel
theorem dL_law_894 : decode cL_law 894 = .ok (.iload_n 3, 1) := by decide +kernel
theorem dL_law_895 : decode cL_law 895 = .ok (.iconst 3, 1) := by decide +kernel
theorem dL_law_896 : decode cL_law 896 = .ok (.iadd, 1) := by decide +kernel
theorem dL_law_897 : decode cL_law 897 = .ok (.iaload, 1) := by decide +kernel
theorem dL_law_898 : decode cL_law 898 = .ok (.aload_n 0, 1) := by decide +kernel
theorem dL_law_899 : decode cL_law 899 = .ok (.iload_n 3, 1) := by decide +kernel
theorem dL_law_900 : decode cL_law 900 = .ok (.iconst 4, 1) := by decide +kernel
theorem dL_law_901 : decode cL_law 901 = .ok (.iadd, 1) := by decide +kernel
theorem dL_law_902 : decode cL_law 902 = .ok (.iaload, 1) := by decide +kernel
theorem dL_law_903 : decode cL_law 903 = .ok (.invokevirtual 84, 3) := by decide +kernel
theorem dL_law_906 : decode cL_law 906 = .ok (.aload_n 2, 1) := by decide +kernel
theorem dL_law_907 : decode cL_law 907 = .ok (.aload_n 0, 1) := by decide +kernel
theorem dL_law_908 : decode cL_law 908 = .ok (.iload_n 3, 1) := by decide +kernel
theorem dL_law_909 : decode cL_law 909 = .ok (.iconst 1, 1) := by decide +kernel
theorem dL_law_910 : decode cL_law 910 = .ok (.iadd, 1) := by decide +kernel
theorem dL_law_911 : decode cL_law 911 = .ok (.iaload, 1) := by decide +kernel
theorem dL_law_912 : decode cL_law 912 = .ok (.aload_n 0, 1) := by decide +kernel
theorem dL_law_913 : decode cL_law 913 = .ok (.iload_n 3, 1) := by decide +kernel
theorem dL_law_914 : decode cL_law 914 = .ok (.iconst 2, 1) := by decide +kernel
theorem dL_law_915 : decode cL_law 915 = .ok (.iadd, 1) := by decide +kernel
theorem dL_law_916 : decode cL_law 916 = .ok (.iaload, 1) := by decide +kernel
theorem dL_law_917 : decode cL_law 917 = .ok (.aload_n 0, 1) := by decide +kernel
theorem dL_law_918 : decode cL_law 918 = .ok (.iload_n 3, 1) := by decide +kernel
theorem dL_law_919 : decode cL_law 919 = .ok (.iconst 3, 1) := by decide +kernel
theorem dL_law_920 : decode cL_law 920 = .ok (.iadd, 1) := by decide +kernel
theorem dL_law_921 : decode cL_law 921 = .ok (.iaload, 1) := by decide +kernel
theorem dL_law_922 : decode cL_law 922 = .ok (.aload_n 0, 1) := by decide +kernel
theorem dL_law_923 : decode cL_law 923 = .ok (.iload_n 3, 1) := by decide +kernel
theorem dL_law_924 : decode cL_law 924 = .ok (.iconst 4, 1) := by decide +kernel
theorem dL_law_925 : decode cL_law 925 = .ok (.iadd, 1) := by decide +kernel
theorem dL_law_926 : decode cL_law 926 = .ok (.iaload, 1) := by decide +kernel
theorem dL_law_927 : decode cL_law 927 = .ok (.invokevirtual 87, 3) := by decide +kernel
theorem dL_law_930 : decode cL_law 930 = .ok (.if_icmp .eq 41, 3) := by decide +kernel
theorem dL_law_933 : decode cL_law 933 = .ok (.iconst 0, 1) := by decide +kernel
theorem dL_law_934 : decode cL_law 934 = .ok (.ireturn, 1) := by decide +kernel
theorem dL_law_935 : decode cL_law 935 = .ok (.aload_n 1, 1) := by decide +kernel
theorem dL_law_936 : decode cL_law 936 = .ok (.aload_n 0, 1) := by decide +kernel
theorem dL_law_937 : decode cL_law 937 = .ok (.iload_n 3, 1) := by decide +kernel
theorem dL_law_938 : decode cL_law 938 = .ok (.iconst 1, 1) := by decide +kernel
theorem dL_law_939 : decode cL_law 939 = .ok (.iadd, 1) := by decide +kernel
theorem dL_law_940 : decode cL_law 940 = .ok (.iaload, 1) := by decide +kernel
theorem dL_law_941 : decode cL_law 941 = .ok (.invokevirtual 88, 3) := by decide +kernel
theorem dL_law_944 : decode cL_law 944 = .ok (.aload_n 2, 1) := by decide +kernel
theorem dL_law_945 : decode cL_law 945 = .ok (.aload_n 0, 1) := by decide +kernel
theorem dL_law_946 : decode cL_law 946 = .ok (.iload_n 3, 1) := by decide +kernel
theorem dL_law_947 : decode cL_law 947 = .ok (.iconst 1, 1) := by decide +kernel
theorem dL_law_948 : decode cL_law 948 = .ok (.iadd, 1) := by decide +kernel
theorem dL_law_949 : decode cL_law 949 = .ok (.iaload, 1) := by decide +kernel
theorem dL_law_950 : decode cL_law 950 = .ok (.invokevirtual 91, 3) := by decide +kernel
theorem dL_law_953 : decode cL_law 953 = .ok (.if_icmp .eq 18, 3) := by decide +kernel
theorem dL_law_956 : decode cL_law 956 = .ok (.iconst 0, 1) := by decide +kernel
theorem dL_law_957 : decode cL_law 957 = .ok (.ireturn, 1) := by decide +kernel
theorem dL_law_958 : decode cL_law 958 = .ok (.aload_n 1, 1) := by decide +kernel
theorem dL_law_959 : decode cL_law 959 = .ok (.invokevirtual 92, 3) := by decide +kernel
theorem dL_law_962 : decode cL_law 962 = .ok (.aload_n 2, 1) := by decide +kernel
theorem dL_law_963 : decode cL_law 963 = .ok (.invokevirtual 96, 3) := by decide +kernel
theorem dL_law_966 : decode cL_law 966 = .ok (.if_icmp .eq 5, 3) := by decide +kernel
theorem dL_law_969 : decode cL_law 969 = .ok (.iconst 0, 1) := by decide +kernel
theorem dL_law_970 : decode cL_law 970 = .ok (.ireturn, 1) := by decide +kernel
theorem dL_law_971 : decode cL_law 971 = .ok (.iinc 3 6, 3) := by decide +kernel
theorem dL_law_974 : decode cL_law 974 = .ok (.goto (-956), 3) := by decide +kernel
theorem dL_law_977 : decode cL_law 977 = .ok (.iconst 1, 1) := by decide +kernel
theorem dL_law_978 : decode cL_law 978 = .ok (.ireturn, 1) := by decide +kernel
theorem q145_0 : pm_V d 145 0 [l0, l1, l2, l3] st S Q = pm_V d 145 3 [l0, l1, l2, l3] (.ref (pm_nx S) :: st) (pm_mk S 6) Q := pv_new (pm_cdi rfl dL_law_0) (by decide +kernel) (by decide +kernel)
theorem q145_3 : pm_V d 145 3 [l0, l1, l2, l3] (.ref xn :: st) S Q = pm_V d 145 4 [l0, l1, l2, l3] (.ref xn :: .ref xn :: st) S Q := pv_dupA (pm_cdi rfl dL_law_3)
theorem q145_4 : pm_V (d + 1) 145 4 [l0, l1, l2, l3] [.ref an, .ref r0n] S Q = pm_N d 55 [.ref an] S (fun r S' => pm_V (d + 1) 145 7 [l0, l1, l2, l3] (r.toList ++ [.ref r0n]) S' Q) := pv_callI (as := []) (pm_cdi rfl dL_law_4) (Or.inl (by decide +kernel)) (by decide +kernel) (show _ = _ from (by decide +kernel : 0 = pm_np 55)) rfl (Nat.le_of_ble_eq_true rfl)
theorem q145_7 : pm_V d 145 7 [.ref yn, l1, l2, l3] (.ref xn :: st) S Q = pm_V d 145 8 [.ref yn, .ref xn, l2, l3] st S Q := pv_astore_n (pm_cdi rfl dL_law_7) rfl
theorem q145_7N : pm_V d 145 7 [.ref yn, l1, l2, l3] (.null :: st) S Q = pm_V d 145 8 [.ref yn, .null, l2, l3] st S Q := pv_astore_nN (pm_cdi rfl dL_law_7) rfl
theorem q145_8 : pm_V d 145 8 [l0, l1, l2, l3] st S Q = pm_V d 145 11 [l0, l1, l2, l3] (.ref (pm_nx S) :: st) (pm_mk S 7) Q := pv_new (pm_cdi rfl dL_law_8) (by decide +kernel) (by decide +kernel)
theorem q145_11 : pm_V d 145 11 [l0, l1, l2, l3] (.ref xn :: st) S Q = pm_V d 145 12 [l0, l1, l2, l3] (.ref xn :: .ref xn :: st) S Q := pv_dupA (pm_cdi rfl dL_law_11)
theorem q145_12 : pm_V (d + 1) 145 12 [l0, l1, l2, l3] [.ref an, .ref r0n] S Q = pm_N d 86 [.ref an] S (fun r S' => pm_V (d + 1) 145 15 [l0, l1, l2, l3] (r.toList ++ [.ref r0n]) S' Q) := pv_callI (as := []) (pm_cdi rfl dL_law_12) (Or.inl (by decide +kernel)) (by decide +kernel) (show _ = _ from (by decide +kernel : 0 = pm_np 86)) rfl (Nat.le_of_ble_eq_true rfl)
theorem q145_15 : pm_V d 145 15 [l0, .ref yn, l2, l3] (.ref xn :: st) S Q = pm_V d 145 16 [l0, .ref yn, .ref xn, l3] st S Q := pv_astore_n (pm_cdi rfl dL_law_15) rfl
theorem q145_15N : pm_V d 145 15 [l0, .ref yn, l2, l3] (.null :: st) S Q = pm_V d 145 16 [l0, .ref yn, .null, l3] st S Q := pv_astore_nN (pm_cdi rfl dL_law_15) rfl
theorem q145_16 : pm_V d 145 16 [l0, l1, l2, l3] st S Q = pm_V d 145 17 [l0, l1, l2, l3] (.int 0 :: st) S Q := pv_iconst (pm_cdi rfl dL_law_16) (by decide +kernel)
theorem q145_17 : pm_V d 145 17 [l0, l1, .ref yn, l3] (.int xi :: st) S Q = pm_V d 145 18 [l0, l1, .ref yn, .int xi] st S Q := pv_istore_n (pm_cdi rfl dL_law_17) rfl
theorem q145_18 : pm_V d 145 18 [l0, l1, l2, .int xi] st S Q = pm_V d 145 19 [l0, l1, l2, .int xi] (.int xi :: st) S Q := pv_iload_n (pm_cdi rfl dL_law_18) rfl
theorem q145_19 : pm_V d 145 19 [.ref xn, l1, l2, l3] st S Q = pm_V d 145 20 [.ref xn, l1, l2, l3] (.ref xn :: st) S Q := pv_aload_n (pm_cdi rfl dL_law_19) rfl
theorem q145_20 (hs : (pm_al S an).isSome = true) : pm_V d 145 20 [l0, l1, l2, l3] (.ref an :: st) S Q = pm_V d 145 21 [l0, l1, l2, l3] (.int (nI ((pm_al S an).getD 0)) :: st) S Q := pv_alen (pm_cdi rfl dL_law_20) hs
theorem q145_21 : pm_V d 145 21 [l0, l1, l2, l3] st S Q = pm_V d 145 23 [l0, l1, l2, l3] (.int 6 :: st) S Q := pv_bipush (pm_cdi rfl dL_law_21) (by decide +kernel)
theorem q145_23 : pm_V d 145 23 [l0, l1, l2, l3] (.int yi :: .int xi :: st) S Q = pm_V d 145 24 [l0, l1, l2, l3] (.int (xi - yi) :: st) S Q := pv_isub (pm_cdi rfl dL_law_23)
theorem q145_24 : pm_V d 145 24 [l0, l1, l2, l3] (.int yi :: .int xi :: st) S Q = if xi ≤ yi then pm_V d 145 27 [l0, l1, l2, l3] st S Q else pm_V d 145 977 [l0, l1, l2, l3] st S Q := pv_icmp_gt (pm_cdi rfl dL_law_24) rfl
theorem q145_27 : pm_V d 145 27 [.ref xn, l1, l2, l3] st S Q = pm_V d 145 28 [.ref xn, l1, l2, l3] (.ref xn :: st) S Q := pv_aload_n (pm_cdi rfl dL_law_27) rfl
theorem q145_28 : pm_V d 145 28 [l0, l1, l2, .int xi] st S Q = pm_V d 145 29 [l0, l1, l2, .int xi] (.int xi :: st) S Q := pv_iload_n (pm_cdi rfl dL_law_28) rfl
theorem q145_29 (hs : pm_ar S an 9 xi = true) : pm_V d 145 29 [l0, l1, l2, l3] (.int xi :: .ref an :: st) S Q = pm_V d 145 30 [l0, l1, l2, l3] (.int (pm_zi S an xi.toNatClampNeg) :: st) S Q := pv_sald (pm_cdi rfl dL_law_29) hs
theorem q145_30 : pm_V d 145 30 [l0, l1, l2, l3] st S Q = pm_V d 145 32 [l0, l1, l2, l3] (.int 31 :: st) S Q := pv_bipush (pm_cdi rfl dL_law_30) (by decide +kernel)
theorem q145_32 : pm_V d 145 32 [l0, l1, l2, l3] (.int yi :: .int xi :: st) S Q = pm_V d 145 33 [l0, l1, l2, l3] (.int (xi &&& yi) :: st) S Q := pv_iand (pm_cdi rfl dL_law_32)
theorem q145_33 : pm_V d 145 33 [l0, l1, l2, l3] (.int xi :: st) S Q = pm_V d 145 (pm_tsw xi 0 [120, 143, 226, 309, 352, 435, 498, 547, 580, 623, 667, 720, 773, 816, 849, 882, 935, 958] 971) [l0, l1, l2, l3] st S Q := pv_tsw (pm_cdi rfl dL_law_33) (by decide +kernel) rfl (by decide +kernel)
theorem q145_120 : pm_V d 145 120 [l0, .ref xn, l2, l3] st S Q = pm_V d 145 121 [l0, .ref xn, l2, l3] (.ref xn :: st) S Q := pv_aload_n (pm_cdi rfl dL_law_120) rfl
theorem q145_120N : pm_V d 145 120 [l0, .null, l2, l3] st S Q = pm_V d 145 121 [l0, .null, l2, l3] (.null :: st) S Q := pv_aload_nN (pm_cdi rfl dL_law_120) rfl
theorem q145_121 : pm_V d 145 121 [.ref xn, l1, l2, l3] st S Q = pm_V d 145 122 [.ref xn, l1, l2, l3] (.ref xn :: st) S Q := pv_aload_n (pm_cdi rfl dL_law_121) rfl
theorem q145_122 : pm_V d 145 122 [l0, l1, l2, .int xi] st S Q = pm_V d 145 123 [l0, l1, l2, .int xi] (.int xi :: st) S Q := pv_iload_n (pm_cdi rfl dL_law_122) rfl
theorem q145_123 : pm_V d 145 123 [l0, l1, l2, l3] st S Q = pm_V d 145 124 [l0, l1, l2, l3] (.int 1 :: st) S Q := pv_iconst (pm_cdi rfl dL_law_123) (by decide +kernel)
theorem q145_124 : pm_V d 145 124 [l0, l1, l2, l3] (.int yi :: .int xi :: st) S Q = pm_V d 145 125 [l0, l1, l2, l3] (.int (xi + yi) :: st) S Q := pv_iadd (pm_cdi rfl dL_law_124)
theorem q145_125 (hs : pm_ar S an 9 xi = true) : pm_V d 145 125 [l0, l1, l2, l3] (.int xi :: .ref an :: st) S Q = pm_V d 145 126 [l0, l1, l2, l3] (.int (pm_zi S an xi.toNatClampNeg) :: st) S Q := pv_sald (pm_cdi rfl dL_law_125) hs
theorem q145_126 (hs : pm_sh S an = .inr 6) : pm_V (d + 1) 145 126 [l0, l1, l2, l3] [.int v0i, .ref an] S Q = pm_N d 56 [.ref an, .int v0i] S (fun r S' => pm_V (d + 1) 145 129 [l0, l1, l2, l3] (r.toList ++ []) S' Q) := pv_callV (as := [.int v0i]) (pm_cdi rfl dL_law_126) (Or.inl (by decide +kernel)) (by decide +kernel) (show _ = _ from (by decide +kernel : 1 = pm_np 56)) rfl (Nat.le_of_ble_eq_true rfl) (cl := 6) (by decide +kernel) hs
theorem q145_129 : pm_V d 145 129 [l0, l1, .ref xn, l3] st S Q = pm_V d 145 130 [l0, l1, .ref xn, l3] (.ref xn :: st) S Q := pv_aload_n (pm_cdi rfl dL_law_129) rfl
theorem q145_129N : pm_V d 145 129 [l0, l1, .null, l3] st S Q = pm_V d 145 130 [l0, l1, .null, l3] (.null :: st) S Q := pv_aload_nN (pm_cdi rfl dL_law_129) rfl
theorem q145_130 : pm_V d 145 130 [.ref xn, l1, l2, l3] st S Q = pm_V d 145 131 [.ref xn, l1, l2, l3] (.ref xn :: st) S Q := pv_aload_n (pm_cdi rfl dL_law_130) rfl
theorem q145_131 : pm_V d 145 131 [l0, l1, l2, .int xi] st S Q = pm_V d 145 132 [l0, l1, l2, .int xi] (.int xi :: st) S Q := pv_iload_n (pm_cdi rfl dL_law_131) rfl
theorem q145_132 : pm_V d 145 132 [l0, l1, l2, l3] st S Q = pm_V d 145 133 [l0, l1, l2, l3] (.int 1 :: st) S Q := pv_iconst (pm_cdi rfl dL_law_132) (by decide +kernel)
theorem q145_133 : pm_V d 145 133 [l0, l1, l2, l3] (.int yi :: .int xi :: st) S Q = pm_V d 145 134 [l0, l1, l2, l3] (.int (xi + yi) :: st) S Q := pv_iadd (pm_cdi rfl dL_law_133)
theorem q145_134 (hs : pm_ar S an 9 xi = true) : pm_V d 145 134 [l0, l1, l2, l3] (.int xi :: .ref an :: st) S Q = pm_V d 145 135 [l0, l1, l2, l3] (.int (pm_zi S an xi.toNatClampNeg) :: st) S Q := pv_sald (pm_cdi rfl dL_law_134) hs
theorem q145_135 (hs : pm_sh S an = .inr 7) : pm_V (d + 1) 145 135 [l0, l1, l2, l3] [.int v0i, .ref an, .int r0i] S Q = pm_N d 92 [.ref an, .int v0i] S (fun r S' => pm_V (d + 1) 145 138 [l0, l1, l2, l3] (r.toList ++ [.int r0i]) S' Q) := pv_callV (as := [.int v0i]) (pm_cdi rfl dL_law_135) (Or.inl (by decide +kernel)) (by decide +kernel) (show _ = _ from (by decide +kernel : 1 = pm_np 92)) rfl (Nat.le_of_ble_eq_true rfl) (cl := 7) (by decide +kernel) hs
theorem q145_138 : pm_V d 145 138 [l0, l1, l2, l3] (.int yi :: .int xi :: st) S Q = if xi = yi then pm_V d 145 971 [l0, l1, l2, l3] st S Q else pm_V d 145 141 [l0, l1, l2, l3] st S Q := pv_icmp_eq (pm_cdi rfl dL_law_138) rfl
theorem q145_141 : pm_V d 145 141 [l0, l1, l2, l3] st S Q = pm_V d 145 142 [l0, l1, l2, l3] (.int 0 :: st) S Q := pv_iconst (pm_cdi rfl dL_law_141) (by decide +kernel)
theorem q145_142 (hx : xi = 0 ∨ xi = 1) : pm_V d 145 142 [l0, l1, l2, l3] [.int xi] S Q = Q (some (.int xi)) S := pv_rZ (pm_cdi rfl dL_law_142) (by decide +kernel) hx
theorem q145_143 : pm_V d 145 143 [l0, .ref xn, l2, l3] st S Q = pm_V d 145 144 [l0, .ref xn, l2, l3] (.ref xn :: st) S Q := pv_aload_n (pm_cdi rfl dL_law_143) rfl
theorem q145_143N : pm_V d 145 143 [l0, .null, l2, l3] st S Q = pm_V d 145 144 [l0, .null, l2, l3] (.null :: st) S Q := pv_aload_nN (pm_cdi rfl dL_law_143) rfl
theorem q145_144 : pm_V d 145 144 [.ref xn, l1, l2, l3] st S Q = pm_V d 145 145 [.ref xn, l1, l2, l3] (.ref xn :: st) S Q := pv_aload_n (pm_cdi rfl dL_law_144) rfl
theorem q145_145 : pm_V d 145 145 [l0, l1, l2, .int xi] st S Q = pm_V d 145 146 [l0, l1, l2, .int xi] (.int xi :: st) S Q := pv_iload_n (pm_cdi rfl dL_law_145) rfl
theorem q145_146 : pm_V d 145 146 [l0, l1, l2, l3] st S Q = pm_V d 145 147 [l0, l1, l2, l3] (.int 1 :: st) S Q := pv_iconst (pm_cdi rfl dL_law_146) (by decide +kernel)
theorem q145_147 : pm_V d 145 147 [l0, l1, l2, l3] (.int yi :: .int xi :: st) S Q = pm_V d 145 148 [l0, l1, l2, l3] (.int (xi + yi) :: st) S Q := pv_iadd (pm_cdi rfl dL_law_147)
theorem q145_148 (hs : pm_ar S an 9 xi = true) : pm_V d 145 148 [l0, l1, l2, l3] (.int xi :: .ref an :: st) S Q = pm_V d 145 149 [l0, l1, l2, l3] (.int (pm_zi S an xi.toNatClampNeg) :: st) S Q := pv_sald (pm_cdi rfl dL_law_148) hs
theorem q145_149 : pm_V d 145 149 [.ref xn, l1, l2, l3] st S Q = pm_V d 145 150 [.ref xn, l1, l2, l3] (.ref xn :: st) S Q := pv_aload_n (pm_cdi rfl dL_law_149) rfl
theorem q145_150 : pm_V d 145 150 [l0, l1, l2, .int xi] st S Q = pm_V d 145 151 [l0, l1, l2, .int xi] (.int xi :: st) S Q := pv_iload_n (pm_cdi rfl dL_law_150) rfl
theorem q145_151 : pm_V d 145 151 [l0, l1, l2, l3] st S Q = pm_V d 145 152 [l0, l1, l2, l3] (.int 2 :: st) S Q := pv_iconst (pm_cdi rfl dL_law_151) (by decide +kernel)
theorem q145_152 : pm_V d 145 152 [l0, l1, l2, l3] (.int yi :: .int xi :: st) S Q = pm_V d 145 153 [l0, l1, l2, l3] (.int (xi + yi) :: st) S Q := pv_iadd (pm_cdi rfl dL_law_152)
theorem q145_153 (hs : pm_ar S an 9 xi = true) : pm_V d 145 153 [l0, l1, l2, l3] (.int xi :: .ref an :: st) S Q = pm_V d 145 154 [l0, l1, l2, l3] (.int (pm_zi S an xi.toNatClampNeg) :: st) S Q := pv_sald (pm_cdi rfl dL_law_153) hs
theorem q145_154 : pm_V d 145 154 [.ref xn, l1, l2, l3] st S Q = pm_V d 145 155 [.ref xn, l1, l2, l3] (.ref xn :: st) S Q := pv_aload_n (pm_cdi rfl dL_law_154) rfl
theorem q145_155 : pm_V d 145 155 [l0, l1, l2, .int xi] st S Q = pm_V d 145 156 [l0, l1, l2, .int xi] (.int xi :: st) S Q := pv_iload_n (pm_cdi rfl dL_law_155) rfl
theorem q145_156 : pm_V d 145 156 [l0, l1, l2, l3] st S Q = pm_V d 145 157 [l0, l1, l2, l3] (.int 3 :: st) S Q := pv_iconst (pm_cdi rfl dL_law_156) (by decide +kernel)
theorem q145_157 : pm_V d 145 157 [l0, l1, l2, l3] (.int yi :: .int xi :: st) S Q = pm_V d 145 158 [l0, l1, l2, l3] (.int (xi + yi) :: st) S Q := pv_iadd (pm_cdi rfl dL_law_157)
theorem q145_158 (hs : pm_ar S an 9 xi = true) : pm_V d 145 158 [l0, l1, l2, l3] (.int xi :: .ref an :: st) S Q = pm_V d 145 159 [l0, l1, l2, l3] (.int (pm_zi S an xi.toNatClampNeg) :: st) S Q := pv_sald (pm_cdi rfl dL_law_158) hs
theorem q145_159 : pm_V d 145 159 [.ref xn, l1, l2, l3] st S Q = pm_V d 145 160 [.ref xn, l1, l2, l3] (.ref xn :: st) S Q := pv_aload_n (pm_cdi rfl dL_law_159) rfl
theorem q145_160 : pm_V d 145 160 [l0, l1, l2, .int xi] st S Q = pm_V d 145 161 [l0, l1, l2, .int xi] (.int xi :: st) S Q := pv_iload_n (pm_cdi rfl dL_law_160) rfl
theorem q145_161 : pm_V d 145 161 [l0, l1, l2, l3] st S Q = pm_V d 145 162 [l0, l1, l2, l3] (.int 4 :: st) S Q := pv_iconst (pm_cdi rfl dL_law_161) (by decide +kernel)
theorem q145_162 : pm_V d 145 162 [l0, l1, l2, l3] (.int yi :: .int xi :: st) S Q = pm_V d 145 163 [l0, l1, l2, l3] (.int (xi + yi) :: st) S Q := pv_iadd (pm_cdi rfl dL_law_162)
theorem q145_163 (hs : pm_ar S an 9 xi = true) : pm_V d 145 163 [l0, l1, l2, l3] (.int xi :: .ref an :: st) S Q = pm_V d 145 164 [l0, l1, l2, l3] (.int (pm_zi S an xi.toNatClampNeg) :: st) S Q := pv_sald (pm_cdi rfl dL_law_163) hs
theorem q145_164 : pm_V d 145 164 [l0, l1, l2, l3] (.int xi :: st) S Q = pm_V d 145 165 [l0, l1, l2, l3] (.long xi.toInt64 :: st) S Q := pv_i2l (pm_cdi rfl dL_law_164)
theorem q145_165 : pm_V d 145 165 [l0, l1, l2, l3] st S Q = pm_V d 145 167 [l0, l1, l2, l3] (.int 32 :: st) S Q := pv_bipush (pm_cdi rfl dL_law_165) (by decide +kernel)
theorem q145_167 : pm_V d 145 167 [l0, l1, l2, l3] (.int yi :: .long xj :: st) S Q = pm_V d 145 168 [l0, l1, l2, l3] (.long (xj <<< (yi.toInt64 &&& 63)) :: st) S Q := pv_lshl (pm_cdi rfl dL_law_167)
theorem q145_168 : pm_V d 145 168 [.ref xn, l1, l2, l3] st S Q = pm_V d 145 169 [.ref xn, l1, l2, l3] (.ref xn :: st) S Q := pv_aload_n (pm_cdi rfl dL_law_168) rfl
theorem q145_169 : pm_V d 145 169 [l0, l1, l2, .int xi] st S Q = pm_V d 145 170 [l0, l1, l2, .int xi] (.int xi :: st) S Q := pv_iload_n (pm_cdi rfl dL_law_169) rfl
theorem q145_170 : pm_V d 145 170 [l0, l1, l2, l3] st S Q = pm_V d 145 171 [l0, l1, l2, l3] (.int 5 :: st) S Q := pv_iconst (pm_cdi rfl dL_law_170) (by decide +kernel)
theorem q145_171 : pm_V d 145 171 [l0, l1, l2, l3] (.int yi :: .int xi :: st) S Q = pm_V d 145 172 [l0, l1, l2, l3] (.int (xi + yi) :: st) S Q := pv_iadd (pm_cdi rfl dL_law_171)
theorem q145_172 (hs : pm_ar S an 9 xi = true) : pm_V d 145 172 [l0, l1, l2, l3] (.int xi :: .ref an :: st) S Q = pm_V d 145 173 [l0, l1, l2, l3] (.int (pm_zi S an xi.toNatClampNeg) :: st) S Q := pv_sald (pm_cdi rfl dL_law_172) hs
theorem q145_173 : pm_V d 145 173 [l0, l1, l2, l3] (.int xi :: st) S Q = pm_V d 145 174 [l0, l1, l2, l3] (.long xi.toInt64 :: st) S Q := pv_i2l (pm_cdi rfl dL_law_173)
theorem q145_174 : pm_V d 145 174 [l0, l1, l2, l3] st S Q = pm_V d 145 177 [l0, l1, l2, l3] (.long (4294967295) :: st) S Q := pv_ldc2 (pm_cdi rfl dL_law_174) (by decide +kernel)
theorem q145_177 : pm_V d 145 177 [l0, l1, l2, l3] (.long yj :: .long xj :: st) S Q = pm_V d 145 178 [l0, l1, l2, l3] (.long (xj &&& yj) :: st) S Q := pv_land (pm_cdi rfl dL_law_177)
theorem q145_178 : pm_V d 145 178 [l0, l1, l2, l3] (.long yj :: .long xj :: st) S Q = pm_V d 145 179 [l0, l1, l2, l3] (.long (xj ||| yj) :: st) S Q := pv_lor (pm_cdi rfl dL_law_178)
theorem q145_179 (hs : pm_sh S an = .inr 6) : pm_V (d + 1) 145 179 [l0, l1, l2, l3] [.long v3j, .int v2i, .int v1i, .int v0i, .ref an] S Q = pm_N d 57 [.ref an, .int v0i, .int v1i, .int v2i, .long v3j] S (fun r S' => pm_V (d + 1) 145 182 [l0, l1, l2, l3] (r.toList ++ []) S' Q) := pv_callV (as := [.int v0i, .int v1i, .int v2i, .long v3j]) (pm_cdi rfl dL_law_179) (Or.inl (by decide +kernel)) (by decide +kernel) (show _ = _ from (by decide +kernel : 4 = pm_np 57)) rfl (Nat.le_of_ble_eq_true rfl) (cl := 6) (by decide +kernel) hs
theorem q145_182 : pm_V d 145 182 [l0, l1, .ref xn, l3] st S Q = pm_V d 145 183 [l0, l1, .ref xn, l3] (.ref xn :: st) S Q := pv_aload_n (pm_cdi rfl dL_law_182) rfl
theorem q145_182N : pm_V d 145 182 [l0, l1, .null, l3] st S Q = pm_V d 145 183 [l0, l1, .null, l3] (.null :: st) S Q := pv_aload_nN (pm_cdi rfl dL_law_182) rfl
theorem q145_183 : pm_V d 145 183 [.ref xn, l1, l2, l3] st S Q = pm_V d 145 184 [.ref xn, l1, l2, l3] (.ref xn :: st) S Q := pv_aload_n (pm_cdi rfl dL_law_183) rfl
theorem q145_184 : pm_V d 145 184 [l0, l1, l2, .int xi] st S Q = pm_V d 145 185 [l0, l1, l2, .int xi] (.int xi :: st) S Q := pv_iload_n (pm_cdi rfl dL_law_184) rfl
theorem q145_185 : pm_V d 145 185 [l0, l1, l2, l3] st S Q = pm_V d 145 186 [l0, l1, l2, l3] (.int 1 :: st) S Q := pv_iconst (pm_cdi rfl dL_law_185) (by decide +kernel)
theorem q145_186 : pm_V d 145 186 [l0, l1, l2, l3] (.int yi :: .int xi :: st) S Q = pm_V d 145 187 [l0, l1, l2, l3] (.int (xi + yi) :: st) S Q := pv_iadd (pm_cdi rfl dL_law_186)
theorem q145_187 (hs : pm_ar S an 9 xi = true) : pm_V d 145 187 [l0, l1, l2, l3] (.int xi :: .ref an :: st) S Q = pm_V d 145 188 [l0, l1, l2, l3] (.int (pm_zi S an xi.toNatClampNeg) :: st) S Q := pv_sald (pm_cdi rfl dL_law_187) hs
theorem q145_188 : pm_V d 145 188 [.ref xn, l1, l2, l3] st S Q = pm_V d 145 189 [.ref xn, l1, l2, l3] (.ref xn :: st) S Q := pv_aload_n (pm_cdi rfl dL_law_188) rfl
theorem q145_189 : pm_V d 145 189 [l0, l1, l2, .int xi] st S Q = pm_V d 145 190 [l0, l1, l2, .int xi] (.int xi :: st) S Q := pv_iload_n (pm_cdi rfl dL_law_189) rfl
theorem q145_190 : pm_V d 145 190 [l0, l1, l2, l3] st S Q = pm_V d 145 191 [l0, l1, l2, l3] (.int 2 :: st) S Q := pv_iconst (pm_cdi rfl dL_law_190) (by decide +kernel)
theorem q145_191 : pm_V d 145 191 [l0, l1, l2, l3] (.int yi :: .int xi :: st) S Q = pm_V d 145 192 [l0, l1, l2, l3] (.int (xi + yi) :: st) S Q := pv_iadd (pm_cdi rfl dL_law_191)
theorem q145_192 (hs : pm_ar S an 9 xi = true) : pm_V d 145 192 [l0, l1, l2, l3] (.int xi :: .ref an :: st) S Q = pm_V d 145 193 [l0, l1, l2, l3] (.int (pm_zi S an xi.toNatClampNeg) :: st) S Q := pv_sald (pm_cdi rfl dL_law_192) hs
theorem q145_193 : pm_V d 145 193 [.ref xn, l1, l2, l3] st S Q = pm_V d 145 194 [.ref xn, l1, l2, l3] (.ref xn :: st) S Q := pv_aload_n (pm_cdi rfl dL_law_193) rfl
theorem q145_194 : pm_V d 145 194 [l0, l1, l2, .int xi] st S Q = pm_V d 145 195 [l0, l1, l2, .int xi] (.int xi :: st) S Q := pv_iload_n (pm_cdi rfl dL_law_194) rfl
theorem q145_195 : pm_V d 145 195 [l0, l1, l2, l3] st S Q = pm_V d 145 196 [l0, l1, l2, l3] (.int 3 :: st) S Q := pv_iconst (pm_cdi rfl dL_law_195) (by decide +kernel)
theorem q145_196 : pm_V d 145 196 [l0, l1, l2, l3] (.int yi :: .int xi :: st) S Q = pm_V d 145 197 [l0, l1, l2, l3] (.int (xi + yi) :: st) S Q := pv_iadd (pm_cdi rfl dL_law_196)
theorem q145_197 (hs : pm_ar S an 9 xi = true) : pm_V d 145 197 [l0, l1, l2, l3] (.int xi :: .ref an :: st) S Q = pm_V d 145 198 [l0, l1, l2, l3] (.int (pm_zi S an xi.toNatClampNeg) :: st) S Q := pv_sald (pm_cdi rfl dL_law_197) hs
theorem q145_198 : pm_V d 145 198 [.ref xn, l1, l2, l3] st S Q = pm_V d 145 199 [.ref xn, l1, l2, l3] (.ref xn :: st) S Q := pv_aload_n (pm_cdi rfl dL_law_198) rfl
theorem q145_199 : pm_V d 145 199 [l0, l1, l2, .int xi] st S Q = pm_V d 145 200 [l0, l1, l2, .int xi] (.int xi :: st) S Q := pv_iload_n (pm_cdi rfl dL_law_199) rfl
theorem q145_200 : pm_V d 145 200 [l0, l1, l2, l3] st S Q = pm_V d 145 201 [l0, l1, l2, l3] (.int 4 :: st) S Q := pv_iconst (pm_cdi rfl dL_law_200) (by decide +kernel)
theorem q145_201 : pm_V d 145 201 [l0, l1, l2, l3] (.int yi :: .int xi :: st) S Q = pm_V d 145 202 [l0, l1, l2, l3] (.int (xi + yi) :: st) S Q := pv_iadd (pm_cdi rfl dL_law_201)
theorem q145_202 (hs : pm_ar S an 9 xi = true) : pm_V d 145 202 [l0, l1, l2, l3] (.int xi :: .ref an :: st) S Q = pm_V d 145 203 [l0, l1, l2, l3] (.int (pm_zi S an xi.toNatClampNeg) :: st) S Q := pv_sald (pm_cdi rfl dL_law_202) hs
theorem q145_203 : pm_V d 145 203 [l0, l1, l2, l3] (.int xi :: st) S Q = pm_V d 145 204 [l0, l1, l2, l3] (.long xi.toInt64 :: st) S Q := pv_i2l (pm_cdi rfl dL_law_203)
theorem q145_204 : pm_V d 145 204 [l0, l1, l2, l3] st S Q = pm_V d 145 206 [l0, l1, l2, l3] (.int 32 :: st) S Q := pv_bipush (pm_cdi rfl dL_law_204) (by decide +kernel)
theorem q145_206 : pm_V d 145 206 [l0, l1, l2, l3] (.int yi :: .long xj :: st) S Q = pm_V d 145 207 [l0, l1, l2, l3] (.long (xj <<< (yi.toInt64 &&& 63)) :: st) S Q := pv_lshl (pm_cdi rfl dL_law_206)
theorem q145_207 : pm_V d 145 207 [.ref xn, l1, l2, l3] st S Q = pm_V d 145 208 [.ref xn, l1, l2, l3] (.ref xn :: st) S Q := pv_aload_n (pm_cdi rfl dL_law_207) rfl
theorem q145_208 : pm_V d 145 208 [l0, l1, l2, .int xi] st S Q = pm_V d 145 209 [l0, l1, l2, .int xi] (.int xi :: st) S Q := pv_iload_n (pm_cdi rfl dL_law_208) rfl
theorem q145_209 : pm_V d 145 209 [l0, l1, l2, l3] st S Q = pm_V d 145 210 [l0, l1, l2, l3] (.int 5 :: st) S Q := pv_iconst (pm_cdi rfl dL_law_209) (by decide +kernel)
theorem q145_210 : pm_V d 145 210 [l0, l1, l2, l3] (.int yi :: .int xi :: st) S Q = pm_V d 145 211 [l0, l1, l2, l3] (.int (xi + yi) :: st) S Q := pv_iadd (pm_cdi rfl dL_law_210)
theorem q145_211 (hs : pm_ar S an 9 xi = true) : pm_V d 145 211 [l0, l1, l2, l3] (.int xi :: .ref an :: st) S Q = pm_V d 145 212 [l0, l1, l2, l3] (.int (pm_zi S an xi.toNatClampNeg) :: st) S Q := pv_sald (pm_cdi rfl dL_law_211) hs
theorem q145_212 : pm_V d 145 212 [l0, l1, l2, l3] (.int xi :: st) S Q = pm_V d 145 213 [l0, l1, l2, l3] (.long xi.toInt64 :: st) S Q := pv_i2l (pm_cdi rfl dL_law_212)
theorem q145_213 : pm_V d 145 213 [l0, l1, l2, l3] st S Q = pm_V d 145 216 [l0, l1, l2, l3] (.long (4294967295) :: st) S Q := pv_ldc2 (pm_cdi rfl dL_law_213) (by decide +kernel)
theorem q145_216 : pm_V d 145 216 [l0, l1, l2, l3] (.long yj :: .long xj :: st) S Q = pm_V d 145 217 [l0, l1, l2, l3] (.long (xj &&& yj) :: st) S Q := pv_land (pm_cdi rfl dL_law_216)
theorem q145_217 : pm_V d 145 217 [l0, l1, l2, l3] (.long yj :: .long xj :: st) S Q = pm_V d 145 218 [l0, l1, l2, l3] (.long (xj ||| yj) :: st) S Q := pv_lor (pm_cdi rfl dL_law_217)
theorem q145_218 (hs : pm_sh S an = .inr 7) : pm_V (d + 1) 145 218 [l0, l1, l2, l3] [.long v3j, .int v2i, .int v1i, .int v0i, .ref an, .int r0i] S Q = pm_N d 93 [.ref an, .int v0i, .int v1i, .int v2i, .long v3j] S (fun r S' => pm_V (d + 1) 145 221 [l0, l1, l2, l3] (r.toList ++ [.int r0i]) S' Q) := pv_callV (as := [.int v0i, .int v1i, .int v2i, .long v3j]) (pm_cdi rfl dL_law_218) (Or.inl (by decide +kernel)) (by decide +kernel) (show _ = _ from (by decide +kernel : 4 = pm_np 93)) rfl (Nat.le_of_ble_eq_true rfl) (cl := 7) (by decide +kernel) hs
theorem q145_221 : pm_V d 145 221 [l0, l1, l2, l3] (.int yi :: .int xi :: st) S Q = if xi = yi then pm_V d 145 971 [l0, l1, l2, l3] st S Q else pm_V d 145 224 [l0, l1, l2, l3] st S Q := pv_icmp_eq (pm_cdi rfl dL_law_221) rfl
theorem q145_224 : pm_V d 145 224 [l0, l1, l2, l3] st S Q = pm_V d 145 225 [l0, l1, l2, l3] (.int 0 :: st) S Q := pv_iconst (pm_cdi rfl dL_law_224) (by decide +kernel)
theorem q145_225 (hx : xi = 0 ∨ xi = 1) : pm_V d 145 225 [l0, l1, l2, l3] [.int xi] S Q = Q (some (.int xi)) S := pv_rZ (pm_cdi rfl dL_law_225) (by decide +kernel) hx
theorem q145_226 : pm_V d 145 226 [l0, .ref xn, l2, l3] st S Q = pm_V d 145 227 [l0, .ref xn, l2, l3] (.ref xn :: st) S Q := pv_aload_n (pm_cdi rfl dL_law_226) rfl
theorem q145_226N : pm_V d 145 226 [l0, .null, l2, l3] st S Q = pm_V d 145 227 [l0, .null, l2, l3] (.null :: st) S Q := pv_aload_nN (pm_cdi rfl dL_law_226) rfl
theorem q145_227 : pm_V d 145 227 [.ref xn, l1, l2, l3] st S Q = pm_V d 145 228 [.ref xn, l1, l2, l3] (.ref xn :: st) S Q := pv_aload_n (pm_cdi rfl dL_law_227) rfl
theorem q145_228 : pm_V d 145 228 [l0, l1, l2, .int xi] st S Q = pm_V d 145 229 [l0, l1, l2, .int xi] (.int xi :: st) S Q := pv_iload_n (pm_cdi rfl dL_law_228) rfl
theorem q145_229 : pm_V d 145 229 [l0, l1, l2, l3] st S Q = pm_V d 145 230 [l0, l1, l2, l3] (.int 1 :: st) S Q := pv_iconst (pm_cdi rfl dL_law_229) (by decide +kernel)
theorem q145_230 : pm_V d 145 230 [l0, l1, l2, l3] (.int yi :: .int xi :: st) S Q = pm_V d 145 231 [l0, l1, l2, l3] (.int (xi + yi) :: st) S Q := pv_iadd (pm_cdi rfl dL_law_230)
theorem q145_231 (hs : pm_ar S an 9 xi = true) : pm_V d 145 231 [l0, l1, l2, l3] (.int xi :: .ref an :: st) S Q = pm_V d 145 232 [l0, l1, l2, l3] (.int (pm_zi S an xi.toNatClampNeg) :: st) S Q := pv_sald (pm_cdi rfl dL_law_231) hs
theorem q145_232 : pm_V d 145 232 [.ref xn, l1, l2, l3] st S Q = pm_V d 145 233 [.ref xn, l1, l2, l3] (.ref xn :: st) S Q := pv_aload_n (pm_cdi rfl dL_law_232) rfl
theorem q145_233 : pm_V d 145 233 [l0, l1, l2, .int xi] st S Q = pm_V d 145 234 [l0, l1, l2, .int xi] (.int xi :: st) S Q := pv_iload_n (pm_cdi rfl dL_law_233) rfl
theorem q145_234 : pm_V d 145 234 [l0, l1, l2, l3] st S Q = pm_V d 145 235 [l0, l1, l2, l3] (.int 2 :: st) S Q := pv_iconst (pm_cdi rfl dL_law_234) (by decide +kernel)
theorem q145_235 : pm_V d 145 235 [l0, l1, l2, l3] (.int yi :: .int xi :: st) S Q = pm_V d 145 236 [l0, l1, l2, l3] (.int (xi + yi) :: st) S Q := pv_iadd (pm_cdi rfl dL_law_235)
theorem q145_236 (hs : pm_ar S an 9 xi = true) : pm_V d 145 236 [l0, l1, l2, l3] (.int xi :: .ref an :: st) S Q = pm_V d 145 237 [l0, l1, l2, l3] (.int (pm_zi S an xi.toNatClampNeg) :: st) S Q := pv_sald (pm_cdi rfl dL_law_236) hs
theorem q145_237 : pm_V d 145 237 [.ref xn, l1, l2, l3] st S Q = pm_V d 145 238 [.ref xn, l1, l2, l3] (.ref xn :: st) S Q := pv_aload_n (pm_cdi rfl dL_law_237) rfl
theorem q145_238 : pm_V d 145 238 [l0, l1, l2, .int xi] st S Q = pm_V d 145 239 [l0, l1, l2, .int xi] (.int xi :: st) S Q := pv_iload_n (pm_cdi rfl dL_law_238) rfl
theorem q145_239 : pm_V d 145 239 [l0, l1, l2, l3] st S Q = pm_V d 145 240 [l0, l1, l2, l3] (.int 3 :: st) S Q := pv_iconst (pm_cdi rfl dL_law_239) (by decide +kernel)
theorem q145_240 : pm_V d 145 240 [l0, l1, l2, l3] (.int yi :: .int xi :: st) S Q = pm_V d 145 241 [l0, l1, l2, l3] (.int (xi + yi) :: st) S Q := pv_iadd (pm_cdi rfl dL_law_240)
theorem q145_241 (hs : pm_ar S an 9 xi = true) : pm_V d 145 241 [l0, l1, l2, l3] (.int xi :: .ref an :: st) S Q = pm_V d 145 242 [l0, l1, l2, l3] (.int (pm_zi S an xi.toNatClampNeg) :: st) S Q := pv_sald (pm_cdi rfl dL_law_241) hs
theorem q145_242 : pm_V d 145 242 [.ref xn, l1, l2, l3] st S Q = pm_V d 145 243 [.ref xn, l1, l2, l3] (.ref xn :: st) S Q := pv_aload_n (pm_cdi rfl dL_law_242) rfl
theorem q145_243 : pm_V d 145 243 [l0, l1, l2, .int xi] st S Q = pm_V d 145 244 [l0, l1, l2, .int xi] (.int xi :: st) S Q := pv_iload_n (pm_cdi rfl dL_law_243) rfl
theorem q145_244 : pm_V d 145 244 [l0, l1, l2, l3] st S Q = pm_V d 145 245 [l0, l1, l2, l3] (.int 4 :: st) S Q := pv_iconst (pm_cdi rfl dL_law_244) (by decide +kernel)
theorem q145_245 : pm_V d 145 245 [l0, l1, l2, l3] (.int yi :: .int xi :: st) S Q = pm_V d 145 246 [l0, l1, l2, l3] (.int (xi + yi) :: st) S Q := pv_iadd (pm_cdi rfl dL_law_245)
theorem q145_246 (hs : pm_ar S an 9 xi = true) : pm_V d 145 246 [l0, l1, l2, l3] (.int xi :: .ref an :: st) S Q = pm_V d 145 247 [l0, l1, l2, l3] (.int (pm_zi S an xi.toNatClampNeg) :: st) S Q := pv_sald (pm_cdi rfl dL_law_246) hs
theorem q145_247 : pm_V d 145 247 [l0, l1, l2, l3] (.int xi :: st) S Q = pm_V d 145 248 [l0, l1, l2, l3] (.long xi.toInt64 :: st) S Q := pv_i2l (pm_cdi rfl dL_law_247)
theorem q145_248 : pm_V d 145 248 [l0, l1, l2, l3] st S Q = pm_V d 145 250 [l0, l1, l2, l3] (.int 32 :: st) S Q := pv_bipush (pm_cdi rfl dL_law_248) (by decide +kernel)
theorem q145_250 : pm_V d 145 250 [l0, l1, l2, l3] (.int yi :: .long xj :: st) S Q = pm_V d 145 251 [l0, l1, l2, l3] (.long (xj <<< (yi.toInt64 &&& 63)) :: st) S Q := pv_lshl (pm_cdi rfl dL_law_250)
theorem q145_251 : pm_V d 145 251 [.ref xn, l1, l2, l3] st S Q = pm_V d 145 252 [.ref xn, l1, l2, l3] (.ref xn :: st) S Q := pv_aload_n (pm_cdi rfl dL_law_251) rfl
theorem q145_252 : pm_V d 145 252 [l0, l1, l2, .int xi] st S Q = pm_V d 145 253 [l0, l1, l2, .int xi] (.int xi :: st) S Q := pv_iload_n (pm_cdi rfl dL_law_252) rfl
theorem q145_253 : pm_V d 145 253 [l0, l1, l2, l3] st S Q = pm_V d 145 254 [l0, l1, l2, l3] (.int 5 :: st) S Q := pv_iconst (pm_cdi rfl dL_law_253) (by decide +kernel)
theorem q145_254 : pm_V d 145 254 [l0, l1, l2, l3] (.int yi :: .int xi :: st) S Q = pm_V d 145 255 [l0, l1, l2, l3] (.int (xi + yi) :: st) S Q := pv_iadd (pm_cdi rfl dL_law_254)
theorem q145_255 (hs : pm_ar S an 9 xi = true) : pm_V d 145 255 [l0, l1, l2, l3] (.int xi :: .ref an :: st) S Q = pm_V d 145 256 [l0, l1, l2, l3] (.int (pm_zi S an xi.toNatClampNeg) :: st) S Q := pv_sald (pm_cdi rfl dL_law_255) hs
theorem q145_256 : pm_V d 145 256 [l0, l1, l2, l3] (.int xi :: st) S Q = pm_V d 145 257 [l0, l1, l2, l3] (.long xi.toInt64 :: st) S Q := pv_i2l (pm_cdi rfl dL_law_256)
theorem q145_257 : pm_V d 145 257 [l0, l1, l2, l3] st S Q = pm_V d 145 260 [l0, l1, l2, l3] (.long (4294967295) :: st) S Q := pv_ldc2 (pm_cdi rfl dL_law_257) (by decide +kernel)
theorem q145_260 : pm_V d 145 260 [l0, l1, l2, l3] (.long yj :: .long xj :: st) S Q = pm_V d 145 261 [l0, l1, l2, l3] (.long (xj &&& yj) :: st) S Q := pv_land (pm_cdi rfl dL_law_260)
theorem q145_261 : pm_V d 145 261 [l0, l1, l2, l3] (.long yj :: .long xj :: st) S Q = pm_V d 145 262 [l0, l1, l2, l3] (.long (xj ||| yj) :: st) S Q := pv_lor (pm_cdi rfl dL_law_261)
theorem q145_262 (hs : pm_sh S an = .inr 6) : pm_V (d + 1) 145 262 [l0, l1, l2, l3] [.long v3j, .int v2i, .int v1i, .int v0i, .ref an] S Q = pm_N d 58 [.ref an, .int v0i, .int v1i, .int v2i, .long v3j] S (fun r S' => pm_V (d + 1) 145 265 [l0, l1, l2, l3] (r.toList ++ []) S' Q) := pv_callV (as := [.int v0i, .int v1i, .int v2i, .long v3j]) (pm_cdi rfl dL_law_262) (Or.inl (by decide +kernel)) (by decide +kernel) (show _ = _ from (by decide +kernel : 4 = pm_np 58)) rfl (Nat.le_of_ble_eq_true rfl) (cl := 6) (by decide +kernel) hs
theorem q145_265 : pm_V d 145 265 [l0, l1, .ref xn, l3] st S Q = pm_V d 145 266 [l0, l1, .ref xn, l3] (.ref xn :: st) S Q := pv_aload_n (pm_cdi rfl dL_law_265) rfl
theorem q145_265N : pm_V d 145 265 [l0, l1, .null, l3] st S Q = pm_V d 145 266 [l0, l1, .null, l3] (.null :: st) S Q := pv_aload_nN (pm_cdi rfl dL_law_265) rfl
theorem q145_266 : pm_V d 145 266 [.ref xn, l1, l2, l3] st S Q = pm_V d 145 267 [.ref xn, l1, l2, l3] (.ref xn :: st) S Q := pv_aload_n (pm_cdi rfl dL_law_266) rfl
theorem q145_267 : pm_V d 145 267 [l0, l1, l2, .int xi] st S Q = pm_V d 145 268 [l0, l1, l2, .int xi] (.int xi :: st) S Q := pv_iload_n (pm_cdi rfl dL_law_267) rfl
theorem q145_268 : pm_V d 145 268 [l0, l1, l2, l3] st S Q = pm_V d 145 269 [l0, l1, l2, l3] (.int 1 :: st) S Q := pv_iconst (pm_cdi rfl dL_law_268) (by decide +kernel)
theorem q145_269 : pm_V d 145 269 [l0, l1, l2, l3] (.int yi :: .int xi :: st) S Q = pm_V d 145 270 [l0, l1, l2, l3] (.int (xi + yi) :: st) S Q := pv_iadd (pm_cdi rfl dL_law_269)
theorem q145_270 (hs : pm_ar S an 9 xi = true) : pm_V d 145 270 [l0, l1, l2, l3] (.int xi :: .ref an :: st) S Q = pm_V d 145 271 [l0, l1, l2, l3] (.int (pm_zi S an xi.toNatClampNeg) :: st) S Q := pv_sald (pm_cdi rfl dL_law_270) hs
theorem q145_271 : pm_V d 145 271 [.ref xn, l1, l2, l3] st S Q = pm_V d 145 272 [.ref xn, l1, l2, l3] (.ref xn :: st) S Q := pv_aload_n (pm_cdi rfl dL_law_271) rfl
theorem q145_272 : pm_V d 145 272 [l0, l1, l2, .int xi] st S Q = pm_V d 145 273 [l0, l1, l2, .int xi] (.int xi :: st) S Q := pv_iload_n (pm_cdi rfl dL_law_272) rfl
theorem q145_273 : pm_V d 145 273 [l0, l1, l2, l3] st S Q = pm_V d 145 274 [l0, l1, l2, l3] (.int 2 :: st) S Q := pv_iconst (pm_cdi rfl dL_law_273) (by decide +kernel)
theorem q145_274 : pm_V d 145 274 [l0, l1, l2, l3] (.int yi :: .int xi :: st) S Q = pm_V d 145 275 [l0, l1, l2, l3] (.int (xi + yi) :: st) S Q := pv_iadd (pm_cdi rfl dL_law_274)
theorem q145_275 (hs : pm_ar S an 9 xi = true) : pm_V d 145 275 [l0, l1, l2, l3] (.int xi :: .ref an :: st) S Q = pm_V d 145 276 [l0, l1, l2, l3] (.int (pm_zi S an xi.toNatClampNeg) :: st) S Q := pv_sald (pm_cdi rfl dL_law_275) hs
theorem q145_276 : pm_V d 145 276 [.ref xn, l1, l2, l3] st S Q = pm_V d 145 277 [.ref xn, l1, l2, l3] (.ref xn :: st) S Q := pv_aload_n (pm_cdi rfl dL_law_276) rfl
theorem q145_277 : pm_V d 145 277 [l0, l1, l2, .int xi] st S Q = pm_V d 145 278 [l0, l1, l2, .int xi] (.int xi :: st) S Q := pv_iload_n (pm_cdi rfl dL_law_277) rfl
theorem q145_278 : pm_V d 145 278 [l0, l1, l2, l3] st S Q = pm_V d 145 279 [l0, l1, l2, l3] (.int 3 :: st) S Q := pv_iconst (pm_cdi rfl dL_law_278) (by decide +kernel)
theorem q145_279 : pm_V d 145 279 [l0, l1, l2, l3] (.int yi :: .int xi :: st) S Q = pm_V d 145 280 [l0, l1, l2, l3] (.int (xi + yi) :: st) S Q := pv_iadd (pm_cdi rfl dL_law_279)
theorem q145_280 (hs : pm_ar S an 9 xi = true) : pm_V d 145 280 [l0, l1, l2, l3] (.int xi :: .ref an :: st) S Q = pm_V d 145 281 [l0, l1, l2, l3] (.int (pm_zi S an xi.toNatClampNeg) :: st) S Q := pv_sald (pm_cdi rfl dL_law_280) hs
theorem q145_281 : pm_V d 145 281 [.ref xn, l1, l2, l3] st S Q = pm_V d 145 282 [.ref xn, l1, l2, l3] (.ref xn :: st) S Q := pv_aload_n (pm_cdi rfl dL_law_281) rfl
theorem q145_282 : pm_V d 145 282 [l0, l1, l2, .int xi] st S Q = pm_V d 145 283 [l0, l1, l2, .int xi] (.int xi :: st) S Q := pv_iload_n (pm_cdi rfl dL_law_282) rfl
theorem q145_283 : pm_V d 145 283 [l0, l1, l2, l3] st S Q = pm_V d 145 284 [l0, l1, l2, l3] (.int 4 :: st) S Q := pv_iconst (pm_cdi rfl dL_law_283) (by decide +kernel)
theorem q145_284 : pm_V d 145 284 [l0, l1, l2, l3] (.int yi :: .int xi :: st) S Q = pm_V d 145 285 [l0, l1, l2, l3] (.int (xi + yi) :: st) S Q := pv_iadd (pm_cdi rfl dL_law_284)
theorem q145_285 (hs : pm_ar S an 9 xi = true) : pm_V d 145 285 [l0, l1, l2, l3] (.int xi :: .ref an :: st) S Q = pm_V d 145 286 [l0, l1, l2, l3] (.int (pm_zi S an xi.toNatClampNeg) :: st) S Q := pv_sald (pm_cdi rfl dL_law_285) hs
theorem q145_286 : pm_V d 145 286 [l0, l1, l2, l3] (.int xi :: st) S Q = pm_V d 145 287 [l0, l1, l2, l3] (.long xi.toInt64 :: st) S Q := pv_i2l (pm_cdi rfl dL_law_286)
theorem q145_287 : pm_V d 145 287 [l0, l1, l2, l3] st S Q = pm_V d 145 289 [l0, l1, l2, l3] (.int 32 :: st) S Q := pv_bipush (pm_cdi rfl dL_law_287) (by decide +kernel)
theorem q145_289 : pm_V d 145 289 [l0, l1, l2, l3] (.int yi :: .long xj :: st) S Q = pm_V d 145 290 [l0, l1, l2, l3] (.long (xj <<< (yi.toInt64 &&& 63)) :: st) S Q := pv_lshl (pm_cdi rfl dL_law_289)
theorem q145_290 : pm_V d 145 290 [.ref xn, l1, l2, l3] st S Q = pm_V d 145 291 [.ref xn, l1, l2, l3] (.ref xn :: st) S Q := pv_aload_n (pm_cdi rfl dL_law_290) rfl
theorem q145_291 : pm_V d 145 291 [l0, l1, l2, .int xi] st S Q = pm_V d 145 292 [l0, l1, l2, .int xi] (.int xi :: st) S Q := pv_iload_n (pm_cdi rfl dL_law_291) rfl
theorem q145_292 : pm_V d 145 292 [l0, l1, l2, l3] st S Q = pm_V d 145 293 [l0, l1, l2, l3] (.int 5 :: st) S Q := pv_iconst (pm_cdi rfl dL_law_292) (by decide +kernel)
theorem q145_293 : pm_V d 145 293 [l0, l1, l2, l3] (.int yi :: .int xi :: st) S Q = pm_V d 145 294 [l0, l1, l2, l3] (.int (xi + yi) :: st) S Q := pv_iadd (pm_cdi rfl dL_law_293)
theorem q145_294 (hs : pm_ar S an 9 xi = true) : pm_V d 145 294 [l0, l1, l2, l3] (.int xi :: .ref an :: st) S Q = pm_V d 145 295 [l0, l1, l2, l3] (.int (pm_zi S an xi.toNatClampNeg) :: st) S Q := pv_sald (pm_cdi rfl dL_law_294) hs
theorem q145_295 : pm_V d 145 295 [l0, l1, l2, l3] (.int xi :: st) S Q = pm_V d 145 296 [l0, l1, l2, l3] (.long xi.toInt64 :: st) S Q := pv_i2l (pm_cdi rfl dL_law_295)
theorem q145_296 : pm_V d 145 296 [l0, l1, l2, l3] st S Q = pm_V d 145 299 [l0, l1, l2, l3] (.long (4294967295) :: st) S Q := pv_ldc2 (pm_cdi rfl dL_law_296) (by decide +kernel)
theorem q145_299 : pm_V d 145 299 [l0, l1, l2, l3] (.long yj :: .long xj :: st) S Q = pm_V d 145 300 [l0, l1, l2, l3] (.long (xj &&& yj) :: st) S Q := pv_land (pm_cdi rfl dL_law_299)
theorem q145_300 : pm_V d 145 300 [l0, l1, l2, l3] (.long yj :: .long xj :: st) S Q = pm_V d 145 301 [l0, l1, l2, l3] (.long (xj ||| yj) :: st) S Q := pv_lor (pm_cdi rfl dL_law_300)
theorem q145_301 (hs : pm_sh S an = .inr 7) : pm_V (d + 1) 145 301 [l0, l1, l2, l3] [.long v3j, .int v2i, .int v1i, .int v0i, .ref an, .int r0i] S Q = pm_N d 94 [.ref an, .int v0i, .int v1i, .int v2i, .long v3j] S (fun r S' => pm_V (d + 1) 145 304 [l0, l1, l2, l3] (r.toList ++ [.int r0i]) S' Q) := pv_callV (as := [.int v0i, .int v1i, .int v2i, .long v3j]) (pm_cdi rfl dL_law_301) (Or.inl (by decide +kernel)) (by decide +kernel) (show _ = _ from (by decide +kernel : 4 = pm_np 94)) rfl (Nat.le_of_ble_eq_true rfl) (cl := 7) (by decide +kernel) hs
theorem q145_304 : pm_V d 145 304 [l0, l1, l2, l3] (.int yi :: .int xi :: st) S Q = if xi = yi then pm_V d 145 971 [l0, l1, l2, l3] st S Q else pm_V d 145 307 [l0, l1, l2, l3] st S Q := pv_icmp_eq (pm_cdi rfl dL_law_304) rfl
theorem q145_307 : pm_V d 145 307 [l0, l1, l2, l3] st S Q = pm_V d 145 308 [l0, l1, l2, l3] (.int 0 :: st) S Q := pv_iconst (pm_cdi rfl dL_law_307) (by decide +kernel)
theorem q145_308 (hx : xi = 0 ∨ xi = 1) : pm_V d 145 308 [l0, l1, l2, l3] [.int xi] S Q = Q (some (.int xi)) S := pv_rZ (pm_cdi rfl dL_law_308) (by decide +kernel) hx
theorem q145_309 : pm_V d 145 309 [l0, .ref xn, l2, l3] st S Q = pm_V d 145 310 [l0, .ref xn, l2, l3] (.ref xn :: st) S Q := pv_aload_n (pm_cdi rfl dL_law_309) rfl
theorem q145_309N : pm_V d 145 309 [l0, .null, l2, l3] st S Q = pm_V d 145 310 [l0, .null, l2, l3] (.null :: st) S Q := pv_aload_nN (pm_cdi rfl dL_law_309) rfl
theorem q145_310 : pm_V d 145 310 [.ref xn, l1, l2, l3] st S Q = pm_V d 145 311 [.ref xn, l1, l2, l3] (.ref xn :: st) S Q := pv_aload_n (pm_cdi rfl dL_law_310) rfl
theorem q145_311 : pm_V d 145 311 [l0, l1, l2, .int xi] st S Q = pm_V d 145 312 [l0, l1, l2, .int xi] (.int xi :: st) S Q := pv_iload_n (pm_cdi rfl dL_law_311) rfl
theorem q145_312 : pm_V d 145 312 [l0, l1, l2, l3] st S Q = pm_V d 145 313 [l0, l1, l2, l3] (.int 1 :: st) S Q := pv_iconst (pm_cdi rfl dL_law_312) (by decide +kernel)
theorem q145_313 : pm_V d 145 313 [l0, l1, l2, l3] (.int yi :: .int xi :: st) S Q = pm_V d 145 314 [l0, l1, l2, l3] (.int (xi + yi) :: st) S Q := pv_iadd (pm_cdi rfl dL_law_313)
theorem q145_314 (hs : pm_ar S an 9 xi = true) : pm_V d 145 314 [l0, l1, l2, l3] (.int xi :: .ref an :: st) S Q = pm_V d 145 315 [l0, l1, l2, l3] (.int (pm_zi S an xi.toNatClampNeg) :: st) S Q := pv_sald (pm_cdi rfl dL_law_314) hs
theorem q145_315 : pm_V d 145 315 [.ref xn, l1, l2, l3] st S Q = pm_V d 145 316 [.ref xn, l1, l2, l3] (.ref xn :: st) S Q := pv_aload_n (pm_cdi rfl dL_law_315) rfl
theorem q145_316 : pm_V d 145 316 [l0, l1, l2, .int xi] st S Q = pm_V d 145 317 [l0, l1, l2, .int xi] (.int xi :: st) S Q := pv_iload_n (pm_cdi rfl dL_law_316) rfl
theorem q145_317 : pm_V d 145 317 [l0, l1, l2, l3] st S Q = pm_V d 145 318 [l0, l1, l2, l3] (.int 2 :: st) S Q := pv_iconst (pm_cdi rfl dL_law_317) (by decide +kernel)
theorem q145_318 : pm_V d 145 318 [l0, l1, l2, l3] (.int yi :: .int xi :: st) S Q = pm_V d 145 319 [l0, l1, l2, l3] (.int (xi + yi) :: st) S Q := pv_iadd (pm_cdi rfl dL_law_318)
theorem q145_319 (hs : pm_ar S an 9 xi = true) : pm_V d 145 319 [l0, l1, l2, l3] (.int xi :: .ref an :: st) S Q = pm_V d 145 320 [l0, l1, l2, l3] (.int (pm_zi S an xi.toNatClampNeg) :: st) S Q := pv_sald (pm_cdi rfl dL_law_319) hs
theorem q145_320 : pm_V d 145 320 [.ref xn, l1, l2, l3] st S Q = pm_V d 145 321 [.ref xn, l1, l2, l3] (.ref xn :: st) S Q := pv_aload_n (pm_cdi rfl dL_law_320) rfl
theorem q145_321 : pm_V d 145 321 [l0, l1, l2, .int xi] st S Q = pm_V d 145 322 [l0, l1, l2, .int xi] (.int xi :: st) S Q := pv_iload_n (pm_cdi rfl dL_law_321) rfl
theorem q145_322 : pm_V d 145 322 [l0, l1, l2, l3] st S Q = pm_V d 145 323 [l0, l1, l2, l3] (.int 3 :: st) S Q := pv_iconst (pm_cdi rfl dL_law_322) (by decide +kernel)
theorem q145_323 : pm_V d 145 323 [l0, l1, l2, l3] (.int yi :: .int xi :: st) S Q = pm_V d 145 324 [l0, l1, l2, l3] (.int (xi + yi) :: st) S Q := pv_iadd (pm_cdi rfl dL_law_323)
theorem q145_324 (hs : pm_ar S an 9 xi = true) : pm_V d 145 324 [l0, l1, l2, l3] (.int xi :: .ref an :: st) S Q = pm_V d 145 325 [l0, l1, l2, l3] (.int (pm_zi S an xi.toNatClampNeg) :: st) S Q := pv_sald (pm_cdi rfl dL_law_324) hs
theorem q145_325 (hs : pm_sh S an = .inr 6) : pm_V (d + 1) 145 325 [l0, l1, l2, l3] [.int v2i, .int v1i, .int v0i, .ref an] S Q = pm_N d 59 [.ref an, .int v0i, .int v1i, .int v2i] S (fun r S' => pm_V (d + 1) 145 328 [l0, l1, l2, l3] (r.toList ++ []) S' Q) := pv_callV (as := [.int v0i, .int v1i, .int v2i]) (pm_cdi rfl dL_law_325) (Or.inl (by decide +kernel)) (by decide +kernel) (show _ = _ from (by decide +kernel : 3 = pm_np 59)) rfl (Nat.le_of_ble_eq_true rfl) (cl := 6) (by decide +kernel) hs
theorem q145_328 : pm_V d 145 328 [l0, l1, .ref xn, l3] st S Q = pm_V d 145 329 [l0, l1, .ref xn, l3] (.ref xn :: st) S Q := pv_aload_n (pm_cdi rfl dL_law_328) rfl
theorem q145_328N : pm_V d 145 328 [l0, l1, .null, l3] st S Q = pm_V d 145 329 [l0, l1, .null, l3] (.null :: st) S Q := pv_aload_nN (pm_cdi rfl dL_law_328) rfl
theorem q145_329 : pm_V d 145 329 [.ref xn, l1, l2, l3] st S Q = pm_V d 145 330 [.ref xn, l1, l2, l3] (.ref xn :: st) S Q := pv_aload_n (pm_cdi rfl dL_law_329) rfl
theorem q145_330 : pm_V d 145 330 [l0, l1, l2, .int xi] st S Q = pm_V d 145 331 [l0, l1, l2, .int xi] (.int xi :: st) S Q := pv_iload_n (pm_cdi rfl dL_law_330) rfl
theorem q145_331 : pm_V d 145 331 [l0, l1, l2, l3] st S Q = pm_V d 145 332 [l0, l1, l2, l3] (.int 1 :: st) S Q := pv_iconst (pm_cdi rfl dL_law_331) (by decide +kernel)
theorem q145_332 : pm_V d 145 332 [l0, l1, l2, l3] (.int yi :: .int xi :: st) S Q = pm_V d 145 333 [l0, l1, l2, l3] (.int (xi + yi) :: st) S Q := pv_iadd (pm_cdi rfl dL_law_332)
theorem q145_333 (hs : pm_ar S an 9 xi = true) : pm_V d 145 333 [l0, l1, l2, l3] (.int xi :: .ref an :: st) S Q = pm_V d 145 334 [l0, l1, l2, l3] (.int (pm_zi S an xi.toNatClampNeg) :: st) S Q := pv_sald (pm_cdi rfl dL_law_333) hs
theorem q145_334 : pm_V d 145 334 [.ref xn, l1, l2, l3] st S Q = pm_V d 145 335 [.ref xn, l1, l2, l3] (.ref xn :: st) S Q := pv_aload_n (pm_cdi rfl dL_law_334) rfl
theorem q145_335 : pm_V d 145 335 [l0, l1, l2, .int xi] st S Q = pm_V d 145 336 [l0, l1, l2, .int xi] (.int xi :: st) S Q := pv_iload_n (pm_cdi rfl dL_law_335) rfl
theorem q145_336 : pm_V d 145 336 [l0, l1, l2, l3] st S Q = pm_V d 145 337 [l0, l1, l2, l3] (.int 2 :: st) S Q := pv_iconst (pm_cdi rfl dL_law_336) (by decide +kernel)
theorem q145_337 : pm_V d 145 337 [l0, l1, l2, l3] (.int yi :: .int xi :: st) S Q = pm_V d 145 338 [l0, l1, l2, l3] (.int (xi + yi) :: st) S Q := pv_iadd (pm_cdi rfl dL_law_337)
theorem q145_338 (hs : pm_ar S an 9 xi = true) : pm_V d 145 338 [l0, l1, l2, l3] (.int xi :: .ref an :: st) S Q = pm_V d 145 339 [l0, l1, l2, l3] (.int (pm_zi S an xi.toNatClampNeg) :: st) S Q := pv_sald (pm_cdi rfl dL_law_338) hs
theorem q145_339 : pm_V d 145 339 [.ref xn, l1, l2, l3] st S Q = pm_V d 145 340 [.ref xn, l1, l2, l3] (.ref xn :: st) S Q := pv_aload_n (pm_cdi rfl dL_law_339) rfl
theorem q145_340 : pm_V d 145 340 [l0, l1, l2, .int xi] st S Q = pm_V d 145 341 [l0, l1, l2, .int xi] (.int xi :: st) S Q := pv_iload_n (pm_cdi rfl dL_law_340) rfl
theorem q145_341 : pm_V d 145 341 [l0, l1, l2, l3] st S Q = pm_V d 145 342 [l0, l1, l2, l3] (.int 3 :: st) S Q := pv_iconst (pm_cdi rfl dL_law_341) (by decide +kernel)
theorem q145_342 : pm_V d 145 342 [l0, l1, l2, l3] (.int yi :: .int xi :: st) S Q = pm_V d 145 343 [l0, l1, l2, l3] (.int (xi + yi) :: st) S Q := pv_iadd (pm_cdi rfl dL_law_342)
theorem q145_343 (hs : pm_ar S an 9 xi = true) : pm_V d 145 343 [l0, l1, l2, l3] (.int xi :: .ref an :: st) S Q = pm_V d 145 344 [l0, l1, l2, l3] (.int (pm_zi S an xi.toNatClampNeg) :: st) S Q := pv_sald (pm_cdi rfl dL_law_343) hs
theorem q145_344 (hs : pm_sh S an = .inr 7) : pm_V (d + 1) 145 344 [l0, l1, l2, l3] [.int v2i, .int v1i, .int v0i, .ref an, .int r0i] S Q = pm_N d 95 [.ref an, .int v0i, .int v1i, .int v2i] S (fun r S' => pm_V (d + 1) 145 347 [l0, l1, l2, l3] (r.toList ++ [.int r0i]) S' Q) := pv_callV (as := [.int v0i, .int v1i, .int v2i]) (pm_cdi rfl dL_law_344) (Or.inl (by decide +kernel)) (by decide +kernel) (show _ = _ from (by decide +kernel : 3 = pm_np 95)) rfl (Nat.le_of_ble_eq_true rfl) (cl := 7) (by decide +kernel) hs
theorem q145_347 : pm_V d 145 347 [l0, l1, l2, l3] (.int yi :: .int xi :: st) S Q = if xi = yi then pm_V d 145 971 [l0, l1, l2, l3] st S Q else pm_V d 145 350 [l0, l1, l2, l3] st S Q := pv_icmp_eq (pm_cdi rfl dL_law_347) rfl
theorem q145_350 : pm_V d 145 350 [l0, l1, l2, l3] st S Q = pm_V d 145 351 [l0, l1, l2, l3] (.int 0 :: st) S Q := pv_iconst (pm_cdi rfl dL_law_350) (by decide +kernel)
theorem q145_351 (hx : xi = 0 ∨ xi = 1) : pm_V d 145 351 [l0, l1, l2, l3] [.int xi] S Q = Q (some (.int xi)) S := pv_rZ (pm_cdi rfl dL_law_351) (by decide +kernel) hx
theorem q145_352 : pm_V d 145 352 [l0, .ref xn, l2, l3] st S Q = pm_V d 145 353 [l0, .ref xn, l2, l3] (.ref xn :: st) S Q := pv_aload_n (pm_cdi rfl dL_law_352) rfl
theorem q145_352N : pm_V d 145 352 [l0, .null, l2, l3] st S Q = pm_V d 145 353 [l0, .null, l2, l3] (.null :: st) S Q := pv_aload_nN (pm_cdi rfl dL_law_352) rfl
theorem q145_353 : pm_V d 145 353 [.ref xn, l1, l2, l3] st S Q = pm_V d 145 354 [.ref xn, l1, l2, l3] (.ref xn :: st) S Q := pv_aload_n (pm_cdi rfl dL_law_353) rfl
theorem q145_354 : pm_V d 145 354 [l0, l1, l2, .int xi] st S Q = pm_V d 145 355 [l0, l1, l2, .int xi] (.int xi :: st) S Q := pv_iload_n (pm_cdi rfl dL_law_354) rfl
theorem q145_355 : pm_V d 145 355 [l0, l1, l2, l3] st S Q = pm_V d 145 356 [l0, l1, l2, l3] (.int 1 :: st) S Q := pv_iconst (pm_cdi rfl dL_law_355) (by decide +kernel)
theorem q145_356 : pm_V d 145 356 [l0, l1, l2, l3] (.int yi :: .int xi :: st) S Q = pm_V d 145 357 [l0, l1, l2, l3] (.int (xi + yi) :: st) S Q := pv_iadd (pm_cdi rfl dL_law_356)
theorem q145_357 (hs : pm_ar S an 9 xi = true) : pm_V d 145 357 [l0, l1, l2, l3] (.int xi :: .ref an :: st) S Q = pm_V d 145 358 [l0, l1, l2, l3] (.int (pm_zi S an xi.toNatClampNeg) :: st) S Q := pv_sald (pm_cdi rfl dL_law_357) hs
theorem q145_358 : pm_V d 145 358 [.ref xn, l1, l2, l3] st S Q = pm_V d 145 359 [.ref xn, l1, l2, l3] (.ref xn :: st) S Q := pv_aload_n (pm_cdi rfl dL_law_358) rfl
theorem q145_359 : pm_V d 145 359 [l0, l1, l2, .int xi] st S Q = pm_V d 145 360 [l0, l1, l2, .int xi] (.int xi :: st) S Q := pv_iload_n (pm_cdi rfl dL_law_359) rfl
theorem q145_360 : pm_V d 145 360 [l0, l1, l2, l3] st S Q = pm_V d 145 361 [l0, l1, l2, l3] (.int 2 :: st) S Q := pv_iconst (pm_cdi rfl dL_law_360) (by decide +kernel)
theorem q145_361 : pm_V d 145 361 [l0, l1, l2, l3] (.int yi :: .int xi :: st) S Q = pm_V d 145 362 [l0, l1, l2, l3] (.int (xi + yi) :: st) S Q := pv_iadd (pm_cdi rfl dL_law_361)
theorem q145_362 (hs : pm_ar S an 9 xi = true) : pm_V d 145 362 [l0, l1, l2, l3] (.int xi :: .ref an :: st) S Q = pm_V d 145 363 [l0, l1, l2, l3] (.int (pm_zi S an xi.toNatClampNeg) :: st) S Q := pv_sald (pm_cdi rfl dL_law_362) hs
theorem q145_363 : pm_V d 145 363 [l0, l1, l2, l3] (.int xi :: st) S Q = pm_V d 145 364 [l0, l1, l2, l3] (.long xi.toInt64 :: st) S Q := pv_i2l (pm_cdi rfl dL_law_363)
theorem q145_364 : pm_V d 145 364 [l0, l1, l2, l3] st S Q = pm_V d 145 366 [l0, l1, l2, l3] (.int 32 :: st) S Q := pv_bipush (pm_cdi rfl dL_law_364) (by decide +kernel)
theorem q145_366 : pm_V d 145 366 [l0, l1, l2, l3] (.int yi :: .long xj :: st) S Q = pm_V d 145 367 [l0, l1, l2, l3] (.long (xj <<< (yi.toInt64 &&& 63)) :: st) S Q := pv_lshl (pm_cdi rfl dL_law_366)
theorem q145_367 : pm_V d 145 367 [.ref xn, l1, l2, l3] st S Q = pm_V d 145 368 [.ref xn, l1, l2, l3] (.ref xn :: st) S Q := pv_aload_n (pm_cdi rfl dL_law_367) rfl
theorem q145_368 : pm_V d 145 368 [l0, l1, l2, .int xi] st S Q = pm_V d 145 369 [l0, l1, l2, .int xi] (.int xi :: st) S Q := pv_iload_n (pm_cdi rfl dL_law_368) rfl
theorem q145_369 : pm_V d 145 369 [l0, l1, l2, l3] st S Q = pm_V d 145 370 [l0, l1, l2, l3] (.int 3 :: st) S Q := pv_iconst (pm_cdi rfl dL_law_369) (by decide +kernel)
theorem q145_370 : pm_V d 145 370 [l0, l1, l2, l3] (.int yi :: .int xi :: st) S Q = pm_V d 145 371 [l0, l1, l2, l3] (.int (xi + yi) :: st) S Q := pv_iadd (pm_cdi rfl dL_law_370)
theorem q145_371 (hs : pm_ar S an 9 xi = true) : pm_V d 145 371 [l0, l1, l2, l3] (.int xi :: .ref an :: st) S Q = pm_V d 145 372 [l0, l1, l2, l3] (.int (pm_zi S an xi.toNatClampNeg) :: st) S Q := pv_sald (pm_cdi rfl dL_law_371) hs
theorem q145_372 : pm_V d 145 372 [l0, l1, l2, l3] (.int xi :: st) S Q = pm_V d 145 373 [l0, l1, l2, l3] (.long xi.toInt64 :: st) S Q := pv_i2l (pm_cdi rfl dL_law_372)
theorem q145_373 : pm_V d 145 373 [l0, l1, l2, l3] st S Q = pm_V d 145 376 [l0, l1, l2, l3] (.long (4294967295) :: st) S Q := pv_ldc2 (pm_cdi rfl dL_law_373) (by decide +kernel)
theorem q145_376 : pm_V d 145 376 [l0, l1, l2, l3] (.long yj :: .long xj :: st) S Q = pm_V d 145 377 [l0, l1, l2, l3] (.long (xj &&& yj) :: st) S Q := pv_land (pm_cdi rfl dL_law_376)
theorem q145_377 : pm_V d 145 377 [l0, l1, l2, l3] (.long yj :: .long xj :: st) S Q = pm_V d 145 378 [l0, l1, l2, l3] (.long (xj ||| yj) :: st) S Q := pv_lor (pm_cdi rfl dL_law_377)
theorem q145_378 : pm_V d 145 378 [.ref xn, l1, l2, l3] st S Q = pm_V d 145 379 [.ref xn, l1, l2, l3] (.ref xn :: st) S Q := pv_aload_n (pm_cdi rfl dL_law_378) rfl
theorem q145_379 : pm_V d 145 379 [l0, l1, l2, .int xi] st S Q = pm_V d 145 380 [l0, l1, l2, .int xi] (.int xi :: st) S Q := pv_iload_n (pm_cdi rfl dL_law_379) rfl
theorem q145_380 : pm_V d 145 380 [l0, l1, l2, l3] st S Q = pm_V d 145 381 [l0, l1, l2, l3] (.int 4 :: st) S Q := pv_iconst (pm_cdi rfl dL_law_380) (by decide +kernel)
theorem q145_381 : pm_V d 145 381 [l0, l1, l2, l3] (.int yi :: .int xi :: st) S Q = pm_V d 145 382 [l0, l1, l2, l3] (.int (xi + yi) :: st) S Q := pv_iadd (pm_cdi rfl dL_law_381)
theorem q145_382 (hs : pm_ar S an 9 xi = true) : pm_V d 145 382 [l0, l1, l2, l3] (.int xi :: .ref an :: st) S Q = pm_V d 145 383 [l0, l1, l2, l3] (.int (pm_zi S an xi.toNatClampNeg) :: st) S Q := pv_sald (pm_cdi rfl dL_law_382) hs
theorem q145_383 : pm_V d 145 383 [.ref xn, l1, l2, l3] st S Q = pm_V d 145 384 [.ref xn, l1, l2, l3] (.ref xn :: st) S Q := pv_aload_n (pm_cdi rfl dL_law_383) rfl
theorem q145_384 : pm_V d 145 384 [l0, l1, l2, .int xi] st S Q = pm_V d 145 385 [l0, l1, l2, .int xi] (.int xi :: st) S Q := pv_iload_n (pm_cdi rfl dL_law_384) rfl
theorem q145_385 : pm_V d 145 385 [l0, l1, l2, l3] st S Q = pm_V d 145 386 [l0, l1, l2, l3] (.int 5 :: st) S Q := pv_iconst (pm_cdi rfl dL_law_385) (by decide +kernel)
theorem q145_386 : pm_V d 145 386 [l0, l1, l2, l3] (.int yi :: .int xi :: st) S Q = pm_V d 145 387 [l0, l1, l2, l3] (.int (xi + yi) :: st) S Q := pv_iadd (pm_cdi rfl dL_law_386)
theorem q145_387 (hs : pm_ar S an 9 xi = true) : pm_V d 145 387 [l0, l1, l2, l3] (.int xi :: .ref an :: st) S Q = pm_V d 145 388 [l0, l1, l2, l3] (.int (pm_zi S an xi.toNatClampNeg) :: st) S Q := pv_sald (pm_cdi rfl dL_law_387) hs
theorem q145_388 (hs : pm_sh S an = .inr 6) : pm_V (d + 1) 145 388 [l0, l1, l2, l3] [.int v3i, .int v2i, .long v1j, .int v0i, .ref an] S Q = pm_N d 60 [.ref an, .int v0i, .long v1j, .int v2i, .int v3i] S (fun r S' => pm_V (d + 1) 145 391 [l0, l1, l2, l3] (r.toList ++ []) S' Q) := pv_callV (as := [.int v0i, .long v1j, .int v2i, .int v3i]) (pm_cdi rfl dL_law_388) (Or.inl (by decide +kernel)) (by decide +kernel) (show _ = _ from (by decide +kernel : 4 = pm_np 60)) rfl (Nat.le_of_ble_eq_true rfl) (cl := 6) (by decide +kernel) hs
theorem q145_391 : pm_V d 145 391 [l0, l1, .ref xn, l3] st S Q = pm_V d 145 392 [l0, l1, .ref xn, l3] (.ref xn :: st) S Q := pv_aload_n (pm_cdi rfl dL_law_391) rfl
theorem q145_391N : pm_V d 145 391 [l0, l1, .null, l3] st S Q = pm_V d 145 392 [l0, l1, .null, l3] (.null :: st) S Q := pv_aload_nN (pm_cdi rfl dL_law_391) rfl
theorem q145_392 : pm_V d 145 392 [.ref xn, l1, l2, l3] st S Q = pm_V d 145 393 [.ref xn, l1, l2, l3] (.ref xn :: st) S Q := pv_aload_n (pm_cdi rfl dL_law_392) rfl
theorem q145_393 : pm_V d 145 393 [l0, l1, l2, .int xi] st S Q = pm_V d 145 394 [l0, l1, l2, .int xi] (.int xi :: st) S Q := pv_iload_n (pm_cdi rfl dL_law_393) rfl
theorem q145_394 : pm_V d 145 394 [l0, l1, l2, l3] st S Q = pm_V d 145 395 [l0, l1, l2, l3] (.int 1 :: st) S Q := pv_iconst (pm_cdi rfl dL_law_394) (by decide +kernel)
theorem q145_395 : pm_V d 145 395 [l0, l1, l2, l3] (.int yi :: .int xi :: st) S Q = pm_V d 145 396 [l0, l1, l2, l3] (.int (xi + yi) :: st) S Q := pv_iadd (pm_cdi rfl dL_law_395)
theorem q145_396 (hs : pm_ar S an 9 xi = true) : pm_V d 145 396 [l0, l1, l2, l3] (.int xi :: .ref an :: st) S Q = pm_V d 145 397 [l0, l1, l2, l3] (.int (pm_zi S an xi.toNatClampNeg) :: st) S Q := pv_sald (pm_cdi rfl dL_law_396) hs
theorem q145_397 : pm_V d 145 397 [.ref xn, l1, l2, l3] st S Q = pm_V d 145 398 [.ref xn, l1, l2, l3] (.ref xn :: st) S Q := pv_aload_n (pm_cdi rfl dL_law_397) rfl
theorem q145_398 : pm_V d 145 398 [l0, l1, l2, .int xi] st S Q = pm_V d 145 399 [l0, l1, l2, .int xi] (.int xi :: st) S Q := pv_iload_n (pm_cdi rfl dL_law_398) rfl
theorem q145_399 : pm_V d 145 399 [l0, l1, l2, l3] st S Q = pm_V d 145 400 [l0, l1, l2, l3] (.int 2 :: st) S Q := pv_iconst (pm_cdi rfl dL_law_399) (by decide +kernel)
theorem q145_400 : pm_V d 145 400 [l0, l1, l2, l3] (.int yi :: .int xi :: st) S Q = pm_V d 145 401 [l0, l1, l2, l3] (.int (xi + yi) :: st) S Q := pv_iadd (pm_cdi rfl dL_law_400)
theorem q145_401 (hs : pm_ar S an 9 xi = true) : pm_V d 145 401 [l0, l1, l2, l3] (.int xi :: .ref an :: st) S Q = pm_V d 145 402 [l0, l1, l2, l3] (.int (pm_zi S an xi.toNatClampNeg) :: st) S Q := pv_sald (pm_cdi rfl dL_law_401) hs
theorem q145_402 : pm_V d 145 402 [l0, l1, l2, l3] (.int xi :: st) S Q = pm_V d 145 403 [l0, l1, l2, l3] (.long xi.toInt64 :: st) S Q := pv_i2l (pm_cdi rfl dL_law_402)
theorem q145_403 : pm_V d 145 403 [l0, l1, l2, l3] st S Q = pm_V d 145 405 [l0, l1, l2, l3] (.int 32 :: st) S Q := pv_bipush (pm_cdi rfl dL_law_403) (by decide +kernel)
theorem q145_405 : pm_V d 145 405 [l0, l1, l2, l3] (.int yi :: .long xj :: st) S Q = pm_V d 145 406 [l0, l1, l2, l3] (.long (xj <<< (yi.toInt64 &&& 63)) :: st) S Q := pv_lshl (pm_cdi rfl dL_law_405)
theorem q145_406 : pm_V d 145 406 [.ref xn, l1, l2, l3] st S Q = pm_V d 145 407 [.ref xn, l1, l2, l3] (.ref xn :: st) S Q := pv_aload_n (pm_cdi rfl dL_law_406) rfl
theorem q145_407 : pm_V d 145 407 [l0, l1, l2, .int xi] st S Q = pm_V d 145 408 [l0, l1, l2, .int xi] (.int xi :: st) S Q := pv_iload_n (pm_cdi rfl dL_law_407) rfl
theorem q145_408 : pm_V d 145 408 [l0, l1, l2, l3] st S Q = pm_V d 145 409 [l0, l1, l2, l3] (.int 3 :: st) S Q := pv_iconst (pm_cdi rfl dL_law_408) (by decide +kernel)
theorem q145_409 : pm_V d 145 409 [l0, l1, l2, l3] (.int yi :: .int xi :: st) S Q = pm_V d 145 410 [l0, l1, l2, l3] (.int (xi + yi) :: st) S Q := pv_iadd (pm_cdi rfl dL_law_409)
theorem q145_410 (hs : pm_ar S an 9 xi = true) : pm_V d 145 410 [l0, l1, l2, l3] (.int xi :: .ref an :: st) S Q = pm_V d 145 411 [l0, l1, l2, l3] (.int (pm_zi S an xi.toNatClampNeg) :: st) S Q := pv_sald (pm_cdi rfl dL_law_410) hs
theorem q145_411 : pm_V d 145 411 [l0, l1, l2, l3] (.int xi :: st) S Q = pm_V d 145 412 [l0, l1, l2, l3] (.long xi.toInt64 :: st) S Q := pv_i2l (pm_cdi rfl dL_law_411)
theorem q145_412 : pm_V d 145 412 [l0, l1, l2, l3] st S Q = pm_V d 145 415 [l0, l1, l2, l3] (.long (4294967295) :: st) S Q := pv_ldc2 (pm_cdi rfl dL_law_412) (by decide +kernel)
theorem q145_415 : pm_V d 145 415 [l0, l1, l2, l3] (.long yj :: .long xj :: st) S Q = pm_V d 145 416 [l0, l1, l2, l3] (.long (xj &&& yj) :: st) S Q := pv_land (pm_cdi rfl dL_law_415)
theorem q145_416 : pm_V d 145 416 [l0, l1, l2, l3] (.long yj :: .long xj :: st) S Q = pm_V d 145 417 [l0, l1, l2, l3] (.long (xj ||| yj) :: st) S Q := pv_lor (pm_cdi rfl dL_law_416)
theorem q145_417 : pm_V d 145 417 [.ref xn, l1, l2, l3] st S Q = pm_V d 145 418 [.ref xn, l1, l2, l3] (.ref xn :: st) S Q := pv_aload_n (pm_cdi rfl dL_law_417) rfl
theorem q145_418 : pm_V d 145 418 [l0, l1, l2, .int xi] st S Q = pm_V d 145 419 [l0, l1, l2, .int xi] (.int xi :: st) S Q := pv_iload_n (pm_cdi rfl dL_law_418) rfl
theorem q145_419 : pm_V d 145 419 [l0, l1, l2, l3] st S Q = pm_V d 145 420 [l0, l1, l2, l3] (.int 4 :: st) S Q := pv_iconst (pm_cdi rfl dL_law_419) (by decide +kernel)
theorem q145_420 : pm_V d 145 420 [l0, l1, l2, l3] (.int yi :: .int xi :: st) S Q = pm_V d 145 421 [l0, l1, l2, l3] (.int (xi + yi) :: st) S Q := pv_iadd (pm_cdi rfl dL_law_420)
theorem q145_421 (hs : pm_ar S an 9 xi = true) : pm_V d 145 421 [l0, l1, l2, l3] (.int xi :: .ref an :: st) S Q = pm_V d 145 422 [l0, l1, l2, l3] (.int (pm_zi S an xi.toNatClampNeg) :: st) S Q := pv_sald (pm_cdi rfl dL_law_421) hs
theorem q145_422 : pm_V d 145 422 [.ref xn, l1, l2, l3] st S Q = pm_V d 145 423 [.ref xn, l1, l2, l3] (.ref xn :: st) S Q := pv_aload_n (pm_cdi rfl dL_law_422) rfl
theorem q145_423 : pm_V d 145 423 [l0, l1, l2, .int xi] st S Q = pm_V d 145 424 [l0, l1, l2, .int xi] (.int xi :: st) S Q := pv_iload_n (pm_cdi rfl dL_law_423) rfl
theorem q145_424 : pm_V d 145 424 [l0, l1, l2, l3] st S Q = pm_V d 145 425 [l0, l1, l2, l3] (.int 5 :: st) S Q := pv_iconst (pm_cdi rfl dL_law_424) (by decide +kernel)
theorem q145_425 : pm_V d 145 425 [l0, l1, l2, l3] (.int yi :: .int xi :: st) S Q = pm_V d 145 426 [l0, l1, l2, l3] (.int (xi + yi) :: st) S Q := pv_iadd (pm_cdi rfl dL_law_425)
theorem q145_426 (hs : pm_ar S an 9 xi = true) : pm_V d 145 426 [l0, l1, l2, l3] (.int xi :: .ref an :: st) S Q = pm_V d 145 427 [l0, l1, l2, l3] (.int (pm_zi S an xi.toNatClampNeg) :: st) S Q := pv_sald (pm_cdi rfl dL_law_426) hs
theorem q145_427 (hs : pm_sh S an = .inr 7) : pm_V (d + 1) 145 427 [l0, l1, l2, l3] [.int v3i, .int v2i, .long v1j, .int v0i, .ref an, .int r0i] S Q = pm_N d 96 [.ref an, .int v0i, .long v1j, .int v2i, .int v3i] S (fun r S' => pm_V (d + 1) 145 430 [l0, l1, l2, l3] (r.toList ++ [.int r0i]) S' Q) := pv_callV (as := [.int v0i, .long v1j, .int v2i, .int v3i]) (pm_cdi rfl dL_law_427) (Or.inl (by decide +kernel)) (by decide +kernel) (show _ = _ from (by decide +kernel : 4 = pm_np 96)) rfl (Nat.le_of_ble_eq_true rfl) (cl := 7) (by decide +kernel) hs
theorem q145_430 : pm_V d 145 430 [l0, l1, l2, l3] (.int yi :: .int xi :: st) S Q = if xi = yi then pm_V d 145 971 [l0, l1, l2, l3] st S Q else pm_V d 145 433 [l0, l1, l2, l3] st S Q := pv_icmp_eq (pm_cdi rfl dL_law_430) rfl
theorem q145_433 : pm_V d 145 433 [l0, l1, l2, l3] st S Q = pm_V d 145 434 [l0, l1, l2, l3] (.int 0 :: st) S Q := pv_iconst (pm_cdi rfl dL_law_433) (by decide +kernel)
theorem q145_434 (hx : xi = 0 ∨ xi = 1) : pm_V d 145 434 [l0, l1, l2, l3] [.int xi] S Q = Q (some (.int xi)) S := pv_rZ (pm_cdi rfl dL_law_434) (by decide +kernel) hx
theorem q145_435 : pm_V d 145 435 [l0, .ref xn, l2, l3] st S Q = pm_V d 145 436 [l0, .ref xn, l2, l3] (.ref xn :: st) S Q := pv_aload_n (pm_cdi rfl dL_law_435) rfl
theorem q145_435N : pm_V d 145 435 [l0, .null, l2, l3] st S Q = pm_V d 145 436 [l0, .null, l2, l3] (.null :: st) S Q := pv_aload_nN (pm_cdi rfl dL_law_435) rfl
theorem q145_436 : pm_V d 145 436 [.ref xn, l1, l2, l3] st S Q = pm_V d 145 437 [.ref xn, l1, l2, l3] (.ref xn :: st) S Q := pv_aload_n (pm_cdi rfl dL_law_436) rfl
theorem q145_437 : pm_V d 145 437 [l0, l1, l2, .int xi] st S Q = pm_V d 145 438 [l0, l1, l2, .int xi] (.int xi :: st) S Q := pv_iload_n (pm_cdi rfl dL_law_437) rfl
theorem q145_438 : pm_V d 145 438 [l0, l1, l2, l3] st S Q = pm_V d 145 439 [l0, l1, l2, l3] (.int 1 :: st) S Q := pv_iconst (pm_cdi rfl dL_law_438) (by decide +kernel)
theorem q145_439 : pm_V d 145 439 [l0, l1, l2, l3] (.int yi :: .int xi :: st) S Q = pm_V d 145 440 [l0, l1, l2, l3] (.int (xi + yi) :: st) S Q := pv_iadd (pm_cdi rfl dL_law_439)
theorem q145_440 (hs : pm_ar S an 9 xi = true) : pm_V d 145 440 [l0, l1, l2, l3] (.int xi :: .ref an :: st) S Q = pm_V d 145 441 [l0, l1, l2, l3] (.int (pm_zi S an xi.toNatClampNeg) :: st) S Q := pv_sald (pm_cdi rfl dL_law_440) hs
theorem q145_441 : pm_V d 145 441 [.ref xn, l1, l2, l3] st S Q = pm_V d 145 442 [.ref xn, l1, l2, l3] (.ref xn :: st) S Q := pv_aload_n (pm_cdi rfl dL_law_441) rfl
theorem q145_442 : pm_V d 145 442 [l0, l1, l2, .int xi] st S Q = pm_V d 145 443 [l0, l1, l2, .int xi] (.int xi :: st) S Q := pv_iload_n (pm_cdi rfl dL_law_442) rfl
theorem q145_443 : pm_V d 145 443 [l0, l1, l2, l3] st S Q = pm_V d 145 444 [l0, l1, l2, l3] (.int 2 :: st) S Q := pv_iconst (pm_cdi rfl dL_law_443) (by decide +kernel)
theorem q145_444 : pm_V d 145 444 [l0, l1, l2, l3] (.int yi :: .int xi :: st) S Q = pm_V d 145 445 [l0, l1, l2, l3] (.int (xi + yi) :: st) S Q := pv_iadd (pm_cdi rfl dL_law_444)
theorem q145_445 (hs : pm_ar S an 9 xi = true) : pm_V d 145 445 [l0, l1, l2, l3] (.int xi :: .ref an :: st) S Q = pm_V d 145 446 [l0, l1, l2, l3] (.int (pm_zi S an xi.toNatClampNeg) :: st) S Q := pv_sald (pm_cdi rfl dL_law_445) hs
theorem q145_446 : pm_V d 145 446 [.ref xn, l1, l2, l3] st S Q = pm_V d 145 447 [.ref xn, l1, l2, l3] (.ref xn :: st) S Q := pv_aload_n (pm_cdi rfl dL_law_446) rfl
theorem q145_447 : pm_V d 145 447 [l0, l1, l2, .int xi] st S Q = pm_V d 145 448 [l0, l1, l2, .int xi] (.int xi :: st) S Q := pv_iload_n (pm_cdi rfl dL_law_447) rfl
theorem q145_448 : pm_V d 145 448 [l0, l1, l2, l3] st S Q = pm_V d 145 449 [l0, l1, l2, l3] (.int 3 :: st) S Q := pv_iconst (pm_cdi rfl dL_law_448) (by decide +kernel)
theorem q145_449 : pm_V d 145 449 [l0, l1, l2, l3] (.int yi :: .int xi :: st) S Q = pm_V d 145 450 [l0, l1, l2, l3] (.int (xi + yi) :: st) S Q := pv_iadd (pm_cdi rfl dL_law_449)
theorem q145_450 (hs : pm_ar S an 9 xi = true) : pm_V d 145 450 [l0, l1, l2, l3] (.int xi :: .ref an :: st) S Q = pm_V d 145 451 [l0, l1, l2, l3] (.int (pm_zi S an xi.toNatClampNeg) :: st) S Q := pv_sald (pm_cdi rfl dL_law_450) hs
theorem q145_451 : pm_V d 145 451 [.ref xn, l1, l2, l3] st S Q = pm_V d 145 452 [.ref xn, l1, l2, l3] (.ref xn :: st) S Q := pv_aload_n (pm_cdi rfl dL_law_451) rfl
theorem q145_452 : pm_V d 145 452 [l0, l1, l2, .int xi] st S Q = pm_V d 145 453 [l0, l1, l2, .int xi] (.int xi :: st) S Q := pv_iload_n (pm_cdi rfl dL_law_452) rfl
theorem q145_453 : pm_V d 145 453 [l0, l1, l2, l3] st S Q = pm_V d 145 454 [l0, l1, l2, l3] (.int 4 :: st) S Q := pv_iconst (pm_cdi rfl dL_law_453) (by decide +kernel)
theorem q145_454 : pm_V d 145 454 [l0, l1, l2, l3] (.int yi :: .int xi :: st) S Q = pm_V d 145 455 [l0, l1, l2, l3] (.int (xi + yi) :: st) S Q := pv_iadd (pm_cdi rfl dL_law_454)
theorem q145_455 (hs : pm_ar S an 9 xi = true) : pm_V d 145 455 [l0, l1, l2, l3] (.int xi :: .ref an :: st) S Q = pm_V d 145 456 [l0, l1, l2, l3] (.int (pm_zi S an xi.toNatClampNeg) :: st) S Q := pv_sald (pm_cdi rfl dL_law_455) hs
theorem q145_456 : pm_V d 145 456 [.ref xn, l1, l2, l3] st S Q = pm_V d 145 457 [.ref xn, l1, l2, l3] (.ref xn :: st) S Q := pv_aload_n (pm_cdi rfl dL_law_456) rfl
theorem q145_457 : pm_V d 145 457 [l0, l1, l2, .int xi] st S Q = pm_V d 145 458 [l0, l1, l2, .int xi] (.int xi :: st) S Q := pv_iload_n (pm_cdi rfl dL_law_457) rfl
theorem q145_458 : pm_V d 145 458 [l0, l1, l2, l3] st S Q = pm_V d 145 459 [l0, l1, l2, l3] (.int 5 :: st) S Q := pv_iconst (pm_cdi rfl dL_law_458) (by decide +kernel)
theorem q145_459 : pm_V d 145 459 [l0, l1, l2, l3] (.int yi :: .int xi :: st) S Q = pm_V d 145 460 [l0, l1, l2, l3] (.int (xi + yi) :: st) S Q := pv_iadd (pm_cdi rfl dL_law_459)
theorem q145_460 (hs : pm_ar S an 9 xi = true) : pm_V d 145 460 [l0, l1, l2, l3] (.int xi :: .ref an :: st) S Q = pm_V d 145 461 [l0, l1, l2, l3] (.int (pm_zi S an xi.toNatClampNeg) :: st) S Q := pv_sald (pm_cdi rfl dL_law_460) hs
theorem q145_461 (hs : pm_sh S an = .inr 6) : pm_V (d + 1) 145 461 [l0, l1, l2, l3] [.int v4i, .int v3i, .int v2i, .int v1i, .int v0i, .ref an] S Q = pm_N d 61 [.ref an, .int v0i, .int v1i, .int v2i, .int v3i, .int v4i] S (fun r S' => pm_V (d + 1) 145 464 [l0, l1, l2, l3] (r.toList ++ []) S' Q) := pv_callV (as := [.int v0i, .int v1i, .int v2i, .int v3i, .int v4i]) (pm_cdi rfl dL_law_461) (Or.inl (by decide +kernel)) (by decide +kernel) (show _ = _ from (by decide +kernel : 5 = pm_np 61)) rfl (Nat.le_of_ble_eq_true rfl) (cl := 6) (by decide +kernel) hs
theorem q145_464 : pm_V d 145 464 [l0, l1, .ref xn, l3] st S Q = pm_V d 145 465 [l0, l1, .ref xn, l3] (.ref xn :: st) S Q := pv_aload_n (pm_cdi rfl dL_law_464) rfl
theorem q145_464N : pm_V d 145 464 [l0, l1, .null, l3] st S Q = pm_V d 145 465 [l0, l1, .null, l3] (.null :: st) S Q := pv_aload_nN (pm_cdi rfl dL_law_464) rfl
theorem q145_465 : pm_V d 145 465 [.ref xn, l1, l2, l3] st S Q = pm_V d 145 466 [.ref xn, l1, l2, l3] (.ref xn :: st) S Q := pv_aload_n (pm_cdi rfl dL_law_465) rfl
theorem q145_466 : pm_V d 145 466 [l0, l1, l2, .int xi] st S Q = pm_V d 145 467 [l0, l1, l2, .int xi] (.int xi :: st) S Q := pv_iload_n (pm_cdi rfl dL_law_466) rfl
theorem q145_467 : pm_V d 145 467 [l0, l1, l2, l3] st S Q = pm_V d 145 468 [l0, l1, l2, l3] (.int 1 :: st) S Q := pv_iconst (pm_cdi rfl dL_law_467) (by decide +kernel)
theorem q145_468 : pm_V d 145 468 [l0, l1, l2, l3] (.int yi :: .int xi :: st) S Q = pm_V d 145 469 [l0, l1, l2, l3] (.int (xi + yi) :: st) S Q := pv_iadd (pm_cdi rfl dL_law_468)
theorem q145_469 (hs : pm_ar S an 9 xi = true) : pm_V d 145 469 [l0, l1, l2, l3] (.int xi :: .ref an :: st) S Q = pm_V d 145 470 [l0, l1, l2, l3] (.int (pm_zi S an xi.toNatClampNeg) :: st) S Q := pv_sald (pm_cdi rfl dL_law_469) hs
theorem q145_470 : pm_V d 145 470 [.ref xn, l1, l2, l3] st S Q = pm_V d 145 471 [.ref xn, l1, l2, l3] (.ref xn :: st) S Q := pv_aload_n (pm_cdi rfl dL_law_470) rfl
theorem q145_471 : pm_V d 145 471 [l0, l1, l2, .int xi] st S Q = pm_V d 145 472 [l0, l1, l2, .int xi] (.int xi :: st) S Q := pv_iload_n (pm_cdi rfl dL_law_471) rfl
theorem q145_472 : pm_V d 145 472 [l0, l1, l2, l3] st S Q = pm_V d 145 473 [l0, l1, l2, l3] (.int 2 :: st) S Q := pv_iconst (pm_cdi rfl dL_law_472) (by decide +kernel)
theorem q145_473 : pm_V d 145 473 [l0, l1, l2, l3] (.int yi :: .int xi :: st) S Q = pm_V d 145 474 [l0, l1, l2, l3] (.int (xi + yi) :: st) S Q := pv_iadd (pm_cdi rfl dL_law_473)
theorem q145_474 (hs : pm_ar S an 9 xi = true) : pm_V d 145 474 [l0, l1, l2, l3] (.int xi :: .ref an :: st) S Q = pm_V d 145 475 [l0, l1, l2, l3] (.int (pm_zi S an xi.toNatClampNeg) :: st) S Q := pv_sald (pm_cdi rfl dL_law_474) hs
theorem q145_475 : pm_V d 145 475 [.ref xn, l1, l2, l3] st S Q = pm_V d 145 476 [.ref xn, l1, l2, l3] (.ref xn :: st) S Q := pv_aload_n (pm_cdi rfl dL_law_475) rfl
theorem q145_476 : pm_V d 145 476 [l0, l1, l2, .int xi] st S Q = pm_V d 145 477 [l0, l1, l2, .int xi] (.int xi :: st) S Q := pv_iload_n (pm_cdi rfl dL_law_476) rfl
theorem q145_477 : pm_V d 145 477 [l0, l1, l2, l3] st S Q = pm_V d 145 478 [l0, l1, l2, l3] (.int 3 :: st) S Q := pv_iconst (pm_cdi rfl dL_law_477) (by decide +kernel)
theorem q145_478 : pm_V d 145 478 [l0, l1, l2, l3] (.int yi :: .int xi :: st) S Q = pm_V d 145 479 [l0, l1, l2, l3] (.int (xi + yi) :: st) S Q := pv_iadd (pm_cdi rfl dL_law_478)
theorem q145_479 (hs : pm_ar S an 9 xi = true) : pm_V d 145 479 [l0, l1, l2, l3] (.int xi :: .ref an :: st) S Q = pm_V d 145 480 [l0, l1, l2, l3] (.int (pm_zi S an xi.toNatClampNeg) :: st) S Q := pv_sald (pm_cdi rfl dL_law_479) hs
theorem q145_480 : pm_V d 145 480 [.ref xn, l1, l2, l3] st S Q = pm_V d 145 481 [.ref xn, l1, l2, l3] (.ref xn :: st) S Q := pv_aload_n (pm_cdi rfl dL_law_480) rfl
theorem q145_481 : pm_V d 145 481 [l0, l1, l2, .int xi] st S Q = pm_V d 145 482 [l0, l1, l2, .int xi] (.int xi :: st) S Q := pv_iload_n (pm_cdi rfl dL_law_481) rfl
theorem q145_482 : pm_V d 145 482 [l0, l1, l2, l3] st S Q = pm_V d 145 483 [l0, l1, l2, l3] (.int 4 :: st) S Q := pv_iconst (pm_cdi rfl dL_law_482) (by decide +kernel)
theorem q145_483 : pm_V d 145 483 [l0, l1, l2, l3] (.int yi :: .int xi :: st) S Q = pm_V d 145 484 [l0, l1, l2, l3] (.int (xi + yi) :: st) S Q := pv_iadd (pm_cdi rfl dL_law_483)
theorem q145_484 (hs : pm_ar S an 9 xi = true) : pm_V d 145 484 [l0, l1, l2, l3] (.int xi :: .ref an :: st) S Q = pm_V d 145 485 [l0, l1, l2, l3] (.int (pm_zi S an xi.toNatClampNeg) :: st) S Q := pv_sald (pm_cdi rfl dL_law_484) hs
theorem q145_485 : pm_V d 145 485 [.ref xn, l1, l2, l3] st S Q = pm_V d 145 486 [.ref xn, l1, l2, l3] (.ref xn :: st) S Q := pv_aload_n (pm_cdi rfl dL_law_485) rfl
theorem q145_486 : pm_V d 145 486 [l0, l1, l2, .int xi] st S Q = pm_V d 145 487 [l0, l1, l2, .int xi] (.int xi :: st) S Q := pv_iload_n (pm_cdi rfl dL_law_486) rfl
theorem q145_487 : pm_V d 145 487 [l0, l1, l2, l3] st S Q = pm_V d 145 488 [l0, l1, l2, l3] (.int 5 :: st) S Q := pv_iconst (pm_cdi rfl dL_law_487) (by decide +kernel)
theorem q145_488 : pm_V d 145 488 [l0, l1, l2, l3] (.int yi :: .int xi :: st) S Q = pm_V d 145 489 [l0, l1, l2, l3] (.int (xi + yi) :: st) S Q := pv_iadd (pm_cdi rfl dL_law_488)
theorem q145_489 (hs : pm_ar S an 9 xi = true) : pm_V d 145 489 [l0, l1, l2, l3] (.int xi :: .ref an :: st) S Q = pm_V d 145 490 [l0, l1, l2, l3] (.int (pm_zi S an xi.toNatClampNeg) :: st) S Q := pv_sald (pm_cdi rfl dL_law_489) hs
theorem q145_490 (hs : pm_sh S an = .inr 7) : pm_V (d + 1) 145 490 [l0, l1, l2, l3] [.int v4i, .int v3i, .int v2i, .int v1i, .int v0i, .ref an, .int r0i] S Q = pm_N d 98 [.ref an, .int v0i, .int v1i, .int v2i, .int v3i, .int v4i] S (fun r S' => pm_V (d + 1) 145 493 [l0, l1, l2, l3] (r.toList ++ [.int r0i]) S' Q) := pv_callV (as := [.int v0i, .int v1i, .int v2i, .int v3i, .int v4i]) (pm_cdi rfl dL_law_490) (Or.inl (by decide +kernel)) (by decide +kernel) (show _ = _ from (by decide +kernel : 5 = pm_np 98)) rfl (Nat.le_of_ble_eq_true rfl) (cl := 7) (by decide +kernel) hs
theorem q145_493 : pm_V d 145 493 [l0, l1, l2, l3] (.int yi :: .int xi :: st) S Q = if xi = yi then pm_V d 145 971 [l0, l1, l2, l3] st S Q else pm_V d 145 496 [l0, l1, l2, l3] st S Q := pv_icmp_eq (pm_cdi rfl dL_law_493) rfl
theorem q145_496 : pm_V d 145 496 [l0, l1, l2, l3] st S Q = pm_V d 145 497 [l0, l1, l2, l3] (.int 0 :: st) S Q := pv_iconst (pm_cdi rfl dL_law_496) (by decide +kernel)
theorem q145_497 (hx : xi = 0 ∨ xi = 1) : pm_V d 145 497 [l0, l1, l2, l3] [.int xi] S Q = Q (some (.int xi)) S := pv_rZ (pm_cdi rfl dL_law_497) (by decide +kernel) hx
theorem q145_498 : pm_V d 145 498 [l0, .ref xn, l2, l3] st S Q = pm_V d 145 499 [l0, .ref xn, l2, l3] (.ref xn :: st) S Q := pv_aload_n (pm_cdi rfl dL_law_498) rfl
theorem q145_498N : pm_V d 145 498 [l0, .null, l2, l3] st S Q = pm_V d 145 499 [l0, .null, l2, l3] (.null :: st) S Q := pv_aload_nN (pm_cdi rfl dL_law_498) rfl
theorem q145_499 : pm_V d 145 499 [.ref xn, l1, l2, l3] st S Q = pm_V d 145 500 [.ref xn, l1, l2, l3] (.ref xn :: st) S Q := pv_aload_n (pm_cdi rfl dL_law_499) rfl
theorem q145_500 : pm_V d 145 500 [l0, l1, l2, .int xi] st S Q = pm_V d 145 501 [l0, l1, l2, .int xi] (.int xi :: st) S Q := pv_iload_n (pm_cdi rfl dL_law_500) rfl
theorem q145_501 : pm_V d 145 501 [l0, l1, l2, l3] st S Q = pm_V d 145 502 [l0, l1, l2, l3] (.int 1 :: st) S Q := pv_iconst (pm_cdi rfl dL_law_501) (by decide +kernel)
theorem q145_502 : pm_V d 145 502 [l0, l1, l2, l3] (.int yi :: .int xi :: st) S Q = pm_V d 145 503 [l0, l1, l2, l3] (.int (xi + yi) :: st) S Q := pv_iadd (pm_cdi rfl dL_law_502)
theorem q145_503 (hs : pm_ar S an 9 xi = true) : pm_V d 145 503 [l0, l1, l2, l3] (.int xi :: .ref an :: st) S Q = pm_V d 145 504 [l0, l1, l2, l3] (.int (pm_zi S an xi.toNatClampNeg) :: st) S Q := pv_sald (pm_cdi rfl dL_law_503) hs
theorem q145_504 : pm_V d 145 504 [.ref xn, l1, l2, l3] st S Q = pm_V d 145 505 [.ref xn, l1, l2, l3] (.ref xn :: st) S Q := pv_aload_n (pm_cdi rfl dL_law_504) rfl
theorem q145_505 : pm_V d 145 505 [l0, l1, l2, .int xi] st S Q = pm_V d 145 506 [l0, l1, l2, .int xi] (.int xi :: st) S Q := pv_iload_n (pm_cdi rfl dL_law_505) rfl
theorem q145_506 : pm_V d 145 506 [l0, l1, l2, l3] st S Q = pm_V d 145 507 [l0, l1, l2, l3] (.int 2 :: st) S Q := pv_iconst (pm_cdi rfl dL_law_506) (by decide +kernel)
theorem q145_507 : pm_V d 145 507 [l0, l1, l2, l3] (.int yi :: .int xi :: st) S Q = pm_V d 145 508 [l0, l1, l2, l3] (.int (xi + yi) :: st) S Q := pv_iadd (pm_cdi rfl dL_law_507)
theorem q145_508 (hs : pm_ar S an 9 xi = true) : pm_V d 145 508 [l0, l1, l2, l3] (.int xi :: .ref an :: st) S Q = pm_V d 145 509 [l0, l1, l2, l3] (.int (pm_zi S an xi.toNatClampNeg) :: st) S Q := pv_sald (pm_cdi rfl dL_law_508) hs
theorem q145_509 : pm_V d 145 509 [l0, l1, l2, l3] (.int xi :: st) S Q = if xi = 0 then pm_V d 145 516 [l0, l1, l2, l3] st S Q else pm_V d 145 512 [l0, l1, l2, l3] st S Q := pv_if_eq (pm_cdi rfl dL_law_509) rfl
theorem q145_512 : pm_V d 145 512 [l0, l1, l2, l3] st S Q = pm_V d 145 513 [l0, l1, l2, l3] (.int 1 :: st) S Q := pv_iconst (pm_cdi rfl dL_law_512) (by decide +kernel)
theorem q145_513 : pm_V d 145 513 [l0, l1, l2, l3] st S Q = pm_V d 145 517 [l0, l1, l2, l3] st S Q := pv_goto (pm_cdi rfl dL_law_513) rfl
theorem q145_516 : pm_V d 145 516 [l0, l1, l2, l3] st S Q = pm_V d 145 517 [l0, l1, l2, l3] (.int 0 :: st) S Q := pv_iconst (pm_cdi rfl dL_law_516) (by decide +kernel)
theorem q145_517 (hs : pm_sh S an = .inr 6) : pm_V (d + 1) 145 517 [l0, l1, l2, l3] [.int v1i, .int v0i, .ref an] S Q = pm_N d 62 [.ref an, .int v0i, .int v1i] S (fun r S' => pm_V (d + 1) 145 520 [l0, l1, l2, l3] (r.toList ++ []) S' Q) := pv_callV (as := [.int v0i, .int v1i]) (pm_cdi rfl dL_law_517) (Or.inl (by decide +kernel)) (by decide +kernel) (show _ = _ from (by decide +kernel : 2 = pm_np 62)) rfl (Nat.le_of_ble_eq_true rfl) (cl := 6) (by decide +kernel) hs
theorem q145_520 : pm_V d 145 520 [l0, l1, .ref xn, l3] st S Q = pm_V d 145 521 [l0, l1, .ref xn, l3] (.ref xn :: st) S Q := pv_aload_n (pm_cdi rfl dL_law_520) rfl
theorem q145_520N : pm_V d 145 520 [l0, l1, .null, l3] st S Q = pm_V d 145 521 [l0, l1, .null, l3] (.null :: st) S Q := pv_aload_nN (pm_cdi rfl dL_law_520) rfl
theorem q145_521 : pm_V d 145 521 [.ref xn, l1, l2, l3] st S Q = pm_V d 145 522 [.ref xn, l1, l2, l3] (.ref xn :: st) S Q := pv_aload_n (pm_cdi rfl dL_law_521) rfl
theorem q145_522 : pm_V d 145 522 [l0, l1, l2, .int xi] st S Q = pm_V d 145 523 [l0, l1, l2, .int xi] (.int xi :: st) S Q := pv_iload_n (pm_cdi rfl dL_law_522) rfl
theorem q145_523 : pm_V d 145 523 [l0, l1, l2, l3] st S Q = pm_V d 145 524 [l0, l1, l2, l3] (.int 1 :: st) S Q := pv_iconst (pm_cdi rfl dL_law_523) (by decide +kernel)
theorem q145_524 : pm_V d 145 524 [l0, l1, l2, l3] (.int yi :: .int xi :: st) S Q = pm_V d 145 525 [l0, l1, l2, l3] (.int (xi + yi) :: st) S Q := pv_iadd (pm_cdi rfl dL_law_524)
theorem q145_525 (hs : pm_ar S an 9 xi = true) : pm_V d 145 525 [l0, l1, l2, l3] (.int xi :: .ref an :: st) S Q = pm_V d 145 526 [l0, l1, l2, l3] (.int (pm_zi S an xi.toNatClampNeg) :: st) S Q := pv_sald (pm_cdi rfl dL_law_525) hs
theorem q145_526 : pm_V d 145 526 [.ref xn, l1, l2, l3] st S Q = pm_V d 145 527 [.ref xn, l1, l2, l3] (.ref xn :: st) S Q := pv_aload_n (pm_cdi rfl dL_law_526) rfl
theorem q145_527 : pm_V d 145 527 [l0, l1, l2, .int xi] st S Q = pm_V d 145 528 [l0, l1, l2, .int xi] (.int xi :: st) S Q := pv_iload_n (pm_cdi rfl dL_law_527) rfl
theorem q145_528 : pm_V d 145 528 [l0, l1, l2, l3] st S Q = pm_V d 145 529 [l0, l1, l2, l3] (.int 2 :: st) S Q := pv_iconst (pm_cdi rfl dL_law_528) (by decide +kernel)
theorem q145_529 : pm_V d 145 529 [l0, l1, l2, l3] (.int yi :: .int xi :: st) S Q = pm_V d 145 530 [l0, l1, l2, l3] (.int (xi + yi) :: st) S Q := pv_iadd (pm_cdi rfl dL_law_529)
theorem q145_530 (hs : pm_ar S an 9 xi = true) : pm_V d 145 530 [l0, l1, l2, l3] (.int xi :: .ref an :: st) S Q = pm_V d 145 531 [l0, l1, l2, l3] (.int (pm_zi S an xi.toNatClampNeg) :: st) S Q := pv_sald (pm_cdi rfl dL_law_530) hs
theorem q145_531 : pm_V d 145 531 [l0, l1, l2, l3] (.int xi :: st) S Q = if xi = 0 then pm_V d 145 538 [l0, l1, l2, l3] st S Q else pm_V d 145 534 [l0, l1, l2, l3] st S Q := pv_if_eq (pm_cdi rfl dL_law_531) rfl
theorem q145_534 : pm_V d 145 534 [l0, l1, l2, l3] st S Q = pm_V d 145 535 [l0, l1, l2, l3] (.int 1 :: st) S Q := pv_iconst (pm_cdi rfl dL_law_534) (by decide +kernel)
theorem q145_535 : pm_V d 145 535 [l0, l1, l2, l3] st S Q = pm_V d 145 539 [l0, l1, l2, l3] st S Q := pv_goto (pm_cdi rfl dL_law_535) rfl
theorem q145_538 : pm_V d 145 538 [l0, l1, l2, l3] st S Q = pm_V d 145 539 [l0, l1, l2, l3] (.int 0 :: st) S Q := pv_iconst (pm_cdi rfl dL_law_538) (by decide +kernel)
theorem q145_539 (hs : pm_sh S an = .inr 7) : pm_V (d + 1) 145 539 [l0, l1, l2, l3] [.int v1i, .int v0i, .ref an, .int r0i] S Q = pm_N d 128 [.ref an, .int v0i, .int v1i] S (fun r S' => pm_V (d + 1) 145 542 [l0, l1, l2, l3] (r.toList ++ [.int r0i]) S' Q) := pv_callV (as := [.int v0i, .int v1i]) (pm_cdi rfl dL_law_539) (Or.inl (by decide +kernel)) (by decide +kernel) (show _ = _ from (by decide +kernel : 2 = pm_np 128)) rfl (Nat.le_of_ble_eq_true rfl) (cl := 7) (by decide +kernel) hs
theorem q145_542 : pm_V d 145 542 [l0, l1, l2, l3] (.int yi :: .int xi :: st) S Q = if xi = yi then pm_V d 145 971 [l0, l1, l2, l3] st S Q else pm_V d 145 545 [l0, l1, l2, l3] st S Q := pv_icmp_eq (pm_cdi rfl dL_law_542) rfl
theorem q145_545 : pm_V d 145 545 [l0, l1, l2, l3] st S Q = pm_V d 145 546 [l0, l1, l2, l3] (.int 0 :: st) S Q := pv_iconst (pm_cdi rfl dL_law_545) (by decide +kernel)
theorem q145_546 (hx : xi = 0 ∨ xi = 1) : pm_V d 145 546 [l0, l1, l2, l3] [.int xi] S Q = Q (some (.int xi)) S := pv_rZ (pm_cdi rfl dL_law_546) (by decide +kernel) hx
theorem q145_547 : pm_V d 145 547 [l0, .ref xn, l2, l3] st S Q = pm_V d 145 548 [l0, .ref xn, l2, l3] (.ref xn :: st) S Q := pv_aload_n (pm_cdi rfl dL_law_547) rfl
theorem q145_547N : pm_V d 145 547 [l0, .null, l2, l3] st S Q = pm_V d 145 548 [l0, .null, l2, l3] (.null :: st) S Q := pv_aload_nN (pm_cdi rfl dL_law_547) rfl
theorem q145_548 : pm_V d 145 548 [.ref xn, l1, l2, l3] st S Q = pm_V d 145 549 [.ref xn, l1, l2, l3] (.ref xn :: st) S Q := pv_aload_n (pm_cdi rfl dL_law_548) rfl
theorem q145_549 : pm_V d 145 549 [l0, l1, l2, .int xi] st S Q = pm_V d 145 550 [l0, l1, l2, .int xi] (.int xi :: st) S Q := pv_iload_n (pm_cdi rfl dL_law_549) rfl
theorem q145_550 : pm_V d 145 550 [l0, l1, l2, l3] st S Q = pm_V d 145 551 [l0, l1, l2, l3] (.int 1 :: st) S Q := pv_iconst (pm_cdi rfl dL_law_550) (by decide +kernel)
theorem q145_551 : pm_V d 145 551 [l0, l1, l2, l3] (.int yi :: .int xi :: st) S Q = pm_V d 145 552 [l0, l1, l2, l3] (.int (xi + yi) :: st) S Q := pv_iadd (pm_cdi rfl dL_law_551)
theorem q145_552 (hs : pm_ar S an 9 xi = true) : pm_V d 145 552 [l0, l1, l2, l3] (.int xi :: .ref an :: st) S Q = pm_V d 145 553 [l0, l1, l2, l3] (.int (pm_zi S an xi.toNatClampNeg) :: st) S Q := pv_sald (pm_cdi rfl dL_law_552) hs
theorem q145_553 : pm_V d 145 553 [.ref xn, l1, l2, l3] st S Q = pm_V d 145 554 [.ref xn, l1, l2, l3] (.ref xn :: st) S Q := pv_aload_n (pm_cdi rfl dL_law_553) rfl
theorem q145_554 : pm_V d 145 554 [l0, l1, l2, .int xi] st S Q = pm_V d 145 555 [l0, l1, l2, .int xi] (.int xi :: st) S Q := pv_iload_n (pm_cdi rfl dL_law_554) rfl
theorem q145_555 : pm_V d 145 555 [l0, l1, l2, l3] st S Q = pm_V d 145 556 [l0, l1, l2, l3] (.int 2 :: st) S Q := pv_iconst (pm_cdi rfl dL_law_555) (by decide +kernel)
theorem q145_556 : pm_V d 145 556 [l0, l1, l2, l3] (.int yi :: .int xi :: st) S Q = pm_V d 145 557 [l0, l1, l2, l3] (.int (xi + yi) :: st) S Q := pv_iadd (pm_cdi rfl dL_law_556)
theorem q145_557 (hs : pm_ar S an 9 xi = true) : pm_V d 145 557 [l0, l1, l2, l3] (.int xi :: .ref an :: st) S Q = pm_V d 145 558 [l0, l1, l2, l3] (.int (pm_zi S an xi.toNatClampNeg) :: st) S Q := pv_sald (pm_cdi rfl dL_law_557) hs
theorem q145_558 (hs : pm_sh S an = .inr 6) : pm_V (d + 1) 145 558 [l0, l1, l2, l3] [.int v1i, .int v0i, .ref an] S Q = pm_N d 63 [.ref an, .int v0i, .int v1i] S (fun r S' => pm_V (d + 1) 145 561 [l0, l1, l2, l3] (r.toList ++ []) S' Q) := pv_callV (as := [.int v0i, .int v1i]) (pm_cdi rfl dL_law_558) (Or.inl (by decide +kernel)) (by decide +kernel) (show _ = _ from (by decide +kernel : 2 = pm_np 63)) rfl (Nat.le_of_ble_eq_true rfl) (cl := 6) (by decide +kernel) hs
theorem q145_561 : pm_V d 145 561 [l0, l1, .ref xn, l3] st S Q = pm_V d 145 562 [l0, l1, .ref xn, l3] (.ref xn :: st) S Q := pv_aload_n (pm_cdi rfl dL_law_561) rfl
theorem q145_561N : pm_V d 145 561 [l0, l1, .null, l3] st S Q = pm_V d 145 562 [l0, l1, .null, l3] (.null :: st) S Q := pv_aload_nN (pm_cdi rfl dL_law_561) rfl
theorem q145_562 : pm_V d 145 562 [.ref xn, l1, l2, l3] st S Q = pm_V d 145 563 [.ref xn, l1, l2, l3] (.ref xn :: st) S Q := pv_aload_n (pm_cdi rfl dL_law_562) rfl
theorem q145_563 : pm_V d 145 563 [l0, l1, l2, .int xi] st S Q = pm_V d 145 564 [l0, l1, l2, .int xi] (.int xi :: st) S Q := pv_iload_n (pm_cdi rfl dL_law_563) rfl
theorem q145_564 : pm_V d 145 564 [l0, l1, l2, l3] st S Q = pm_V d 145 565 [l0, l1, l2, l3] (.int 1 :: st) S Q := pv_iconst (pm_cdi rfl dL_law_564) (by decide +kernel)
theorem q145_565 : pm_V d 145 565 [l0, l1, l2, l3] (.int yi :: .int xi :: st) S Q = pm_V d 145 566 [l0, l1, l2, l3] (.int (xi + yi) :: st) S Q := pv_iadd (pm_cdi rfl dL_law_565)
theorem q145_566 (hs : pm_ar S an 9 xi = true) : pm_V d 145 566 [l0, l1, l2, l3] (.int xi :: .ref an :: st) S Q = pm_V d 145 567 [l0, l1, l2, l3] (.int (pm_zi S an xi.toNatClampNeg) :: st) S Q := pv_sald (pm_cdi rfl dL_law_566) hs
theorem q145_567 : pm_V d 145 567 [.ref xn, l1, l2, l3] st S Q = pm_V d 145 568 [.ref xn, l1, l2, l3] (.ref xn :: st) S Q := pv_aload_n (pm_cdi rfl dL_law_567) rfl
theorem q145_568 : pm_V d 145 568 [l0, l1, l2, .int xi] st S Q = pm_V d 145 569 [l0, l1, l2, .int xi] (.int xi :: st) S Q := pv_iload_n (pm_cdi rfl dL_law_568) rfl
theorem q145_569 : pm_V d 145 569 [l0, l1, l2, l3] st S Q = pm_V d 145 570 [l0, l1, l2, l3] (.int 2 :: st) S Q := pv_iconst (pm_cdi rfl dL_law_569) (by decide +kernel)
theorem q145_570 : pm_V d 145 570 [l0, l1, l2, l3] (.int yi :: .int xi :: st) S Q = pm_V d 145 571 [l0, l1, l2, l3] (.int (xi + yi) :: st) S Q := pv_iadd (pm_cdi rfl dL_law_570)
theorem q145_571 (hs : pm_ar S an 9 xi = true) : pm_V d 145 571 [l0, l1, l2, l3] (.int xi :: .ref an :: st) S Q = pm_V d 145 572 [l0, l1, l2, l3] (.int (pm_zi S an xi.toNatClampNeg) :: st) S Q := pv_sald (pm_cdi rfl dL_law_571) hs
theorem q145_572 (hs : pm_sh S an = .inr 7) : pm_V (d + 1) 145 572 [l0, l1, l2, l3] [.int v1i, .int v0i, .ref an, .int r0i] S Q = pm_N d 129 [.ref an, .int v0i, .int v1i] S (fun r S' => pm_V (d + 1) 145 575 [l0, l1, l2, l3] (r.toList ++ [.int r0i]) S' Q) := pv_callV (as := [.int v0i, .int v1i]) (pm_cdi rfl dL_law_572) (Or.inl (by decide +kernel)) (by decide +kernel) (show _ = _ from (by decide +kernel : 2 = pm_np 129)) rfl (Nat.le_of_ble_eq_true rfl) (cl := 7) (by decide +kernel) hs
theorem q145_575 : pm_V d 145 575 [l0, l1, l2, l3] (.int yi :: .int xi :: st) S Q = if xi = yi then pm_V d 145 971 [l0, l1, l2, l3] st S Q else pm_V d 145 578 [l0, l1, l2, l3] st S Q := pv_icmp_eq (pm_cdi rfl dL_law_575) rfl
theorem q145_578 : pm_V d 145 578 [l0, l1, l2, l3] st S Q = pm_V d 145 579 [l0, l1, l2, l3] (.int 0 :: st) S Q := pv_iconst (pm_cdi rfl dL_law_578) (by decide +kernel)
theorem q145_579 (hx : xi = 0 ∨ xi = 1) : pm_V d 145 579 [l0, l1, l2, l3] [.int xi] S Q = Q (some (.int xi)) S := pv_rZ (pm_cdi rfl dL_law_579) (by decide +kernel) hx
theorem q145_580 : pm_V d 145 580 [l0, .ref xn, l2, l3] st S Q = pm_V d 145 581 [l0, .ref xn, l2, l3] (.ref xn :: st) S Q := pv_aload_n (pm_cdi rfl dL_law_580) rfl
theorem q145_580N : pm_V d 145 580 [l0, .null, l2, l3] st S Q = pm_V d 145 581 [l0, .null, l2, l3] (.null :: st) S Q := pv_aload_nN (pm_cdi rfl dL_law_580) rfl
theorem q145_581 : pm_V d 145 581 [.ref xn, l1, l2, l3] st S Q = pm_V d 145 582 [.ref xn, l1, l2, l3] (.ref xn :: st) S Q := pv_aload_n (pm_cdi rfl dL_law_581) rfl
theorem q145_582 : pm_V d 145 582 [l0, l1, l2, .int xi] st S Q = pm_V d 145 583 [l0, l1, l2, .int xi] (.int xi :: st) S Q := pv_iload_n (pm_cdi rfl dL_law_582) rfl
theorem q145_583 : pm_V d 145 583 [l0, l1, l2, l3] st S Q = pm_V d 145 584 [l0, l1, l2, l3] (.int 1 :: st) S Q := pv_iconst (pm_cdi rfl dL_law_583) (by decide +kernel)
theorem q145_584 : pm_V d 145 584 [l0, l1, l2, l3] (.int yi :: .int xi :: st) S Q = pm_V d 145 585 [l0, l1, l2, l3] (.int (xi + yi) :: st) S Q := pv_iadd (pm_cdi rfl dL_law_584)
theorem q145_585 (hs : pm_ar S an 9 xi = true) : pm_V d 145 585 [l0, l1, l2, l3] (.int xi :: .ref an :: st) S Q = pm_V d 145 586 [l0, l1, l2, l3] (.int (pm_zi S an xi.toNatClampNeg) :: st) S Q := pv_sald (pm_cdi rfl dL_law_585) hs
theorem q145_586 : pm_V d 145 586 [.ref xn, l1, l2, l3] st S Q = pm_V d 145 587 [.ref xn, l1, l2, l3] (.ref xn :: st) S Q := pv_aload_n (pm_cdi rfl dL_law_586) rfl
theorem q145_587 : pm_V d 145 587 [l0, l1, l2, .int xi] st S Q = pm_V d 145 588 [l0, l1, l2, .int xi] (.int xi :: st) S Q := pv_iload_n (pm_cdi rfl dL_law_587) rfl
theorem q145_588 : pm_V d 145 588 [l0, l1, l2, l3] st S Q = pm_V d 145 589 [l0, l1, l2, l3] (.int 2 :: st) S Q := pv_iconst (pm_cdi rfl dL_law_588) (by decide +kernel)
theorem q145_589 : pm_V d 145 589 [l0, l1, l2, l3] (.int yi :: .int xi :: st) S Q = pm_V d 145 590 [l0, l1, l2, l3] (.int (xi + yi) :: st) S Q := pv_iadd (pm_cdi rfl dL_law_589)
theorem q145_590 (hs : pm_ar S an 9 xi = true) : pm_V d 145 590 [l0, l1, l2, l3] (.int xi :: .ref an :: st) S Q = pm_V d 145 591 [l0, l1, l2, l3] (.int (pm_zi S an xi.toNatClampNeg) :: st) S Q := pv_sald (pm_cdi rfl dL_law_590) hs
theorem q145_591 : pm_V d 145 591 [.ref xn, l1, l2, l3] st S Q = pm_V d 145 592 [.ref xn, l1, l2, l3] (.ref xn :: st) S Q := pv_aload_n (pm_cdi rfl dL_law_591) rfl
theorem q145_592 : pm_V d 145 592 [l0, l1, l2, .int xi] st S Q = pm_V d 145 593 [l0, l1, l2, .int xi] (.int xi :: st) S Q := pv_iload_n (pm_cdi rfl dL_law_592) rfl
theorem q145_593 : pm_V d 145 593 [l0, l1, l2, l3] st S Q = pm_V d 145 594 [l0, l1, l2, l3] (.int 3 :: st) S Q := pv_iconst (pm_cdi rfl dL_law_593) (by decide +kernel)
theorem q145_594 : pm_V d 145 594 [l0, l1, l2, l3] (.int yi :: .int xi :: st) S Q = pm_V d 145 595 [l0, l1, l2, l3] (.int (xi + yi) :: st) S Q := pv_iadd (pm_cdi rfl dL_law_594)
theorem q145_595 (hs : pm_ar S an 9 xi = true) : pm_V d 145 595 [l0, l1, l2, l3] (.int xi :: .ref an :: st) S Q = pm_V d 145 596 [l0, l1, l2, l3] (.int (pm_zi S an xi.toNatClampNeg) :: st) S Q := pv_sald (pm_cdi rfl dL_law_595) hs
theorem q145_596 (hs : pm_sh S an = .inr 6) : pm_V (d + 1) 145 596 [l0, l1, l2, l3] [.int v2i, .int v1i, .int v0i, .ref an] S Q = pm_N d 64 [.ref an, .int v0i, .int v1i, .int v2i] S (fun r S' => pm_V (d + 1) 145 599 [l0, l1, l2, l3] (r.toList ++ []) S' Q) := pv_callV (as := [.int v0i, .int v1i, .int v2i]) (pm_cdi rfl dL_law_596) (Or.inl (by decide +kernel)) (by decide +kernel) (show _ = _ from (by decide +kernel : 3 = pm_np 64)) rfl (Nat.le_of_ble_eq_true rfl) (cl := 6) (by decide +kernel) hs
theorem q145_599 : pm_V d 145 599 [l0, l1, .ref xn, l3] st S Q = pm_V d 145 600 [l0, l1, .ref xn, l3] (.ref xn :: st) S Q := pv_aload_n (pm_cdi rfl dL_law_599) rfl
theorem q145_599N : pm_V d 145 599 [l0, l1, .null, l3] st S Q = pm_V d 145 600 [l0, l1, .null, l3] (.null :: st) S Q := pv_aload_nN (pm_cdi rfl dL_law_599) rfl
theorem q145_600 : pm_V d 145 600 [.ref xn, l1, l2, l3] st S Q = pm_V d 145 601 [.ref xn, l1, l2, l3] (.ref xn :: st) S Q := pv_aload_n (pm_cdi rfl dL_law_600) rfl
theorem q145_601 : pm_V d 145 601 [l0, l1, l2, .int xi] st S Q = pm_V d 145 602 [l0, l1, l2, .int xi] (.int xi :: st) S Q := pv_iload_n (pm_cdi rfl dL_law_601) rfl
theorem q145_602 : pm_V d 145 602 [l0, l1, l2, l3] st S Q = pm_V d 145 603 [l0, l1, l2, l3] (.int 1 :: st) S Q := pv_iconst (pm_cdi rfl dL_law_602) (by decide +kernel)
theorem q145_603 : pm_V d 145 603 [l0, l1, l2, l3] (.int yi :: .int xi :: st) S Q = pm_V d 145 604 [l0, l1, l2, l3] (.int (xi + yi) :: st) S Q := pv_iadd (pm_cdi rfl dL_law_603)
theorem q145_604 (hs : pm_ar S an 9 xi = true) : pm_V d 145 604 [l0, l1, l2, l3] (.int xi :: .ref an :: st) S Q = pm_V d 145 605 [l0, l1, l2, l3] (.int (pm_zi S an xi.toNatClampNeg) :: st) S Q := pv_sald (pm_cdi rfl dL_law_604) hs
theorem q145_605 : pm_V d 145 605 [.ref xn, l1, l2, l3] st S Q = pm_V d 145 606 [.ref xn, l1, l2, l3] (.ref xn :: st) S Q := pv_aload_n (pm_cdi rfl dL_law_605) rfl
theorem q145_606 : pm_V d 145 606 [l0, l1, l2, .int xi] st S Q = pm_V d 145 607 [l0, l1, l2, .int xi] (.int xi :: st) S Q := pv_iload_n (pm_cdi rfl dL_law_606) rfl
theorem q145_607 : pm_V d 145 607 [l0, l1, l2, l3] st S Q = pm_V d 145 608 [l0, l1, l2, l3] (.int 2 :: st) S Q := pv_iconst (pm_cdi rfl dL_law_607) (by decide +kernel)
theorem q145_608 : pm_V d 145 608 [l0, l1, l2, l3] (.int yi :: .int xi :: st) S Q = pm_V d 145 609 [l0, l1, l2, l3] (.int (xi + yi) :: st) S Q := pv_iadd (pm_cdi rfl dL_law_608)
theorem q145_609 (hs : pm_ar S an 9 xi = true) : pm_V d 145 609 [l0, l1, l2, l3] (.int xi :: .ref an :: st) S Q = pm_V d 145 610 [l0, l1, l2, l3] (.int (pm_zi S an xi.toNatClampNeg) :: st) S Q := pv_sald (pm_cdi rfl dL_law_609) hs
theorem q145_610 : pm_V d 145 610 [.ref xn, l1, l2, l3] st S Q = pm_V d 145 611 [.ref xn, l1, l2, l3] (.ref xn :: st) S Q := pv_aload_n (pm_cdi rfl dL_law_610) rfl
theorem q145_611 : pm_V d 145 611 [l0, l1, l2, .int xi] st S Q = pm_V d 145 612 [l0, l1, l2, .int xi] (.int xi :: st) S Q := pv_iload_n (pm_cdi rfl dL_law_611) rfl
theorem q145_612 : pm_V d 145 612 [l0, l1, l2, l3] st S Q = pm_V d 145 613 [l0, l1, l2, l3] (.int 3 :: st) S Q := pv_iconst (pm_cdi rfl dL_law_612) (by decide +kernel)
theorem q145_613 : pm_V d 145 613 [l0, l1, l2, l3] (.int yi :: .int xi :: st) S Q = pm_V d 145 614 [l0, l1, l2, l3] (.int (xi + yi) :: st) S Q := pv_iadd (pm_cdi rfl dL_law_613)
theorem q145_614 (hs : pm_ar S an 9 xi = true) : pm_V d 145 614 [l0, l1, l2, l3] (.int xi :: .ref an :: st) S Q = pm_V d 145 615 [l0, l1, l2, l3] (.int (pm_zi S an xi.toNatClampNeg) :: st) S Q := pv_sald (pm_cdi rfl dL_law_614) hs
theorem q145_615 (hs : pm_sh S an = .inr 7) : pm_V (d + 1) 145 615 [l0, l1, l2, l3] [.int v2i, .int v1i, .int v0i, .ref an, .int r0i] S Q = pm_N d 130 [.ref an, .int v0i, .int v1i, .int v2i] S (fun r S' => pm_V (d + 1) 145 618 [l0, l1, l2, l3] (r.toList ++ [.int r0i]) S' Q) := pv_callV (as := [.int v0i, .int v1i, .int v2i]) (pm_cdi rfl dL_law_615) (Or.inl (by decide +kernel)) (by decide +kernel) (show _ = _ from (by decide +kernel : 3 = pm_np 130)) rfl (Nat.le_of_ble_eq_true rfl) (cl := 7) (by decide +kernel) hs
theorem q145_618 : pm_V d 145 618 [l0, l1, l2, l3] (.int yi :: .int xi :: st) S Q = if xi = yi then pm_V d 145 971 [l0, l1, l2, l3] st S Q else pm_V d 145 621 [l0, l1, l2, l3] st S Q := pv_icmp_eq (pm_cdi rfl dL_law_618) rfl
theorem q145_621 : pm_V d 145 621 [l0, l1, l2, l3] st S Q = pm_V d 145 622 [l0, l1, l2, l3] (.int 0 :: st) S Q := pv_iconst (pm_cdi rfl dL_law_621) (by decide +kernel)
theorem q145_622 (hx : xi = 0 ∨ xi = 1) : pm_V d 145 622 [l0, l1, l2, l3] [.int xi] S Q = Q (some (.int xi)) S := pv_rZ (pm_cdi rfl dL_law_622) (by decide +kernel) hx
theorem q145_623 : pm_V d 145 623 [l0, .ref xn, l2, l3] st S Q = pm_V d 145 624 [l0, .ref xn, l2, l3] (.ref xn :: st) S Q := pv_aload_n (pm_cdi rfl dL_law_623) rfl
theorem q145_623N : pm_V d 145 623 [l0, .null, l2, l3] st S Q = pm_V d 145 624 [l0, .null, l2, l3] (.null :: st) S Q := pv_aload_nN (pm_cdi rfl dL_law_623) rfl
theorem q145_624 : pm_V d 145 624 [.ref xn, l1, l2, l3] st S Q = pm_V d 145 625 [.ref xn, l1, l2, l3] (.ref xn :: st) S Q := pv_aload_n (pm_cdi rfl dL_law_624) rfl
theorem q145_625 : pm_V d 145 625 [l0, l1, l2, .int xi] st S Q = pm_V d 145 626 [l0, l1, l2, .int xi] (.int xi :: st) S Q := pv_iload_n (pm_cdi rfl dL_law_625) rfl
theorem q145_626 : pm_V d 145 626 [l0, l1, l2, l3] st S Q = pm_V d 145 627 [l0, l1, l2, l3] (.int 1 :: st) S Q := pv_iconst (pm_cdi rfl dL_law_626) (by decide +kernel)
theorem q145_627 : pm_V d 145 627 [l0, l1, l2, l3] (.int yi :: .int xi :: st) S Q = pm_V d 145 628 [l0, l1, l2, l3] (.int (xi + yi) :: st) S Q := pv_iadd (pm_cdi rfl dL_law_627)
theorem q145_628 (hs : pm_ar S an 9 xi = true) : pm_V d 145 628 [l0, l1, l2, l3] (.int xi :: .ref an :: st) S Q = pm_V d 145 629 [l0, l1, l2, l3] (.int (pm_zi S an xi.toNatClampNeg) :: st) S Q := pv_sald (pm_cdi rfl dL_law_628) hs
theorem q145_629 : pm_V d 145 629 [.ref xn, l1, l2, l3] st S Q = pm_V d 145 630 [.ref xn, l1, l2, l3] (.ref xn :: st) S Q := pv_aload_n (pm_cdi rfl dL_law_629) rfl
theorem q145_630 : pm_V d 145 630 [l0, l1, l2, .int xi] st S Q = pm_V d 145 631 [l0, l1, l2, .int xi] (.int xi :: st) S Q := pv_iload_n (pm_cdi rfl dL_law_630) rfl
theorem q145_631 : pm_V d 145 631 [l0, l1, l2, l3] st S Q = pm_V d 145 632 [l0, l1, l2, l3] (.int 2 :: st) S Q := pv_iconst (pm_cdi rfl dL_law_631) (by decide +kernel)
theorem q145_632 : pm_V d 145 632 [l0, l1, l2, l3] (.int yi :: .int xi :: st) S Q = pm_V d 145 633 [l0, l1, l2, l3] (.int (xi + yi) :: st) S Q := pv_iadd (pm_cdi rfl dL_law_632)
theorem q145_633 (hs : pm_ar S an 9 xi = true) : pm_V d 145 633 [l0, l1, l2, l3] (.int xi :: .ref an :: st) S Q = pm_V d 145 634 [l0, l1, l2, l3] (.int (pm_zi S an xi.toNatClampNeg) :: st) S Q := pv_sald (pm_cdi rfl dL_law_633) hs
theorem q145_634 : pm_V d 145 634 [.ref xn, l1, l2, l3] st S Q = pm_V d 145 635 [.ref xn, l1, l2, l3] (.ref xn :: st) S Q := pv_aload_n (pm_cdi rfl dL_law_634) rfl
theorem q145_635 : pm_V d 145 635 [l0, l1, l2, .int xi] st S Q = pm_V d 145 636 [l0, l1, l2, .int xi] (.int xi :: st) S Q := pv_iload_n (pm_cdi rfl dL_law_635) rfl
theorem q145_636 : pm_V d 145 636 [l0, l1, l2, l3] st S Q = pm_V d 145 637 [l0, l1, l2, l3] (.int 3 :: st) S Q := pv_iconst (pm_cdi rfl dL_law_636) (by decide +kernel)
theorem q145_637 : pm_V d 145 637 [l0, l1, l2, l3] (.int yi :: .int xi :: st) S Q = pm_V d 145 638 [l0, l1, l2, l3] (.int (xi + yi) :: st) S Q := pv_iadd (pm_cdi rfl dL_law_637)
theorem q145_638 (hs : pm_ar S an 9 xi = true) : pm_V d 145 638 [l0, l1, l2, l3] (.int xi :: .ref an :: st) S Q = pm_V d 145 639 [l0, l1, l2, l3] (.int (pm_zi S an xi.toNatClampNeg) :: st) S Q := pv_sald (pm_cdi rfl dL_law_638) hs
theorem q145_639 (hs : pm_sh S an = .inr 6) : pm_V (d + 1) 145 639 [l0, l1, l2, l3] [.int v2i, .int v1i, .int v0i, .ref an] S Q = pm_N d 65 [.ref an, .int v0i, .int v1i, .int v2i] S (fun r S' => pm_V (d + 1) 145 642 [l0, l1, l2, l3] (r.toList ++ []) S' Q) := pv_callV (as := [.int v0i, .int v1i, .int v2i]) (pm_cdi rfl dL_law_639) (Or.inl (by decide +kernel)) (by decide +kernel) (show _ = _ from (by decide +kernel : 3 = pm_np 65)) rfl (Nat.le_of_ble_eq_true rfl) (cl := 6) (by decide +kernel) hs
theorem q145_642 : pm_V d 145 642 [l0, l1, .ref xn, l3] st S Q = pm_V d 145 643 [l0, l1, .ref xn, l3] (.ref xn :: st) S Q := pv_aload_n (pm_cdi rfl dL_law_642) rfl
theorem q145_642N : pm_V d 145 642 [l0, l1, .null, l3] st S Q = pm_V d 145 643 [l0, l1, .null, l3] (.null :: st) S Q := pv_aload_nN (pm_cdi rfl dL_law_642) rfl
theorem q145_643 : pm_V d 145 643 [.ref xn, l1, l2, l3] st S Q = pm_V d 145 644 [.ref xn, l1, l2, l3] (.ref xn :: st) S Q := pv_aload_n (pm_cdi rfl dL_law_643) rfl
theorem q145_644 : pm_V d 145 644 [l0, l1, l2, .int xi] st S Q = pm_V d 145 645 [l0, l1, l2, .int xi] (.int xi :: st) S Q := pv_iload_n (pm_cdi rfl dL_law_644) rfl
theorem q145_645 : pm_V d 145 645 [l0, l1, l2, l3] st S Q = pm_V d 145 646 [l0, l1, l2, l3] (.int 1 :: st) S Q := pv_iconst (pm_cdi rfl dL_law_645) (by decide +kernel)
theorem q145_646 : pm_V d 145 646 [l0, l1, l2, l3] (.int yi :: .int xi :: st) S Q = pm_V d 145 647 [l0, l1, l2, l3] (.int (xi + yi) :: st) S Q := pv_iadd (pm_cdi rfl dL_law_646)
theorem q145_647 (hs : pm_ar S an 9 xi = true) : pm_V d 145 647 [l0, l1, l2, l3] (.int xi :: .ref an :: st) S Q = pm_V d 145 648 [l0, l1, l2, l3] (.int (pm_zi S an xi.toNatClampNeg) :: st) S Q := pv_sald (pm_cdi rfl dL_law_647) hs
theorem q145_648 : pm_V d 145 648 [.ref xn, l1, l2, l3] st S Q = pm_V d 145 649 [.ref xn, l1, l2, l3] (.ref xn :: st) S Q := pv_aload_n (pm_cdi rfl dL_law_648) rfl
theorem q145_649 : pm_V d 145 649 [l0, l1, l2, .int xi] st S Q = pm_V d 145 650 [l0, l1, l2, .int xi] (.int xi :: st) S Q := pv_iload_n (pm_cdi rfl dL_law_649) rfl
theorem q145_650 : pm_V d 145 650 [l0, l1, l2, l3] st S Q = pm_V d 145 651 [l0, l1, l2, l3] (.int 2 :: st) S Q := pv_iconst (pm_cdi rfl dL_law_650) (by decide +kernel)
theorem q145_651 : pm_V d 145 651 [l0, l1, l2, l3] (.int yi :: .int xi :: st) S Q = pm_V d 145 652 [l0, l1, l2, l3] (.int (xi + yi) :: st) S Q := pv_iadd (pm_cdi rfl dL_law_651)
theorem q145_652 (hs : pm_ar S an 9 xi = true) : pm_V d 145 652 [l0, l1, l2, l3] (.int xi :: .ref an :: st) S Q = pm_V d 145 653 [l0, l1, l2, l3] (.int (pm_zi S an xi.toNatClampNeg) :: st) S Q := pv_sald (pm_cdi rfl dL_law_652) hs
theorem q145_653 : pm_V d 145 653 [.ref xn, l1, l2, l3] st S Q = pm_V d 145 654 [.ref xn, l1, l2, l3] (.ref xn :: st) S Q := pv_aload_n (pm_cdi rfl dL_law_653) rfl
theorem q145_654 : pm_V d 145 654 [l0, l1, l2, .int xi] st S Q = pm_V d 145 655 [l0, l1, l2, .int xi] (.int xi :: st) S Q := pv_iload_n (pm_cdi rfl dL_law_654) rfl
theorem q145_655 : pm_V d 145 655 [l0, l1, l2, l3] st S Q = pm_V d 145 656 [l0, l1, l2, l3] (.int 3 :: st) S Q := pv_iconst (pm_cdi rfl dL_law_655) (by decide +kernel)
theorem q145_656 : pm_V d 145 656 [l0, l1, l2, l3] (.int yi :: .int xi :: st) S Q = pm_V d 145 657 [l0, l1, l2, l3] (.int (xi + yi) :: st) S Q := pv_iadd (pm_cdi rfl dL_law_656)
theorem q145_657 (hs : pm_ar S an 9 xi = true) : pm_V d 145 657 [l0, l1, l2, l3] (.int xi :: .ref an :: st) S Q = pm_V d 145 658 [l0, l1, l2, l3] (.int (pm_zi S an xi.toNatClampNeg) :: st) S Q := pv_sald (pm_cdi rfl dL_law_657) hs
theorem q145_658 (hs : pm_sh S an = .inr 7) : pm_V (d + 1) 145 658 [l0, l1, l2, l3] [.int v2i, .int v1i, .int v0i, .ref an, .long r0j] S Q = pm_N d 132 [.ref an, .int v0i, .int v1i, .int v2i] S (fun r S' => pm_V (d + 1) 145 661 [l0, l1, l2, l3] (r.toList ++ [.long r0j]) S' Q) := pv_callV (as := [.int v0i, .int v1i, .int v2i]) (pm_cdi rfl dL_law_658) (Or.inl (by decide +kernel)) (by decide +kernel) (show _ = _ from (by decide +kernel : 3 = pm_np 132)) rfl (Nat.le_of_ble_eq_true rfl) (cl := 7) (by decide +kernel) hs
theorem q145_661 : pm_V d 145 661 [l0, l1, l2, l3] (.long yj :: .long xj :: st) S Q = pm_V d 145 662 [l0, l1, l2, l3] (.int (lg_cmp xj yj) :: st) S Q := pv_lcmp (pm_cdi rfl dL_law_661)
theorem q145_662 : pm_V d 145 662 [l0, l1, l2, l3] (.int xi :: st) S Q = if xi = 0 then pm_V d 145 971 [l0, l1, l2, l3] st S Q else pm_V d 145 665 [l0, l1, l2, l3] st S Q := pv_if_eq (pm_cdi rfl dL_law_662) rfl
theorem q145_665 : pm_V d 145 665 [l0, l1, l2, l3] st S Q = pm_V d 145 666 [l0, l1, l2, l3] (.int 0 :: st) S Q := pv_iconst (pm_cdi rfl dL_law_665) (by decide +kernel)
theorem q145_666 (hx : xi = 0 ∨ xi = 1) : pm_V d 145 666 [l0, l1, l2, l3] [.int xi] S Q = Q (some (.int xi)) S := pv_rZ (pm_cdi rfl dL_law_666) (by decide +kernel) hx
theorem q145_667 : pm_V d 145 667 [l0, .ref xn, l2, l3] st S Q = pm_V d 145 668 [l0, .ref xn, l2, l3] (.ref xn :: st) S Q := pv_aload_n (pm_cdi rfl dL_law_667) rfl
theorem q145_667N : pm_V d 145 667 [l0, .null, l2, l3] st S Q = pm_V d 145 668 [l0, .null, l2, l3] (.null :: st) S Q := pv_aload_nN (pm_cdi rfl dL_law_667) rfl
theorem q145_668 : pm_V d 145 668 [.ref xn, l1, l2, l3] st S Q = pm_V d 145 669 [.ref xn, l1, l2, l3] (.ref xn :: st) S Q := pv_aload_n (pm_cdi rfl dL_law_668) rfl
theorem q145_669 : pm_V d 145 669 [l0, l1, l2, .int xi] st S Q = pm_V d 145 670 [l0, l1, l2, .int xi] (.int xi :: st) S Q := pv_iload_n (pm_cdi rfl dL_law_669) rfl
theorem q145_670 : pm_V d 145 670 [l0, l1, l2, l3] st S Q = pm_V d 145 671 [l0, l1, l2, l3] (.int 1 :: st) S Q := pv_iconst (pm_cdi rfl dL_law_670) (by decide +kernel)
theorem q145_671 : pm_V d 145 671 [l0, l1, l2, l3] (.int yi :: .int xi :: st) S Q = pm_V d 145 672 [l0, l1, l2, l3] (.int (xi + yi) :: st) S Q := pv_iadd (pm_cdi rfl dL_law_671)
theorem q145_672 (hs : pm_ar S an 9 xi = true) : pm_V d 145 672 [l0, l1, l2, l3] (.int xi :: .ref an :: st) S Q = pm_V d 145 673 [l0, l1, l2, l3] (.int (pm_zi S an xi.toNatClampNeg) :: st) S Q := pv_sald (pm_cdi rfl dL_law_672) hs
theorem q145_673 : pm_V d 145 673 [.ref xn, l1, l2, l3] st S Q = pm_V d 145 674 [.ref xn, l1, l2, l3] (.ref xn :: st) S Q := pv_aload_n (pm_cdi rfl dL_law_673) rfl
theorem q145_674 : pm_V d 145 674 [l0, l1, l2, .int xi] st S Q = pm_V d 145 675 [l0, l1, l2, .int xi] (.int xi :: st) S Q := pv_iload_n (pm_cdi rfl dL_law_674) rfl
theorem q145_675 : pm_V d 145 675 [l0, l1, l2, l3] st S Q = pm_V d 145 676 [l0, l1, l2, l3] (.int 2 :: st) S Q := pv_iconst (pm_cdi rfl dL_law_675) (by decide +kernel)
theorem q145_676 : pm_V d 145 676 [l0, l1, l2, l3] (.int yi :: .int xi :: st) S Q = pm_V d 145 677 [l0, l1, l2, l3] (.int (xi + yi) :: st) S Q := pv_iadd (pm_cdi rfl dL_law_676)
theorem q145_677 (hs : pm_ar S an 9 xi = true) : pm_V d 145 677 [l0, l1, l2, l3] (.int xi :: .ref an :: st) S Q = pm_V d 145 678 [l0, l1, l2, l3] (.int (pm_zi S an xi.toNatClampNeg) :: st) S Q := pv_sald (pm_cdi rfl dL_law_677) hs
theorem q145_678 : pm_V d 145 678 [.ref xn, l1, l2, l3] st S Q = pm_V d 145 679 [.ref xn, l1, l2, l3] (.ref xn :: st) S Q := pv_aload_n (pm_cdi rfl dL_law_678) rfl
theorem q145_679 : pm_V d 145 679 [l0, l1, l2, .int xi] st S Q = pm_V d 145 680 [l0, l1, l2, .int xi] (.int xi :: st) S Q := pv_iload_n (pm_cdi rfl dL_law_679) rfl
theorem q145_680 : pm_V d 145 680 [l0, l1, l2, l3] st S Q = pm_V d 145 681 [l0, l1, l2, l3] (.int 3 :: st) S Q := pv_iconst (pm_cdi rfl dL_law_680) (by decide +kernel)
theorem q145_681 : pm_V d 145 681 [l0, l1, l2, l3] (.int yi :: .int xi :: st) S Q = pm_V d 145 682 [l0, l1, l2, l3] (.int (xi + yi) :: st) S Q := pv_iadd (pm_cdi rfl dL_law_681)
theorem q145_682 (hs : pm_ar S an 9 xi = true) : pm_V d 145 682 [l0, l1, l2, l3] (.int xi :: .ref an :: st) S Q = pm_V d 145 683 [l0, l1, l2, l3] (.int (pm_zi S an xi.toNatClampNeg) :: st) S Q := pv_sald (pm_cdi rfl dL_law_682) hs
theorem q145_683 : pm_V d 145 683 [.ref xn, l1, l2, l3] st S Q = pm_V d 145 684 [.ref xn, l1, l2, l3] (.ref xn :: st) S Q := pv_aload_n (pm_cdi rfl dL_law_683) rfl
theorem q145_684 : pm_V d 145 684 [l0, l1, l2, .int xi] st S Q = pm_V d 145 685 [l0, l1, l2, .int xi] (.int xi :: st) S Q := pv_iload_n (pm_cdi rfl dL_law_684) rfl
theorem q145_685 : pm_V d 145 685 [l0, l1, l2, l3] st S Q = pm_V d 145 686 [l0, l1, l2, l3] (.int 4 :: st) S Q := pv_iconst (pm_cdi rfl dL_law_685) (by decide +kernel)
theorem q145_686 : pm_V d 145 686 [l0, l1, l2, l3] (.int yi :: .int xi :: st) S Q = pm_V d 145 687 [l0, l1, l2, l3] (.int (xi + yi) :: st) S Q := pv_iadd (pm_cdi rfl dL_law_686)
theorem q145_687 (hs : pm_ar S an 9 xi = true) : pm_V d 145 687 [l0, l1, l2, l3] (.int xi :: .ref an :: st) S Q = pm_V d 145 688 [l0, l1, l2, l3] (.int (pm_zi S an xi.toNatClampNeg) :: st) S Q := pv_sald (pm_cdi rfl dL_law_687) hs
theorem q145_688 (hs : pm_sh S an = .inr 6) : pm_V (d + 1) 145 688 [l0, l1, l2, l3] [.int v3i, .int v2i, .int v1i, .int v0i, .ref an] S Q = pm_N d 66 [.ref an, .int v0i, .int v1i, .int v2i, .int v3i] S (fun r S' => pm_V (d + 1) 145 691 [l0, l1, l2, l3] (r.toList ++ []) S' Q) := pv_callV (as := [.int v0i, .int v1i, .int v2i, .int v3i]) (pm_cdi rfl dL_law_688) (Or.inl (by decide +kernel)) (by decide +kernel) (show _ = _ from (by decide +kernel : 4 = pm_np 66)) rfl (Nat.le_of_ble_eq_true rfl) (cl := 6) (by decide +kernel) hs
theorem q145_691 : pm_V d 145 691 [l0, l1, .ref xn, l3] st S Q = pm_V d 145 692 [l0, l1, .ref xn, l3] (.ref xn :: st) S Q := pv_aload_n (pm_cdi rfl dL_law_691) rfl
theorem q145_691N : pm_V d 145 691 [l0, l1, .null, l3] st S Q = pm_V d 145 692 [l0, l1, .null, l3] (.null :: st) S Q := pv_aload_nN (pm_cdi rfl dL_law_691) rfl
theorem q145_692 : pm_V d 145 692 [.ref xn, l1, l2, l3] st S Q = pm_V d 145 693 [.ref xn, l1, l2, l3] (.ref xn :: st) S Q := pv_aload_n (pm_cdi rfl dL_law_692) rfl
theorem q145_693 : pm_V d 145 693 [l0, l1, l2, .int xi] st S Q = pm_V d 145 694 [l0, l1, l2, .int xi] (.int xi :: st) S Q := pv_iload_n (pm_cdi rfl dL_law_693) rfl
theorem q145_694 : pm_V d 145 694 [l0, l1, l2, l3] st S Q = pm_V d 145 695 [l0, l1, l2, l3] (.int 1 :: st) S Q := pv_iconst (pm_cdi rfl dL_law_694) (by decide +kernel)
theorem q145_695 : pm_V d 145 695 [l0, l1, l2, l3] (.int yi :: .int xi :: st) S Q = pm_V d 145 696 [l0, l1, l2, l3] (.int (xi + yi) :: st) S Q := pv_iadd (pm_cdi rfl dL_law_695)
theorem q145_696 (hs : pm_ar S an 9 xi = true) : pm_V d 145 696 [l0, l1, l2, l3] (.int xi :: .ref an :: st) S Q = pm_V d 145 697 [l0, l1, l2, l3] (.int (pm_zi S an xi.toNatClampNeg) :: st) S Q := pv_sald (pm_cdi rfl dL_law_696) hs
theorem q145_697 : pm_V d 145 697 [.ref xn, l1, l2, l3] st S Q = pm_V d 145 698 [.ref xn, l1, l2, l3] (.ref xn :: st) S Q := pv_aload_n (pm_cdi rfl dL_law_697) rfl
theorem q145_698 : pm_V d 145 698 [l0, l1, l2, .int xi] st S Q = pm_V d 145 699 [l0, l1, l2, .int xi] (.int xi :: st) S Q := pv_iload_n (pm_cdi rfl dL_law_698) rfl
theorem q145_699 : pm_V d 145 699 [l0, l1, l2, l3] st S Q = pm_V d 145 700 [l0, l1, l2, l3] (.int 2 :: st) S Q := pv_iconst (pm_cdi rfl dL_law_699) (by decide +kernel)
theorem q145_700 : pm_V d 145 700 [l0, l1, l2, l3] (.int yi :: .int xi :: st) S Q = pm_V d 145 701 [l0, l1, l2, l3] (.int (xi + yi) :: st) S Q := pv_iadd (pm_cdi rfl dL_law_700)
theorem q145_701 (hs : pm_ar S an 9 xi = true) : pm_V d 145 701 [l0, l1, l2, l3] (.int xi :: .ref an :: st) S Q = pm_V d 145 702 [l0, l1, l2, l3] (.int (pm_zi S an xi.toNatClampNeg) :: st) S Q := pv_sald (pm_cdi rfl dL_law_701) hs
theorem q145_702 : pm_V d 145 702 [.ref xn, l1, l2, l3] st S Q = pm_V d 145 703 [.ref xn, l1, l2, l3] (.ref xn :: st) S Q := pv_aload_n (pm_cdi rfl dL_law_702) rfl
theorem q145_703 : pm_V d 145 703 [l0, l1, l2, .int xi] st S Q = pm_V d 145 704 [l0, l1, l2, .int xi] (.int xi :: st) S Q := pv_iload_n (pm_cdi rfl dL_law_703) rfl
theorem q145_704 : pm_V d 145 704 [l0, l1, l2, l3] st S Q = pm_V d 145 705 [l0, l1, l2, l3] (.int 3 :: st) S Q := pv_iconst (pm_cdi rfl dL_law_704) (by decide +kernel)
theorem q145_705 : pm_V d 145 705 [l0, l1, l2, l3] (.int yi :: .int xi :: st) S Q = pm_V d 145 706 [l0, l1, l2, l3] (.int (xi + yi) :: st) S Q := pv_iadd (pm_cdi rfl dL_law_705)
theorem q145_706 (hs : pm_ar S an 9 xi = true) : pm_V d 145 706 [l0, l1, l2, l3] (.int xi :: .ref an :: st) S Q = pm_V d 145 707 [l0, l1, l2, l3] (.int (pm_zi S an xi.toNatClampNeg) :: st) S Q := pv_sald (pm_cdi rfl dL_law_706) hs
theorem q145_707 : pm_V d 145 707 [.ref xn, l1, l2, l3] st S Q = pm_V d 145 708 [.ref xn, l1, l2, l3] (.ref xn :: st) S Q := pv_aload_n (pm_cdi rfl dL_law_707) rfl
theorem q145_708 : pm_V d 145 708 [l0, l1, l2, .int xi] st S Q = pm_V d 145 709 [l0, l1, l2, .int xi] (.int xi :: st) S Q := pv_iload_n (pm_cdi rfl dL_law_708) rfl
theorem q145_709 : pm_V d 145 709 [l0, l1, l2, l3] st S Q = pm_V d 145 710 [l0, l1, l2, l3] (.int 4 :: st) S Q := pv_iconst (pm_cdi rfl dL_law_709) (by decide +kernel)
theorem q145_710 : pm_V d 145 710 [l0, l1, l2, l3] (.int yi :: .int xi :: st) S Q = pm_V d 145 711 [l0, l1, l2, l3] (.int (xi + yi) :: st) S Q := pv_iadd (pm_cdi rfl dL_law_710)
theorem q145_711 (hs : pm_ar S an 9 xi = true) : pm_V d 145 711 [l0, l1, l2, l3] (.int xi :: .ref an :: st) S Q = pm_V d 145 712 [l0, l1, l2, l3] (.int (pm_zi S an xi.toNatClampNeg) :: st) S Q := pv_sald (pm_cdi rfl dL_law_711) hs
theorem q145_712 (hs : pm_sh S an = .inr 7) : pm_V (d + 1) 145 712 [l0, l1, l2, l3] [.int v3i, .int v2i, .int v1i, .int v0i, .ref an, .int r0i] S Q = pm_N d 134 [.ref an, .int v0i, .int v1i, .int v2i, .int v3i] S (fun r S' => pm_V (d + 1) 145 715 [l0, l1, l2, l3] (r.toList ++ [.int r0i]) S' Q) := pv_callV (as := [.int v0i, .int v1i, .int v2i, .int v3i]) (pm_cdi rfl dL_law_712) (Or.inl (by decide +kernel)) (by decide +kernel) (show _ = _ from (by decide +kernel : 4 = pm_np 134)) rfl (Nat.le_of_ble_eq_true rfl) (cl := 7) (by decide +kernel) hs
theorem q145_715 : pm_V d 145 715 [l0, l1, l2, l3] (.int yi :: .int xi :: st) S Q = if xi = yi then pm_V d 145 971 [l0, l1, l2, l3] st S Q else pm_V d 145 718 [l0, l1, l2, l3] st S Q := pv_icmp_eq (pm_cdi rfl dL_law_715) rfl
theorem q145_718 : pm_V d 145 718 [l0, l1, l2, l3] st S Q = pm_V d 145 719 [l0, l1, l2, l3] (.int 0 :: st) S Q := pv_iconst (pm_cdi rfl dL_law_718) (by decide +kernel)
theorem q145_719 (hx : xi = 0 ∨ xi = 1) : pm_V d 145 719 [l0, l1, l2, l3] [.int xi] S Q = Q (some (.int xi)) S := pv_rZ (pm_cdi rfl dL_law_719) (by decide +kernel) hx
theorem q145_720 : pm_V d 145 720 [l0, .ref xn, l2, l3] st S Q = pm_V d 145 721 [l0, .ref xn, l2, l3] (.ref xn :: st) S Q := pv_aload_n (pm_cdi rfl dL_law_720) rfl
theorem q145_720N : pm_V d 145 720 [l0, .null, l2, l3] st S Q = pm_V d 145 721 [l0, .null, l2, l3] (.null :: st) S Q := pv_aload_nN (pm_cdi rfl dL_law_720) rfl
theorem q145_721 : pm_V d 145 721 [.ref xn, l1, l2, l3] st S Q = pm_V d 145 722 [.ref xn, l1, l2, l3] (.ref xn :: st) S Q := pv_aload_n (pm_cdi rfl dL_law_721) rfl
theorem q145_722 : pm_V d 145 722 [l0, l1, l2, .int xi] st S Q = pm_V d 145 723 [l0, l1, l2, .int xi] (.int xi :: st) S Q := pv_iload_n (pm_cdi rfl dL_law_722) rfl
theorem q145_723 : pm_V d 145 723 [l0, l1, l2, l3] st S Q = pm_V d 145 724 [l0, l1, l2, l3] (.int 1 :: st) S Q := pv_iconst (pm_cdi rfl dL_law_723) (by decide +kernel)
theorem q145_724 : pm_V d 145 724 [l0, l1, l2, l3] (.int yi :: .int xi :: st) S Q = pm_V d 145 725 [l0, l1, l2, l3] (.int (xi + yi) :: st) S Q := pv_iadd (pm_cdi rfl dL_law_724)
theorem q145_725 (hs : pm_ar S an 9 xi = true) : pm_V d 145 725 [l0, l1, l2, l3] (.int xi :: .ref an :: st) S Q = pm_V d 145 726 [l0, l1, l2, l3] (.int (pm_zi S an xi.toNatClampNeg) :: st) S Q := pv_sald (pm_cdi rfl dL_law_725) hs
theorem q145_726 : pm_V d 145 726 [.ref xn, l1, l2, l3] st S Q = pm_V d 145 727 [.ref xn, l1, l2, l3] (.ref xn :: st) S Q := pv_aload_n (pm_cdi rfl dL_law_726) rfl
theorem q145_727 : pm_V d 145 727 [l0, l1, l2, .int xi] st S Q = pm_V d 145 728 [l0, l1, l2, .int xi] (.int xi :: st) S Q := pv_iload_n (pm_cdi rfl dL_law_727) rfl
theorem q145_728 : pm_V d 145 728 [l0, l1, l2, l3] st S Q = pm_V d 145 729 [l0, l1, l2, l3] (.int 2 :: st) S Q := pv_iconst (pm_cdi rfl dL_law_728) (by decide +kernel)
theorem q145_729 : pm_V d 145 729 [l0, l1, l2, l3] (.int yi :: .int xi :: st) S Q = pm_V d 145 730 [l0, l1, l2, l3] (.int (xi + yi) :: st) S Q := pv_iadd (pm_cdi rfl dL_law_729)
theorem q145_730 (hs : pm_ar S an 9 xi = true) : pm_V d 145 730 [l0, l1, l2, l3] (.int xi :: .ref an :: st) S Q = pm_V d 145 731 [l0, l1, l2, l3] (.int (pm_zi S an xi.toNatClampNeg) :: st) S Q := pv_sald (pm_cdi rfl dL_law_730) hs
theorem q145_731 : pm_V d 145 731 [.ref xn, l1, l2, l3] st S Q = pm_V d 145 732 [.ref xn, l1, l2, l3] (.ref xn :: st) S Q := pv_aload_n (pm_cdi rfl dL_law_731) rfl
theorem q145_732 : pm_V d 145 732 [l0, l1, l2, .int xi] st S Q = pm_V d 145 733 [l0, l1, l2, .int xi] (.int xi :: st) S Q := pv_iload_n (pm_cdi rfl dL_law_732) rfl
theorem q145_733 : pm_V d 145 733 [l0, l1, l2, l3] st S Q = pm_V d 145 734 [l0, l1, l2, l3] (.int 3 :: st) S Q := pv_iconst (pm_cdi rfl dL_law_733) (by decide +kernel)
theorem q145_734 : pm_V d 145 734 [l0, l1, l2, l3] (.int yi :: .int xi :: st) S Q = pm_V d 145 735 [l0, l1, l2, l3] (.int (xi + yi) :: st) S Q := pv_iadd (pm_cdi rfl dL_law_734)
theorem q145_735 (hs : pm_ar S an 9 xi = true) : pm_V d 145 735 [l0, l1, l2, l3] (.int xi :: .ref an :: st) S Q = pm_V d 145 736 [l0, l1, l2, l3] (.int (pm_zi S an xi.toNatClampNeg) :: st) S Q := pv_sald (pm_cdi rfl dL_law_735) hs
theorem q145_736 : pm_V d 145 736 [.ref xn, l1, l2, l3] st S Q = pm_V d 145 737 [.ref xn, l1, l2, l3] (.ref xn :: st) S Q := pv_aload_n (pm_cdi rfl dL_law_736) rfl
theorem q145_737 : pm_V d 145 737 [l0, l1, l2, .int xi] st S Q = pm_V d 145 738 [l0, l1, l2, .int xi] (.int xi :: st) S Q := pv_iload_n (pm_cdi rfl dL_law_737) rfl
theorem q145_738 : pm_V d 145 738 [l0, l1, l2, l3] st S Q = pm_V d 145 739 [l0, l1, l2, l3] (.int 4 :: st) S Q := pv_iconst (pm_cdi rfl dL_law_738) (by decide +kernel)
theorem q145_739 : pm_V d 145 739 [l0, l1, l2, l3] (.int yi :: .int xi :: st) S Q = pm_V d 145 740 [l0, l1, l2, l3] (.int (xi + yi) :: st) S Q := pv_iadd (pm_cdi rfl dL_law_739)
theorem q145_740 (hs : pm_ar S an 9 xi = true) : pm_V d 145 740 [l0, l1, l2, l3] (.int xi :: .ref an :: st) S Q = pm_V d 145 741 [l0, l1, l2, l3] (.int (pm_zi S an xi.toNatClampNeg) :: st) S Q := pv_sald (pm_cdi rfl dL_law_740) hs
theorem q145_741 (hs : pm_sh S an = .inr 6) : pm_V (d + 1) 145 741 [l0, l1, l2, l3] [.int v3i, .int v2i, .int v1i, .int v0i, .ref an] S Q = pm_N d 67 [.ref an, .int v0i, .int v1i, .int v2i, .int v3i] S (fun r S' => pm_V (d + 1) 145 744 [l0, l1, l2, l3] (r.toList ++ []) S' Q) := pv_callV (as := [.int v0i, .int v1i, .int v2i, .int v3i]) (pm_cdi rfl dL_law_741) (Or.inl (by decide +kernel)) (by decide +kernel) (show _ = _ from (by decide +kernel : 4 = pm_np 67)) rfl (Nat.le_of_ble_eq_true rfl) (cl := 6) (by decide +kernel) hs
theorem q145_744 : pm_V d 145 744 [l0, l1, .ref xn, l3] st S Q = pm_V d 145 745 [l0, l1, .ref xn, l3] (.ref xn :: st) S Q := pv_aload_n (pm_cdi rfl dL_law_744) rfl
theorem q145_744N : pm_V d 145 744 [l0, l1, .null, l3] st S Q = pm_V d 145 745 [l0, l1, .null, l3] (.null :: st) S Q := pv_aload_nN (pm_cdi rfl dL_law_744) rfl
theorem q145_745 : pm_V d 145 745 [.ref xn, l1, l2, l3] st S Q = pm_V d 145 746 [.ref xn, l1, l2, l3] (.ref xn :: st) S Q := pv_aload_n (pm_cdi rfl dL_law_745) rfl
theorem q145_746 : pm_V d 145 746 [l0, l1, l2, .int xi] st S Q = pm_V d 145 747 [l0, l1, l2, .int xi] (.int xi :: st) S Q := pv_iload_n (pm_cdi rfl dL_law_746) rfl
theorem q145_747 : pm_V d 145 747 [l0, l1, l2, l3] st S Q = pm_V d 145 748 [l0, l1, l2, l3] (.int 1 :: st) S Q := pv_iconst (pm_cdi rfl dL_law_747) (by decide +kernel)
theorem q145_748 : pm_V d 145 748 [l0, l1, l2, l3] (.int yi :: .int xi :: st) S Q = pm_V d 145 749 [l0, l1, l2, l3] (.int (xi + yi) :: st) S Q := pv_iadd (pm_cdi rfl dL_law_748)
theorem q145_749 (hs : pm_ar S an 9 xi = true) : pm_V d 145 749 [l0, l1, l2, l3] (.int xi :: .ref an :: st) S Q = pm_V d 145 750 [l0, l1, l2, l3] (.int (pm_zi S an xi.toNatClampNeg) :: st) S Q := pv_sald (pm_cdi rfl dL_law_749) hs
theorem q145_750 : pm_V d 145 750 [.ref xn, l1, l2, l3] st S Q = pm_V d 145 751 [.ref xn, l1, l2, l3] (.ref xn :: st) S Q := pv_aload_n (pm_cdi rfl dL_law_750) rfl
theorem q145_751 : pm_V d 145 751 [l0, l1, l2, .int xi] st S Q = pm_V d 145 752 [l0, l1, l2, .int xi] (.int xi :: st) S Q := pv_iload_n (pm_cdi rfl dL_law_751) rfl
theorem q145_752 : pm_V d 145 752 [l0, l1, l2, l3] st S Q = pm_V d 145 753 [l0, l1, l2, l3] (.int 2 :: st) S Q := pv_iconst (pm_cdi rfl dL_law_752) (by decide +kernel)
theorem q145_753 : pm_V d 145 753 [l0, l1, l2, l3] (.int yi :: .int xi :: st) S Q = pm_V d 145 754 [l0, l1, l2, l3] (.int (xi + yi) :: st) S Q := pv_iadd (pm_cdi rfl dL_law_753)
theorem q145_754 (hs : pm_ar S an 9 xi = true) : pm_V d 145 754 [l0, l1, l2, l3] (.int xi :: .ref an :: st) S Q = pm_V d 145 755 [l0, l1, l2, l3] (.int (pm_zi S an xi.toNatClampNeg) :: st) S Q := pv_sald (pm_cdi rfl dL_law_754) hs
theorem q145_755 : pm_V d 145 755 [.ref xn, l1, l2, l3] st S Q = pm_V d 145 756 [.ref xn, l1, l2, l3] (.ref xn :: st) S Q := pv_aload_n (pm_cdi rfl dL_law_755) rfl
theorem q145_756 : pm_V d 145 756 [l0, l1, l2, .int xi] st S Q = pm_V d 145 757 [l0, l1, l2, .int xi] (.int xi :: st) S Q := pv_iload_n (pm_cdi rfl dL_law_756) rfl
theorem q145_757 : pm_V d 145 757 [l0, l1, l2, l3] st S Q = pm_V d 145 758 [l0, l1, l2, l3] (.int 3 :: st) S Q := pv_iconst (pm_cdi rfl dL_law_757) (by decide +kernel)
theorem q145_758 : pm_V d 145 758 [l0, l1, l2, l3] (.int yi :: .int xi :: st) S Q = pm_V d 145 759 [l0, l1, l2, l3] (.int (xi + yi) :: st) S Q := pv_iadd (pm_cdi rfl dL_law_758)
theorem q145_759 (hs : pm_ar S an 9 xi = true) : pm_V d 145 759 [l0, l1, l2, l3] (.int xi :: .ref an :: st) S Q = pm_V d 145 760 [l0, l1, l2, l3] (.int (pm_zi S an xi.toNatClampNeg) :: st) S Q := pv_sald (pm_cdi rfl dL_law_759) hs
theorem q145_760 : pm_V d 145 760 [.ref xn, l1, l2, l3] st S Q = pm_V d 145 761 [.ref xn, l1, l2, l3] (.ref xn :: st) S Q := pv_aload_n (pm_cdi rfl dL_law_760) rfl
theorem q145_761 : pm_V d 145 761 [l0, l1, l2, .int xi] st S Q = pm_V d 145 762 [l0, l1, l2, .int xi] (.int xi :: st) S Q := pv_iload_n (pm_cdi rfl dL_law_761) rfl
theorem q145_762 : pm_V d 145 762 [l0, l1, l2, l3] st S Q = pm_V d 145 763 [l0, l1, l2, l3] (.int 4 :: st) S Q := pv_iconst (pm_cdi rfl dL_law_762) (by decide +kernel)
theorem q145_763 : pm_V d 145 763 [l0, l1, l2, l3] (.int yi :: .int xi :: st) S Q = pm_V d 145 764 [l0, l1, l2, l3] (.int (xi + yi) :: st) S Q := pv_iadd (pm_cdi rfl dL_law_763)
theorem q145_764 (hs : pm_ar S an 9 xi = true) : pm_V d 145 764 [l0, l1, l2, l3] (.int xi :: .ref an :: st) S Q = pm_V d 145 765 [l0, l1, l2, l3] (.int (pm_zi S an xi.toNatClampNeg) :: st) S Q := pv_sald (pm_cdi rfl dL_law_764) hs
theorem q145_765 (hs : pm_sh S an = .inr 7) : pm_V (d + 1) 145 765 [l0, l1, l2, l3] [.int v3i, .int v2i, .int v1i, .int v0i, .ref an, .int r0i] S Q = pm_N d 135 [.ref an, .int v0i, .int v1i, .int v2i, .int v3i] S (fun r S' => pm_V (d + 1) 145 768 [l0, l1, l2, l3] (r.toList ++ [.int r0i]) S' Q) := pv_callV (as := [.int v0i, .int v1i, .int v2i, .int v3i]) (pm_cdi rfl dL_law_765) (Or.inl (by decide +kernel)) (by decide +kernel) (show _ = _ from (by decide +kernel : 4 = pm_np 135)) rfl (Nat.le_of_ble_eq_true rfl) (cl := 7) (by decide +kernel) hs
theorem q145_768 : pm_V d 145 768 [l0, l1, l2, l3] (.int yi :: .int xi :: st) S Q = if xi = yi then pm_V d 145 971 [l0, l1, l2, l3] st S Q else pm_V d 145 771 [l0, l1, l2, l3] st S Q := pv_icmp_eq (pm_cdi rfl dL_law_768) rfl
theorem q145_771 : pm_V d 145 771 [l0, l1, l2, l3] st S Q = pm_V d 145 772 [l0, l1, l2, l3] (.int 0 :: st) S Q := pv_iconst (pm_cdi rfl dL_law_771) (by decide +kernel)
theorem q145_772 (hx : xi = 0 ∨ xi = 1) : pm_V d 145 772 [l0, l1, l2, l3] [.int xi] S Q = Q (some (.int xi)) S := pv_rZ (pm_cdi rfl dL_law_772) (by decide +kernel) hx
theorem q145_773 : pm_V d 145 773 [l0, .ref xn, l2, l3] st S Q = pm_V d 145 774 [l0, .ref xn, l2, l3] (.ref xn :: st) S Q := pv_aload_n (pm_cdi rfl dL_law_773) rfl
theorem q145_773N : pm_V d 145 773 [l0, .null, l2, l3] st S Q = pm_V d 145 774 [l0, .null, l2, l3] (.null :: st) S Q := pv_aload_nN (pm_cdi rfl dL_law_773) rfl
theorem q145_774 : pm_V d 145 774 [.ref xn, l1, l2, l3] st S Q = pm_V d 145 775 [.ref xn, l1, l2, l3] (.ref xn :: st) S Q := pv_aload_n (pm_cdi rfl dL_law_774) rfl
theorem q145_775 : pm_V d 145 775 [l0, l1, l2, .int xi] st S Q = pm_V d 145 776 [l0, l1, l2, .int xi] (.int xi :: st) S Q := pv_iload_n (pm_cdi rfl dL_law_775) rfl
theorem q145_776 : pm_V d 145 776 [l0, l1, l2, l3] st S Q = pm_V d 145 777 [l0, l1, l2, l3] (.int 1 :: st) S Q := pv_iconst (pm_cdi rfl dL_law_776) (by decide +kernel)
theorem q145_777 : pm_V d 145 777 [l0, l1, l2, l3] (.int yi :: .int xi :: st) S Q = pm_V d 145 778 [l0, l1, l2, l3] (.int (xi + yi) :: st) S Q := pv_iadd (pm_cdi rfl dL_law_777)
theorem q145_778 (hs : pm_ar S an 9 xi = true) : pm_V d 145 778 [l0, l1, l2, l3] (.int xi :: .ref an :: st) S Q = pm_V d 145 779 [l0, l1, l2, l3] (.int (pm_zi S an xi.toNatClampNeg) :: st) S Q := pv_sald (pm_cdi rfl dL_law_778) hs
theorem q145_779 : pm_V d 145 779 [.ref xn, l1, l2, l3] st S Q = pm_V d 145 780 [.ref xn, l1, l2, l3] (.ref xn :: st) S Q := pv_aload_n (pm_cdi rfl dL_law_779) rfl
theorem q145_780 : pm_V d 145 780 [l0, l1, l2, .int xi] st S Q = pm_V d 145 781 [l0, l1, l2, .int xi] (.int xi :: st) S Q := pv_iload_n (pm_cdi rfl dL_law_780) rfl
theorem q145_781 : pm_V d 145 781 [l0, l1, l2, l3] st S Q = pm_V d 145 782 [l0, l1, l2, l3] (.int 2 :: st) S Q := pv_iconst (pm_cdi rfl dL_law_781) (by decide +kernel)
theorem q145_782 : pm_V d 145 782 [l0, l1, l2, l3] (.int yi :: .int xi :: st) S Q = pm_V d 145 783 [l0, l1, l2, l3] (.int (xi + yi) :: st) S Q := pv_iadd (pm_cdi rfl dL_law_782)
theorem q145_783 (hs : pm_ar S an 9 xi = true) : pm_V d 145 783 [l0, l1, l2, l3] (.int xi :: .ref an :: st) S Q = pm_V d 145 784 [l0, l1, l2, l3] (.int (pm_zi S an xi.toNatClampNeg) :: st) S Q := pv_sald (pm_cdi rfl dL_law_783) hs
theorem q145_784 : pm_V d 145 784 [.ref xn, l1, l2, l3] st S Q = pm_V d 145 785 [.ref xn, l1, l2, l3] (.ref xn :: st) S Q := pv_aload_n (pm_cdi rfl dL_law_784) rfl
theorem q145_785 : pm_V d 145 785 [l0, l1, l2, .int xi] st S Q = pm_V d 145 786 [l0, l1, l2, .int xi] (.int xi :: st) S Q := pv_iload_n (pm_cdi rfl dL_law_785) rfl
theorem q145_786 : pm_V d 145 786 [l0, l1, l2, l3] st S Q = pm_V d 145 787 [l0, l1, l2, l3] (.int 3 :: st) S Q := pv_iconst (pm_cdi rfl dL_law_786) (by decide +kernel)
theorem q145_787 : pm_V d 145 787 [l0, l1, l2, l3] (.int yi :: .int xi :: st) S Q = pm_V d 145 788 [l0, l1, l2, l3] (.int (xi + yi) :: st) S Q := pv_iadd (pm_cdi rfl dL_law_787)
theorem q145_788 (hs : pm_ar S an 9 xi = true) : pm_V d 145 788 [l0, l1, l2, l3] (.int xi :: .ref an :: st) S Q = pm_V d 145 789 [l0, l1, l2, l3] (.int (pm_zi S an xi.toNatClampNeg) :: st) S Q := pv_sald (pm_cdi rfl dL_law_788) hs
theorem q145_789 (hs : pm_sh S an = .inr 6) : pm_V (d + 1) 145 789 [l0, l1, l2, l3] [.int v2i, .int v1i, .int v0i, .ref an] S Q = pm_N d 68 [.ref an, .int v0i, .int v1i, .int v2i] S (fun r S' => pm_V (d + 1) 145 792 [l0, l1, l2, l3] (r.toList ++ []) S' Q) := pv_callV (as := [.int v0i, .int v1i, .int v2i]) (pm_cdi rfl dL_law_789) (Or.inl (by decide +kernel)) (by decide +kernel) (show _ = _ from (by decide +kernel : 3 = pm_np 68)) rfl (Nat.le_of_ble_eq_true rfl) (cl := 6) (by decide +kernel) hs
theorem q145_792 : pm_V d 145 792 [l0, l1, .ref xn, l3] st S Q = pm_V d 145 793 [l0, l1, .ref xn, l3] (.ref xn :: st) S Q := pv_aload_n (pm_cdi rfl dL_law_792) rfl
theorem q145_792N : pm_V d 145 792 [l0, l1, .null, l3] st S Q = pm_V d 145 793 [l0, l1, .null, l3] (.null :: st) S Q := pv_aload_nN (pm_cdi rfl dL_law_792) rfl
theorem q145_793 : pm_V d 145 793 [.ref xn, l1, l2, l3] st S Q = pm_V d 145 794 [.ref xn, l1, l2, l3] (.ref xn :: st) S Q := pv_aload_n (pm_cdi rfl dL_law_793) rfl
theorem q145_794 : pm_V d 145 794 [l0, l1, l2, .int xi] st S Q = pm_V d 145 795 [l0, l1, l2, .int xi] (.int xi :: st) S Q := pv_iload_n (pm_cdi rfl dL_law_794) rfl
theorem q145_795 : pm_V d 145 795 [l0, l1, l2, l3] st S Q = pm_V d 145 796 [l0, l1, l2, l3] (.int 1 :: st) S Q := pv_iconst (pm_cdi rfl dL_law_795) (by decide +kernel)
theorem q145_796 : pm_V d 145 796 [l0, l1, l2, l3] (.int yi :: .int xi :: st) S Q = pm_V d 145 797 [l0, l1, l2, l3] (.int (xi + yi) :: st) S Q := pv_iadd (pm_cdi rfl dL_law_796)
theorem q145_797 (hs : pm_ar S an 9 xi = true) : pm_V d 145 797 [l0, l1, l2, l3] (.int xi :: .ref an :: st) S Q = pm_V d 145 798 [l0, l1, l2, l3] (.int (pm_zi S an xi.toNatClampNeg) :: st) S Q := pv_sald (pm_cdi rfl dL_law_797) hs
theorem q145_798 : pm_V d 145 798 [.ref xn, l1, l2, l3] st S Q = pm_V d 145 799 [.ref xn, l1, l2, l3] (.ref xn :: st) S Q := pv_aload_n (pm_cdi rfl dL_law_798) rfl
theorem q145_799 : pm_V d 145 799 [l0, l1, l2, .int xi] st S Q = pm_V d 145 800 [l0, l1, l2, .int xi] (.int xi :: st) S Q := pv_iload_n (pm_cdi rfl dL_law_799) rfl
theorem q145_800 : pm_V d 145 800 [l0, l1, l2, l3] st S Q = pm_V d 145 801 [l0, l1, l2, l3] (.int 2 :: st) S Q := pv_iconst (pm_cdi rfl dL_law_800) (by decide +kernel)
theorem q145_801 : pm_V d 145 801 [l0, l1, l2, l3] (.int yi :: .int xi :: st) S Q = pm_V d 145 802 [l0, l1, l2, l3] (.int (xi + yi) :: st) S Q := pv_iadd (pm_cdi rfl dL_law_801)
theorem q145_802 (hs : pm_ar S an 9 xi = true) : pm_V d 145 802 [l0, l1, l2, l3] (.int xi :: .ref an :: st) S Q = pm_V d 145 803 [l0, l1, l2, l3] (.int (pm_zi S an xi.toNatClampNeg) :: st) S Q := pv_sald (pm_cdi rfl dL_law_802) hs
theorem q145_803 : pm_V d 145 803 [.ref xn, l1, l2, l3] st S Q = pm_V d 145 804 [.ref xn, l1, l2, l3] (.ref xn :: st) S Q := pv_aload_n (pm_cdi rfl dL_law_803) rfl
theorem q145_804 : pm_V d 145 804 [l0, l1, l2, .int xi] st S Q = pm_V d 145 805 [l0, l1, l2, .int xi] (.int xi :: st) S Q := pv_iload_n (pm_cdi rfl dL_law_804) rfl
theorem q145_805 : pm_V d 145 805 [l0, l1, l2, l3] st S Q = pm_V d 145 806 [l0, l1, l2, l3] (.int 3 :: st) S Q := pv_iconst (pm_cdi rfl dL_law_805) (by decide +kernel)
theorem q145_806 : pm_V d 145 806 [l0, l1, l2, l3] (.int yi :: .int xi :: st) S Q = pm_V d 145 807 [l0, l1, l2, l3] (.int (xi + yi) :: st) S Q := pv_iadd (pm_cdi rfl dL_law_806)
theorem q145_807 (hs : pm_ar S an 9 xi = true) : pm_V d 145 807 [l0, l1, l2, l3] (.int xi :: .ref an :: st) S Q = pm_V d 145 808 [l0, l1, l2, l3] (.int (pm_zi S an xi.toNatClampNeg) :: st) S Q := pv_sald (pm_cdi rfl dL_law_807) hs
theorem q145_808 (hs : pm_sh S an = .inr 7) : pm_V (d + 1) 145 808 [l0, l1, l2, l3] [.int v2i, .int v1i, .int v0i, .ref an, .int r0i] S Q = pm_N d 136 [.ref an, .int v0i, .int v1i, .int v2i] S (fun r S' => pm_V (d + 1) 145 811 [l0, l1, l2, l3] (r.toList ++ [.int r0i]) S' Q) := pv_callV (as := [.int v0i, .int v1i, .int v2i]) (pm_cdi rfl dL_law_808) (Or.inl (by decide +kernel)) (by decide +kernel) (show _ = _ from (by decide +kernel : 3 = pm_np 136)) rfl (Nat.le_of_ble_eq_true rfl) (cl := 7) (by decide +kernel) hs
theorem q145_811 : pm_V d 145 811 [l0, l1, l2, l3] (.int yi :: .int xi :: st) S Q = if xi = yi then pm_V d 145 971 [l0, l1, l2, l3] st S Q else pm_V d 145 814 [l0, l1, l2, l3] st S Q := pv_icmp_eq (pm_cdi rfl dL_law_811) rfl
theorem q145_814 : pm_V d 145 814 [l0, l1, l2, l3] st S Q = pm_V d 145 815 [l0, l1, l2, l3] (.int 0 :: st) S Q := pv_iconst (pm_cdi rfl dL_law_814) (by decide +kernel)
theorem q145_815 (hx : xi = 0 ∨ xi = 1) : pm_V d 145 815 [l0, l1, l2, l3] [.int xi] S Q = Q (some (.int xi)) S := pv_rZ (pm_cdi rfl dL_law_815) (by decide +kernel) hx
theorem q145_816 : pm_V d 145 816 [l0, .ref xn, l2, l3] st S Q = pm_V d 145 817 [l0, .ref xn, l2, l3] (.ref xn :: st) S Q := pv_aload_n (pm_cdi rfl dL_law_816) rfl
theorem q145_816N : pm_V d 145 816 [l0, .null, l2, l3] st S Q = pm_V d 145 817 [l0, .null, l2, l3] (.null :: st) S Q := pv_aload_nN (pm_cdi rfl dL_law_816) rfl
theorem q145_817 : pm_V d 145 817 [.ref xn, l1, l2, l3] st S Q = pm_V d 145 818 [.ref xn, l1, l2, l3] (.ref xn :: st) S Q := pv_aload_n (pm_cdi rfl dL_law_817) rfl
theorem q145_818 : pm_V d 145 818 [l0, l1, l2, .int xi] st S Q = pm_V d 145 819 [l0, l1, l2, .int xi] (.int xi :: st) S Q := pv_iload_n (pm_cdi rfl dL_law_818) rfl
theorem q145_819 : pm_V d 145 819 [l0, l1, l2, l3] st S Q = pm_V d 145 820 [l0, l1, l2, l3] (.int 1 :: st) S Q := pv_iconst (pm_cdi rfl dL_law_819) (by decide +kernel)
theorem q145_820 : pm_V d 145 820 [l0, l1, l2, l3] (.int yi :: .int xi :: st) S Q = pm_V d 145 821 [l0, l1, l2, l3] (.int (xi + yi) :: st) S Q := pv_iadd (pm_cdi rfl dL_law_820)
theorem q145_821 (hs : pm_ar S an 9 xi = true) : pm_V d 145 821 [l0, l1, l2, l3] (.int xi :: .ref an :: st) S Q = pm_V d 145 822 [l0, l1, l2, l3] (.int (pm_zi S an xi.toNatClampNeg) :: st) S Q := pv_sald (pm_cdi rfl dL_law_821) hs
theorem q145_822 : pm_V d 145 822 [.ref xn, l1, l2, l3] st S Q = pm_V d 145 823 [.ref xn, l1, l2, l3] (.ref xn :: st) S Q := pv_aload_n (pm_cdi rfl dL_law_822) rfl
theorem q145_823 : pm_V d 145 823 [l0, l1, l2, .int xi] st S Q = pm_V d 145 824 [l0, l1, l2, .int xi] (.int xi :: st) S Q := pv_iload_n (pm_cdi rfl dL_law_823) rfl
theorem q145_824 : pm_V d 145 824 [l0, l1, l2, l3] st S Q = pm_V d 145 825 [l0, l1, l2, l3] (.int 2 :: st) S Q := pv_iconst (pm_cdi rfl dL_law_824) (by decide +kernel)
theorem q145_825 : pm_V d 145 825 [l0, l1, l2, l3] (.int yi :: .int xi :: st) S Q = pm_V d 145 826 [l0, l1, l2, l3] (.int (xi + yi) :: st) S Q := pv_iadd (pm_cdi rfl dL_law_825)
theorem q145_826 (hs : pm_ar S an 9 xi = true) : pm_V d 145 826 [l0, l1, l2, l3] (.int xi :: .ref an :: st) S Q = pm_V d 145 827 [l0, l1, l2, l3] (.int (pm_zi S an xi.toNatClampNeg) :: st) S Q := pv_sald (pm_cdi rfl dL_law_826) hs
theorem q145_827 (hs : pm_sh S an = .inr 6) : pm_V (d + 1) 145 827 [l0, l1, l2, l3] [.int v1i, .int v0i, .ref an] S Q = pm_N d 69 [.ref an, .int v0i, .int v1i] S (fun r S' => pm_V (d + 1) 145 830 [l0, l1, l2, l3] (r.toList ++ []) S' Q) := pv_callV (as := [.int v0i, .int v1i]) (pm_cdi rfl dL_law_827) (Or.inl (by decide +kernel)) (by decide +kernel) (show _ = _ from (by decide +kernel : 2 = pm_np 69)) rfl (Nat.le_of_ble_eq_true rfl) (cl := 6) (by decide +kernel) hs
theorem q145_830 : pm_V d 145 830 [l0, l1, .ref xn, l3] st S Q = pm_V d 145 831 [l0, l1, .ref xn, l3] (.ref xn :: st) S Q := pv_aload_n (pm_cdi rfl dL_law_830) rfl
theorem q145_830N : pm_V d 145 830 [l0, l1, .null, l3] st S Q = pm_V d 145 831 [l0, l1, .null, l3] (.null :: st) S Q := pv_aload_nN (pm_cdi rfl dL_law_830) rfl
theorem q145_831 : pm_V d 145 831 [.ref xn, l1, l2, l3] st S Q = pm_V d 145 832 [.ref xn, l1, l2, l3] (.ref xn :: st) S Q := pv_aload_n (pm_cdi rfl dL_law_831) rfl
theorem q145_832 : pm_V d 145 832 [l0, l1, l2, .int xi] st S Q = pm_V d 145 833 [l0, l1, l2, .int xi] (.int xi :: st) S Q := pv_iload_n (pm_cdi rfl dL_law_832) rfl
theorem q145_833 : pm_V d 145 833 [l0, l1, l2, l3] st S Q = pm_V d 145 834 [l0, l1, l2, l3] (.int 1 :: st) S Q := pv_iconst (pm_cdi rfl dL_law_833) (by decide +kernel)
theorem q145_834 : pm_V d 145 834 [l0, l1, l2, l3] (.int yi :: .int xi :: st) S Q = pm_V d 145 835 [l0, l1, l2, l3] (.int (xi + yi) :: st) S Q := pv_iadd (pm_cdi rfl dL_law_834)
theorem q145_835 (hs : pm_ar S an 9 xi = true) : pm_V d 145 835 [l0, l1, l2, l3] (.int xi :: .ref an :: st) S Q = pm_V d 145 836 [l0, l1, l2, l3] (.int (pm_zi S an xi.toNatClampNeg) :: st) S Q := pv_sald (pm_cdi rfl dL_law_835) hs
theorem q145_836 : pm_V d 145 836 [.ref xn, l1, l2, l3] st S Q = pm_V d 145 837 [.ref xn, l1, l2, l3] (.ref xn :: st) S Q := pv_aload_n (pm_cdi rfl dL_law_836) rfl
theorem q145_837 : pm_V d 145 837 [l0, l1, l2, .int xi] st S Q = pm_V d 145 838 [l0, l1, l2, .int xi] (.int xi :: st) S Q := pv_iload_n (pm_cdi rfl dL_law_837) rfl
theorem q145_838 : pm_V d 145 838 [l0, l1, l2, l3] st S Q = pm_V d 145 839 [l0, l1, l2, l3] (.int 2 :: st) S Q := pv_iconst (pm_cdi rfl dL_law_838) (by decide +kernel)
theorem q145_839 : pm_V d 145 839 [l0, l1, l2, l3] (.int yi :: .int xi :: st) S Q = pm_V d 145 840 [l0, l1, l2, l3] (.int (xi + yi) :: st) S Q := pv_iadd (pm_cdi rfl dL_law_839)
theorem q145_840 (hs : pm_ar S an 9 xi = true) : pm_V d 145 840 [l0, l1, l2, l3] (.int xi :: .ref an :: st) S Q = pm_V d 145 841 [l0, l1, l2, l3] (.int (pm_zi S an xi.toNatClampNeg) :: st) S Q := pv_sald (pm_cdi rfl dL_law_840) hs
theorem q145_841 (hs : pm_sh S an = .inr 7) : pm_V (d + 1) 145 841 [l0, l1, l2, l3] [.int v1i, .int v0i, .ref an, .int r0i] S Q = pm_N d 137 [.ref an, .int v0i, .int v1i] S (fun r S' => pm_V (d + 1) 145 844 [l0, l1, l2, l3] (r.toList ++ [.int r0i]) S' Q) := pv_callV (as := [.int v0i, .int v1i]) (pm_cdi rfl dL_law_841) (Or.inl (by decide +kernel)) (by decide +kernel) (show _ = _ from (by decide +kernel : 2 = pm_np 137)) rfl (Nat.le_of_ble_eq_true rfl) (cl := 7) (by decide +kernel) hs
theorem q145_844 : pm_V d 145 844 [l0, l1, l2, l3] (.int yi :: .int xi :: st) S Q = if xi = yi then pm_V d 145 971 [l0, l1, l2, l3] st S Q else pm_V d 145 847 [l0, l1, l2, l3] st S Q := pv_icmp_eq (pm_cdi rfl dL_law_844) rfl
theorem q145_847 : pm_V d 145 847 [l0, l1, l2, l3] st S Q = pm_V d 145 848 [l0, l1, l2, l3] (.int 0 :: st) S Q := pv_iconst (pm_cdi rfl dL_law_847) (by decide +kernel)
theorem q145_848 (hx : xi = 0 ∨ xi = 1) : pm_V d 145 848 [l0, l1, l2, l3] [.int xi] S Q = Q (some (.int xi)) S := pv_rZ (pm_cdi rfl dL_law_848) (by decide +kernel) hx
theorem q145_849 : pm_V d 145 849 [l0, .ref xn, l2, l3] st S Q = pm_V d 145 850 [l0, .ref xn, l2, l3] (.ref xn :: st) S Q := pv_aload_n (pm_cdi rfl dL_law_849) rfl
theorem q145_849N : pm_V d 145 849 [l0, .null, l2, l3] st S Q = pm_V d 145 850 [l0, .null, l2, l3] (.null :: st) S Q := pv_aload_nN (pm_cdi rfl dL_law_849) rfl
theorem q145_850 : pm_V d 145 850 [.ref xn, l1, l2, l3] st S Q = pm_V d 145 851 [.ref xn, l1, l2, l3] (.ref xn :: st) S Q := pv_aload_n (pm_cdi rfl dL_law_850) rfl
theorem q145_851 : pm_V d 145 851 [l0, l1, l2, .int xi] st S Q = pm_V d 145 852 [l0, l1, l2, .int xi] (.int xi :: st) S Q := pv_iload_n (pm_cdi rfl dL_law_851) rfl
theorem q145_852 : pm_V d 145 852 [l0, l1, l2, l3] st S Q = pm_V d 145 853 [l0, l1, l2, l3] (.int 1 :: st) S Q := pv_iconst (pm_cdi rfl dL_law_852) (by decide +kernel)
theorem q145_853 : pm_V d 145 853 [l0, l1, l2, l3] (.int yi :: .int xi :: st) S Q = pm_V d 145 854 [l0, l1, l2, l3] (.int (xi + yi) :: st) S Q := pv_iadd (pm_cdi rfl dL_law_853)
theorem q145_854 (hs : pm_ar S an 9 xi = true) : pm_V d 145 854 [l0, l1, l2, l3] (.int xi :: .ref an :: st) S Q = pm_V d 145 855 [l0, l1, l2, l3] (.int (pm_zi S an xi.toNatClampNeg) :: st) S Q := pv_sald (pm_cdi rfl dL_law_854) hs
theorem q145_855 : pm_V d 145 855 [.ref xn, l1, l2, l3] st S Q = pm_V d 145 856 [.ref xn, l1, l2, l3] (.ref xn :: st) S Q := pv_aload_n (pm_cdi rfl dL_law_855) rfl
theorem q145_856 : pm_V d 145 856 [l0, l1, l2, .int xi] st S Q = pm_V d 145 857 [l0, l1, l2, .int xi] (.int xi :: st) S Q := pv_iload_n (pm_cdi rfl dL_law_856) rfl
theorem q145_857 : pm_V d 145 857 [l0, l1, l2, l3] st S Q = pm_V d 145 858 [l0, l1, l2, l3] (.int 2 :: st) S Q := pv_iconst (pm_cdi rfl dL_law_857) (by decide +kernel)
theorem q145_858 : pm_V d 145 858 [l0, l1, l2, l3] (.int yi :: .int xi :: st) S Q = pm_V d 145 859 [l0, l1, l2, l3] (.int (xi + yi) :: st) S Q := pv_iadd (pm_cdi rfl dL_law_858)
theorem q145_859 (hs : pm_ar S an 9 xi = true) : pm_V d 145 859 [l0, l1, l2, l3] (.int xi :: .ref an :: st) S Q = pm_V d 145 860 [l0, l1, l2, l3] (.int (pm_zi S an xi.toNatClampNeg) :: st) S Q := pv_sald (pm_cdi rfl dL_law_859) hs
theorem q145_860 (hs : pm_sh S an = .inr 6) : pm_V (d + 1) 145 860 [l0, l1, l2, l3] [.int v1i, .int v0i, .ref an] S Q = pm_N d 70 [.ref an, .int v0i, .int v1i] S (fun r S' => pm_V (d + 1) 145 863 [l0, l1, l2, l3] (r.toList ++ []) S' Q) := pv_callV (as := [.int v0i, .int v1i]) (pm_cdi rfl dL_law_860) (Or.inl (by decide +kernel)) (by decide +kernel) (show _ = _ from (by decide +kernel : 2 = pm_np 70)) rfl (Nat.le_of_ble_eq_true rfl) (cl := 6) (by decide +kernel) hs
theorem q145_863 : pm_V d 145 863 [l0, l1, .ref xn, l3] st S Q = pm_V d 145 864 [l0, l1, .ref xn, l3] (.ref xn :: st) S Q := pv_aload_n (pm_cdi rfl dL_law_863) rfl
theorem q145_863N : pm_V d 145 863 [l0, l1, .null, l3] st S Q = pm_V d 145 864 [l0, l1, .null, l3] (.null :: st) S Q := pv_aload_nN (pm_cdi rfl dL_law_863) rfl
theorem q145_864 : pm_V d 145 864 [.ref xn, l1, l2, l3] st S Q = pm_V d 145 865 [.ref xn, l1, l2, l3] (.ref xn :: st) S Q := pv_aload_n (pm_cdi rfl dL_law_864) rfl
theorem q145_865 : pm_V d 145 865 [l0, l1, l2, .int xi] st S Q = pm_V d 145 866 [l0, l1, l2, .int xi] (.int xi :: st) S Q := pv_iload_n (pm_cdi rfl dL_law_865) rfl
theorem q145_866 : pm_V d 145 866 [l0, l1, l2, l3] st S Q = pm_V d 145 867 [l0, l1, l2, l3] (.int 1 :: st) S Q := pv_iconst (pm_cdi rfl dL_law_866) (by decide +kernel)
theorem q145_867 : pm_V d 145 867 [l0, l1, l2, l3] (.int yi :: .int xi :: st) S Q = pm_V d 145 868 [l0, l1, l2, l3] (.int (xi + yi) :: st) S Q := pv_iadd (pm_cdi rfl dL_law_867)
theorem q145_868 (hs : pm_ar S an 9 xi = true) : pm_V d 145 868 [l0, l1, l2, l3] (.int xi :: .ref an :: st) S Q = pm_V d 145 869 [l0, l1, l2, l3] (.int (pm_zi S an xi.toNatClampNeg) :: st) S Q := pv_sald (pm_cdi rfl dL_law_868) hs
theorem q145_869 : pm_V d 145 869 [.ref xn, l1, l2, l3] st S Q = pm_V d 145 870 [.ref xn, l1, l2, l3] (.ref xn :: st) S Q := pv_aload_n (pm_cdi rfl dL_law_869) rfl
theorem q145_870 : pm_V d 145 870 [l0, l1, l2, .int xi] st S Q = pm_V d 145 871 [l0, l1, l2, .int xi] (.int xi :: st) S Q := pv_iload_n (pm_cdi rfl dL_law_870) rfl
theorem q145_871 : pm_V d 145 871 [l0, l1, l2, l3] st S Q = pm_V d 145 872 [l0, l1, l2, l3] (.int 2 :: st) S Q := pv_iconst (pm_cdi rfl dL_law_871) (by decide +kernel)
theorem q145_872 : pm_V d 145 872 [l0, l1, l2, l3] (.int yi :: .int xi :: st) S Q = pm_V d 145 873 [l0, l1, l2, l3] (.int (xi + yi) :: st) S Q := pv_iadd (pm_cdi rfl dL_law_872)
theorem q145_873 (hs : pm_ar S an 9 xi = true) : pm_V d 145 873 [l0, l1, l2, l3] (.int xi :: .ref an :: st) S Q = pm_V d 145 874 [l0, l1, l2, l3] (.int (pm_zi S an xi.toNatClampNeg) :: st) S Q := pv_sald (pm_cdi rfl dL_law_873) hs
theorem q145_874 (hs : pm_sh S an = .inr 7) : pm_V (d + 1) 145 874 [l0, l1, l2, l3] [.int v1i, .int v0i, .ref an, .int r0i] S Q = pm_N d 138 [.ref an, .int v0i, .int v1i] S (fun r S' => pm_V (d + 1) 145 877 [l0, l1, l2, l3] (r.toList ++ [.int r0i]) S' Q) := pv_callV (as := [.int v0i, .int v1i]) (pm_cdi rfl dL_law_874) (Or.inl (by decide +kernel)) (by decide +kernel) (show _ = _ from (by decide +kernel : 2 = pm_np 138)) rfl (Nat.le_of_ble_eq_true rfl) (cl := 7) (by decide +kernel) hs
theorem q145_877 : pm_V d 145 877 [l0, l1, l2, l3] (.int yi :: .int xi :: st) S Q = if xi = yi then pm_V d 145 971 [l0, l1, l2, l3] st S Q else pm_V d 145 880 [l0, l1, l2, l3] st S Q := pv_icmp_eq (pm_cdi rfl dL_law_877) rfl
theorem q145_880 : pm_V d 145 880 [l0, l1, l2, l3] st S Q = pm_V d 145 881 [l0, l1, l2, l3] (.int 0 :: st) S Q := pv_iconst (pm_cdi rfl dL_law_880) (by decide +kernel)
theorem q145_881 (hx : xi = 0 ∨ xi = 1) : pm_V d 145 881 [l0, l1, l2, l3] [.int xi] S Q = Q (some (.int xi)) S := pv_rZ (pm_cdi rfl dL_law_881) (by decide +kernel) hx
theorem q145_882 : pm_V d 145 882 [l0, .ref xn, l2, l3] st S Q = pm_V d 145 883 [l0, .ref xn, l2, l3] (.ref xn :: st) S Q := pv_aload_n (pm_cdi rfl dL_law_882) rfl
theorem q145_882N : pm_V d 145 882 [l0, .null, l2, l3] st S Q = pm_V d 145 883 [l0, .null, l2, l3] (.null :: st) S Q := pv_aload_nN (pm_cdi rfl dL_law_882) rfl
theorem q145_883 : pm_V d 145 883 [.ref xn, l1, l2, l3] st S Q = pm_V d 145 884 [.ref xn, l1, l2, l3] (.ref xn :: st) S Q := pv_aload_n (pm_cdi rfl dL_law_883) rfl
theorem q145_884 : pm_V d 145 884 [l0, l1, l2, .int xi] st S Q = pm_V d 145 885 [l0, l1, l2, .int xi] (.int xi :: st) S Q := pv_iload_n (pm_cdi rfl dL_law_884) rfl
theorem q145_885 : pm_V d 145 885 [l0, l1, l2, l3] st S Q = pm_V d 145 886 [l0, l1, l2, l3] (.int 1 :: st) S Q := pv_iconst (pm_cdi rfl dL_law_885) (by decide +kernel)
theorem q145_886 : pm_V d 145 886 [l0, l1, l2, l3] (.int yi :: .int xi :: st) S Q = pm_V d 145 887 [l0, l1, l2, l3] (.int (xi + yi) :: st) S Q := pv_iadd (pm_cdi rfl dL_law_886)
theorem q145_887 (hs : pm_ar S an 9 xi = true) : pm_V d 145 887 [l0, l1, l2, l3] (.int xi :: .ref an :: st) S Q = pm_V d 145 888 [l0, l1, l2, l3] (.int (pm_zi S an xi.toNatClampNeg) :: st) S Q := pv_sald (pm_cdi rfl dL_law_887) hs
theorem q145_888 : pm_V d 145 888 [.ref xn, l1, l2, l3] st S Q = pm_V d 145 889 [.ref xn, l1, l2, l3] (.ref xn :: st) S Q := pv_aload_n (pm_cdi rfl dL_law_888) rfl
theorem q145_889 : pm_V d 145 889 [l0, l1, l2, .int xi] st S Q = pm_V d 145 890 [l0, l1, l2, .int xi] (.int xi :: st) S Q := pv_iload_n (pm_cdi rfl dL_law_889) rfl
theorem q145_890 : pm_V d 145 890 [l0, l1, l2, l3] st S Q = pm_V d 145 891 [l0, l1, l2, l3] (.int 2 :: st) S Q := pv_iconst (pm_cdi rfl dL_law_890) (by decide +kernel)
theorem q145_891 : pm_V d 145 891 [l0, l1, l2, l3] (.int yi :: .int xi :: st) S Q = pm_V d 145 892 [l0, l1, l2, l3] (.int (xi + yi) :: st) S Q := pv_iadd (pm_cdi rfl dL_law_891)
theorem q145_892 (hs : pm_ar S an 9 xi = true) : pm_V d 145 892 [l0, l1, l2, l3] (.int xi :: .ref an :: st) S Q = pm_V d 145 893 [l0, l1, l2, l3] (.int (pm_zi S an xi.toNatClampNeg) :: st) S Q := pv_sald (pm_cdi rfl dL_law_892) hs
theorem q145_893 : pm_V d 145 893 [.ref xn, l1, l2, l3] st S Q = pm_V d 145 894 [.ref xn, l1, l2, l3] (.ref xn :: st) S Q := pv_aload_n (pm_cdi rfl dL_law_893) rfl
theorem q145_894 : pm_V d 145 894 [l0, l1, l2, .int xi] st S Q = pm_V d 145 895 [l0, l1, l2, .int xi] (.int xi :: st) S Q := pv_iload_n (pm_cdi rfl dL_law_894) rfl
theorem q145_895 : pm_V d 145 895 [l0, l1, l2, l3] st S Q = pm_V d 145 896 [l0, l1, l2, l3] (.int 3 :: st) S Q := pv_iconst (pm_cdi rfl dL_law_895) (by decide +kernel)
theorem q145_896 : pm_V d 145 896 [l0, l1, l2, l3] (.int yi :: .int xi :: st) S Q = pm_V d 145 897 [l0, l1, l2, l3] (.int (xi + yi) :: st) S Q := pv_iadd (pm_cdi rfl dL_law_896)
theorem q145_897 (hs : pm_ar S an 9 xi = true) : pm_V d 145 897 [l0, l1, l2, l3] (.int xi :: .ref an :: st) S Q = pm_V d 145 898 [l0, l1, l2, l3] (.int (pm_zi S an xi.toNatClampNeg) :: st) S Q := pv_sald (pm_cdi rfl dL_law_897) hs
theorem q145_898 : pm_V d 145 898 [.ref xn, l1, l2, l3] st S Q = pm_V d 145 899 [.ref xn, l1, l2, l3] (.ref xn :: st) S Q := pv_aload_n (pm_cdi rfl dL_law_898) rfl
theorem q145_899 : pm_V d 145 899 [l0, l1, l2, .int xi] st S Q = pm_V d 145 900 [l0, l1, l2, .int xi] (.int xi :: st) S Q := pv_iload_n (pm_cdi rfl dL_law_899) rfl
theorem q145_900 : pm_V d 145 900 [l0, l1, l2, l3] st S Q = pm_V d 145 901 [l0, l1, l2, l3] (.int 4 :: st) S Q := pv_iconst (pm_cdi rfl dL_law_900) (by decide +kernel)
theorem q145_901 : pm_V d 145 901 [l0, l1, l2, l3] (.int yi :: .int xi :: st) S Q = pm_V d 145 902 [l0, l1, l2, l3] (.int (xi + yi) :: st) S Q := pv_iadd (pm_cdi rfl dL_law_901)
theorem q145_902 (hs : pm_ar S an 9 xi = true) : pm_V d 145 902 [l0, l1, l2, l3] (.int xi :: .ref an :: st) S Q = pm_V d 145 903 [l0, l1, l2, l3] (.int (pm_zi S an xi.toNatClampNeg) :: st) S Q := pv_sald (pm_cdi rfl dL_law_902) hs
theorem q145_903 (hs : pm_sh S an = .inr 6) : pm_V (d + 1) 145 903 [l0, l1, l2, l3] [.int v3i, .int v2i, .int v1i, .int v0i, .ref an] S Q = pm_N d 71 [.ref an, .int v0i, .int v1i, .int v2i, .int v3i] S (fun r S' => pm_V (d + 1) 145 906 [l0, l1, l2, l3] (r.toList ++ []) S' Q) := pv_callV (as := [.int v0i, .int v1i, .int v2i, .int v3i]) (pm_cdi rfl dL_law_903) (Or.inl (by decide +kernel)) (by decide +kernel) (show _ = _ from (by decide +kernel : 4 = pm_np 71)) rfl (Nat.le_of_ble_eq_true rfl) (cl := 6) (by decide +kernel) hs
theorem q145_906 : pm_V d 145 906 [l0, l1, .ref xn, l3] st S Q = pm_V d 145 907 [l0, l1, .ref xn, l3] (.ref xn :: st) S Q := pv_aload_n (pm_cdi rfl dL_law_906) rfl
theorem q145_906N : pm_V d 145 906 [l0, l1, .null, l3] st S Q = pm_V d 145 907 [l0, l1, .null, l3] (.null :: st) S Q := pv_aload_nN (pm_cdi rfl dL_law_906) rfl
theorem q145_907 : pm_V d 145 907 [.ref xn, l1, l2, l3] st S Q = pm_V d 145 908 [.ref xn, l1, l2, l3] (.ref xn :: st) S Q := pv_aload_n (pm_cdi rfl dL_law_907) rfl
theorem q145_908 : pm_V d 145 908 [l0, l1, l2, .int xi] st S Q = pm_V d 145 909 [l0, l1, l2, .int xi] (.int xi :: st) S Q := pv_iload_n (pm_cdi rfl dL_law_908) rfl
theorem q145_909 : pm_V d 145 909 [l0, l1, l2, l3] st S Q = pm_V d 145 910 [l0, l1, l2, l3] (.int 1 :: st) S Q := pv_iconst (pm_cdi rfl dL_law_909) (by decide +kernel)
theorem q145_910 : pm_V d 145 910 [l0, l1, l2, l3] (.int yi :: .int xi :: st) S Q = pm_V d 145 911 [l0, l1, l2, l3] (.int (xi + yi) :: st) S Q := pv_iadd (pm_cdi rfl dL_law_910)
theorem q145_911 (hs : pm_ar S an 9 xi = true) : pm_V d 145 911 [l0, l1, l2, l3] (.int xi :: .ref an :: st) S Q = pm_V d 145 912 [l0, l1, l2, l3] (.int (pm_zi S an xi.toNatClampNeg) :: st) S Q := pv_sald (pm_cdi rfl dL_law_911) hs
theorem q145_912 : pm_V d 145 912 [.ref xn, l1, l2, l3] st S Q = pm_V d 145 913 [.ref xn, l1, l2, l3] (.ref xn :: st) S Q := pv_aload_n (pm_cdi rfl dL_law_912) rfl
theorem q145_913 : pm_V d 145 913 [l0, l1, l2, .int xi] st S Q = pm_V d 145 914 [l0, l1, l2, .int xi] (.int xi :: st) S Q := pv_iload_n (pm_cdi rfl dL_law_913) rfl
theorem q145_914 : pm_V d 145 914 [l0, l1, l2, l3] st S Q = pm_V d 145 915 [l0, l1, l2, l3] (.int 2 :: st) S Q := pv_iconst (pm_cdi rfl dL_law_914) (by decide +kernel)
theorem q145_915 : pm_V d 145 915 [l0, l1, l2, l3] (.int yi :: .int xi :: st) S Q = pm_V d 145 916 [l0, l1, l2, l3] (.int (xi + yi) :: st) S Q := pv_iadd (pm_cdi rfl dL_law_915)
theorem q145_916 (hs : pm_ar S an 9 xi = true) : pm_V d 145 916 [l0, l1, l2, l3] (.int xi :: .ref an :: st) S Q = pm_V d 145 917 [l0, l1, l2, l3] (.int (pm_zi S an xi.toNatClampNeg) :: st) S Q := pv_sald (pm_cdi rfl dL_law_916) hs
theorem q145_917 : pm_V d 145 917 [.ref xn, l1, l2, l3] st S Q = pm_V d 145 918 [.ref xn, l1, l2, l3] (.ref xn :: st) S Q := pv_aload_n (pm_cdi rfl dL_law_917) rfl
theorem q145_918 : pm_V d 145 918 [l0, l1, l2, .int xi] st S Q = pm_V d 145 919 [l0, l1, l2, .int xi] (.int xi :: st) S Q := pv_iload_n (pm_cdi rfl dL_law_918) rfl
theorem q145_919 : pm_V d 145 919 [l0, l1, l2, l3] st S Q = pm_V d 145 920 [l0, l1, l2, l3] (.int 3 :: st) S Q := pv_iconst (pm_cdi rfl dL_law_919) (by decide +kernel)
theorem q145_920 : pm_V d 145 920 [l0, l1, l2, l3] (.int yi :: .int xi :: st) S Q = pm_V d 145 921 [l0, l1, l2, l3] (.int (xi + yi) :: st) S Q := pv_iadd (pm_cdi rfl dL_law_920)
theorem q145_921 (hs : pm_ar S an 9 xi = true) : pm_V d 145 921 [l0, l1, l2, l3] (.int xi :: .ref an :: st) S Q = pm_V d 145 922 [l0, l1, l2, l3] (.int (pm_zi S an xi.toNatClampNeg) :: st) S Q := pv_sald (pm_cdi rfl dL_law_921) hs
theorem q145_922 : pm_V d 145 922 [.ref xn, l1, l2, l3] st S Q = pm_V d 145 923 [.ref xn, l1, l2, l3] (.ref xn :: st) S Q := pv_aload_n (pm_cdi rfl dL_law_922) rfl
theorem q145_923 : pm_V d 145 923 [l0, l1, l2, .int xi] st S Q = pm_V d 145 924 [l0, l1, l2, .int xi] (.int xi :: st) S Q := pv_iload_n (pm_cdi rfl dL_law_923) rfl
theorem q145_924 : pm_V d 145 924 [l0, l1, l2, l3] st S Q = pm_V d 145 925 [l0, l1, l2, l3] (.int 4 :: st) S Q := pv_iconst (pm_cdi rfl dL_law_924) (by decide +kernel)
theorem q145_925 : pm_V d 145 925 [l0, l1, l2, l3] (.int yi :: .int xi :: st) S Q = pm_V d 145 926 [l0, l1, l2, l3] (.int (xi + yi) :: st) S Q := pv_iadd (pm_cdi rfl dL_law_925)
theorem q145_926 (hs : pm_ar S an 9 xi = true) : pm_V d 145 926 [l0, l1, l2, l3] (.int xi :: .ref an :: st) S Q = pm_V d 145 927 [l0, l1, l2, l3] (.int (pm_zi S an xi.toNatClampNeg) :: st) S Q := pv_sald (pm_cdi rfl dL_law_926) hs
theorem q145_927 (hs : pm_sh S an = .inr 7) : pm_V (d + 1) 145 927 [l0, l1, l2, l3] [.int v3i, .int v2i, .int v1i, .int v0i, .ref an, .int r0i] S Q = pm_N d 139 [.ref an, .int v0i, .int v1i, .int v2i, .int v3i] S (fun r S' => pm_V (d + 1) 145 930 [l0, l1, l2, l3] (r.toList ++ [.int r0i]) S' Q) := pv_callV (as := [.int v0i, .int v1i, .int v2i, .int v3i]) (pm_cdi rfl dL_law_927) (Or.inl (by decide +kernel)) (by decide +kernel) (show _ = _ from (by decide +kernel : 4 = pm_np 139)) rfl (Nat.le_of_ble_eq_true rfl) (cl := 7) (by decide +kernel) hs
theorem q145_930 : pm_V d 145 930 [l0, l1, l2, l3] (.int yi :: .int xi :: st) S Q = if xi = yi then pm_V d 145 971 [l0, l1, l2, l3] st S Q else pm_V d 145 933 [l0, l1, l2, l3] st S Q := pv_icmp_eq (pm_cdi rfl dL_law_930) rfl
theorem q145_933 : pm_V d 145 933 [l0, l1, l2, l3] st S Q = pm_V d 145 934 [l0, l1, l2, l3] (.int 0 :: st) S Q := pv_iconst (pm_cdi rfl dL_law_933) (by decide +kernel)
theorem q145_934 (hx : xi = 0 ∨ xi = 1) : pm_V d 145 934 [l0, l1, l2, l3] [.int xi] S Q = Q (some (.int xi)) S := pv_rZ (pm_cdi rfl dL_law_934) (by decide +kernel) hx
theorem q145_935 : pm_V d 145 935 [l0, .ref xn, l2, l3] st S Q = pm_V d 145 936 [l0, .ref xn, l2, l3] (.ref xn :: st) S Q := pv_aload_n (pm_cdi rfl dL_law_935) rfl
theorem q145_935N : pm_V d 145 935 [l0, .null, l2, l3] st S Q = pm_V d 145 936 [l0, .null, l2, l3] (.null :: st) S Q := pv_aload_nN (pm_cdi rfl dL_law_935) rfl
theorem q145_936 : pm_V d 145 936 [.ref xn, l1, l2, l3] st S Q = pm_V d 145 937 [.ref xn, l1, l2, l3] (.ref xn :: st) S Q := pv_aload_n (pm_cdi rfl dL_law_936) rfl
theorem q145_937 : pm_V d 145 937 [l0, l1, l2, .int xi] st S Q = pm_V d 145 938 [l0, l1, l2, .int xi] (.int xi :: st) S Q := pv_iload_n (pm_cdi rfl dL_law_937) rfl
theorem q145_938 : pm_V d 145 938 [l0, l1, l2, l3] st S Q = pm_V d 145 939 [l0, l1, l2, l3] (.int 1 :: st) S Q := pv_iconst (pm_cdi rfl dL_law_938) (by decide +kernel)
theorem q145_939 : pm_V d 145 939 [l0, l1, l2, l3] (.int yi :: .int xi :: st) S Q = pm_V d 145 940 [l0, l1, l2, l3] (.int (xi + yi) :: st) S Q := pv_iadd (pm_cdi rfl dL_law_939)
theorem q145_940 (hs : pm_ar S an 9 xi = true) : pm_V d 145 940 [l0, l1, l2, l3] (.int xi :: .ref an :: st) S Q = pm_V d 145 941 [l0, l1, l2, l3] (.int (pm_zi S an xi.toNatClampNeg) :: st) S Q := pv_sald (pm_cdi rfl dL_law_940) hs
theorem q145_941 (hs : pm_sh S an = .inr 6) : pm_V (d + 1) 145 941 [l0, l1, l2, l3] [.int v0i, .ref an] S Q = pm_N d 72 [.ref an, .int v0i] S (fun r S' => pm_V (d + 1) 145 944 [l0, l1, l2, l3] (r.toList ++ []) S' Q) := pv_callV (as := [.int v0i]) (pm_cdi rfl dL_law_941) (Or.inl (by decide +kernel)) (by decide +kernel) (show _ = _ from (by decide +kernel : 1 = pm_np 72)) rfl (Nat.le_of_ble_eq_true rfl) (cl := 6) (by decide +kernel) hs
theorem q145_944 : pm_V d 145 944 [l0, l1, .ref xn, l3] st S Q = pm_V d 145 945 [l0, l1, .ref xn, l3] (.ref xn :: st) S Q := pv_aload_n (pm_cdi rfl dL_law_944) rfl
theorem q145_944N : pm_V d 145 944 [l0, l1, .null, l3] st S Q = pm_V d 145 945 [l0, l1, .null, l3] (.null :: st) S Q := pv_aload_nN (pm_cdi rfl dL_law_944) rfl
theorem q145_945 : pm_V d 145 945 [.ref xn, l1, l2, l3] st S Q = pm_V d 145 946 [.ref xn, l1, l2, l3] (.ref xn :: st) S Q := pv_aload_n (pm_cdi rfl dL_law_945) rfl
theorem q145_946 : pm_V d 145 946 [l0, l1, l2, .int xi] st S Q = pm_V d 145 947 [l0, l1, l2, .int xi] (.int xi :: st) S Q := pv_iload_n (pm_cdi rfl dL_law_946) rfl
theorem q145_947 : pm_V d 145 947 [l0, l1, l2, l3] st S Q = pm_V d 145 948 [l0, l1, l2, l3] (.int 1 :: st) S Q := pv_iconst (pm_cdi rfl dL_law_947) (by decide +kernel)
theorem q145_948 : pm_V d 145 948 [l0, l1, l2, l3] (.int yi :: .int xi :: st) S Q = pm_V d 145 949 [l0, l1, l2, l3] (.int (xi + yi) :: st) S Q := pv_iadd (pm_cdi rfl dL_law_948)
theorem q145_949 (hs : pm_ar S an 9 xi = true) : pm_V d 145 949 [l0, l1, l2, l3] (.int xi :: .ref an :: st) S Q = pm_V d 145 950 [l0, l1, l2, l3] (.int (pm_zi S an xi.toNatClampNeg) :: st) S Q := pv_sald (pm_cdi rfl dL_law_949) hs
theorem q145_950 (hs : pm_sh S an = .inr 7) : pm_V (d + 1) 145 950 [l0, l1, l2, l3] [.int v0i, .ref an, .int r0i] S Q = pm_N d 140 [.ref an, .int v0i] S (fun r S' => pm_V (d + 1) 145 953 [l0, l1, l2, l3] (r.toList ++ [.int r0i]) S' Q) := pv_callV (as := [.int v0i]) (pm_cdi rfl dL_law_950) (Or.inl (by decide +kernel)) (by decide +kernel) (show _ = _ from (by decide +kernel : 1 = pm_np 140)) rfl (Nat.le_of_ble_eq_true rfl) (cl := 7) (by decide +kernel) hs
theorem q145_953 : pm_V d 145 953 [l0, l1, l2, l3] (.int yi :: .int xi :: st) S Q = if xi = yi then pm_V d 145 971 [l0, l1, l2, l3] st S Q else pm_V d 145 956 [l0, l1, l2, l3] st S Q := pv_icmp_eq (pm_cdi rfl dL_law_953) rfl
theorem q145_956 : pm_V d 145 956 [l0, l1, l2, l3] st S Q = pm_V d 145 957 [l0, l1, l2, l3] (.int 0 :: st) S Q := pv_iconst (pm_cdi rfl dL_law_956) (by decide +kernel)
theorem q145_957 (hx : xi = 0 ∨ xi = 1) : pm_V d 145 957 [l0, l1, l2, l3] [.int xi] S Q = Q (some (.int xi)) S := pv_rZ (pm_cdi rfl dL_law_957) (by decide +kernel) hx
theorem q145_958 : pm_V d 145 958 [l0, .ref xn, l2, l3] st S Q = pm_V d 145 959 [l0, .ref xn, l2, l3] (.ref xn :: st) S Q := pv_aload_n (pm_cdi rfl dL_law_958) rfl
theorem q145_958N : pm_V d 145 958 [l0, .null, l2, l3] st S Q = pm_V d 145 959 [l0, .null, l2, l3] (.null :: st) S Q := pv_aload_nN (pm_cdi rfl dL_law_958) rfl
theorem q145_959 (hs : pm_sh S an = .inr 6) : pm_V (d + 1) 145 959 [l0, l1, l2, l3] [.ref an] S Q = pm_N d 73 [.ref an] S (fun r S' => pm_V (d + 1) 145 962 [l0, l1, l2, l3] (r.toList ++ []) S' Q) := pv_callV (as := []) (pm_cdi rfl dL_law_959) (Or.inl (by decide +kernel)) (by decide +kernel) (show _ = _ from (by decide +kernel : 0 = pm_np 73)) rfl (Nat.le_of_ble_eq_true rfl) (cl := 6) (by decide +kernel) hs
theorem q145_962 : pm_V d 145 962 [l0, l1, .ref xn, l3] st S Q = pm_V d 145 963 [l0, l1, .ref xn, l3] (.ref xn :: st) S Q := pv_aload_n (pm_cdi rfl dL_law_962) rfl
theorem q145_962N : pm_V d 145 962 [l0, l1, .null, l3] st S Q = pm_V d 145 963 [l0, l1, .null, l3] (.null :: st) S Q := pv_aload_nN (pm_cdi rfl dL_law_962) rfl
theorem q145_963 (hs : pm_sh S an = .inr 7) : pm_V (d + 1) 145 963 [l0, l1, l2, l3] [.ref an, .int r0i] S Q = pm_N d 141 [.ref an] S (fun r S' => pm_V (d + 1) 145 966 [l0, l1, l2, l3] (r.toList ++ [.int r0i]) S' Q) := pv_callV (as := []) (pm_cdi rfl dL_law_963) (Or.inl (by decide +kernel)) (by decide +kernel) (show _ = _ from (by decide +kernel : 0 = pm_np 141)) rfl (Nat.le_of_ble_eq_true rfl) (cl := 7) (by decide +kernel) hs
theorem q145_966 : pm_V d 145 966 [l0, l1, l2, l3] (.int yi :: .int xi :: st) S Q = if xi = yi then pm_V d 145 971 [l0, l1, l2, l3] st S Q else pm_V d 145 969 [l0, l1, l2, l3] st S Q := pv_icmp_eq (pm_cdi rfl dL_law_966) rfl
theorem q145_969 : pm_V d 145 969 [l0, l1, l2, l3] st S Q = pm_V d 145 970 [l0, l1, l2, l3] (.int 0 :: st) S Q := pv_iconst (pm_cdi rfl dL_law_969) (by decide +kernel)
theorem q145_970 (hx : xi = 0 ∨ xi = 1) : pm_V d 145 970 [l0, l1, l2, l3] [.int xi] S Q = Q (some (.int xi)) S := pv_rZ (pm_cdi rfl dL_law_970) (by decide +kernel) hx
theorem q145_971 : pm_V d 145 971 [l0, l1, .ref yn, .int xi] st S Q = pm_V d 145 974 [l0, l1, .ref yn, .int (xi + 6)] st S Q := pv_iinc (pm_cdi rfl dL_law_971) rfl (by decide +kernel) rfl
theorem q145_974 : pm_V d 145 974 [l0, l1, l2, l3] st S Q = pm_V d 145 18 [l0, l1, l2, l3] st S Q := pv_goto (pm_cdi rfl dL_law_974) rfl
theorem q145_977 : pm_V d 145 977 [l0, l1, l2, l3] st S Q = pm_V d 145 978 [l0, l1, l2, l3] (.int 1 :: st) S Q := pv_iconst (pm_cdi rfl dL_law_977) (by decide +kernel)
theorem q145_978 (hx : xi = 0 ∨ xi = 1) : pm_V d 145 978 [l0, l1, l2, l3] [.int xi] S Q = Q (some (.int xi)) S := pv_rZ (pm_cdi rfl dL_law_978) (by decide +kernel) hx
theorem q145_e : pm_N d 145 [.ref v0n] S Q = pm_V d 145 0 [.ref v0n, pm_j, pm_j, pm_j] [] S Q := pv_ent (Nat.le_of_ble_eq_true rfl) rfl
end
