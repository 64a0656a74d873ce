theorem dL_holds_148 : decode cL_holds 148 = .ok (.istore 4, 2) := by decide +kernel
theorem dL_holds_150 : decode cL_holds 150 = .ok (.iload 5, 2) := by decide +kernel
theorem dL_holds_152 : decode cL_holds 152 = .ok (.aload_n 0, 1) := by decide +kernel
theorem dL_holds_153 : decode cL_holds 153 = .ok (.iload 6, 2) := by decide +kernel
theorem dL_holds_155 : decode cL_holds 155 = .ok (.iconst 2, 1) := by decide +kernel
theorem dL_holds_156 : decode cL_holds 156 = .ok (.invokevirtual 21, 3) := by decide +kernel
theorem dL_holds_159 : decode cL_holds 159 = .ok (.iadd, 1) := by decide +kernel
theorem dL_holds_160 : decode cL_holds 160 = .ok (.istore 5, 2) := by decide +kernel
theorem dL_holds_162 : decode cL_holds 162 = .ok (.iload 9, 2) := by decide +kernel
theorem dL_holds_164 : decode cL_holds 164 = .ok (.ifCond .ne 82, 3) := by decide +kernel
theorem dL_holds_167 : decode cL_holds 167 = .ok (.aload_n 0, 1) := by decide +kernel
theorem dL_holds_168 : decode cL_holds 168 = .ok (.iload 6, 2) := by decide +kernel
theorem dL_holds_170 : decode cL_holds 170 = .ok (.iconst 5, 1) := by decide +kernel
theorem dL_holds_171 : decode cL_holds 171 = .ok (.invokevirtual 21, 3) := by decide +kernel
theorem dL_holds_174 : decode cL_holds 174 = .ok (.aload_n 0, 1) := by decide +kernel
theorem dL_holds_175 : decode cL_holds 175 = .ok (.iload 6, 2) := by decide +kernel
theorem dL_holds_177 : decode cL_holds 177 = .ok (.iconst 0, 1) := by decide +kernel
theorem dL_holds_178 : decode cL_holds 178 = .ok (.invokevirtual 21, 3) := by decide +kernel
theorem dL_holds_181 : decode cL_holds 181 = .ok (.if_icmp .gt 65, 3) := by decide +kernel
theorem dL_holds_184 : decode cL_holds 184 = .ok (.iload 8, 2) := by decide +kernel
theorem dL_holds_186 : decode cL_holds 186 = .ok (.aload_n 0, 1) := by decide +kernel
theorem dL_holds_187 : decode cL_holds 187 = .ok (.iload 6, 2) := by decide +kernel
theorem dL_holds_189 : decode cL_holds 189 = .ok (.iconst 1, 1) := by decide +kernel
theorem dL_holds_190 : decode cL_holds 190 = .ok (.invokevirtual 21, 3) := by decide +kernel
theorem dL_holds_193 : decode cL_holds 193 = .ok (.if_icmp .gt 53, 3) := by decide +kernel
theorem dL_holds_196 : decode cL_holds 196 = .ok (.iload 8, 2) := by decide +kernel
theorem dL_holds_198 : decode cL_holds 198 = .ok (.ifCond .ne 7, 3) := by decide +kernel
theorem dL_holds_201 : decode cL_holds 201 = .ok (.iconst 1, 1) := by decide +kernel
theorem dL_holds_202 : decode cL_holds 202 = .ok (.goto 4, 3) := by decide +kernel
theorem dL_holds_205 : decode cL_holds 205 = .ok (.iconst 0, 1) := by decide +kernel
theorem dL_holds_206 : decode cL_holds 206 = .ok (.aload_n 0, 1) := by decide +kernel
theorem dL_holds_207 : decode cL_holds 207 = .ok (.iload 6, 2) := by decide +kernel
theorem dL_holds_209 : decode cL_holds 209 = .ok (.iconst 1, 1) := by decide +kernel
theorem dL_holds_210 : decode cL_holds 210 = .ok (.invokevirtual 21, 3) := by decide +kernel
theorem dL_holds_213 : decode cL_holds 213 = .ok (.ifCond .ne 7, 3) := by decide +kernel
theorem dL_holds_216 : decode cL_holds 216 = .ok (.iconst 1, 1) := by decide +kernel
theorem dL_holds_217 : decode cL_holds 217 = .ok (.goto 4, 3) := by decide +kernel
theorem dL_holds_220 : decode cL_holds 220 = .ok (.iconst 0, 1) := by decide +kernel
theorem dL_holds_221 : decode cL_holds 221 = .ok (.if_icmp .ne 25, 3) := by decide +kernel
theorem dL_holds_224 : decode cL_holds 224 = .ok (.aload_n 0, 1) := by decide +kernel
theorem dL_holds_225 : decode cL_holds 225 = .ok (.iload 6, 2) := by decide +kernel
theorem dL_holds_227 : decode cL_holds 227 = .ok (.iconst 2, 1) := by decide +kernel
theorem dL_holds_228 : decode cL_holds 228 = .ok (.invokevirtual 21, 3) := by decide +kernel
theorem dL_holds_231 : decode cL_holds 231 = .ok (.bipush 100, 2) := by decide +kernel
theorem dL_holds_233 : decode cL_holds 233 = .ok (.if_icmp .gt 13, 3) := by decide +kernel
theorem dL_holds_236 : decode cL_holds 236 = .ok (.aload_n 0, 1) := by decide +kernel
theorem dL_holds_237 : decode cL_holds 237 = .ok (.iload 6, 2) := by decide +kernel
theorem dL_holds_239 : decode cL_holds 239 = .ok (.iconst 4, 1) := by decide +kernel
theorem dL_holds_240 : decode cL_holds 240 = .ok (.invokevirtual 21, 3) := by decide +kernel
theorem dL_holds_243 : decode cL_holds 243 = .ok (.ifCond .ge 5, 3) := by decide +kernel
theorem dL_holds_246 : decode cL_holds 246 = .ok (.iconst 0, 1) := by decide +kernel
theorem dL_holds_247 : decode cL_holds 247 = .ok (.ireturn, 1) := by decide +kernel
theorem dL_holds_248 : decode cL_holds 248 = .ok (.iload_n 1, 1) := by decide +kernel
theorem dL_holds_249 : decode cL_holds 249 = .ok (.ifCond .eq 27, 3) := by decide +kernel
theorem dL_holds_252 : decode cL_holds 252 = .ok (.iload 10, 2) := by decide +kernel
theorem dL_holds_254 : decode cL_holds 254 = .ok (.ifCond .ne 22, 3) := by decide +kernel
theorem dL_holds_257 : decode cL_holds 257 = .ok (.aload_n 0, 1) := by decide +kernel
theorem dL_holds_258 : decode cL_holds 258 = .ok (.iload 6, 2) := by decide +kernel
theorem dL_holds_260 : decode cL_holds 260 = .ok (.iconst 4, 1) := by decide +kernel
theorem dL_holds_261 : decode cL_holds 261 = .ok (.invokevirtual 21, 3) := by decide +kernel
theorem dL_holds_264 : decode cL_holds 264 = .ok (.aload_n 0, 1) := by decide +kernel
theorem dL_holds_265 : decode cL_holds 265 = .ok (.iload 6, 2) := by decide +kernel
theorem dL_holds_267 : decode cL_holds 267 = .ok (.iconst 5, 1) := by decide +kernel
theorem dL_holds_268 : decode cL_holds 268 = .ok (.invokevirtual 21, 3) := by decide +kernel
theorem dL_holds_271 : decode cL_holds 271 = .ok (.if_icmp .le 5, 3) := by decide +kernel
theorem dL_holds_274 : decode cL_holds 274 = .ok (.iconst 0, 1) := by decide +kernel
theorem dL_holds_275 : decode cL_holds 275 = .ok (.ireturn, 1) := by decide +kernel
theorem dL_holds_276 : decode cL_holds 276 = .ok (.iinc 6 1, 3) := by decide +kernel
theorem dL_holds_279 : decode cL_holds 279 = .ok (.goto (-266), 3) := by decide +kernel
theorem dL_holds_282 : decode cL_holds 282 = .ok (.aload_n 0, 1) := by decide +kernel
theorem dL_holds_283 : decode cL_holds 283 = .ok (.invokevirtual 60, 3) := by decide +kernel
theorem dL_holds_286 : decode cL_holds 286 = .ok (.dstore 6, 2) := by decide +kernel
theorem dL_holds_288 : decode cL_holds 288 = .ok (.aload_n 0, 1) := by decide +kernel
theorem dL_holds_289 : decode cL_holds 289 = .ok (.iconst 2, 1) := by decide +kernel
theorem dL_holds_290 : decode cL_holds 290 = .ok (.invokevirtual 12, 3) := by decide +kernel
theorem dL_holds_293 : decode cL_holds 293 = .ok (.ifCond .ne 18, 3) := by decide +kernel
theorem dL_holds_296 : decode cL_holds 296 = .ok (.dload 6, 2) := by decide +kernel
theorem dL_holds_298 : decode cL_holds 298 = .ok (.dconst 1, 1) := by decide +kernel
theorem dL_holds_299 : decode cL_holds 299 = .ok (.dcmp .l, 1) := by decide +kernel
theorem dL_holds_300 : decode cL_holds 300 = .ok (.ifCond .ne 7, 3) := by decide +kernel
theorem dL_holds_303 : decode cL_holds 303 = .ok (.iconst 1, 1) := by decide +kernel
theorem dL_holds_304 : decode cL_holds 304 = .ok (.goto 45, 3) := by decide +kernel
theorem dL_holds_307 : decode cL_holds 307 = .ok (.iconst 0, 1) := by decide +kernel
theorem dL_holds_308 : decode cL_holds 308 = .ok (.goto 41, 3) := by decide +kernel
theorem dL_holds_311 : decode cL_holds 311 = .ok (.dload 6, 2) := by decide +kernel
theorem dL_holds_313 : decode cL_holds 313 = .ok (.aload_n 0, 1) := by decide +kernel
theorem dL_holds_314 : decode cL_holds 314 = .ok (.iconst 4, 1) := by decide +kernel
theorem dL_holds_315 : decode cL_holds 315 = .ok (.invokevirtual 12, 3) := by decide +kernel
theorem dL_holds_318 : decode cL_holds 318 = .ok (.i2d, 1) := by decide +kernel
theorem dL_holds_319 : decode cL_holds 319 = .ok (.aload_n 0, 1) := by decide +kernel
theorem dL_holds_320 : decode cL_holds 320 = .ok (.iconst 2, 1) := by decide +kernel
theorem dL_holds_321 : decode cL_holds 321 = .ok (.invokevirtual 12, 3) := by decide +kernel
theorem dL_holds_324 : decode cL_holds 324 = .ok (.i2d, 1) := by decide +kernel
theorem dL_holds_325 : decode cL_holds 325 = .ok (.ddiv, 1) := by decide +kernel
theorem dL_holds_326 : decode cL_holds 326 = .ok (.dcmp .l, 1) := by decide +kernel
theorem dL_holds_327 : decode cL_holds 327 = .ok (.ifCond .ne 21, 3) := by decide +kernel
theorem dL_holds_330 : decode cL_holds 330 = .ok (.dload 6, 2) := by decide +kernel
theorem dL_holds_332 : decode cL_holds 332 = .ok (.dconst 0, 1) := by decide +kernel
theorem dL_holds_333 : decode cL_holds 333 = .ok (.dcmp .l, 1) := by decide +kernel
theorem dL_holds_334 : decode cL_holds 334 = .ok (.ifCond .lt 14, 3) := by decide +kernel
theorem dL_holds_337 : decode cL_holds 337 = .ok (.dload 6, 2) := by decide +kernel
theorem dL_holds_339 : decode cL_holds 339 = .ok (.dconst 1, 1) := by decide +kernel
theorem dL_holds_340 : decode cL_holds 340 = .ok (.dcmp .g, 1) := by decide +kernel
theorem dL_holds_341 : decode cL_holds 341 = .ok (.ifCond .gt 7, 3) := by decide +kernel
theorem dL_holds_344 : decode cL_holds 344 = .ok (.iconst 1, 1) := by decide +kernel
theorem dL_holds_345 : decode cL_holds 345 = .ok (.goto 4, 3) := by decide +kernel
theorem dL_holds_348 : decode cL_holds 348 = .ok (.iconst 0, 1) := by decide +kernel
theorem dL_holds_349 : decode cL_holds 349 = .ok (.istore 8, 2) := by decide +kernel
theorem dL_holds_351 : decode cL_holds 351 = .ok (.aload_n 0, 1) := by decide +kernel
theorem dL_holds_352 : decode cL_holds 352 = .ok (.invokevirtual 64, 3) := by decide +kernel
