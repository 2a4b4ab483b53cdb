theorem dX12_next_146 : decode cX12_next 146 = .ok (.aload_n 0, 1) := dcX12_next_9.2.2.1
theorem dX12_next_147 : decode cX12_next 147 = .ok (.aload_n 0, 1) := dcX12_next_9.2.2.2.1
theorem dX12_next_148 : decode cX12_next 148 = .ok (.getfield 113, 3) := dcX12_next_9.2.2.2.2.1
theorem dX12_next_151 : decode cX12_next 151 = .ok (.aload_n 0, 1) := dcX12_next_9.2.2.2.2.2.1
theorem dX12_next_152 : decode cX12_next 152 = .ok (.getfield 110, 3) := dcX12_next_9.2.2.2.2.2.2.1
theorem dX12_next_155 : decode cX12_next 155 = .ok (.invokevirtual 122, 3) := dcX12_next_9.2.2.2.2.2.2.2
theorem dcX12_next_10 : (decode cX12_next 158 = .ok (.istore_n 2, 1)) ∧ (decode cX12_next 159 = .ok (.aload_n 0, 1)) ∧ (decode cX12_next 160 = .ok (.iload_n 2, 1)) ∧ (decode cX12_next 161 = .ok (.iconst 3, 1)) ∧ (decode cX12_next 162 = .ok (.if_icmp .ge 7, 3)) ∧ (decode cX12_next 165 = .ok (.iconst 3, 1)) ∧ (decode cX12_next 166 = .ok (.goto 29, 3)) ∧ (decode cX12_next 169 = .ok (.iload_n 2, 1)) := by decide +kernel
theorem dX12_next_158 : decode cX12_next 158 = .ok (.istore_n 2, 1) := dcX12_next_10.1
theorem dX12_next_159 : decode cX12_next 159 = .ok (.aload_n 0, 1) := dcX12_next_10.2.1
theorem dX12_next_160 : decode cX12_next 160 = .ok (.iload_n 2, 1) := dcX12_next_10.2.2.1
theorem dX12_next_161 : decode cX12_next 161 = .ok (.iconst 3, 1) := dcX12_next_10.2.2.2.1
theorem dX12_next_162 : decode cX12_next 162 = .ok (.if_icmp .ge 7, 3) := dcX12_next_10.2.2.2.2.1
theorem dX12_next_165 : decode cX12_next 165 = .ok (.iconst 3, 1) := dcX12_next_10.2.2.2.2.2.1
theorem dX12_next_166 : decode cX12_next 166 = .ok (.goto 29, 3) := dcX12_next_10.2.2.2.2.2.2.1
theorem dX12_next_169 : decode cX12_next 169 = .ok (.iload_n 2, 1) := dcX12_next_10.2.2.2.2.2.2.2
theorem dcX12_next_11 : (decode cX12_next 170 = .ok (.bipush 9, 2)) ∧ (decode cX12_next 172 = .ok (.if_icmp .ge 7, 3)) ∧ (decode cX12_next 175 = .ok (.iconst 2, 1)) ∧ (decode cX12_next 176 = .ok (.goto 19, 3)) ∧ (decode cX12_next 179 = .ok (.iload_n 2, 1)) ∧ (decode cX12_next 180 = .ok (.bipush 12, 2)) ∧ (decode cX12_next 182 = .ok (.if_icmp .ne 7, 3)) ∧ (decode cX12_next 185 = .ok (.iconst (-1), 1)) := by decide +kernel
theorem dX12_next_170 : decode cX12_next 170 = .ok (.bipush 9, 2) := dcX12_next_11.1
theorem dX12_next_172 : decode cX12_next 172 = .ok (.if_icmp .ge 7, 3) := dcX12_next_11.2.1
theorem dX12_next_175 : decode cX12_next 175 = .ok (.iconst 2, 1) := dcX12_next_11.2.2.1
theorem dX12_next_176 : decode cX12_next 176 = .ok (.goto 19, 3) := dcX12_next_11.2.2.2.1
theorem dX12_next_179 : decode cX12_next 179 = .ok (.iload_n 2, 1) := dcX12_next_11.2.2.2.2.1
theorem dX12_next_180 : decode cX12_next 180 = .ok (.bipush 12, 2) := dcX12_next_11.2.2.2.2.2.1
theorem dX12_next_182 : decode cX12_next 182 = .ok (.if_icmp .ne 7, 3) := dcX12_next_11.2.2.2.2.2.2.1
theorem dX12_next_185 : decode cX12_next 185 = .ok (.iconst (-1), 1) := dcX12_next_11.2.2.2.2.2.2.2
theorem dcX12_next_12 : (decode cX12_next 186 = .ok (.goto 9, 3)) ∧ (decode cX12_next 189 = .ok (.iconst 4, 1)) ∧ (decode cX12_next 190 = .ok (.iload_n 2, 1)) ∧ (decode cX12_next 191 = .ok (.iadd, 1)) ∧ (decode cX12_next 192 = .ok (.bipush 9, 2)) ∧ (decode cX12_next 194 = .ok (.isub, 1)) ∧ (decode cX12_next 195 = .ok (.putfield 116, 3)) ∧ (decode cX12_next 198 = .ok (.aload_n 0, 1)) := by decide +kernel
theorem dX12_next_186 : decode cX12_next 186 = .ok (.goto 9, 3) := dcX12_next_12.1
theorem dX12_next_189 : decode cX12_next 189 = .ok (.iconst 4, 1) := dcX12_next_12.2.1
theorem dX12_next_190 : decode cX12_next 190 = .ok (.iload_n 2, 1) := dcX12_next_12.2.2.1
theorem dX12_next_191 : decode cX12_next 191 = .ok (.iadd, 1) := dcX12_next_12.2.2.2.1
theorem dX12_next_192 : decode cX12_next 192 = .ok (.bipush 9, 2) := dcX12_next_12.2.2.2.2.1
theorem dX12_next_194 : decode cX12_next 194 = .ok (.isub, 1) := dcX12_next_12.2.2.2.2.2.1
theorem dX12_next_195 : decode cX12_next 195 = .ok (.putfield 116, 3) := dcX12_next_12.2.2.2.2.2.2.1
theorem dX12_next_198 : decode cX12_next 198 = .ok (.aload_n 0, 1) := dcX12_next_12.2.2.2.2.2.2.2
theorem dcX12_next_13 : (decode cX12_next 199 = .ok (.iload_n 2, 1)) ∧ (decode cX12_next 200 = .ok (.iconst 3, 1)) ∧ (decode cX12_next 201 = .ok (.if_icmp .ge 7, 3)) ∧ (decode cX12_next 204 = .ok (.iload_n 2, 1)) ∧ (decode cX12_next 205 = .ok (.goto 6, 3)) ∧ (decode cX12_next 208 = .ok (.iload_n 2, 1)) ∧ (decode cX12_next 209 = .ok (.iconst 3, 1)) ∧ (decode cX12_next 210 = .ok (.isub, 1)) := by decide +kernel
theorem dX12_next_199 : decode cX12_next 199 = .ok (.iload_n 2, 1) := dcX12_next_13.1
theorem dX12_next_200 : decode cX12_next 200 = .ok (.iconst 3, 1) := dcX12_next_13.2.1
theorem dX12_next_201 : decode cX12_next 201 = .ok (.if_icmp .ge 7, 3) := dcX12_next_13.2.2.1
theorem dX12_next_204 : decode cX12_next 204 = .ok (.iload_n 2, 1) := dcX12_next_13.2.2.2.1
theorem dX12_next_205 : decode cX12_next 205 = .ok (.goto 6, 3) := dcX12_next_13.2.2.2.2.1
theorem dX12_next_208 : decode cX12_next 208 = .ok (.iload_n 2, 1) := dcX12_next_13.2.2.2.2.2.1
theorem dX12_next_209 : decode cX12_next 209 = .ok (.iconst 3, 1) := dcX12_next_13.2.2.2.2.2.2.1
theorem dX12_next_210 : decode cX12_next 210 = .ok (.isub, 1) := dcX12_next_13.2.2.2.2.2.2.2
theorem dcX12_next_14 : (decode cX12_next 211 = .ok (.putfield 119, 3)) ∧ (decode cX12_next 214 = .ok (.goto 189, 3)) ∧ (decode cX12_next 217 = .ok (.iload_n 1, 1)) ∧ (decode cX12_next 218 = .ok (.bipush 48, 2)) ∧ (decode cX12_next 220 = .ok (.bipush 57, 2)) ∧ (decode cX12_next 222 = .ok (.invokestatic 93, 3)) ∧ (decode cX12_next 225 = .ok (.ifCond .eq 101, 3)) ∧ (decode cX12_next 228 = .ok (.iconst 0, 1)) := by decide +kernel
theorem dX12_next_211 : decode cX12_next 211 = .ok (.putfield 119, 3) := dcX12_next_14.1
theorem dX12_next_214 : decode cX12_next 214 = .ok (.goto 189, 3) := dcX12_next_14.2.1
theorem dX12_next_217 : decode cX12_next 217 = .ok (.iload_n 1, 1) := dcX12_next_14.2.2.1
theorem dX12_next_218 : decode cX12_next 218 = .ok (.bipush 48, 2) := dcX12_next_14.2.2.2.1
theorem dX12_next_220 : decode cX12_next 220 = .ok (.bipush 57, 2) := dcX12_next_14.2.2.2.2.1
theorem dX12_next_222 : decode cX12_next 222 = .ok (.invokestatic 93, 3) := dcX12_next_14.2.2.2.2.2.1
theorem dX12_next_225 : decode cX12_next 225 = .ok (.ifCond .eq 101, 3) := dcX12_next_14.2.2.2.2.2.2.1
theorem dX12_next_228 : decode cX12_next 228 = .ok (.iconst 0, 1) := dcX12_next_14.2.2.2.2.2.2.2
theorem dcX12_next_15 : (decode cX12_next 229 = .ok (.istore_n 2, 1)) ∧ (decode cX12_next 230 = .ok (.aload_n 0, 1)) ∧ (decode cX12_next 231 = .ok (.getfield 110, 3)) ∧ (decode cX12_next 234 = .ok (.aload_n 0, 1)) ∧ (decode cX12_next 235 = .ok (.getfield 83, 3)) ∧ (decode cX12_next 238 = .ok (.if_icmp .ge 71, 3)) ∧ (decode cX12_next 241 = .ok (.aload_n 0, 1)) ∧ (decode cX12_next 242 = .ok (.getfield 26, 3)) := by decide +kernel
theorem dX12_next_229 : decode cX12_next 229 = .ok (.istore_n 2, 1) := dcX12_next_15.1
theorem dX12_next_230 : decode cX12_next 230 = .ok (.aload_n 0, 1) := dcX12_next_15.2.1
theorem dX12_next_231 : decode cX12_next 231 = .ok (.getfield 110, 3) := dcX12_next_15.2.2.1
theorem dX12_next_234 : decode cX12_next 234 = .ok (.aload_n 0, 1) := dcX12_next_15.2.2.2.1
theorem dX12_next_235 : decode cX12_next 235 = .ok (.getfield 83, 3) := dcX12_next_15.2.2.2.2.1
theorem dX12_next_238 : decode cX12_next 238 = .ok (.if_icmp .ge 71, 3) := dcX12_next_15.2.2.2.2.2.1
theorem dX12_next_241 : decode cX12_next 241 = .ok (.aload_n 0, 1) := dcX12_next_15.2.2.2.2.2.2.1
theorem dX12_next_242 : decode cX12_next 242 = .ok (.getfield 26, 3) := dcX12_next_15.2.2.2.2.2.2.2
theorem dcX12_next_16 : (decode cX12_next 245 = .ok (.aload_n 0, 1)) ∧ (decode cX12_next 246 = .ok (.getfield 110, 3)) ∧ (decode cX12_next 249 = .ok (.iaload, 1)) ∧ (decode cX12_next 250 = .ok (.bipush 48, 2)) ∧ (decode cX12_next 252 = .ok (.bipush 57, 2)) ∧ (decode cX12_next 254 = .ok (.invokestatic 93, 3)) ∧ (decode cX12_next 257 = .ok (.ifCond .eq 52, 3)) ∧ (decode cX12_next 260 = .ok (.aload_n 0, 1)) := by decide +kernel
theorem dX12_next_245 : decode cX12_next 245 = .ok (.aload_n 0, 1) := dcX12_next_16.1
theorem dX12_next_246 : decode cX12_next 246 = .ok (.getfield 110, 3) := dcX12_next_16.2.1
theorem dX12_next_249 : decode cX12_next 249 = .ok (.iaload, 1) := dcX12_next_16.2.2.1
theorem dX12_next_250 : decode cX12_next 250 = .ok (.bipush 48, 2) := dcX12_next_16.2.2.2.1
theorem dX12_next_252 : decode cX12_next 252 = .ok (.bipush 57, 2) := dcX12_next_16.2.2.2.2.1
theorem dX12_next_254 : decode cX12_next 254 = .ok (.invokestatic 93, 3) := dcX12_next_16.2.2.2.2.2.1
theorem dX12_next_257 : decode cX12_next 257 = .ok (.ifCond .eq 52, 3) := dcX12_next_16.2.2.2.2.2.2.1
theorem dX12_next_260 : decode cX12_next 260 = .ok (.aload_n 0, 1) := dcX12_next_16.2.2.2.2.2.2.2
theorem dcX12_next_17 : (decode cX12_next 261 = .ok (.iload_n 2, 1)) ∧ (decode cX12_next 262 = .ok (.iconst 4, 1)) ∧ (decode cX12_next 263 = .ok (.if_icmp .ge 26, 3)) ∧ (decode cX12_next 266 = .ok (.bipush 10, 2)) ∧ (decode cX12_next 268 = .ok (.aload_n 0, 1)) ∧ (decode cX12_next 269 = .ok (.getfield 119, 3)) ∧ (decode cX12_next 272 = .ok (.imul, 1)) ∧ (decode cX12_next 273 = .ok (.aload_n 0, 1)) := by decide +kernel
theorem dX12_next_261 : decode cX12_next 261 = .ok (.iload_n 2, 1) := dcX12_next_17.1
theorem dX12_next_262 : decode cX12_next 262 = .ok (.iconst 4, 1) := dcX12_next_17.2.1
theorem dX12_next_263 : decode cX12_next 263 = .ok (.if_icmp .ge 26, 3) := dcX12_next_17.2.2.1
theorem dX12_next_266 : decode cX12_next 266 = .ok (.bipush 10, 2) := dcX12_next_17.2.2.2.1
theorem dX12_next_268 : decode cX12_next 268 = .ok (.aload_n 0, 1) := dcX12_next_17.2.2.2.2.1
theorem dX12_next_269 : decode cX12_next 269 = .ok (.getfield 119, 3) := dcX12_next_17.2.2.2.2.2.1
theorem dX12_next_272 : decode cX12_next 272 = .ok (.imul, 1) := dcX12_next_17.2.2.2.2.2.2.1
theorem dX12_next_273 : decode cX12_next 273 = .ok (.aload_n 0, 1) := dcX12_next_17.2.2.2.2.2.2.2
theorem dcX12_next_18 : (decode cX12_next 274 = .ok (.getfield 26, 3)) ∧ (decode cX12_next 277 = .ok (.aload_n 0, 1)) ∧ (decode cX12_next 278 = .ok (.getfield 110, 3)) ∧ (decode cX12_next 281 = .ok (.iaload, 1)) ∧ (decode cX12_next 282 = .ok (.iadd, 1)) ∧ (decode cX12_next 283 = .ok (.bipush 48, 2)) ∧ (decode cX12_next 285 = .ok (.isub, 1)) ∧ (decode cX12_next 286 = .ok (.goto 4, 3)) := by decide +kernel
theorem dX12_next_274 : decode cX12_next 274 = .ok (.getfield 26, 3) := dcX12_next_18.1
theorem dX12_next_277 : decode cX12_next 277 = .ok (.aload_n 0, 1) := dcX12_next_18.2.1
theorem dX12_next_278 : decode cX12_next 278 = .ok (.getfield 110, 3) := dcX12_next_18.2.2.1
theorem dX12_next_281 : decode cX12_next 281 = .ok (.iaload, 1) := dcX12_next_18.2.2.2.1
theorem dX12_next_282 : decode cX12_next 282 = .ok (.iadd, 1) := dcX12_next_18.2.2.2.2.1
theorem dX12_next_283 : decode cX12_next 283 = .ok (.bipush 48, 2) := dcX12_next_18.2.2.2.2.2.1
theorem dX12_next_285 : decode cX12_next 285 = .ok (.isub, 1) := dcX12_next_18.2.2.2.2.2.2.1
theorem dX12_next_286 : decode cX12_next 286 = .ok (.goto 4, 3) := dcX12_next_18.2.2.2.2.2.2.2
theorem dcX12_next_19 : (decode cX12_next 289 = .ok (.iconst 0, 1)) ∧ (decode cX12_next 290 = .ok (.putfield 119, 3)) ∧ (decode cX12_next 293 = .ok (.iinc 2 1, 3)) ∧ (decode cX12_next 296 = .ok (.aload_n 0, 1)) ∧ (decode cX12_next 297 = .ok (.dup, 1)) ∧ (decode cX12_next 298 = .ok (.getfield 110, 3)) ∧ (decode cX12_next 301 = .ok (.iconst 1, 1)) ∧ (decode cX12_next 302 = .ok (.iadd, 1)) := by decide +kernel
theorem dX12_next_289 : decode cX12_next 289 = .ok (.iconst 0, 1) := dcX12_next_19.1
theorem dX12_next_290 : decode cX12_next 290 = .ok (.putfield 119, 3) := dcX12_next_19.2.1
theorem dX12_next_293 : decode cX12_next 293 = .ok (.iinc 2 1, 3) := dcX12_next_19.2.2.1
theorem dX12_next_296 : decode cX12_next 296 = .ok (.aload_n 0, 1) := dcX12_next_19.2.2.2.1
theorem dX12_next_297 : decode cX12_next 297 = .ok (.dup, 1) := dcX12_next_19.2.2.2.2.1
theorem dX12_next_298 : decode cX12_next 298 = .ok (.getfield 110, 3) := dcX12_next_19.2.2.2.2.2.1
theorem dX12_next_301 : decode cX12_next 301 = .ok (.iconst 1, 1) := dcX12_next_19.2.2.2.2.2.2.1
theorem dX12_next_302 : decode cX12_next 302 = .ok (.iadd, 1) := dcX12_next_19.2.2.2.2.2.2.2
theorem dcX12_next_20 : (decode cX12_next 303 = .ok (.putfield 110, 3)) ∧ (decode cX12_next 306 = .ok (.goto (-76), 3)) ∧ (decode cX12_next 309 = .ok (.aload_n 0, 1)) ∧ (decode cX12_next 310 = .ok (.iload_n 2, 1)) ∧ (decode cX12_next 311 = .ok (.iconst 4, 1)) ∧ (decode cX12_next 312 = .ok (.if_icmp .le 7, 3)) ∧ (decode cX12_next 315 = .ok (.iconst (-1), 1)) ∧ (decode cX12_next 316 = .ok (.goto 4, 3)) := by decide +kernel
theorem dX12_next_303 : decode cX12_next 303 = .ok (.putfield 110, 3) := dcX12_next_20.1
theorem dX12_next_306 : decode cX12_next 306 = .ok (.goto (-76), 3) := dcX12_next_20.2.1
theorem dX12_next_309 : decode cX12_next 309 = .ok (.aload_n 0, 1) := dcX12_next_20.2.2.1
theorem dX12_next_310 : decode cX12_next 310 = .ok (.iload_n 2, 1) := dcX12_next_20.2.2.2.1
theorem dX12_next_311 : decode cX12_next 311 = .ok (.iconst 4, 1) := dcX12_next_20.2.2.2.2.1
theorem dX12_next_312 : decode cX12_next 312 = .ok (.if_icmp .le 7, 3) := dcX12_next_20.2.2.2.2.2.1
theorem dX12_next_315 : decode cX12_next 315 = .ok (.iconst (-1), 1) := dcX12_next_20.2.2.2.2.2.2.1
theorem dX12_next_316 : decode cX12_next 316 = .ok (.goto 4, 3) := dcX12_next_20.2.2.2.2.2.2.2
theorem dcX12_next_21 : (decode cX12_next 319 = .ok (.iconst 1, 1)) ∧ (decode cX12_next 320 = .ok (.putfield 116, 3)) ∧ (decode cX12_next 323 = .ok (.goto 80, 3)) ∧ (decode cX12_next 326 = .ok (.iload_n 1, 1)) ∧ (decode cX12_next 327 = .ok (.bipush 40, 2)) ∧ (decode cX12_next 329 = .ok (.if_icmp .eq 45, 3)) ∧ (decode cX12_next 332 = .ok (.iload_n 1, 1)) ∧ (decode cX12_next 333 = .ok (.bipush 41, 2)) := by decide +kernel
theorem dX12_next_319 : decode cX12_next 319 = .ok (.iconst 1, 1) := dcX12_next_21.1
theorem dX12_next_320 : decode cX12_next 320 = .ok (.putfield 116, 3) := dcX12_next_21.2.1
theorem dX12_next_323 : decode cX12_next 323 = .ok (.goto 80, 3) := dcX12_next_21.2.2.1
theorem dX12_next_326 : decode cX12_next 326 = .ok (.iload_n 1, 1) := dcX12_next_21.2.2.2.1
theorem dX12_next_327 : decode cX12_next 327 = .ok (.bipush 40, 2) := dcX12_next_21.2.2.2.2.1
theorem dX12_next_329 : decode cX12_next 329 = .ok (.if_icmp .eq 45, 3) := dcX12_next_21.2.2.2.2.2.1
theorem dX12_next_332 : decode cX12_next 332 = .ok (.iload_n 1, 1) := dcX12_next_21.2.2.2.2.2.2.1
theorem dX12_next_333 : decode cX12_next 333 = .ok (.bipush 41, 2) := dcX12_next_21.2.2.2.2.2.2.2
theorem dcX12_next_22 : (decode cX12_next 335 = .ok (.if_icmp .eq 39, 3)) ∧ (decode cX12_next 338 = .ok (.iload_n 1, 1)) ∧ (decode cX12_next 339 = .ok (.bipush 59, 2)) ∧ (decode cX12_next 341 = .ok (.if_icmp .eq 33, 3)) ∧ (decode cX12_next 344 = .ok (.iload_n 1, 1)) ∧ (decode cX12_next 345 = .ok (.bipush 43, 2)) ∧ (decode cX12_next 347 = .ok (.if_icmp .eq 27, 3)) ∧ (decode cX12_next 350 = .ok (.iload_n 1, 1)) := by decide +kernel
theorem dX12_next_335 : decode cX12_next 335 = .ok (.if_icmp .eq 39, 3) := dcX12_next_22.1
theorem dX12_next_338 : decode cX12_next 338 = .ok (.iload_n 1, 1) := dcX12_next_22.2.1
theorem dX12_next_339 : decode cX12_next 339 = .ok (.bipush 59, 2) := dcX12_next_22.2.2.1
theorem dX12_next_341 : decode cX12_next 341 = .ok (.if_icmp .eq 33, 3) := dcX12_next_22.2.2.2.1
theorem dX12_next_344 : decode cX12_next 344 = .ok (.iload_n 1, 1) := dcX12_next_22.2.2.2.2.1
theorem dX12_next_345 : decode cX12_next 345 = .ok (.bipush 43, 2) := dcX12_next_22.2.2.2.2.2.1
theorem dX12_next_347 : decode cX12_next 347 = .ok (.if_icmp .eq 27, 3) := dcX12_next_22.2.2.2.2.2.2.1
theorem dX12_next_350 : decode cX12_next 350 = .ok (.iload_n 1, 1) := dcX12_next_22.2.2.2.2.2.2.2
theorem dcX12_next_23 : (decode cX12_next 351 = .ok (.bipush 45, 2)) ∧ (decode cX12_next 353 = .ok (.if_icmp .eq 21, 3)) ∧ (decode cX12_next 356 = .ok (.iload_n 1, 1)) ∧ (decode cX12_next 357 = .ok (.bipush 42, 2)) ∧ (decode cX12_next 359 = .ok (.if_icmp .eq 15, 3)) ∧ (decode cX12_next 362 = .ok (.iload_n 1, 1)) ∧ (decode cX12_next 363 = .ok (.bipush 60, 2)) ∧ (decode cX12_next 365 = .ok (.if_icmp .eq 9, 3)) := by decide +kernel
theorem dX12_next_351 : decode cX12_next 351 = .ok (.bipush 45, 2) := dcX12_next_23.1
theorem dX12_next_353 : decode cX12_next 353 = .ok (.if_icmp .eq 21, 3) := dcX12_next_23.2.1
theorem dX12_next_356 : decode cX12_next 356 = .ok (.iload_n 1, 1) := dcX12_next_23.2.2.1
theorem dX12_next_357 : decode cX12_next 357 = .ok (.bipush 42, 2) := dcX12_next_23.2.2.2.1
theorem dX12_next_359 : decode cX12_next 359 = .ok (.if_icmp .eq 15, 3) := dcX12_next_23.2.2.2.2.1
theorem dX12_next_362 : decode cX12_next 362 = .ok (.iload_n 1, 1) := dcX12_next_23.2.2.2.2.2.1
theorem dX12_next_363 : decode cX12_next 363 = .ok (.bipush 60, 2) := dcX12_next_23.2.2.2.2.2.2.1
theorem dX12_next_365 : decode cX12_next 365 = .ok (.if_icmp .eq 9, 3) := dcX12_next_23.2.2.2.2.2.2.2
theorem dcX12_next_24 : (decode cX12_next 368 = .ok (.iload_n 1, 1)) ∧ (decode cX12_next 369 = .ok (.bipush 61, 2)) ∧ (decode cX12_next 371 = .ok (.if_icmp .ne 7, 3)) ∧ (decode cX12_next 374 = .ok (.iconst 1, 1)) ∧ (decode cX12_next 375 = .ok (.goto 4, 3)) ∧ (decode cX12_next 378 = .ok (.iconst 0, 1)) ∧ (decode cX12_next 379 = .ok (.istore_n 2, 1)) ∧ (decode cX12_next 380 = .ok (.aload_n 0, 1)) := by decide +kernel
theorem dX12_next_368 : decode cX12_next 368 = .ok (.iload_n 1, 1) := dcX12_next_24.1
theorem dX12_next_369 : decode cX12_next 369 = .ok (.bipush 61, 2) := dcX12_next_24.2.1
theorem dX12_next_371 : decode cX12_next 371 = .ok (.if_icmp .ne 7, 3) := dcX12_next_24.2.2.1
theorem dX12_next_374 : decode cX12_next 374 = .ok (.iconst 1, 1) := dcX12_next_24.2.2.2.1
theorem dX12_next_375 : decode cX12_next 375 = .ok (.goto 4, 3) := dcX12_next_24.2.2.2.2.1
theorem dX12_next_378 : decode cX12_next 378 = .ok (.iconst 0, 1) := dcX12_next_24.2.2.2.2.2.1
theorem dX12_next_379 : decode cX12_next 379 = .ok (.istore_n 2, 1) := dcX12_next_24.2.2.2.2.2.2.1
theorem dX12_next_380 : decode cX12_next 380 = .ok (.aload_n 0, 1) := dcX12_next_24.2.2.2.2.2.2.2
theorem dcX12_next_25 : (decode cX12_next 381 = .ok (.iload_n 2, 1)) ∧ (decode cX12_next 382 = .ok (.ifCond .eq 7, 3)) ∧ (decode cX12_next 385 = .ok (.iload_n 1, 1)) ∧ (decode cX12_next 386 = .ok (.goto 4, 3)) ∧ (decode cX12_next 389 = .ok (.iconst (-1), 1)) ∧ (decode cX12_next 390 = .ok (.putfield 116, 3)) ∧ (decode cX12_next 393 = .ok (.aload_n 0, 1)) ∧ (decode cX12_next 394 = .ok (.dup, 1)) := by decide +kernel
theorem dX12_next_381 : decode cX12_next 381 = .ok (.iload_n 2, 1) := dcX12_next_25.1
theorem dX12_next_382 : decode cX12_next 382 = .ok (.ifCond .eq 7, 3) := dcX12_next_25.2.1
theorem dX12_next_385 : decode cX12_next 385 = .ok (.iload_n 1, 1) := dcX12_next_25.2.2.1
theorem dX12_next_386 : decode cX12_next 386 = .ok (.goto 4, 3) := dcX12_next_25.2.2.2.1
theorem dX12_next_389 : decode cX12_next 389 = .ok (.iconst (-1), 1) := dcX12_next_25.2.2.2.2.1
theorem dX12_next_390 : decode cX12_next 390 = .ok (.putfield 116, 3) := dcX12_next_25.2.2.2.2.2.1
theorem dX12_next_393 : decode cX12_next 393 = .ok (.aload_n 0, 1) := dcX12_next_25.2.2.2.2.2.2.1
theorem dX12_next_394 : decode cX12_next 394 = .ok (.dup, 1) := dcX12_next_25.2.2.2.2.2.2.2
theorem dcX12_next_26 : (decode cX12_next 395 = .ok (.getfield 110, 3)) ∧ (decode cX12_next 398 = .ok (.iconst 1, 1)) ∧ (decode cX12_next 399 = .ok (.iadd, 1)) ∧ (decode cX12_next 400 = .ok (.putfield 110, 3)) ∧ (decode cX12_next 403 = .ok (.return_, 1)) := by decide +kernel
theorem dX12_next_395 : decode cX12_next 395 = .ok (.getfield 110, 3) := dcX12_next_26.1
theorem dX12_next_398 : decode cX12_next 398 = .ok (.iconst 1, 1) := dcX12_next_26.2.1
theorem dX12_next_399 : decode cX12_next 399 = .ok (.iadd, 1) := dcX12_next_26.2.2.1
theorem dX12_next_400 : decode cX12_next 400 = .ok (.putfield 110, 3) := dcX12_next_26.2.2.2.1
theorem dX12_next_403 : decode cX12_next 403 = .ok (.return_, 1) := dcX12_next_26.2.2.2.2
theorem dcX12_rank_0 : (decode cX12_rank 0 = .ok (.iload_n 0, 1)) ∧ (decode cX12_rank 1 = .ok (.ifCond .ne 7, 3)) ∧ (decode cX12_rank 4 = .ok (.iconst 0, 1)) ∧ (decode cX12_rank 5 = .ok (.goto 66, 3)) ∧ (decode cX12_rank 8 = .ok (.iload_n 0, 1)) ∧ (decode cX12_rank 9 = .ok (.bipush 11, 2)) ∧ (decode cX12_rank 11 = .ok (.if_icmp .ne 7, 3)) ∧ (decode cX12_rank 14 = .ok (.iconst 1, 1)) := by decide +kernel
theorem dX12_rank_0 : decode cX12_rank 0 = .ok (.iload_n 0, 1) := dcX12_rank_0.1
theorem dX12_rank_1 : decode cX12_rank 1 = .ok (.ifCond .ne 7, 3) := dcX12_rank_0.2.1
theorem dX12_rank_4 : decode cX12_rank 4 = .ok (.iconst 0, 1) := dcX12_rank_0.2.2.1
theorem dX12_rank_5 : decode cX12_rank 5 = .ok (.goto 66, 3) := dcX12_rank_0.2.2.2.1
theorem dX12_rank_8 : decode cX12_rank 8 = .ok (.iload_n 0, 1) := dcX12_rank_0.2.2.2.2.1
theorem dX12_rank_9 : decode cX12_rank 9 = .ok (.bipush 11, 2) := dcX12_rank_0.2.2.2.2.2.1
theorem dX12_rank_11 : decode cX12_rank 11 = .ok (.if_icmp .ne 7, 3) := dcX12_rank_0.2.2.2.2.2.2.1
theorem dX12_rank_14 : decode cX12_rank 14 = .ok (.iconst 1, 1) := dcX12_rank_0.2.2.2.2.2.2.2
theorem dcX12_rank_1 : (decode cX12_rank 15 = .ok (.goto 56, 3)) ∧ (decode cX12_rank 18 = .ok (.iload_n 0, 1)) ∧ (decode cX12_rank 19 = .ok (.bipush 12, 2)) ∧ (decode cX12_rank 21 = .ok (.if_icmp .ne 7, 3)) ∧ (decode cX12_rank 24 = .ok (.iconst 2, 1)) ∧ (decode cX12_rank 25 = .ok (.goto 46, 3)) ∧ (decode cX12_rank 28 = .ok (.iload_n 0, 1)) ∧ (decode cX12_rank 29 = .ok (.bipush 13, 2)) := by decide +kernel
theorem dX12_rank_15 : decode cX12_rank 15 = .ok (.goto 56, 3) := dcX12_rank_1.1
theorem dX12_rank_18 : decode cX12_rank 18 = .ok (.iload_n 0, 1) := dcX12_rank_1.2.1
theorem dX12_rank_19 : decode cX12_rank 19 = .ok (.bipush 12, 2) := dcX12_rank_1.2.2.1
theorem dX12_rank_21 : decode cX12_rank 21 = .ok (.if_icmp .ne 7, 3) := dcX12_rank_1.2.2.2.1
theorem dX12_rank_24 : decode cX12_rank 24 = .ok (.iconst 2, 1) := dcX12_rank_1.2.2.2.2.1
theorem dX12_rank_25 : decode cX12_rank 25 = .ok (.goto 46, 3) := dcX12_rank_1.2.2.2.2.2.1
theorem dX12_rank_28 : decode cX12_rank 28 = .ok (.iload_n 0, 1) := dcX12_rank_1.2.2.2.2.2.2.1
theorem dX12_rank_29 : decode cX12_rank 29 = .ok (.bipush 13, 2) := dcX12_rank_1.2.2.2.2.2.2.2
theorem dcX12_rank_2 : (decode cX12_rank 31 = .ok (.if_icmp .ne 7, 3)) ∧ (decode cX12_rank 34 = .ok (.iconst 3, 1)) ∧ (decode cX12_rank 35 = .ok (.goto 36, 3)) ∧ (decode cX12_rank 38 = .ok (.iload_n 0, 1)) ∧ (decode cX12_rank 39 = .ok (.bipush 15, 2)) ∧ (decode cX12_rank 41 = .ok (.if_icmp .gt 7, 3)) ∧ (decode cX12_rank 44 = .ok (.iconst 4, 1)) ∧ (decode cX12_rank 45 = .ok (.goto 26, 3)) := by decide +kernel
theorem dX12_rank_31 : decode cX12_rank 31 = .ok (.if_icmp .ne 7, 3) := dcX12_rank_2.1
theorem dX12_rank_34 : decode cX12_rank 34 = .ok (.iconst 3, 1) := dcX12_rank_2.2.1
theorem dX12_rank_35 : decode cX12_rank 35 = .ok (.goto 36, 3) := dcX12_rank_2.2.2.1
theorem dX12_rank_38 : decode cX12_rank 38 = .ok (.iload_n 0, 1) := dcX12_rank_2.2.2.2.1
theorem dX12_rank_39 : decode cX12_rank 39 = .ok (.bipush 15, 2) := dcX12_rank_2.2.2.2.2.1
theorem dX12_rank_41 : decode cX12_rank 41 = .ok (.if_icmp .gt 7, 3) := dcX12_rank_2.2.2.2.2.2.1
theorem dX12_rank_44 : decode cX12_rank 44 = .ok (.iconst 4, 1) := dcX12_rank_2.2.2.2.2.2.2.1
theorem dX12_rank_45 : decode cX12_rank 45 = .ok (.goto 26, 3) := dcX12_rank_2.2.2.2.2.2.2.2
theorem dcX12_rank_3 : (decode cX12_rank 48 = .ok (.iload_n 0, 1)) ∧ (decode cX12_rank 49 = .ok (.bipush 17, 2)) ∧ (decode cX12_rank 51 = .ok (.if_icmp .gt 7, 3)) ∧ (decode cX12_rank 54 = .ok (.iconst 5, 1)) ∧ (decode cX12_rank 55 = .ok (.goto 16, 3)) ∧ (decode cX12_rank 58 = .ok (.iload_n 0, 1)) ∧ (decode cX12_rank 59 = .ok (.bipush 18, 2)) ∧ (decode cX12_rank 61 = .ok (.if_icmp .ne 8, 3)) := by decide +kernel
theorem dX12_rank_48 : decode cX12_rank 48 = .ok (.iload_n 0, 1) := dcX12_rank_3.1
theorem dX12_rank_49 : decode cX12_rank 49 = .ok (.bipush 17, 2) := dcX12_rank_3.2.1
theorem dX12_rank_51 : decode cX12_rank 51 = .ok (.if_icmp .gt 7, 3) := dcX12_rank_3.2.2.1
theorem dX12_rank_54 : decode cX12_rank 54 = .ok (.iconst 5, 1) := dcX12_rank_3.2.2.2.1
theorem dX12_rank_55 : decode cX12_rank 55 = .ok (.goto 16, 3) := dcX12_rank_3.2.2.2.2.1
theorem dX12_rank_58 : decode cX12_rank 58 = .ok (.iload_n 0, 1) := dcX12_rank_3.2.2.2.2.2.1
theorem dX12_rank_59 : decode cX12_rank 59 = .ok (.bipush 18, 2) := dcX12_rank_3.2.2.2.2.2.2.1
theorem dX12_rank_61 : decode cX12_rank 61 = .ok (.if_icmp .ne 8, 3) := dcX12_rank_3.2.2.2.2.2.2.2
theorem dcX12_rank_4 : (decode cX12_rank 64 = .ok (.bipush 6, 2)) ∧ (decode cX12_rank 66 = .ok (.goto 5, 3)) ∧ (decode cX12_rank 69 = .ok (.bipush 7, 2)) ∧ (decode cX12_rank 71 = .ok (.ireturn, 1)) := by decide +kernel
theorem dX12_rank_64 : decode cX12_rank 64 = .ok (.bipush 6, 2) := dcX12_rank_4.1
theorem dX12_rank_66 : decode cX12_rank 66 = .ok (.goto 5, 3) := dcX12_rank_4.2.1
theorem dX12_rank_69 : decode cX12_rank 69 = .ok (.bipush 7, 2) := dcX12_rank_4.2.2.1
theorem dX12_rank_71 : decode cX12_rank 71 = .ok (.ireturn, 1) := dcX12_rank_4.2.2.2
theorem dcX12_puts_0 : (decode cX12_puts 0 = .ok (.aload_n 0, 1)) ∧ (decode cX12_puts 1 = .ok (.getfield 29, 3)) ∧ (decode cX12_puts 4 = .ok (.sipush 200, 3)) ∧ (decode cX12_puts 7 = .ok (.aload_n 0, 1)) ∧ (decode cX12_puts 8 = .ok (.getfield 100, 3)) ∧ (decode cX12_puts 11 = .ok (.imul, 1)) ∧ (decode cX12_puts 12 = .ok (.aload_n 0, 1)) ∧ (decode cX12_puts 13 = .ok (.getfield 126, 3)) := by decide +kernel
theorem dX12_puts_0 : decode cX12_puts 0 = .ok (.aload_n 0, 1) := dcX12_puts_0.1
theorem dX12_puts_1 : decode cX12_puts 1 = .ok (.getfield 29, 3) := dcX12_puts_0.2.1
theorem dX12_puts_4 : decode cX12_puts 4 = .ok (.sipush 200, 3) := dcX12_puts_0.2.2.1
theorem dX12_puts_7 : decode cX12_puts 7 = .ok (.aload_n 0, 1) := dcX12_puts_0.2.2.2.1
theorem dX12_puts_8 : decode cX12_puts 8 = .ok (.getfield 100, 3) := dcX12_puts_0.2.2.2.2.1
theorem dX12_puts_11 : decode cX12_puts 11 = .ok (.imul, 1) := dcX12_puts_0.2.2.2.2.2.1
theorem dX12_puts_12 : decode cX12_puts 12 = .ok (.aload_n 0, 1) := dcX12_puts_0.2.2.2.2.2.2.1
theorem dX12_puts_13 : decode cX12_puts 13 = .ok (.getfield 126, 3) := dcX12_puts_0.2.2.2.2.2.2.2
theorem dcX12_puts_1 : (decode cX12_puts 16 = .ok (.iadd, 1)) ∧ (decode cX12_puts 17 = .ok (.iload_n 1, 1)) ∧ (decode cX12_puts 18 = .ok (.iastore, 1)) ∧ (decode cX12_puts 19 = .ok (.aload_n 0, 1)) ∧ (decode cX12_puts 20 = .ok (.dup, 1)) ∧ (decode cX12_puts 21 = .ok (.getfield 126, 3)) ∧ (decode cX12_puts 24 = .ok (.iconst 1, 1)) ∧ (decode cX12_puts 25 = .ok (.iadd, 1)) := by decide +kernel
theorem dX12_puts_16 : decode cX12_puts 16 = .ok (.iadd, 1) := dcX12_puts_1.1
theorem dX12_puts_17 : decode cX12_puts 17 = .ok (.iload_n 1, 1) := dcX12_puts_1.2.1
theorem dX12_puts_18 : decode cX12_puts 18 = .ok (.iastore, 1) := dcX12_puts_1.2.2.1
theorem dX12_puts_19 : decode cX12_puts 19 = .ok (.aload_n 0, 1) := dcX12_puts_1.2.2.2.1
theorem dX12_puts_20 : decode cX12_puts 20 = .ok (.dup, 1) := dcX12_puts_1.2.2.2.2.1
theorem dX12_puts_21 : decode cX12_puts 21 = .ok (.getfield 126, 3) := dcX12_puts_1.2.2.2.2.2.1
theorem dX12_puts_24 : decode cX12_puts 24 = .ok (.iconst 1, 1) := dcX12_puts_1.2.2.2.2.2.2.1
theorem dX12_puts_25 : decode cX12_puts 25 = .ok (.iadd, 1) := dcX12_puts_1.2.2.2.2.2.2.2
theorem dcX12_puts_2 : (decode cX12_puts 26 = .ok (.putfield 126, 3)) ∧ (decode cX12_puts 29 = .ok (.return_, 1)) := by decide +kernel
theorem dX12_puts_26 : decode cX12_puts 26 = .ok (.putfield 126, 3) := dcX12_puts_2.1
theorem dX12_puts_29 : decode cX12_puts 29 = .ok (.return_, 1) := dcX12_puts_2.2
theorem dcX12_unwinds_0 : (decode cX12_unwinds 0 = .ok (.aload_n 0, 1)) ∧ (decode cX12_unwinds 1 = .ok (.getfield 129, 3)) ∧ (decode cX12_unwinds 4 = .ok (.ifCond .le 75, 3)) ∧ (decode cX12_unwinds 7 = .ok (.aload_n 0, 1)) ∧ (decode cX12_unwinds 8 = .ok (.getfield 59, 3)) ∧ (decode cX12_unwinds 11 = .ok (.aload_n 0, 1)) ∧ (decode cX12_unwinds 12 = .ok (.getfield 129, 3)) ∧ (decode cX12_unwinds 15 = .ok (.iconst 1, 1)) := by decide +kernel
theorem dX12_unwinds_0 : decode cX12_unwinds 0 = .ok (.aload_n 0, 1) := dcX12_unwinds_0.1
theorem dX12_unwinds_1 : decode cX12_unwinds 1 = .ok (.getfield 129, 3) := dcX12_unwinds_0.2.1
theorem dX12_unwinds_4 : decode cX12_unwinds 4 = .ok (.ifCond .le 75, 3) := dcX12_unwinds_0.2.2.1
theorem dX12_unwinds_7 : decode cX12_unwinds 7 = .ok (.aload_n 0, 1) := dcX12_unwinds_0.2.2.2.1
theorem dX12_unwinds_8 : decode cX12_unwinds 8 = .ok (.getfield 59, 3) := dcX12_unwinds_0.2.2.2.2.1
theorem dX12_unwinds_11 : decode cX12_unwinds 11 = .ok (.aload_n 0, 1) := dcX12_unwinds_0.2.2.2.2.2.1
theorem dX12_unwinds_12 : decode cX12_unwinds 12 = .ok (.getfield 129, 3) := dcX12_unwinds_0.2.2.2.2.2.2.1
theorem dX12_unwinds_15 : decode cX12_unwinds 15 = .ok (.iconst 1, 1) := dcX12_unwinds_0.2.2.2.2.2.2.2
theorem dcX12_unwinds_1 : (decode cX12_unwinds 16 = .ok (.isub, 1)) ∧ (decode cX12_unwinds 17 = .ok (.iaload, 1)) ∧ (decode cX12_unwinds 18 = .ok (.invokestatic 132, 3)) ∧ (decode cX12_unwinds 21 = .ok (.iload_n 1, 1)) ∧ (decode cX12_unwinds 22 = .ok (.if_icmp .lt 57, 3)) ∧ (decode cX12_unwinds 25 = .ok (.aload_n 0, 1)) ∧ (decode cX12_unwinds 26 = .ok (.dup, 1)) ∧ (decode cX12_unwinds 27 = .ok (.getfield 129, 3)) := by decide +kernel
theorem dX12_unwinds_16 : decode cX12_unwinds 16 = .ok (.isub, 1) := dcX12_unwinds_1.1
theorem dX12_unwinds_17 : decode cX12_unwinds 17 = .ok (.iaload, 1) := dcX12_unwinds_1.2.1
theorem dX12_unwinds_18 : decode cX12_unwinds 18 = .ok (.invokestatic 132, 3) := dcX12_unwinds_1.2.2.1
theorem dX12_unwinds_21 : decode cX12_unwinds 21 = .ok (.iload_n 1, 1) := dcX12_unwinds_1.2.2.2.1
theorem dX12_unwinds_22 : decode cX12_unwinds 22 = .ok (.if_icmp .lt 57, 3) := dcX12_unwinds_1.2.2.2.2.1
theorem dX12_unwinds_25 : decode cX12_unwinds 25 = .ok (.aload_n 0, 1) := dcX12_unwinds_1.2.2.2.2.2.1
theorem dX12_unwinds_26 : decode cX12_unwinds 26 = .ok (.dup, 1) := dcX12_unwinds_1.2.2.2.2.2.2.1
theorem dX12_unwinds_27 : decode cX12_unwinds 27 = .ok (.getfield 129, 3) := dcX12_unwinds_1.2.2.2.2.2.2.2
theorem dcX12_unwinds_2 : (decode cX12_unwinds 30 = .ok (.iconst 1, 1)) ∧ (decode cX12_unwinds 31 = .ok (.isub, 1)) ∧ (decode cX12_unwinds 32 = .ok (.putfield 129, 3)) ∧ (decode cX12_unwinds 35 = .ok (.aload_n 0, 1)) ∧ (decode cX12_unwinds 36 = .ok (.getfield 59, 3)) ∧ (decode cX12_unwinds 39 = .ok (.aload_n 0, 1)) ∧ (decode cX12_unwinds 40 = .ok (.getfield 129, 3)) ∧ (decode cX12_unwinds 43 = .ok (.iaload, 1)) := by decide +kernel
theorem dX12_unwinds_30 : decode cX12_unwinds 30 = .ok (.iconst 1, 1) := dcX12_unwinds_2.1
theorem dX12_unwinds_31 : decode cX12_unwinds 31 = .ok (.isub, 1) := dcX12_unwinds_2.2.1
theorem dX12_unwinds_32 : decode cX12_unwinds 32 = .ok (.putfield 129, 3) := dcX12_unwinds_2.2.2.1
theorem dX12_unwinds_35 : decode cX12_unwinds 35 = .ok (.aload_n 0, 1) := dcX12_unwinds_2.2.2.2.1
theorem dX12_unwinds_36 : decode cX12_unwinds 36 = .ok (.getfield 59, 3) := dcX12_unwinds_2.2.2.2.2.1
theorem dX12_unwinds_39 : decode cX12_unwinds 39 = .ok (.aload_n 0, 1) := dcX12_unwinds_2.2.2.2.2.2.1
theorem dX12_unwinds_40 : decode cX12_unwinds 40 = .ok (.getfield 129, 3) := dcX12_unwinds_2.2.2.2.2.2.2.1
theorem dX12_unwinds_43 : decode cX12_unwinds 43 = .ok (.iaload, 1) := dcX12_unwinds_2.2.2.2.2.2.2.2
theorem dcX12_unwinds_3 : (decode cX12_unwinds 44 = .ok (.istore_n 2, 1)) ∧ (decode cX12_unwinds 45 = .ok (.aload_n 0, 1)) ∧ (decode cX12_unwinds 46 = .ok (.dup, 1)) ∧ (decode cX12_unwinds 47 = .ok (.getfield 136, 3)) ∧ (decode cX12_unwinds 50 = .ok (.iload_n 2, 1)) ∧ (decode cX12_unwinds 51 = .ok (.bipush 13, 2)) ∧ (decode cX12_unwinds 53 = .ok (.if_icmp .eq 9, 3)) ∧ (decode cX12_unwinds 56 = .ok (.iload_n 2, 1)) := by decide +kernel
theorem dX12_unwinds_44 : decode cX12_unwinds 44 = .ok (.istore_n 2, 1) := dcX12_unwinds_3.1
theorem dX12_unwinds_45 : decode cX12_unwinds 45 = .ok (.aload_n 0, 1) := dcX12_unwinds_3.2.1
theorem dX12_unwinds_46 : decode cX12_unwinds 46 = .ok (.dup, 1) := dcX12_unwinds_3.2.2.1
theorem dX12_unwinds_47 : decode cX12_unwinds 47 = .ok (.getfield 136, 3) := dcX12_unwinds_3.2.2.2.1
theorem dX12_unwinds_50 : decode cX12_unwinds 50 = .ok (.iload_n 2, 1) := dcX12_unwinds_3.2.2.2.2.1
theorem dX12_unwinds_51 : decode cX12_unwinds 51 = .ok (.bipush 13, 2) := dcX12_unwinds_3.2.2.2.2.2.1
theorem dX12_unwinds_53 : decode cX12_unwinds 53 = .ok (.if_icmp .eq 9, 3) := dcX12_unwinds_3.2.2.2.2.2.2.1
theorem dX12_unwinds_56 : decode cX12_unwinds 56 = .ok (.iload_n 2, 1) := dcX12_unwinds_3.2.2.2.2.2.2.2
theorem dcX12_unwinds_4 : (decode cX12_unwinds 57 = .ok (.bipush 19, 2)) ∧ (decode cX12_unwinds 59 = .ok (.if_icmp .ne 7, 3)) ∧ (decode cX12_unwinds 62 = .ok (.iconst 1, 1)) ∧ (decode cX12_unwinds 63 = .ok (.goto 4, 3)) ∧ (decode cX12_unwinds 66 = .ok (.iconst 0, 1)) ∧ (decode cX12_unwinds 67 = .ok (.isub, 1)) ∧ (decode cX12_unwinds 68 = .ok (.putfield 136, 3)) ∧ (decode cX12_unwinds 71 = .ok (.aload_n 0, 1)) := by decide +kernel
theorem dX12_unwinds_57 : decode cX12_unwinds 57 = .ok (.bipush 19, 2) := dcX12_unwinds_4.1
theorem dX12_unwinds_59 : decode cX12_unwinds 59 = .ok (.if_icmp .ne 7, 3) := dcX12_unwinds_4.2.1
theorem dX12_unwinds_62 : decode cX12_unwinds 62 = .ok (.iconst 1, 1) := dcX12_unwinds_4.2.2.1
theorem dX12_unwinds_63 : decode cX12_unwinds 63 = .ok (.goto 4, 3) := dcX12_unwinds_4.2.2.2.1
theorem dX12_unwinds_66 : decode cX12_unwinds 66 = .ok (.iconst 0, 1) := dcX12_unwinds_4.2.2.2.2.1
theorem dX12_unwinds_67 : decode cX12_unwinds 67 = .ok (.isub, 1) := dcX12_unwinds_4.2.2.2.2.2.1
theorem dX12_unwinds_68 : decode cX12_unwinds 68 = .ok (.putfield 136, 3) := dcX12_unwinds_4.2.2.2.2.2.2.1
theorem dX12_unwinds_71 : decode cX12_unwinds 71 = .ok (.aload_n 0, 1) := dcX12_unwinds_4.2.2.2.2.2.2.2
theorem dcX12_unwinds_5 : (decode cX12_unwinds 72 = .ok (.iload_n 2, 1)) ∧ (decode cX12_unwinds 73 = .ok (.invokevirtual 139, 3)) ∧ (decode cX12_unwinds 76 = .ok (.goto (-76), 3)) ∧ (decode cX12_unwinds 79 = .ok (.return_, 1)) := by decide +kernel
theorem dX12_unwinds_72 : decode cX12_unwinds 72 = .ok (.iload_n 2, 1) := dcX12_unwinds_5.1
theorem dX12_unwinds_73 : decode cX12_unwinds 73 = .ok (.invokevirtual 139, 3) := dcX12_unwinds_5.2.1
theorem dX12_unwinds_76 : decode cX12_unwinds 76 = .ok (.goto (-76), 3) := dcX12_unwinds_5.2.2.1
theorem dX12_unwinds_79 : decode cX12_unwinds 79 = .ok (.return_, 1) := dcX12_unwinds_5.2.2.2
theorem dcX12_holds_0 : (decode cX12_holds 0 = .ok (.aload_n 0, 1)) ∧ (decode cX12_holds 1 = .ok (.getfield 59, 3)) ∧ (decode cX12_holds 4 = .ok (.aload_n 0, 1)) ∧ (decode cX12_holds 5 = .ok (.getfield 129, 3)) ∧ (decode cX12_holds 8 = .ok (.iload_n 1, 1)) ∧ (decode cX12_holds 9 = .ok (.iastore, 1)) ∧ (decode cX12_holds 10 = .ok (.aload_n 0, 1)) ∧ (decode cX12_holds 11 = .ok (.dup, 1)) := by decide +kernel
theorem dX12_holds_0 : decode cX12_holds 0 = .ok (.aload_n 0, 1) := dcX12_holds_0.1
theorem dX12_holds_1 : decode cX12_holds 1 = .ok (.getfield 59, 3) := dcX12_holds_0.2.1
theorem dX12_holds_4 : decode cX12_holds 4 = .ok (.aload_n 0, 1) := dcX12_holds_0.2.2.1
theorem dX12_holds_5 : decode cX12_holds 5 = .ok (.getfield 129, 3) := dcX12_holds_0.2.2.2.1
theorem dX12_holds_8 : decode cX12_holds 8 = .ok (.iload_n 1, 1) := dcX12_holds_0.2.2.2.2.1
theorem dX12_holds_9 : decode cX12_holds 9 = .ok (.iastore, 1) := dcX12_holds_0.2.2.2.2.2.1
theorem dX12_holds_10 : decode cX12_holds 10 = .ok (.aload_n 0, 1) := dcX12_holds_0.2.2.2.2.2.2.1
theorem dX12_holds_11 : decode cX12_holds 11 = .ok (.dup, 1) := dcX12_holds_0.2.2.2.2.2.2.2
theorem dcX12_holds_1 : (decode cX12_holds 12 = .ok (.getfield 129, 3)) ∧ (decode cX12_holds 15 = .ok (.iconst 1, 1)) ∧ (decode cX12_holds 16 = .ok (.iadd, 1)) ∧ (decode cX12_holds 17 = .ok (.putfield 129, 3)) ∧ (decode cX12_holds 20 = .ok (.return_, 1)) := by decide +kernel
theorem dX12_holds_12 : decode cX12_holds 12 = .ok (.getfield 129, 3) := dcX12_holds_1.1
theorem dX12_holds_15 : decode cX12_holds 15 = .ok (.iconst 1, 1) := dcX12_holds_1.2.1
theorem dX12_holds_16 : decode cX12_holds 16 = .ok (.iadd, 1) := dcX12_holds_1.2.2.1
theorem dX12_holds_17 : decode cX12_holds 17 = .ok (.putfield 129, 3) := dcX12_holds_1.2.2.2.1
theorem dX12_holds_20 : decode cX12_holds 20 = .ok (.return_, 1) := dcX12_holds_1.2.2.2.2
theorem dcX12_opensOne_0 : (decode cX12_opensOne 0 = .ok (.aload_n 0, 1)) ∧ (decode cX12_opensOne 1 = .ok (.getfield 136, 3)) ∧ (decode cX12_opensOne 4 = .ok (.iconst 5, 1)) ∧ (decode cX12_opensOne 5 = .ok (.if_icmp .ne 5, 3)) ∧ (decode cX12_opensOne 8 = .ok (.iconst 0, 1)) ∧ (decode cX12_opensOne 9 = .ok (.ireturn, 1)) ∧ (decode cX12_opensOne 10 = .ok (.aload_n 0, 1)) ∧ (decode cX12_opensOne 11 = .ok (.dup, 1)) := by decide +kernel
theorem dX12_opensOne_0 : decode cX12_opensOne 0 = .ok (.aload_n 0, 1) := dcX12_opensOne_0.1
theorem dX12_opensOne_1 : decode cX12_opensOne 1 = .ok (.getfield 136, 3) := dcX12_opensOne_0.2.1
theorem dX12_opensOne_4 : decode cX12_opensOne 4 = .ok (.iconst 5, 1) := dcX12_opensOne_0.2.2.1
theorem dX12_opensOne_5 : decode cX12_opensOne 5 = .ok (.if_icmp .ne 5, 3) := dcX12_opensOne_0.2.2.2.1
theorem dX12_opensOne_8 : decode cX12_opensOne 8 = .ok (.iconst 0, 1) := dcX12_opensOne_0.2.2.2.2.1
theorem dX12_opensOne_9 : decode cX12_opensOne 9 = .ok (.ireturn, 1) := dcX12_opensOne_0.2.2.2.2.2.1
theorem dX12_opensOne_10 : decode cX12_opensOne 10 = .ok (.aload_n 0, 1) := dcX12_opensOne_0.2.2.2.2.2.2.1
theorem dX12_opensOne_11 : decode cX12_opensOne 11 = .ok (.dup, 1) := dcX12_opensOne_0.2.2.2.2.2.2.2
theorem dcX12_opensOne_1 : (decode cX12_opensOne 12 = .ok (.getfield 136, 3)) ∧ (decode cX12_opensOne 15 = .ok (.iconst 1, 1)) ∧ (decode cX12_opensOne 16 = .ok (.iadd, 1)) ∧ (decode cX12_opensOne 17 = .ok (.putfield 136, 3)) ∧ (decode cX12_opensOne 20 = .ok (.aload_n 0, 1)) ∧ (decode cX12_opensOne 21 = .ok (.iload_n 1, 1)) ∧ (decode cX12_opensOne 22 = .ok (.invokevirtual 143, 3)) ∧ (decode cX12_opensOne 25 = .ok (.iconst 1, 1)) := by decide +kernel
theorem dX12_opensOne_12 : decode cX12_opensOne 12 = .ok (.getfield 136, 3) := dcX12_opensOne_1.1
theorem dX12_opensOne_15 : decode cX12_opensOne 15 = .ok (.iconst 1, 1) := dcX12_opensOne_1.2.1
theorem dX12_opensOne_16 : decode cX12_opensOne 16 = .ok (.iadd, 1) := dcX12_opensOne_1.2.2.1
theorem dX12_opensOne_17 : decode cX12_opensOne 17 = .ok (.putfield 136, 3) := dcX12_opensOne_1.2.2.2.1
theorem dX12_opensOne_20 : decode cX12_opensOne 20 = .ok (.aload_n 0, 1) := dcX12_opensOne_1.2.2.2.2.1
theorem dX12_opensOne_21 : decode cX12_opensOne 21 = .ok (.iload_n 1, 1) := dcX12_opensOne_1.2.2.2.2.2.1
theorem dX12_opensOne_22 : decode cX12_opensOne 22 = .ok (.invokevirtual 143, 3) := dcX12_opensOne_1.2.2.2.2.2.2.1
theorem dX12_opensOne_25 : decode cX12_opensOne 25 = .ok (.iconst 1, 1) := dcX12_opensOne_1.2.2.2.2.2.2.2
theorem dX12_opensOne_26 : decode cX12_opensOne 26 = .ok (.ireturn, 1) := by decide +kernel
theorem dcX12_between_0 : (decode cX12_between 0 = .ok (.aload_n 0, 1)) ∧ (decode cX12_between 1 = .ok (.iload_n 1, 1)) ∧ (decode cX12_between 2 = .ok (.invokestatic 132, 3)) ∧ (decode cX12_between 5 = .ok (.iconst 4, 1)) ∧ (decode cX12_between 6 = .ok (.if_icmp .ne 7, 3)) ∧ (decode cX12_between 9 = .ok (.iconst 5, 1)) ∧ (decode cX12_between 10 = .ok (.goto 7, 3)) ∧ (decode cX12_between 13 = .ok (.iload_n 1, 1)) := by decide +kernel
theorem dX12_between_0 : decode cX12_between 0 = .ok (.aload_n 0, 1) := dcX12_between_0.1
theorem dX12_between_1 : decode cX12_between 1 = .ok (.iload_n 1, 1) := dcX12_between_0.2.1
theorem dX12_between_2 : decode cX12_between 2 = .ok (.invokestatic 132, 3) := dcX12_between_0.2.2.1
theorem dX12_between_5 : decode cX12_between 5 = .ok (.iconst 4, 1) := dcX12_between_0.2.2.2.1
theorem dX12_between_6 : decode cX12_between 6 = .ok (.if_icmp .ne 7, 3) := dcX12_between_0.2.2.2.2.1
theorem dX12_between_9 : decode cX12_between 9 = .ok (.iconst 5, 1) := dcX12_between_0.2.2.2.2.2.1
theorem dX12_between_10 : decode cX12_between 10 = .ok (.goto 7, 3) := dcX12_between_0.2.2.2.2.2.2.1
theorem dX12_between_13 : decode cX12_between 13 = .ok (.iload_n 1, 1) := dcX12_between_0.2.2.2.2.2.2.2
theorem dcX12_between_1 : (decode cX12_between 14 = .ok (.invokestatic 132, 3)) ∧ (decode cX12_between 17 = .ok (.invokevirtual 146, 3)) ∧ (decode cX12_between 20 = .ok (.iload_n 1, 1)) ∧ (decode cX12_between 21 = .ok (.invokestatic 132, 3)) ∧ (decode cX12_between 24 = .ok (.iconst 4, 1)) ∧ (decode cX12_between 25 = .ok (.if_icmp .ne 30, 3)) ∧ (decode cX12_between 28 = .ok (.aload_n 0, 1)) ∧ (decode cX12_between 29 = .ok (.getfield 129, 3)) := by decide +kernel
theorem dX12_between_14 : decode cX12_between 14 = .ok (.invokestatic 132, 3) := dcX12_between_1.1
theorem dX12_between_17 : decode cX12_between 17 = .ok (.invokevirtual 146, 3) := dcX12_between_1.2.1
theorem dX12_between_20 : decode cX12_between 20 = .ok (.iload_n 1, 1) := dcX12_between_1.2.2.1
theorem dX12_between_21 : decode cX12_between 21 = .ok (.invokestatic 132, 3) := dcX12_between_1.2.2.2.1
theorem dX12_between_24 : decode cX12_between 24 = .ok (.iconst 4, 1) := dcX12_between_1.2.2.2.2.1
theorem dX12_between_25 : decode cX12_between 25 = .ok (.if_icmp .ne 30, 3) := dcX12_between_1.2.2.2.2.2.1
theorem dX12_between_28 : decode cX12_between 28 = .ok (.aload_n 0, 1) := dcX12_between_1.2.2.2.2.2.2.1
theorem dX12_between_29 : decode cX12_between 29 = .ok (.getfield 129, 3) := dcX12_between_1.2.2.2.2.2.2.2
theorem dcX12_between_2 : (decode cX12_between 32 = .ok (.ifCond .le 23, 3)) ∧ (decode cX12_between 35 = .ok (.aload_n 0, 1)) ∧ (decode cX12_between 36 = .ok (.getfield 59, 3)) ∧ (decode cX12_between 39 = .ok (.aload_n 0, 1)) ∧ (decode cX12_between 40 = .ok (.getfield 129, 3)) ∧ (decode cX12_between 43 = .ok (.iconst 1, 1)) ∧ (decode cX12_between 44 = .ok (.isub, 1)) ∧ (decode cX12_between 45 = .ok (.iaload, 1)) := by decide +kernel
theorem dX12_between_32 : decode cX12_between 32 = .ok (.ifCond .le 23, 3) := dcX12_between_2.1
theorem dX12_between_35 : decode cX12_between 35 = .ok (.aload_n 0, 1) := dcX12_between_2.2.1
theorem dX12_between_36 : decode cX12_between 36 = .ok (.getfield 59, 3) := dcX12_between_2.2.2.1
theorem dX12_between_39 : decode cX12_between 39 = .ok (.aload_n 0, 1) := dcX12_between_2.2.2.2.1
theorem dX12_between_40 : decode cX12_between 40 = .ok (.getfield 129, 3) := dcX12_between_2.2.2.2.2.1
theorem dX12_between_43 : decode cX12_between 43 = .ok (.iconst 1, 1) := dcX12_between_2.2.2.2.2.2.1
theorem dX12_between_44 : decode cX12_between 44 = .ok (.isub, 1) := dcX12_between_2.2.2.2.2.2.2.1
theorem dX12_between_45 : decode cX12_between 45 = .ok (.iaload, 1) := dcX12_between_2.2.2.2.2.2.2.2
theorem dcX12_between_3 : (decode cX12_between 46 = .ok (.invokestatic 132, 3)) ∧ (decode cX12_between 49 = .ok (.iconst 4, 1)) ∧ (decode cX12_between 50 = .ok (.if_icmp .ne 5, 3)) ∧ (decode cX12_between 53 = .ok (.iconst 0, 1)) ∧ (decode cX12_between 54 = .ok (.ireturn, 1)) ∧ (decode cX12_between 55 = .ok (.aload_n 0, 1)) ∧ (decode cX12_between 56 = .ok (.iload_n 1, 1)) ∧ (decode cX12_between 57 = .ok (.invokevirtual 143, 3)) := by decide +kernel
theorem dX12_between_46 : decode cX12_between 46 = .ok (.invokestatic 132, 3) := dcX12_between_3.1
theorem dX12_between_49 : decode cX12_between 49 = .ok (.iconst 4, 1) := dcX12_between_3.2.1
theorem dX12_between_50 : decode cX12_between 50 = .ok (.if_icmp .ne 5, 3) := dcX12_between_3.2.2.1
theorem dX12_between_53 : decode cX12_between 53 = .ok (.iconst 0, 1) := dcX12_between_3.2.2.2.1
theorem dX12_between_54 : decode cX12_between 54 = .ok (.ireturn, 1) := dcX12_between_3.2.2.2.2.1
theorem dX12_between_55 : decode cX12_between 55 = .ok (.aload_n 0, 1) := dcX12_between_3.2.2.2.2.2.1
theorem dX12_between_56 : decode cX12_between 56 = .ok (.iload_n 1, 1) := dcX12_between_3.2.2.2.2.2.2.1
theorem dX12_between_57 : decode cX12_between 57 = .ok (.invokevirtual 143, 3) := dcX12_between_3.2.2.2.2.2.2.2
theorem dcX12_between_4 : (decode cX12_between 60 = .ok (.iconst 1, 1)) ∧ (decode cX12_between 61 = .ok (.ireturn, 1)) := by decide +kernel
theorem dX12_between_60 : decode cX12_between 60 = .ok (.iconst 1, 1) := dcX12_between_4.1
theorem dX12_between_61 : decode cX12_between 61 = .ok (.ireturn, 1) := dcX12_between_4.2
theorem dcX12_signOf_0 : (decode cX12_signOf 0 = .ok (.aload_n 0, 1)) ∧ (decode cX12_signOf 1 = .ok (.getfield 116, 3)) ∧ (decode cX12_signOf 4 = .ok (.iconst 4, 1)) ∧ (decode cX12_signOf 5 = .ok (.if_icmp .ne 8, 3)) ∧ (decode cX12_signOf 8 = .ok (.bipush 11, 2)) ∧ (decode cX12_signOf 10 = .ok (.goto 87, 3)) ∧ (decode cX12_signOf 13 = .ok (.aload_n 0, 1)) ∧ (decode cX12_signOf 14 = .ok (.getfield 116, 3)) := by decide +kernel
theorem dX12_signOf_0 : decode cX12_signOf 0 = .ok (.aload_n 0, 1) := dcX12_signOf_0.1
theorem dX12_signOf_1 : decode cX12_signOf 1 = .ok (.getfield 116, 3) := dcX12_signOf_0.2.1
theorem dX12_signOf_4 : decode cX12_signOf 4 = .ok (.iconst 4, 1) := dcX12_signOf_0.2.2.1
theorem dX12_signOf_5 : decode cX12_signOf 5 = .ok (.if_icmp .ne 8, 3) := dcX12_signOf_0.2.2.2.1
theorem dX12_signOf_8 : decode cX12_signOf 8 = .ok (.bipush 11, 2) := dcX12_signOf_0.2.2.2.2.1
theorem dX12_signOf_10 : decode cX12_signOf 10 = .ok (.goto 87, 3) := dcX12_signOf_0.2.2.2.2.2.1
theorem dX12_signOf_13 : decode cX12_signOf 13 = .ok (.aload_n 0, 1) := dcX12_signOf_0.2.2.2.2.2.2.1
theorem dX12_signOf_14 : decode cX12_signOf 14 = .ok (.getfield 116, 3) := dcX12_signOf_0.2.2.2.2.2.2.2
theorem dcX12_signOf_1 : (decode cX12_signOf 17 = .ok (.iconst 5, 1)) ∧ (decode cX12_signOf 18 = .ok (.if_icmp .ne 8, 3)) ∧ (decode cX12_signOf 21 = .ok (.bipush 12, 2)) ∧ (decode cX12_signOf 23 = .ok (.goto 74, 3)) ∧ (decode cX12_signOf 26 = .ok (.aload_n 0, 1)) ∧ (decode cX12_signOf 27 = .ok (.getfield 116, 3)) ∧ (decode cX12_signOf 30 = .ok (.bipush 60, 2)) ∧ (decode cX12_signOf 32 = .ok (.if_icmp .ne 8, 3)) := by decide +kernel
theorem dX12_signOf_17 : decode cX12_signOf 17 = .ok (.iconst 5, 1) := dcX12_signOf_1.1
theorem dX12_signOf_18 : decode cX12_signOf 18 = .ok (.if_icmp .ne 8, 3) := dcX12_signOf_1.2.1
theorem dX12_signOf_21 : decode cX12_signOf 21 = .ok (.bipush 12, 2) := dcX12_signOf_1.2.2.1
theorem dX12_signOf_23 : decode cX12_signOf 23 = .ok (.goto 74, 3) := dcX12_signOf_1.2.2.2.1
theorem dX12_signOf_26 : decode cX12_signOf 26 = .ok (.aload_n 0, 1) := dcX12_signOf_1.2.2.2.2.1
theorem dX12_signOf_27 : decode cX12_signOf 27 = .ok (.getfield 116, 3) := dcX12_signOf_1.2.2.2.2.2.1
theorem dX12_signOf_30 : decode cX12_signOf 30 = .ok (.bipush 60, 2) := dcX12_signOf_1.2.2.2.2.2.2.1
theorem dX12_signOf_32 : decode cX12_signOf 32 = .ok (.if_icmp .ne 8, 3) := dcX12_signOf_1.2.2.2.2.2.2.2
theorem dcX12_signOf_2 : (decode cX12_signOf 35 = .ok (.bipush 14, 2)) ∧ (decode cX12_signOf 37 = .ok (.goto 60, 3)) ∧ (decode cX12_signOf 40 = .ok (.aload_n 0, 1)) ∧ (decode cX12_signOf 41 = .ok (.getfield 116, 3)) ∧ (decode cX12_signOf 44 = .ok (.bipush 61, 2)) ∧ (decode cX12_signOf 46 = .ok (.if_icmp .ne 8, 3)) ∧ (decode cX12_signOf 49 = .ok (.bipush 15, 2)) ∧ (decode cX12_signOf 51 = .ok (.goto 46, 3)) := by decide +kernel
theorem dX12_signOf_35 : decode cX12_signOf 35 = .ok (.bipush 14, 2) := dcX12_signOf_2.1
theorem dX12_signOf_37 : decode cX12_signOf 37 = .ok (.goto 60, 3) := dcX12_signOf_2.2.1
theorem dX12_signOf_40 : decode cX12_signOf 40 = .ok (.aload_n 0, 1) := dcX12_signOf_2.2.2.1
theorem dX12_signOf_41 : decode cX12_signOf 41 = .ok (.getfield 116, 3) := dcX12_signOf_2.2.2.2.1
theorem dX12_signOf_44 : decode cX12_signOf 44 = .ok (.bipush 61, 2) := dcX12_signOf_2.2.2.2.2.1
theorem dX12_signOf_46 : decode cX12_signOf 46 = .ok (.if_icmp .ne 8, 3) := dcX12_signOf_2.2.2.2.2.2.1
theorem dX12_signOf_49 : decode cX12_signOf 49 = .ok (.bipush 15, 2) := dcX12_signOf_2.2.2.2.2.2.2.1
theorem dX12_signOf_51 : decode cX12_signOf 51 = .ok (.goto 46, 3) := dcX12_signOf_2.2.2.2.2.2.2.2
theorem dcX12_signOf_3 : (decode cX12_signOf 54 = .ok (.aload_n 0, 1)) ∧ (decode cX12_signOf 55 = .ok (.getfield 116, 3)) ∧ (decode cX12_signOf 58 = .ok (.bipush 43, 2)) ∧ (decode cX12_signOf 60 = .ok (.if_icmp .ne 8, 3)) ∧ (decode cX12_signOf 63 = .ok (.bipush 16, 2)) ∧ (decode cX12_signOf 65 = .ok (.goto 32, 3)) ∧ (decode cX12_signOf 68 = .ok (.aload_n 0, 1)) ∧ (decode cX12_signOf 69 = .ok (.getfield 116, 3)) := by decide +kernel
theorem dX12_signOf_54 : decode cX12_signOf 54 = .ok (.aload_n 0, 1) := dcX12_signOf_3.1
theorem dX12_signOf_55 : decode cX12_signOf 55 = .ok (.getfield 116, 3) := dcX12_signOf_3.2.1
theorem dX12_signOf_58 : decode cX12_signOf 58 = .ok (.bipush 43, 2) := dcX12_signOf_3.2.2.1
theorem dX12_signOf_60 : decode cX12_signOf 60 = .ok (.if_icmp .ne 8, 3) := dcX12_signOf_3.2.2.2.1
theorem dX12_signOf_63 : decode cX12_signOf 63 = .ok (.bipush 16, 2) := dcX12_signOf_3.2.2.2.2.1
theorem dX12_signOf_65 : decode cX12_signOf 65 = .ok (.goto 32, 3) := dcX12_signOf_3.2.2.2.2.2.1
theorem dX12_signOf_68 : decode cX12_signOf 68 = .ok (.aload_n 0, 1) := dcX12_signOf_3.2.2.2.2.2.2.1
theorem dX12_signOf_69 : decode cX12_signOf 69 = .ok (.getfield 116, 3) := dcX12_signOf_3.2.2.2.2.2.2.2
theorem dcX12_signOf_4 : (decode cX12_signOf 72 = .ok (.bipush 45, 2)) ∧ (decode cX12_signOf 74 = .ok (.if_icmp .ne 8, 3)) ∧ (decode cX12_signOf 77 = .ok (.bipush 17, 2)) ∧ (decode cX12_signOf 79 = .ok (.goto 18, 3)) ∧ (decode cX12_signOf 82 = .ok (.aload_n 0, 1)) ∧ (decode cX12_signOf 83 = .ok (.getfield 116, 3)) ∧ (decode cX12_signOf 86 = .ok (.bipush 42, 2)) ∧ (decode cX12_signOf 88 = .ok (.if_icmp .ne 8, 3)) := by decide +kernel
theorem dX12_signOf_72 : decode cX12_signOf 72 = .ok (.bipush 45, 2) := dcX12_signOf_4.1
theorem dX12_signOf_74 : decode cX12_signOf 74 = .ok (.if_icmp .ne 8, 3) := dcX12_signOf_4.2.1
theorem dX12_signOf_77 : decode cX12_signOf 77 = .ok (.bipush 17, 2) := dcX12_signOf_4.2.2.1
theorem dX12_signOf_79 : decode cX12_signOf 79 = .ok (.goto 18, 3) := dcX12_signOf_4.2.2.2.1
theorem dX12_signOf_82 : decode cX12_signOf 82 = .ok (.aload_n 0, 1) := dcX12_signOf_4.2.2.2.2.1
theorem dX12_signOf_83 : decode cX12_signOf 83 = .ok (.getfield 116, 3) := dcX12_signOf_4.2.2.2.2.2.1
theorem dX12_signOf_86 : decode cX12_signOf 86 = .ok (.bipush 42, 2) := dcX12_signOf_4.2.2.2.2.2.2.1
theorem dX12_signOf_88 : decode cX12_signOf 88 = .ok (.if_icmp .ne 8, 3) := dcX12_signOf_4.2.2.2.2.2.2.2
theorem dcX12_signOf_5 : (decode cX12_signOf 91 = .ok (.bipush 18, 2)) ∧ (decode cX12_signOf 93 = .ok (.goto 4, 3)) ∧ (decode cX12_signOf 96 = .ok (.iconst (-1), 1)) ∧ (decode cX12_signOf 97 = .ok (.ireturn, 1)) := by decide +kernel
theorem dX12_signOf_91 : decode cX12_signOf 91 = .ok (.bipush 18, 2) := dcX12_signOf_5.1
theorem dX12_signOf_93 : decode cX12_signOf 93 = .ok (.goto 4, 3) := dcX12_signOf_5.2.1
theorem dX12_signOf_96 : decode cX12_signOf 96 = .ok (.iconst (-1), 1) := dcX12_signOf_5.2.2.1
theorem dX12_signOf_97 : decode cX12_signOf 97 = .ok (.ireturn, 1) := dcX12_signOf_5.2.2.2
theorem dcX12_eRead_0 : (decode cX12_eRead 0 = .ok (.aload_n 0, 1)) ∧ (decode cX12_eRead 1 = .ok (.iconst 0, 1)) ∧ (decode cX12_eRead 2 = .ok (.putfield 129, 3)) ∧ (decode cX12_eRead 5 = .ok (.aload_n 0, 1)) ∧ (decode cX12_eRead 6 = .ok (.iconst 0, 1)) ∧ (decode cX12_eRead 7 = .ok (.putfield 136, 3)) ∧ (decode cX12_eRead 10 = .ok (.iconst 1, 1)) ∧ (decode cX12_eRead 11 = .ok (.istore_n 1, 1)) := by decide +kernel
theorem dX12_eRead_0 : decode cX12_eRead 0 = .ok (.aload_n 0, 1) := dcX12_eRead_0.1
theorem dX12_eRead_1 : decode cX12_eRead 1 = .ok (.iconst 0, 1) := dcX12_eRead_0.2.1
theorem dX12_eRead_2 : decode cX12_eRead 2 = .ok (.putfield 129, 3) := dcX12_eRead_0.2.2.1
theorem dX12_eRead_5 : decode cX12_eRead 5 = .ok (.aload_n 0, 1) := dcX12_eRead_0.2.2.2.1
theorem dX12_eRead_6 : decode cX12_eRead 6 = .ok (.iconst 0, 1) := dcX12_eRead_0.2.2.2.2.1
theorem dX12_eRead_7 : decode cX12_eRead 7 = .ok (.putfield 136, 3) := dcX12_eRead_0.2.2.2.2.2.1
theorem dX12_eRead_10 : decode cX12_eRead 10 = .ok (.iconst 1, 1) := dcX12_eRead_0.2.2.2.2.2.2.1
theorem dX12_eRead_11 : decode cX12_eRead 11 = .ok (.istore_n 1, 1) := dcX12_eRead_0.2.2.2.2.2.2.2
theorem dcX12_eRead_1 : (decode cX12_eRead 12 = .ok (.iconst 1, 1)) ∧ (decode cX12_eRead 13 = .ok (.istore_n 2, 1)) ∧ (decode cX12_eRead 14 = .ok (.aload_n 0, 1)) ∧ (decode cX12_eRead 15 = .ok (.invokevirtual 149, 3)) ∧ (decode cX12_eRead 18 = .ok (.iload_n 1, 1)) ∧ (decode cX12_eRead 19 = .ok (.ifCond .eq 131, 3)) ∧ (decode cX12_eRead 22 = .ok (.aload_n 0, 1)) ∧ (decode cX12_eRead 23 = .ok (.getfield 116, 3)) := by decide +kernel
theorem dX12_eRead_12 : decode cX12_eRead 12 = .ok (.iconst 1, 1) := dcX12_eRead_1.1
theorem dX12_eRead_13 : decode cX12_eRead 13 = .ok (.istore_n 2, 1) := dcX12_eRead_1.2.1
theorem dX12_eRead_14 : decode cX12_eRead 14 = .ok (.aload_n 0, 1) := dcX12_eRead_1.2.2.1
theorem dX12_eRead_15 : decode cX12_eRead 15 = .ok (.invokevirtual 149, 3) := dcX12_eRead_1.2.2.2.1
theorem dX12_eRead_18 : decode cX12_eRead 18 = .ok (.iload_n 1, 1) := dcX12_eRead_1.2.2.2.2.1
theorem dX12_eRead_19 : decode cX12_eRead 19 = .ok (.ifCond .eq 131, 3) := dcX12_eRead_1.2.2.2.2.2.1
theorem dX12_eRead_22 : decode cX12_eRead 22 = .ok (.aload_n 0, 1) := dcX12_eRead_1.2.2.2.2.2.2.1
theorem dX12_eRead_23 : decode cX12_eRead 23 = .ok (.getfield 116, 3) := dcX12_eRead_1.2.2.2.2.2.2.2
theorem dcX12_eRead_2 : (decode cX12_eRead 26 = .ok (.iconst 1, 1)) ∧ (decode cX12_eRead 27 = .ok (.if_icmp .eq 11, 3)) ∧ (decode cX12_eRead 30 = .ok (.aload_n 0, 1)) ∧ (decode cX12_eRead 31 = .ok (.getfield 116, 3)) ∧ (decode cX12_eRead 34 = .ok (.iconst 2, 1)) ∧ (decode cX12_eRead 35 = .ok (.if_icmp .ne 40, 3)) ∧ (decode cX12_eRead 38 = .ok (.aload_n 0, 1)) ∧ (decode cX12_eRead 39 = .ok (.aload_n 0, 1)) := by decide +kernel
theorem dX12_eRead_26 : decode cX12_eRead 26 = .ok (.iconst 1, 1) := dcX12_eRead_2.1
theorem dX12_eRead_27 : decode cX12_eRead 27 = .ok (.if_icmp .eq 11, 3) := dcX12_eRead_2.2.1
theorem dX12_eRead_30 : decode cX12_eRead 30 = .ok (.aload_n 0, 1) := dcX12_eRead_2.2.2.1
theorem dX12_eRead_31 : decode cX12_eRead 31 = .ok (.getfield 116, 3) := dcX12_eRead_2.2.2.2.1
theorem dX12_eRead_34 : decode cX12_eRead 34 = .ok (.iconst 2, 1) := dcX12_eRead_2.2.2.2.2.1
theorem dX12_eRead_35 : decode cX12_eRead 35 = .ok (.if_icmp .ne 40, 3) := dcX12_eRead_2.2.2.2.2.2.1
theorem dX12_eRead_38 : decode cX12_eRead 38 = .ok (.aload_n 0, 1) := dcX12_eRead_2.2.2.2.2.2.2.1
theorem dX12_eRead_39 : decode cX12_eRead 39 = .ok (.aload_n 0, 1) := dcX12_eRead_2.2.2.2.2.2.2.2
theorem dcX12_eRead_3 : (decode cX12_eRead 40 = .ok (.getfield 116, 3)) ∧ (decode cX12_eRead 43 = .ok (.iconst 1, 1)) ∧ (decode cX12_eRead 44 = .ok (.if_icmp .ne 13, 3)) ∧ (decode cX12_eRead 47 = .ok (.ldc 152, 2)) ∧ (decode cX12_eRead 49 = .ok (.aload_n 0, 1)) ∧ (decode cX12_eRead 50 = .ok (.getfield 119, 3)) ∧ (decode cX12_eRead 53 = .ok (.iadd, 1)) ∧ (decode cX12_eRead 54 = .ok (.goto 7, 3)) := by decide +kernel
theorem dX12_eRead_40 : decode cX12_eRead 40 = .ok (.getfield 116, 3) := dcX12_eRead_3.1
theorem dX12_eRead_43 : decode cX12_eRead 43 = .ok (.iconst 1, 1) := dcX12_eRead_3.2.1
theorem dX12_eRead_44 : decode cX12_eRead 44 = .ok (.if_icmp .ne 13, 3) := dcX12_eRead_3.2.2.1
theorem dX12_eRead_47 : decode cX12_eRead 47 = .ok (.ldc 152, 2) := dcX12_eRead_3.2.2.2.1
theorem dX12_eRead_49 : decode cX12_eRead 49 = .ok (.aload_n 0, 1) := dcX12_eRead_3.2.2.2.2.1
theorem dX12_eRead_50 : decode cX12_eRead 50 = .ok (.getfield 119, 3) := dcX12_eRead_3.2.2.2.2.2.1
theorem dX12_eRead_53 : decode cX12_eRead 53 = .ok (.iadd, 1) := dcX12_eRead_3.2.2.2.2.2.2.1
theorem dX12_eRead_54 : decode cX12_eRead 54 = .ok (.goto 7, 3) := dcX12_eRead_3.2.2.2.2.2.2.2
theorem dcX12_eRead_4 : (decode cX12_eRead 57 = .ok (.aload_n 0, 1)) ∧ (decode cX12_eRead 58 = .ok (.getfield 119, 3)) ∧ (decode cX12_eRead 61 = .ok (.invokevirtual 139, 3)) ∧ (decode cX12_eRead 64 = .ok (.aload_n 0, 1)) ∧ (decode cX12_eRead 65 = .ok (.bipush 7, 2)) ∧ (decode cX12_eRead 67 = .ok (.invokevirtual 146, 3)) ∧ (decode cX12_eRead 70 = .ok (.iconst 0, 1)) ∧ (decode cX12_eRead 71 = .ok (.istore_n 1, 1)) := by decide +kernel
theorem dX12_eRead_57 : decode cX12_eRead 57 = .ok (.aload_n 0, 1) := dcX12_eRead_4.1
theorem dX12_eRead_58 : decode cX12_eRead 58 = .ok (.getfield 119, 3) := dcX12_eRead_4.2.1
theorem dX12_eRead_61 : decode cX12_eRead 61 = .ok (.invokevirtual 139, 3) := dcX12_eRead_4.2.2.1
theorem dX12_eRead_64 : decode cX12_eRead 64 = .ok (.aload_n 0, 1) := dcX12_eRead_4.2.2.2.1
theorem dX12_eRead_65 : decode cX12_eRead 65 = .ok (.bipush 7, 2) := dcX12_eRead_4.2.2.2.2.1
theorem dX12_eRead_67 : decode cX12_eRead 67 = .ok (.invokevirtual 146, 3) := dcX12_eRead_4.2.2.2.2.2.1
theorem dX12_eRead_70 : decode cX12_eRead 70 = .ok (.iconst 0, 1) := dcX12_eRead_4.2.2.2.2.2.2.1
theorem dX12_eRead_71 : decode cX12_eRead 71 = .ok (.istore_n 1, 1) := dcX12_eRead_4.2.2.2.2.2.2.2
theorem dcX12_eRead_5 : (decode cX12_eRead 72 = .ok (.goto (-58), 3)) ∧ (decode cX12_eRead 75 = .ok (.aload_n 0, 1)) ∧ (decode cX12_eRead 76 = .ok (.getfield 116, 3)) ∧ (decode cX12_eRead 79 = .ok (.bipush 6, 2)) ∧ (decode cX12_eRead 81 = .ok (.if_icmp .ne 18, 3)) ∧ (decode cX12_eRead 84 = .ok (.iload_n 2, 1)) ∧ (decode cX12_eRead 85 = .ok (.ifCond .eq 14, 3)) ∧ (decode cX12_eRead 88 = .ok (.aload_n 0, 1)) := by decide +kernel
theorem dX12_eRead_72 : decode cX12_eRead 72 = .ok (.goto (-58), 3) := dcX12_eRead_5.1
theorem dX12_eRead_75 : decode cX12_eRead 75 = .ok (.aload_n 0, 1) := dcX12_eRead_5.2.1
theorem dX12_eRead_76 : decode cX12_eRead 76 = .ok (.getfield 116, 3) := dcX12_eRead_5.2.2.1
theorem dX12_eRead_79 : decode cX12_eRead 79 = .ok (.bipush 6, 2) := dcX12_eRead_5.2.2.2.1
theorem dX12_eRead_81 : decode cX12_eRead 81 = .ok (.if_icmp .ne 18, 3) := dcX12_eRead_5.2.2.2.2.1
theorem dX12_eRead_84 : decode cX12_eRead 84 = .ok (.iload_n 2, 1) := dcX12_eRead_5.2.2.2.2.2.1
theorem dX12_eRead_85 : decode cX12_eRead 85 = .ok (.ifCond .eq 14, 3) := dcX12_eRead_5.2.2.2.2.2.2.1
theorem dX12_eRead_88 : decode cX12_eRead 88 = .ok (.aload_n 0, 1) := dcX12_eRead_5.2.2.2.2.2.2.2
theorem dcX12_eRead_6 : (decode cX12_eRead 89 = .ok (.bipush 13, 2)) ∧ (decode cX12_eRead 91 = .ok (.invokevirtual 153, 3)) ∧ (decode cX12_eRead 94 = .ok (.ifCond .ne (-80), 3)) ∧ (decode cX12_eRead 97 = .ok (.iconst 0, 1)) ∧ (decode cX12_eRead 98 = .ok (.ireturn, 1)) ∧ (decode cX12_eRead 99 = .ok (.aload_n 0, 1)) ∧ (decode cX12_eRead 100 = .ok (.getfield 116, 3)) ∧ (decode cX12_eRead 103 = .ok (.bipush 45, 2)) := by decide +kernel
theorem dX12_eRead_89 : decode cX12_eRead 89 = .ok (.bipush 13, 2) := dcX12_eRead_6.1
theorem dX12_eRead_91 : decode cX12_eRead 91 = .ok (.invokevirtual 153, 3) := dcX12_eRead_6.2.1
theorem dX12_eRead_94 : decode cX12_eRead 94 = .ok (.ifCond .ne (-80), 3) := dcX12_eRead_6.2.2.1
theorem dX12_eRead_97 : decode cX12_eRead 97 = .ok (.iconst 0, 1) := dcX12_eRead_6.2.2.2.1
theorem dX12_eRead_98 : decode cX12_eRead 98 = .ok (.ireturn, 1) := dcX12_eRead_6.2.2.2.2.1
theorem dX12_eRead_99 : decode cX12_eRead 99 = .ok (.aload_n 0, 1) := dcX12_eRead_6.2.2.2.2.2.1
theorem dX12_eRead_100 : decode cX12_eRead 100 = .ok (.getfield 116, 3) := dcX12_eRead_6.2.2.2.2.2.2.1
theorem dX12_eRead_103 : decode cX12_eRead 103 = .ok (.bipush 45, 2) := dcX12_eRead_6.2.2.2.2.2.2.2
theorem dcX12_eRead_7 : (decode cX12_eRead 105 = .ok (.if_icmp .ne 19, 3)) ∧ (decode cX12_eRead 108 = .ok (.aload_n 0, 1)) ∧ (decode cX12_eRead 109 = .ok (.bipush 19, 2)) ∧ (decode cX12_eRead 111 = .ok (.invokevirtual 153, 3)) ∧ (decode cX12_eRead 114 = .ok (.ifCond .ne 5, 3)) ∧ (decode cX12_eRead 117 = .ok (.iconst 0, 1)) ∧ (decode cX12_eRead 118 = .ok (.ireturn, 1)) ∧ (decode cX12_eRead 119 = .ok (.iconst 0, 1)) := by decide +kernel
theorem dX12_eRead_105 : decode cX12_eRead 105 = .ok (.if_icmp .ne 19, 3) := dcX12_eRead_7.1
theorem dX12_eRead_108 : decode cX12_eRead 108 = .ok (.aload_n 0, 1) := dcX12_eRead_7.2.1
theorem dX12_eRead_109 : decode cX12_eRead 109 = .ok (.bipush 19, 2) := dcX12_eRead_7.2.2.1
theorem dX12_eRead_111 : decode cX12_eRead 111 = .ok (.invokevirtual 153, 3) := dcX12_eRead_7.2.2.2.1
theorem dX12_eRead_114 : decode cX12_eRead 114 = .ok (.ifCond .ne 5, 3) := dcX12_eRead_7.2.2.2.2.1
theorem dX12_eRead_117 : decode cX12_eRead 117 = .ok (.iconst 0, 1) := dcX12_eRead_7.2.2.2.2.2.1
theorem dX12_eRead_118 : decode cX12_eRead 118 = .ok (.ireturn, 1) := dcX12_eRead_7.2.2.2.2.2.2.1
theorem dX12_eRead_119 : decode cX12_eRead 119 = .ok (.iconst 0, 1) := dcX12_eRead_7.2.2.2.2.2.2.2
theorem dcX12_eRead_8 : (decode cX12_eRead 120 = .ok (.istore_n 2, 1)) ∧ (decode cX12_eRead 121 = .ok (.goto (-107), 3)) ∧ (decode cX12_eRead 124 = .ok (.aload_n 0, 1)) ∧ (decode cX12_eRead 125 = .ok (.getfield 116, 3)) ∧ (decode cX12_eRead 128 = .ok (.bipush 40, 2)) ∧ (decode cX12_eRead 130 = .ok (.if_icmp .ne 18, 3)) ∧ (decode cX12_eRead 133 = .ok (.aload_n 0, 1)) ∧ (decode cX12_eRead 134 = .ok (.iconst 0, 1)) := by decide +kernel
theorem dX12_eRead_120 : decode cX12_eRead 120 = .ok (.istore_n 2, 1) := dcX12_eRead_8.1
theorem dX12_eRead_121 : decode cX12_eRead 121 = .ok (.goto (-107), 3) := dcX12_eRead_8.2.1
theorem dX12_eRead_124 : decode cX12_eRead 124 = .ok (.aload_n 0, 1) := dcX12_eRead_8.2.2.1
theorem dX12_eRead_125 : decode cX12_eRead 125 = .ok (.getfield 116, 3) := dcX12_eRead_8.2.2.2.1
theorem dX12_eRead_128 : decode cX12_eRead 128 = .ok (.bipush 40, 2) := dcX12_eRead_8.2.2.2.2.1
theorem dX12_eRead_130 : decode cX12_eRead 130 = .ok (.if_icmp .ne 18, 3) := dcX12_eRead_8.2.2.2.2.2.1
theorem dX12_eRead_133 : decode cX12_eRead 133 = .ok (.aload_n 0, 1) := dcX12_eRead_8.2.2.2.2.2.2.1
theorem dX12_eRead_134 : decode cX12_eRead 134 = .ok (.iconst 0, 1) := dcX12_eRead_8.2.2.2.2.2.2.2
theorem dcX12_eRead_9 : (decode cX12_eRead 135 = .ok (.invokevirtual 153, 3)) ∧ (decode cX12_eRead 138 = .ok (.ifCond .ne 5, 3)) ∧ (decode cX12_eRead 141 = .ok (.iconst 0, 1)) ∧ (decode cX12_eRead 142 = .ok (.ireturn, 1)) ∧ (decode cX12_eRead 143 = .ok (.iconst 1, 1)) ∧ (decode cX12_eRead 144 = .ok (.istore_n 2, 1)) ∧ (decode cX12_eRead 145 = .ok (.goto (-131), 3)) ∧ (decode cX12_eRead 148 = .ok (.iconst 0, 1)) := by decide +kernel
theorem dX12_eRead_135 : decode cX12_eRead 135 = .ok (.invokevirtual 153, 3) := dcX12_eRead_9.1
theorem dX12_eRead_138 : decode cX12_eRead 138 = .ok (.ifCond .ne 5, 3) := dcX12_eRead_9.2.1
theorem dX12_eRead_141 : decode cX12_eRead 141 = .ok (.iconst 0, 1) := dcX12_eRead_9.2.2.1
theorem dX12_eRead_142 : decode cX12_eRead 142 = .ok (.ireturn, 1) := dcX12_eRead_9.2.2.2.1
theorem dX12_eRead_143 : decode cX12_eRead 143 = .ok (.iconst 1, 1) := dcX12_eRead_9.2.2.2.2.1
theorem dX12_eRead_144 : decode cX12_eRead 144 = .ok (.istore_n 2, 1) := dcX12_eRead_9.2.2.2.2.2.1
theorem dX12_eRead_145 : decode cX12_eRead 145 = .ok (.goto (-131), 3) := dcX12_eRead_9.2.2.2.2.2.2.1
theorem dX12_eRead_148 : decode cX12_eRead 148 = .ok (.iconst 0, 1) := dcX12_eRead_9.2.2.2.2.2.2.2
theorem dcX12_eRead_10 : (decode cX12_eRead 149 = .ok (.ireturn, 1)) ∧ (decode cX12_eRead 150 = .ok (.aload_n 0, 1)) ∧ (decode cX12_eRead 151 = .ok (.getfield 116, 3)) ∧ (decode cX12_eRead 154 = .ok (.bipush 59, 2)) ∧ (decode cX12_eRead 156 = .ok (.if_icmp .ne 21, 3)) ∧ (decode cX12_eRead 159 = .ok (.aload_n 0, 1)) ∧ (decode cX12_eRead 160 = .ok (.iconst 1, 1)) ∧ (decode cX12_eRead 161 = .ok (.invokevirtual 146, 3)) := by decide +kernel
theorem dX12_eRead_149 : decode cX12_eRead 149 = .ok (.ireturn, 1) := dcX12_eRead_10.1
theorem dX12_eRead_150 : decode cX12_eRead 150 = .ok (.aload_n 0, 1) := dcX12_eRead_10.2.1
theorem dX12_eRead_151 : decode cX12_eRead 151 = .ok (.getfield 116, 3) := dcX12_eRead_10.2.2.1
theorem dX12_eRead_154 : decode cX12_eRead 154 = .ok (.bipush 59, 2) := dcX12_eRead_10.2.2.2.1
theorem dX12_eRead_156 : decode cX12_eRead 156 = .ok (.if_icmp .ne 21, 3) := dcX12_eRead_10.2.2.2.2.1
theorem dX12_eRead_159 : decode cX12_eRead 159 = .ok (.aload_n 0, 1) := dcX12_eRead_10.2.2.2.2.2.1
theorem dX12_eRead_160 : decode cX12_eRead 160 = .ok (.iconst 1, 1) := dcX12_eRead_10.2.2.2.2.2.2.1
theorem dX12_eRead_161 : decode cX12_eRead 161 = .ok (.invokevirtual 146, 3) := dcX12_eRead_10.2.2.2.2.2.2.2
theorem dcX12_eRead_11 : (decode cX12_eRead 164 = .ok (.aload_n 0, 1)) ∧ (decode cX12_eRead 165 = .ok (.getfield 129, 3)) ∧ (decode cX12_eRead 168 = .ok (.ifCond .ne 7, 3)) ∧ (decode cX12_eRead 171 = .ok (.iconst 1, 1)) ∧ (decode cX12_eRead 172 = .ok (.goto 4, 3)) ∧ (decode cX12_eRead 175 = .ok (.iconst 0, 1)) ∧ (decode cX12_eRead 176 = .ok (.ireturn, 1)) ∧ (decode cX12_eRead 177 = .ok (.aload_n 0, 1)) := by decide +kernel
theorem dX12_eRead_164 : decode cX12_eRead 164 = .ok (.aload_n 0, 1) := dcX12_eRead_11.1
theorem dX12_eRead_165 : decode cX12_eRead 165 = .ok (.getfield 129, 3) := dcX12_eRead_11.2.1
theorem dX12_eRead_168 : decode cX12_eRead 168 = .ok (.ifCond .ne 7, 3) := dcX12_eRead_11.2.2.1
theorem dX12_eRead_171 : decode cX12_eRead 171 = .ok (.iconst 1, 1) := dcX12_eRead_11.2.2.2.1
theorem dX12_eRead_172 : decode cX12_eRead 172 = .ok (.goto 4, 3) := dcX12_eRead_11.2.2.2.2.1
theorem dX12_eRead_175 : decode cX12_eRead 175 = .ok (.iconst 0, 1) := dcX12_eRead_11.2.2.2.2.2.1
theorem dX12_eRead_176 : decode cX12_eRead 176 = .ok (.ireturn, 1) := dcX12_eRead_11.2.2.2.2.2.2.1
theorem dX12_eRead_177 : decode cX12_eRead 177 = .ok (.aload_n 0, 1) := dcX12_eRead_11.2.2.2.2.2.2.2
theorem dcX12_eRead_12 : (decode cX12_eRead 178 = .ok (.getfield 116, 3)) ∧ (decode cX12_eRead 181 = .ok (.bipush 41, 2)) ∧ (decode cX12_eRead 183 = .ok (.if_icmp .ne 46, 3)) ∧ (decode cX12_eRead 186 = .ok (.aload_n 0, 1)) ∧ (decode cX12_eRead 187 = .ok (.iconst 1, 1)) ∧ (decode cX12_eRead 188 = .ok (.invokevirtual 146, 3)) ∧ (decode cX12_eRead 191 = .ok (.aload_n 0, 1)) ∧ (decode cX12_eRead 192 = .ok (.getfield 129, 3)) := by decide +kernel
theorem dX12_eRead_178 : decode cX12_eRead 178 = .ok (.getfield 116, 3) := dcX12_eRead_12.1
theorem dX12_eRead_181 : decode cX12_eRead 181 = .ok (.bipush 41, 2) := dcX12_eRead_12.2.1
theorem dX12_eRead_183 : decode cX12_eRead 183 = .ok (.if_icmp .ne 46, 3) := dcX12_eRead_12.2.2.1
theorem dX12_eRead_186 : decode cX12_eRead 186 = .ok (.aload_n 0, 1) := dcX12_eRead_12.2.2.2.1
theorem dX12_eRead_187 : decode cX12_eRead 187 = .ok (.iconst 1, 1) := dcX12_eRead_12.2.2.2.2.1
theorem dX12_eRead_188 : decode cX12_eRead 188 = .ok (.invokevirtual 146, 3) := dcX12_eRead_12.2.2.2.2.2.1
theorem dX12_eRead_191 : decode cX12_eRead 191 = .ok (.aload_n 0, 1) := dcX12_eRead_12.2.2.2.2.2.2.1
theorem dX12_eRead_192 : decode cX12_eRead 192 = .ok (.getfield 129, 3) := dcX12_eRead_12.2.2.2.2.2.2.2
theorem dcX12_eRead_13 : (decode cX12_eRead 195 = .ok (.ifCond .ne 5, 3)) ∧ (decode cX12_eRead 198 = .ok (.iconst 0, 1)) ∧ (decode cX12_eRead 199 = .ok (.ireturn, 1)) ∧ (decode cX12_eRead 200 = .ok (.aload_n 0, 1)) ∧ (decode cX12_eRead 201 = .ok (.dup, 1)) ∧ (decode cX12_eRead 202 = .ok (.getfield 129, 3)) ∧ (decode cX12_eRead 205 = .ok (.iconst 1, 1)) ∧ (decode cX12_eRead 206 = .ok (.isub, 1)) := by decide +kernel
theorem dX12_eRead_195 : decode cX12_eRead 195 = .ok (.ifCond .ne 5, 3) := dcX12_eRead_13.1
theorem dX12_eRead_198 : decode cX12_eRead 198 = .ok (.iconst 0, 1) := dcX12_eRead_13.2.1
theorem dX12_eRead_199 : decode cX12_eRead 199 = .ok (.ireturn, 1) := dcX12_eRead_13.2.2.1
theorem dX12_eRead_200 : decode cX12_eRead 200 = .ok (.aload_n 0, 1) := dcX12_eRead_13.2.2.2.1
theorem dX12_eRead_201 : decode cX12_eRead 201 = .ok (.dup, 1) := dcX12_eRead_13.2.2.2.2.1
theorem dX12_eRead_202 : decode cX12_eRead 202 = .ok (.getfield 129, 3) := dcX12_eRead_13.2.2.2.2.2.1
theorem dX12_eRead_205 : decode cX12_eRead 205 = .ok (.iconst 1, 1) := dcX12_eRead_13.2.2.2.2.2.2.1
theorem dX12_eRead_206 : decode cX12_eRead 206 = .ok (.isub, 1) := dcX12_eRead_13.2.2.2.2.2.2.2
theorem dcX12_eRead_14 : (decode cX12_eRead 207 = .ok (.putfield 129, 3)) ∧ (decode cX12_eRead 210 = .ok (.aload_n 0, 1)) ∧ (decode cX12_eRead 211 = .ok (.dup, 1)) ∧ (decode cX12_eRead 212 = .ok (.getfield 136, 3)) ∧ (decode cX12_eRead 215 = .ok (.iconst 1, 1)) ∧ (decode cX12_eRead 216 = .ok (.isub, 1)) ∧ (decode cX12_eRead 217 = .ok (.putfield 136, 3)) ∧ (decode cX12_eRead 220 = .ok (.aload_n 0, 1)) := by decide +kernel
theorem dX12_eRead_207 : decode cX12_eRead 207 = .ok (.putfield 129, 3) := dcX12_eRead_14.1
theorem dX12_eRead_210 : decode cX12_eRead 210 = .ok (.aload_n 0, 1) := dcX12_eRead_14.2.1
theorem dX12_eRead_211 : decode cX12_eRead 211 = .ok (.dup, 1) := dcX12_eRead_14.2.2.1
theorem dX12_eRead_212 : decode cX12_eRead 212 = .ok (.getfield 136, 3) := dcX12_eRead_14.2.2.2.1
theorem dX12_eRead_215 : decode cX12_eRead 215 = .ok (.iconst 1, 1) := dcX12_eRead_14.2.2.2.2.1
theorem dX12_eRead_216 : decode cX12_eRead 216 = .ok (.isub, 1) := dcX12_eRead_14.2.2.2.2.2.1
theorem dX12_eRead_217 : decode cX12_eRead 217 = .ok (.putfield 136, 3) := dcX12_eRead_14.2.2.2.2.2.2.1
theorem dX12_eRead_220 : decode cX12_eRead 220 = .ok (.aload_n 0, 1) := dcX12_eRead_14.2.2.2.2.2.2.2
theorem dcX12_eRead_15 : (decode cX12_eRead 221 = .ok (.bipush 7, 2)) ∧ (decode cX12_eRead 223 = .ok (.invokevirtual 146, 3)) ∧ (decode cX12_eRead 226 = .ok (.goto (-212), 3)) ∧ (decode cX12_eRead 229 = .ok (.aload_n 0, 1)) ∧ (decode cX12_eRead 230 = .ok (.invokevirtual 156, 3)) ∧ (decode cX12_eRead 233 = .ok (.istore_n 3, 1)) ∧ (decode cX12_eRead 234 = .ok (.iload_n 3, 1)) ∧ (decode cX12_eRead 235 = .ok (.iconst (-1), 1)) := by decide +kernel
theorem dX12_eRead_221 : decode cX12_eRead 221 = .ok (.bipush 7, 2) := dcX12_eRead_15.1
theorem dX12_eRead_223 : decode cX12_eRead 223 = .ok (.invokevirtual 146, 3) := dcX12_eRead_15.2.1
theorem dX12_eRead_226 : decode cX12_eRead 226 = .ok (.goto (-212), 3) := dcX12_eRead_15.2.2.1
theorem dX12_eRead_229 : decode cX12_eRead 229 = .ok (.aload_n 0, 1) := dcX12_eRead_15.2.2.2.1
theorem dX12_eRead_230 : decode cX12_eRead 230 = .ok (.invokevirtual 156, 3) := dcX12_eRead_15.2.2.2.2.1
theorem dX12_eRead_233 : decode cX12_eRead 233 = .ok (.istore_n 3, 1) := dcX12_eRead_15.2.2.2.2.2.1
theorem dX12_eRead_234 : decode cX12_eRead 234 = .ok (.iload_n 3, 1) := dcX12_eRead_15.2.2.2.2.2.2.1
theorem dX12_eRead_235 : decode cX12_eRead 235 = .ok (.iconst (-1), 1) := dcX12_eRead_15.2.2.2.2.2.2.2
theorem dcX12_eRead_16 : (decode cX12_eRead 236 = .ok (.if_icmp .eq 11, 3)) ∧ (decode cX12_eRead 239 = .ok (.aload_n 0, 1)) ∧ (decode cX12_eRead 240 = .ok (.iload_n 3, 1)) ∧ (decode cX12_eRead 241 = .ok (.invokevirtual 159, 3)) ∧ (decode cX12_eRead 244 = .ok (.ifCond .ne 5, 3)) ∧ (decode cX12_eRead 247 = .ok (.iconst 0, 1)) ∧ (decode cX12_eRead 248 = .ok (.ireturn, 1)) ∧ (decode cX12_eRead 249 = .ok (.iconst 1, 1)) := by decide +kernel
theorem dX12_eRead_236 : decode cX12_eRead 236 = .ok (.if_icmp .eq 11, 3) := dcX12_eRead_16.1
theorem dX12_eRead_239 : decode cX12_eRead 239 = .ok (.aload_n 0, 1) := dcX12_eRead_16.2.1
theorem dX12_eRead_240 : decode cX12_eRead 240 = .ok (.iload_n 3, 1) := dcX12_eRead_16.2.2.1
theorem dX12_eRead_241 : decode cX12_eRead 241 = .ok (.invokevirtual 159, 3) := dcX12_eRead_16.2.2.2.1
theorem dX12_eRead_244 : decode cX12_eRead 244 = .ok (.ifCond .ne 5, 3) := dcX12_eRead_16.2.2.2.2.1
theorem dX12_eRead_247 : decode cX12_eRead 247 = .ok (.iconst 0, 1) := dcX12_eRead_16.2.2.2.2.2.1
theorem dX12_eRead_248 : decode cX12_eRead 248 = .ok (.ireturn, 1) := dcX12_eRead_16.2.2.2.2.2.2.1
theorem dX12_eRead_249 : decode cX12_eRead 249 = .ok (.iconst 1, 1) := dcX12_eRead_16.2.2.2.2.2.2.2
theorem dcX12_eRead_17 : (decode cX12_eRead 250 = .ok (.istore_n 1, 1)) ∧ (decode cX12_eRead 251 = .ok (.iload_n 3, 1)) ∧ (decode cX12_eRead 252 = .ok (.bipush 12, 2)) ∧ (decode cX12_eRead 254 = .ok (.if_icmp .gt 7, 3)) ∧ (decode cX12_eRead 257 = .ok (.iconst 1, 1)) ∧ (decode cX12_eRead 258 = .ok (.goto 4, 3)) ∧ (decode cX12_eRead 261 = .ok (.iconst 0, 1)) ∧ (decode cX12_eRead 262 = .ok (.istore_n 2, 1)) := by decide +kernel
theorem dX12_eRead_250 : decode cX12_eRead 250 = .ok (.istore_n 1, 1) := dcX12_eRead_17.1
theorem dX12_eRead_251 : decode cX12_eRead 251 = .ok (.iload_n 3, 1) := dcX12_eRead_17.2.1
theorem dX12_eRead_252 : decode cX12_eRead 252 = .ok (.bipush 12, 2) := dcX12_eRead_17.2.2.1
theorem dX12_eRead_254 : decode cX12_eRead 254 = .ok (.if_icmp .gt 7, 3) := dcX12_eRead_17.2.2.2.1
theorem dX12_eRead_257 : decode cX12_eRead 257 = .ok (.iconst 1, 1) := dcX12_eRead_17.2.2.2.2.1
theorem dX12_eRead_258 : decode cX12_eRead 258 = .ok (.goto 4, 3) := dcX12_eRead_17.2.2.2.2.2.1
theorem dX12_eRead_261 : decode cX12_eRead 261 = .ok (.iconst 0, 1) := dcX12_eRead_17.2.2.2.2.2.2.1
theorem dX12_eRead_262 : decode cX12_eRead 262 = .ok (.istore_n 2, 1) := dcX12_eRead_17.2.2.2.2.2.2.2
theorem dX12_eRead_263 : decode cX12_eRead 263 = .ok (.goto (-249), 3) := by decide +kernel
theorem dcX12_text_0 : (decode cX12_text 0 = .ok (.aload_n 0, 1)) ∧ (decode cX12_text 1 = .ok (.getfield 100, 3)) ∧ (decode cX12_text 4 = .ok (.bipush 6, 2)) ∧ (decode cX12_text 6 = .ok (.if_icmp .ne 6, 3)) ∧ (decode cX12_text 9 = .ok (.bipush (-4), 2)) ∧ (decode cX12_text 11 = .ok (.ireturn, 1)) ∧ (decode cX12_text 12 = .ok (.aload_n 0, 1)) ∧ (decode cX12_text 13 = .ok (.iconst 0, 1)) := by decide +kernel
theorem dX12_text_0 : decode cX12_text 0 = .ok (.aload_n 0, 1) := dcX12_text_0.1
theorem dX12_text_1 : decode cX12_text 1 = .ok (.getfield 100, 3) := dcX12_text_0.2.1
theorem dX12_text_4 : decode cX12_text 4 = .ok (.bipush 6, 2) := dcX12_text_0.2.2.1
theorem dX12_text_6 : decode cX12_text 6 = .ok (.if_icmp .ne 6, 3) := dcX12_text_0.2.2.2.1
theorem dX12_text_9 : decode cX12_text 9 = .ok (.bipush (-4), 2) := dcX12_text_0.2.2.2.2.1
theorem dX12_text_11 : decode cX12_text 11 = .ok (.ireturn, 1) := dcX12_text_0.2.2.2.2.2.1
theorem dX12_text_12 : decode cX12_text 12 = .ok (.aload_n 0, 1) := dcX12_text_0.2.2.2.2.2.2.1
theorem dX12_text_13 : decode cX12_text 13 = .ok (.iconst 0, 1) := dcX12_text_0.2.2.2.2.2.2.2
theorem dcX12_text_1 : (decode cX12_text 14 = .ok (.putfield 110, 3)) ∧ (decode cX12_text 17 = .ok (.aload_n 0, 1)) ∧ (decode cX12_text 18 = .ok (.iconst 0, 1)) ∧ (decode cX12_text 19 = .ok (.putfield 126, 3)) ∧ (decode cX12_text 22 = .ok (.iconst 1, 1)) ∧ (decode cX12_text 23 = .ok (.istore_n 1, 1)) ∧ (decode cX12_text 24 = .ok (.iconst 0, 1)) ∧ (decode cX12_text 25 = .ok (.istore_n 2, 1)) := by decide +kernel
theorem dX12_text_14 : decode cX12_text 14 = .ok (.putfield 110, 3) := dcX12_text_1.1
theorem dX12_text_17 : decode cX12_text 17 = .ok (.aload_n 0, 1) := dcX12_text_1.2.1
theorem dX12_text_18 : decode cX12_text 18 = .ok (.iconst 0, 1) := dcX12_text_1.2.2.1
theorem dX12_text_19 : decode cX12_text 19 = .ok (.putfield 126, 3) := dcX12_text_1.2.2.2.1
theorem dX12_text_22 : decode cX12_text 22 = .ok (.iconst 1, 1) := dcX12_text_1.2.2.2.2.1
theorem dX12_text_23 : decode cX12_text 23 = .ok (.istore_n 1, 1) := dcX12_text_1.2.2.2.2.2.1
theorem dX12_text_24 : decode cX12_text 24 = .ok (.iconst 0, 1) := dcX12_text_1.2.2.2.2.2.2.1
theorem dX12_text_25 : decode cX12_text 25 = .ok (.istore_n 2, 1) := dcX12_text_1.2.2.2.2.2.2.2
theorem dcX12_text_2 : (decode cX12_text 26 = .ok (.iload_n 2, 1)) ∧ (decode cX12_text 27 = .ok (.iconst 3, 1)) ∧ (decode cX12_text 28 = .ok (.if_icmp .ge 73, 3)) ∧ (decode cX12_text 31 = .ok (.iload_n 1, 1)) ∧ (decode cX12_text 32 = .ok (.ifCond .eq 69, 3)) ∧ (decode cX12_text 35 = .ok (.aload_n 0, 1)) ∧ (decode cX12_text 36 = .ok (.invokevirtual 149, 3)) ∧ (decode cX12_text 39 = .ok (.aload_n 0, 1)) := by decide +kernel
theorem dX12_text_26 : decode cX12_text 26 = .ok (.iload_n 2, 1) := dcX12_text_2.1
theorem dX12_text_27 : decode cX12_text 27 = .ok (.iconst 3, 1) := dcX12_text_2.2.1
theorem dX12_text_28 : decode cX12_text 28 = .ok (.if_icmp .ge 73, 3) := dcX12_text_2.2.2.1
theorem dX12_text_31 : decode cX12_text 31 = .ok (.iload_n 1, 1) := dcX12_text_2.2.2.2.1
theorem dX12_text_32 : decode cX12_text 32 = .ok (.ifCond .eq 69, 3) := dcX12_text_2.2.2.2.2.1
theorem dX12_text_35 : decode cX12_text 35 = .ok (.aload_n 0, 1) := dcX12_text_2.2.2.2.2.2.1
theorem dX12_text_36 : decode cX12_text 36 = .ok (.invokevirtual 149, 3) := dcX12_text_2.2.2.2.2.2.2.1
theorem dX12_text_39 : decode cX12_text 39 = .ok (.aload_n 0, 1) := dcX12_text_2.2.2.2.2.2.2.2
theorem dcX12_text_3 : (decode cX12_text 40 = .ok (.getfield 116, 3)) ∧ (decode cX12_text 43 = .ok (.iconst 3, 1)) ∧ (decode cX12_text 44 = .ok (.if_icmp .ne 15, 3)) ∧ (decode cX12_text 47 = .ok (.aload_n 0, 1)) ∧ (decode cX12_text 48 = .ok (.getfield 119, 3)) ∧ (decode cX12_text 51 = .ok (.iload_n 2, 1)) ∧ (decode cX12_text 52 = .ok (.if_icmp .ne 7, 3)) ∧ (decode cX12_text 55 = .ok (.iconst 1, 1)) := by decide +kernel
theorem dX12_text_40 : decode cX12_text 40 = .ok (.getfield 116, 3) := dcX12_text_3.1
theorem dX12_text_43 : decode cX12_text 43 = .ok (.iconst 3, 1) := dcX12_text_3.2.1
theorem dX12_text_44 : decode cX12_text 44 = .ok (.if_icmp .ne 15, 3) := dcX12_text_3.2.2.1
theorem dX12_text_47 : decode cX12_text 47 = .ok (.aload_n 0, 1) := dcX12_text_3.2.2.2.1
theorem dX12_text_48 : decode cX12_text 48 = .ok (.getfield 119, 3) := dcX12_text_3.2.2.2.2.1
theorem dX12_text_51 : decode cX12_text 51 = .ok (.iload_n 2, 1) := dcX12_text_3.2.2.2.2.2.1
theorem dX12_text_52 : decode cX12_text 52 = .ok (.if_icmp .ne 7, 3) := dcX12_text_3.2.2.2.2.2.2.1
theorem dX12_text_55 : decode cX12_text 55 = .ok (.iconst 1, 1) := dcX12_text_3.2.2.2.2.2.2.2
theorem dcX12_text_4 : (decode cX12_text 56 = .ok (.goto 4, 3)) ∧ (decode cX12_text 59 = .ok (.iconst 0, 1)) ∧ (decode cX12_text 60 = .ok (.istore_n 1, 1)) ∧ (decode cX12_text 61 = .ok (.aload_n 0, 1)) ∧ (decode cX12_text 62 = .ok (.getfield 32, 3)) ∧ (decode cX12_text 65 = .ok (.iconst 4, 1)) ∧ (decode cX12_text 66 = .ok (.aload_n 0, 1)) ∧ (decode cX12_text 67 = .ok (.getfield 100, 3)) := by decide +kernel
theorem dX12_text_56 : decode cX12_text 56 = .ok (.goto 4, 3) := dcX12_text_4.1
theorem dX12_text_59 : decode cX12_text 59 = .ok (.iconst 0, 1) := dcX12_text_4.2.1
theorem dX12_text_60 : decode cX12_text 60 = .ok (.istore_n 1, 1) := dcX12_text_4.2.2.1
theorem dX12_text_61 : decode cX12_text 61 = .ok (.aload_n 0, 1) := dcX12_text_4.2.2.2.1
theorem dX12_text_62 : decode cX12_text 62 = .ok (.getfield 32, 3) := dcX12_text_4.2.2.2.2.1
theorem dX12_text_65 : decode cX12_text 65 = .ok (.iconst 4, 1) := dcX12_text_4.2.2.2.2.2.1
theorem dX12_text_66 : decode cX12_text 66 = .ok (.aload_n 0, 1) := dcX12_text_4.2.2.2.2.2.2.1
theorem dX12_text_67 : decode cX12_text 67 = .ok (.getfield 100, 3) := dcX12_text_4.2.2.2.2.2.2.2
theorem dcX12_text_5 : (decode cX12_text 70 = .ok (.imul, 1)) ∧ (decode cX12_text 71 = .ok (.iload_n 2, 1)) ∧ (decode cX12_text 72 = .ok (.iadd, 1)) ∧ (decode cX12_text 73 = .ok (.aload_n 0, 1)) ∧ (decode cX12_text 74 = .ok (.getfield 126, 3)) ∧ (decode cX12_text 77 = .ok (.iastore, 1)) ∧ (decode cX12_text 78 = .ok (.iload_n 1, 1)) ∧ (decode cX12_text 79 = .ok (.ifCond .eq 14, 3)) := by decide +kernel
theorem dX12_text_70 : decode cX12_text 70 = .ok (.imul, 1) := dcX12_text_5.1
theorem dX12_text_71 : decode cX12_text 71 = .ok (.iload_n 2, 1) := dcX12_text_5.2.1
theorem dX12_text_72 : decode cX12_text 72 = .ok (.iadd, 1) := dcX12_text_5.2.2.1
theorem dX12_text_73 : decode cX12_text 73 = .ok (.aload_n 0, 1) := dcX12_text_5.2.2.2.1
theorem dX12_text_74 : decode cX12_text 74 = .ok (.getfield 126, 3) := dcX12_text_5.2.2.2.2.1
theorem dX12_text_77 : decode cX12_text 77 = .ok (.iastore, 1) := dcX12_text_5.2.2.2.2.2.1
theorem dX12_text_78 : decode cX12_text 78 = .ok (.iload_n 1, 1) := dcX12_text_5.2.2.2.2.2.2.1
theorem dX12_text_79 : decode cX12_text 79 = .ok (.ifCond .eq 14, 3) := dcX12_text_5.2.2.2.2.2.2.2
theorem dcX12_text_6 : (decode cX12_text 82 = .ok (.aload_n 0, 1)) ∧ (decode cX12_text 83 = .ok (.invokevirtual 162, 3)) ∧ (decode cX12_text 86 = .ok (.ifCond .eq 7, 3)) ∧ (decode cX12_text 89 = .ok (.iconst 1, 1)) ∧ (decode cX12_text 90 = .ok (.goto 4, 3)) ∧ (decode cX12_text 93 = .ok (.iconst 0, 1)) ∧ (decode cX12_text 94 = .ok (.istore_n 1, 1)) ∧ (decode cX12_text 95 = .ok (.iinc 2 1, 3)) := by decide +kernel
theorem dX12_text_82 : decode cX12_text 82 = .ok (.aload_n 0, 1) := dcX12_text_6.1
theorem dX12_text_83 : decode cX12_text 83 = .ok (.invokevirtual 162, 3) := dcX12_text_6.2.1
theorem dX12_text_86 : decode cX12_text 86 = .ok (.ifCond .eq 7, 3) := dcX12_text_6.2.2.1
theorem dX12_text_89 : decode cX12_text 89 = .ok (.iconst 1, 1) := dcX12_text_6.2.2.2.1
theorem dX12_text_90 : decode cX12_text 90 = .ok (.goto 4, 3) := dcX12_text_6.2.2.2.2.1
theorem dX12_text_93 : decode cX12_text 93 = .ok (.iconst 0, 1) := dcX12_text_6.2.2.2.2.2.1
theorem dX12_text_94 : decode cX12_text 94 = .ok (.istore_n 1, 1) := dcX12_text_6.2.2.2.2.2.2.1
theorem dX12_text_95 : decode cX12_text 95 = .ok (.iinc 2 1, 3) := dcX12_text_6.2.2.2.2.2.2.2
theorem dcX12_text_7 : (decode cX12_text 98 = .ok (.goto (-72), 3)) ∧ (decode cX12_text 101 = .ok (.iload_n 1, 1)) ∧ (decode cX12_text 102 = .ok (.ifCond .eq 20, 3)) ∧ (decode cX12_text 105 = .ok (.aload_n 0, 1)) ∧ (decode cX12_text 106 = .ok (.invokevirtual 149, 3)) ∧ (decode cX12_text 109 = .ok (.aload_n 0, 1)) ∧ (decode cX12_text 110 = .ok (.getfield 116, 3)) ∧ (decode cX12_text 113 = .ok (.ifCond .ne 7, 3)) := by decide +kernel
theorem dX12_text_98 : decode cX12_text 98 = .ok (.goto (-72), 3) := dcX12_text_7.1
theorem dX12_text_101 : decode cX12_text 101 = .ok (.iload_n 1, 1) := dcX12_text_7.2.1
theorem dX12_text_102 : decode cX12_text 102 = .ok (.ifCond .eq 20, 3) := dcX12_text_7.2.2.1
theorem dX12_text_105 : decode cX12_text 105 = .ok (.aload_n 0, 1) := dcX12_text_7.2.2.2.1
theorem dX12_text_106 : decode cX12_text 106 = .ok (.invokevirtual 149, 3) := dcX12_text_7.2.2.2.2.1
theorem dX12_text_109 : decode cX12_text 109 = .ok (.aload_n 0, 1) := dcX12_text_7.2.2.2.2.2.1
theorem dX12_text_110 : decode cX12_text 110 = .ok (.getfield 116, 3) := dcX12_text_7.2.2.2.2.2.2.1
theorem dX12_text_113 : decode cX12_text 113 = .ok (.ifCond .ne 7, 3) := dcX12_text_7.2.2.2.2.2.2.2
theorem dcX12_text_8 : (decode cX12_text 116 = .ok (.iconst 1, 1)) ∧ (decode cX12_text 117 = .ok (.goto 4, 3)) ∧ (decode cX12_text 120 = .ok (.iconst 0, 1)) ∧ (decode cX12_text 121 = .ok (.istore_n 1, 1)) ∧ (decode cX12_text 122 = .ok (.aload_n 0, 1)) ∧ (decode cX12_text 123 = .ok (.getfield 32, 3)) ∧ (decode cX12_text 126 = .ok (.iconst 4, 1)) ∧ (decode cX12_text 127 = .ok (.aload_n 0, 1)) := by decide +kernel
theorem dX12_text_116 : decode cX12_text 116 = .ok (.iconst 1, 1) := dcX12_text_8.1
theorem dX12_text_117 : decode cX12_text 117 = .ok (.goto 4, 3) := dcX12_text_8.2.1
theorem dX12_text_120 : decode cX12_text 120 = .ok (.iconst 0, 1) := dcX12_text_8.2.2.1
theorem dX12_text_121 : decode cX12_text 121 = .ok (.istore_n 1, 1) := dcX12_text_8.2.2.2.1
theorem dX12_text_122 : decode cX12_text 122 = .ok (.aload_n 0, 1) := dcX12_text_8.2.2.2.2.1
theorem dX12_text_123 : decode cX12_text 123 = .ok (.getfield 32, 3) := dcX12_text_8.2.2.2.2.2.1
theorem dX12_text_126 : decode cX12_text 126 = .ok (.iconst 4, 1) := dcX12_text_8.2.2.2.2.2.2.1
theorem dX12_text_127 : decode cX12_text 127 = .ok (.aload_n 0, 1) := dcX12_text_8.2.2.2.2.2.2.2
theorem dcX12_text_9 : (decode cX12_text 128 = .ok (.getfield 100, 3)) ∧ (decode cX12_text 131 = .ok (.imul, 1)) ∧ (decode cX12_text 132 = .ok (.iconst 3, 1)) ∧ (decode cX12_text 133 = .ok (.iadd, 1)) ∧ (decode cX12_text 134 = .ok (.aload_n 0, 1)) ∧ (decode cX12_text 135 = .ok (.getfield 126, 3)) ∧ (decode cX12_text 138 = .ok (.iastore, 1)) ∧ (decode cX12_text 139 = .ok (.aload_n 0, 1)) := by decide +kernel
theorem dX12_text_128 : decode cX12_text 128 = .ok (.getfield 100, 3) := dcX12_text_9.1
theorem dX12_text_131 : decode cX12_text 131 = .ok (.imul, 1) := dcX12_text_9.2.1
theorem dX12_text_132 : decode cX12_text 132 = .ok (.iconst 3, 1) := dcX12_text_9.2.2.1
theorem dX12_text_133 : decode cX12_text 133 = .ok (.iadd, 1) := dcX12_text_9.2.2.2.1
theorem dX12_text_134 : decode cX12_text 134 = .ok (.aload_n 0, 1) := dcX12_text_9.2.2.2.2.1
theorem dX12_text_135 : decode cX12_text 135 = .ok (.getfield 126, 3) := dcX12_text_9.2.2.2.2.2.1
theorem dX12_text_138 : decode cX12_text 138 = .ok (.iastore, 1) := dcX12_text_9.2.2.2.2.2.2.1
theorem dX12_text_139 : decode cX12_text 139 = .ok (.aload_n 0, 1) := dcX12_text_9.2.2.2.2.2.2.2
theorem dcX12_text_10 : (decode cX12_text 140 = .ok (.iconst 0, 1)) ∧ (decode cX12_text 141 = .ok (.putfield 83, 3)) ∧ (decode cX12_text 144 = .ok (.iload_n 1, 1)) ∧ (decode cX12_text 145 = .ok (.ifCond .ne 11, 3)) ∧ (decode cX12_text 148 = .ok (.bipush (-100), 2)) ∧ (decode cX12_text 150 = .ok (.aload_n 0, 1)) ∧ (decode cX12_text 151 = .ok (.getfield 113, 3)) ∧ (decode cX12_text 154 = .ok (.isub, 1)) := by decide +kernel
theorem dX12_text_140 : decode cX12_text 140 = .ok (.iconst 0, 1) := dcX12_text_10.1
theorem dX12_text_141 : decode cX12_text 141 = .ok (.putfield 83, 3) := dcX12_text_10.2.1
theorem dX12_text_144 : decode cX12_text 144 = .ok (.iload_n 1, 1) := dcX12_text_10.2.2.1
theorem dX12_text_145 : decode cX12_text 145 = .ok (.ifCond .ne 11, 3) := dcX12_text_10.2.2.2.1
theorem dX12_text_148 : decode cX12_text 148 = .ok (.bipush (-100), 2) := dcX12_text_10.2.2.2.2.1
theorem dX12_text_150 : decode cX12_text 150 = .ok (.aload_n 0, 1) := dcX12_text_10.2.2.2.2.2.1
theorem dX12_text_151 : decode cX12_text 151 = .ok (.getfield 113, 3) := dcX12_text_10.2.2.2.2.2.2.1
theorem dX12_text_154 : decode cX12_text 154 = .ok (.isub, 1) := dcX12_text_10.2.2.2.2.2.2.2
theorem dcX12_text_11 : (decode cX12_text 155 = .ok (.ireturn, 1)) ∧ (decode cX12_text 156 = .ok (.aload_n 0, 1)) ∧ (decode cX12_text 157 = .ok (.dup, 1)) ∧ (decode cX12_text 158 = .ok (.getfield 100, 3)) ∧ (decode cX12_text 161 = .ok (.iconst 1, 1)) ∧ (decode cX12_text 162 = .ok (.iadd, 1)) ∧ (decode cX12_text 163 = .ok (.putfield 100, 3)) ∧ (decode cX12_text 166 = .ok (.aload_n 0, 1)) := by decide +kernel
theorem dX12_text_155 : decode cX12_text 155 = .ok (.ireturn, 1) := dcX12_text_11.1
theorem dX12_text_156 : decode cX12_text 156 = .ok (.aload_n 0, 1) := dcX12_text_11.2.1
theorem dX12_text_157 : decode cX12_text 157 = .ok (.dup, 1) := dcX12_text_11.2.2.1
theorem dX12_text_158 : decode cX12_text 158 = .ok (.getfield 100, 3) := dcX12_text_11.2.2.2.1
theorem dX12_text_161 : decode cX12_text 161 = .ok (.iconst 1, 1) := dcX12_text_11.2.2.2.2.1
theorem dX12_text_162 : decode cX12_text 162 = .ok (.iadd, 1) := dcX12_text_11.2.2.2.2.2.1
theorem dX12_text_163 : decode cX12_text 163 = .ok (.putfield 100, 3) := dcX12_text_11.2.2.2.2.2.2.1
theorem dX12_text_166 : decode cX12_text 166 = .ok (.aload_n 0, 1) := dcX12_text_11.2.2.2.2.2.2.2
theorem dcX12_text_12 : (decode cX12_text 167 = .ok (.getfield 100, 3)) ∧ (decode cX12_text 170 = .ok (.iconst 1, 1)) ∧ (decode cX12_text 171 = .ok (.isub, 1)) ∧ (decode cX12_text 172 = .ok (.ireturn, 1)) := by decide +kernel
theorem dX12_text_167 : decode cX12_text 167 = .ok (.getfield 100, 3) := dcX12_text_12.1
theorem dX12_text_170 : decode cX12_text 170 = .ok (.iconst 1, 1) := dcX12_text_12.2.1
theorem dX12_text_171 : decode cX12_text 171 = .ok (.isub, 1) := dcX12_text_12.2.2.1
theorem dX12_text_172 : decode cX12_text 172 = .ok (.ireturn, 1) := dcX12_text_12.2.2.2
theorem dcX12_two_0 : (decode cX12_two 0 = .ok (.iload_n 0, 1)) ∧ (decode cX12_two 1 = .ok (.tableswitch 101 11 17 #[43, 57, 101, 71, 82, 93, 97], 43)) ∧ (decode cX12_two 44 = .ok (.iload_n 1, 1)) ∧ (decode cX12_two 45 = .ok (.ifCond .ne 7, 3)) ∧ (decode cX12_two 48 = .ok (.iload_n 2, 1)) ∧ (decode cX12_two 49 = .ok (.ifCond .eq 7, 3)) ∧ (decode cX12_two 52 = .ok (.iconst 1, 1)) ∧ (decode cX12_two 53 = .ok (.goto 4, 3)) := by decide +kernel
theorem dX12_two_0 : decode cX12_two 0 = .ok (.iload_n 0, 1) := dcX12_two_0.1
theorem dX12_two_1 : decode cX12_two 1 = .ok (.tableswitch 101 11 17 #[43, 57, 101, 71, 82, 93, 97], 43) := dcX12_two_0.2.1
theorem dX12_two_44 : decode cX12_two 44 = .ok (.iload_n 1, 1) := dcX12_two_0.2.2.1
theorem dX12_two_45 : decode cX12_two 45 = .ok (.ifCond .ne 7, 3) := dcX12_two_0.2.2.2.1
theorem dX12_two_48 : decode cX12_two 48 = .ok (.iload_n 2, 1) := dcX12_two_0.2.2.2.2.1
theorem dX12_two_49 : decode cX12_two 49 = .ok (.ifCond .eq 7, 3) := dcX12_two_0.2.2.2.2.2.1
theorem dX12_two_52 : decode cX12_two 52 = .ok (.iconst 1, 1) := dcX12_two_0.2.2.2.2.2.2.1
theorem dX12_two_53 : decode cX12_two 53 = .ok (.goto 4, 3) := dcX12_two_0.2.2.2.2.2.2.2
theorem dcX12_two_1 : (decode cX12_two 56 = .ok (.iconst 0, 1)) ∧ (decode cX12_two 57 = .ok (.ireturn, 1)) ∧ (decode cX12_two 58 = .ok (.iload_n 1, 1)) ∧ (decode cX12_two 59 = .ok (.ifCond .eq 11, 3)) ∧ (decode cX12_two 62 = .ok (.iload_n 2, 1)) ∧ (decode cX12_two 63 = .ok (.ifCond .eq 7, 3)) ∧ (decode cX12_two 66 = .ok (.iconst 1, 1)) ∧ (decode cX12_two 67 = .ok (.goto 4, 3)) := by decide +kernel
theorem dX12_two_56 : decode cX12_two 56 = .ok (.iconst 0, 1) := dcX12_two_1.1
theorem dX12_two_57 : decode cX12_two 57 = .ok (.ireturn, 1) := dcX12_two_1.2.1
theorem dX12_two_58 : decode cX12_two 58 = .ok (.iload_n 1, 1) := dcX12_two_1.2.2.1
theorem dX12_two_59 : decode cX12_two 59 = .ok (.ifCond .eq 11, 3) := dcX12_two_1.2.2.2.1
theorem dX12_two_62 : decode cX12_two 62 = .ok (.iload_n 2, 1) := dcX12_two_1.2.2.2.2.1
theorem dX12_two_63 : decode cX12_two 63 = .ok (.ifCond .eq 7, 3) := dcX12_two_1.2.2.2.2.2.1
theorem dX12_two_66 : decode cX12_two 66 = .ok (.iconst 1, 1) := dcX12_two_1.2.2.2.2.2.2.1
theorem dX12_two_67 : decode cX12_two 67 = .ok (.goto 4, 3) := dcX12_two_1.2.2.2.2.2.2.2
theorem dcX12_two_2 : (decode cX12_two 70 = .ok (.iconst 0, 1)) ∧ (decode cX12_two 71 = .ok (.ireturn, 1)) ∧ (decode cX12_two 72 = .ok (.iload_n 1, 1)) ∧ (decode cX12_two 73 = .ok (.iload_n 2, 1)) ∧ (decode cX12_two 74 = .ok (.if_icmp .ge 7, 3)) ∧ (decode cX12_two 77 = .ok (.iconst 1, 1)) ∧ (decode cX12_two 78 = .ok (.goto 4, 3)) ∧ (decode cX12_two 81 = .ok (.iconst 0, 1)) := by decide +kernel
theorem dX12_two_70 : decode cX12_two 70 = .ok (.iconst 0, 1) := dcX12_two_2.1
theorem dX12_two_71 : decode cX12_two 71 = .ok (.ireturn, 1) := dcX12_two_2.2.1
theorem dX12_two_72 : decode cX12_two 72 = .ok (.iload_n 1, 1) := dcX12_two_2.2.2.1
theorem dX12_two_73 : decode cX12_two 73 = .ok (.iload_n 2, 1) := dcX12_two_2.2.2.2.1
theorem dX12_two_74 : decode cX12_two 74 = .ok (.if_icmp .ge 7, 3) := dcX12_two_2.2.2.2.2.1
theorem dX12_two_77 : decode cX12_two 77 = .ok (.iconst 1, 1) := dcX12_two_2.2.2.2.2.2.1
theorem dX12_two_78 : decode cX12_two 78 = .ok (.goto 4, 3) := dcX12_two_2.2.2.2.2.2.2.1
theorem dX12_two_81 : decode cX12_two 81 = .ok (.iconst 0, 1) := dcX12_two_2.2.2.2.2.2.2.2
theorem dcX12_two_3 : (decode cX12_two 82 = .ok (.ireturn, 1)) ∧ (decode cX12_two 83 = .ok (.iload_n 1, 1)) ∧ (decode cX12_two 84 = .ok (.iload_n 2, 1)) ∧ (decode cX12_two 85 = .ok (.if_icmp .ne 7, 3)) ∧ (decode cX12_two 88 = .ok (.iconst 1, 1)) ∧ (decode cX12_two 89 = .ok (.goto 4, 3)) ∧ (decode cX12_two 92 = .ok (.iconst 0, 1)) ∧ (decode cX12_two 93 = .ok (.ireturn, 1)) := by decide +kernel
theorem dX12_two_82 : decode cX12_two 82 = .ok (.ireturn, 1) := dcX12_two_3.1
theorem dX12_two_83 : decode cX12_two 83 = .ok (.iload_n 1, 1) := dcX12_two_3.2.1
theorem dX12_two_84 : decode cX12_two 84 = .ok (.iload_n 2, 1) := dcX12_two_3.2.2.1
theorem dX12_two_85 : decode cX12_two 85 = .ok (.if_icmp .ne 7, 3) := dcX12_two_3.2.2.2.1
theorem dX12_two_88 : decode cX12_two 88 = .ok (.iconst 1, 1) := dcX12_two_3.2.2.2.2.1
theorem dX12_two_89 : decode cX12_two 89 = .ok (.goto 4, 3) := dcX12_two_3.2.2.2.2.2.1
theorem dX12_two_92 : decode cX12_two 92 = .ok (.iconst 0, 1) := dcX12_two_3.2.2.2.2.2.2.1
theorem dX12_two_93 : decode cX12_two 93 = .ok (.ireturn, 1) := dcX12_two_3.2.2.2.2.2.2.2
theorem dcX12_two_4 : (decode cX12_two 94 = .ok (.iload_n 1, 1)) ∧ (decode cX12_two 95 = .ok (.iload_n 2, 1)) ∧ (decode cX12_two 96 = .ok (.iadd, 1)) ∧ (decode cX12_two 97 = .ok (.ireturn, 1)) ∧ (decode cX12_two 98 = .ok (.iload_n 1, 1)) ∧ (decode cX12_two 99 = .ok (.iload_n 2, 1)) ∧ (decode cX12_two 100 = .ok (.isub, 1)) ∧ (decode cX12_two 101 = .ok (.ireturn, 1)) := by decide +kernel
theorem dX12_two_94 : decode cX12_two 94 = .ok (.iload_n 1, 1) := dcX12_two_4.1
theorem dX12_two_95 : decode cX12_two 95 = .ok (.iload_n 2, 1) := dcX12_two_4.2.1
theorem dX12_two_96 : decode cX12_two 96 = .ok (.iadd, 1) := dcX12_two_4.2.2.1
theorem dX12_two_97 : decode cX12_two 97 = .ok (.ireturn, 1) := dcX12_two_4.2.2.2.1
theorem dX12_two_98 : decode cX12_two 98 = .ok (.iload_n 1, 1) := dcX12_two_4.2.2.2.2.1
theorem dX12_two_99 : decode cX12_two 99 = .ok (.iload_n 2, 1) := dcX12_two_4.2.2.2.2.2.1
theorem dX12_two_100 : decode cX12_two 100 = .ok (.isub, 1) := dcX12_two_4.2.2.2.2.2.2.1
theorem dX12_two_101 : decode cX12_two 101 = .ok (.ireturn, 1) := dcX12_two_4.2.2.2.2.2.2.2
theorem dcX12_two_5 : (decode cX12_two 102 = .ok (.iload_n 1, 1)) ∧ (decode cX12_two 103 = .ok (.iload_n 2, 1)) ∧ (decode cX12_two 104 = .ok (.imul, 1)) ∧ (decode cX12_two 105 = .ok (.ireturn, 1)) := by decide +kernel
theorem dX12_two_102 : decode cX12_two 102 = .ok (.iload_n 1, 1) := dcX12_two_5.1
theorem dX12_two_103 : decode cX12_two 103 = .ok (.iload_n 2, 1) := dcX12_two_5.2.1
theorem dX12_two_104 : decode cX12_two 104 = .ok (.imul, 1) := dcX12_two_5.2.2.1
theorem dX12_two_105 : decode cX12_two 105 = .ok (.ireturn, 1) := dcX12_two_5.2.2.2
theorem dcX12_says_0 : (decode cX12_says 0 = .ok (.iconst 0, 1)) ∧ (decode cX12_says 1 = .ok (.istore_n 2, 1)) ∧ (decode cX12_says 2 = .ok (.aload_n 0, 1)) ∧ (decode cX12_says 3 = .ok (.getfield 32, 3)) ∧ (decode cX12_says 6 = .ok (.iconst 4, 1)) ∧ (decode cX12_says 7 = .ok (.aload_n 0, 1)) ∧ (decode cX12_says 8 = .ok (.getfield 103, 3)) ∧ (decode cX12_says 11 = .ok (.imul, 1)) := by decide +kernel
theorem dX12_says_0 : decode cX12_says 0 = .ok (.iconst 0, 1) := dcX12_says_0.1
theorem dX12_says_1 : decode cX12_says 1 = .ok (.istore_n 2, 1) := dcX12_says_0.2.1
theorem dX12_says_2 : decode cX12_says 2 = .ok (.aload_n 0, 1) := dcX12_says_0.2.2.1
theorem dX12_says_3 : decode cX12_says 3 = .ok (.getfield 32, 3) := dcX12_says_0.2.2.2.1
theorem dX12_says_6 : decode cX12_says 6 = .ok (.iconst 4, 1) := dcX12_says_0.2.2.2.2.1
theorem dX12_says_7 : decode cX12_says 7 = .ok (.aload_n 0, 1) := dcX12_says_0.2.2.2.2.2.1
theorem dX12_says_8 : decode cX12_says 8 = .ok (.getfield 103, 3) := dcX12_says_0.2.2.2.2.2.2.1
theorem dX12_says_11 : decode cX12_says 11 = .ok (.imul, 1) := dcX12_says_0.2.2.2.2.2.2.2
theorem dcX12_says_1 : (decode cX12_says 12 = .ok (.iload_n 1, 1)) ∧ (decode cX12_says 13 = .ok (.iadd, 1)) ∧ (decode cX12_says 14 = .ok (.iaload, 1)) ∧ (decode cX12_says 15 = .ok (.istore_n 3, 1)) ∧ (decode cX12_says 16 = .ok (.iload_n 3, 1)) ∧ (decode cX12_says 17 = .ok (.aload_n 0, 1)) ∧ (decode cX12_says 18 = .ok (.getfield 32, 3)) ∧ (decode cX12_says 21 = .ok (.iconst 4, 1)) := by decide +kernel
theorem dX12_says_12 : decode cX12_says 12 = .ok (.iload_n 1, 1) := dcX12_says_1.1
theorem dX12_says_13 : decode cX12_says 13 = .ok (.iadd, 1) := dcX12_says_1.2.1
theorem dX12_says_14 : decode cX12_says 14 = .ok (.iaload, 1) := dcX12_says_1.2.2.1
theorem dX12_says_15 : decode cX12_says 15 = .ok (.istore_n 3, 1) := dcX12_says_1.2.2.2.1
theorem dX12_says_16 : decode cX12_says 16 = .ok (.iload_n 3, 1) := dcX12_says_1.2.2.2.2.1
theorem dX12_says_17 : decode cX12_says 17 = .ok (.aload_n 0, 1) := dcX12_says_1.2.2.2.2.2.1
theorem dX12_says_18 : decode cX12_says 18 = .ok (.getfield 32, 3) := dcX12_says_1.2.2.2.2.2.2.1
theorem dX12_says_21 : decode cX12_says 21 = .ok (.iconst 4, 1) := dcX12_says_1.2.2.2.2.2.2.2
theorem dcX12_says_2 : (decode cX12_says 22 = .ok (.aload_n 0, 1)) ∧ (decode cX12_says 23 = .ok (.getfield 103, 3)) ∧ (decode cX12_says 26 = .ok (.imul, 1)) ∧ (decode cX12_says 27 = .ok (.iload_n 1, 1)) ∧ (decode cX12_says 28 = .ok (.iadd, 1)) ∧ (decode cX12_says 29 = .ok (.iconst 1, 1)) ∧ (decode cX12_says 30 = .ok (.iadd, 1)) ∧ (decode cX12_says 31 = .ok (.iaload, 1)) := by decide +kernel
theorem dX12_says_22 : decode cX12_says 22 = .ok (.aload_n 0, 1) := dcX12_says_2.1
theorem dX12_says_23 : decode cX12_says 23 = .ok (.getfield 103, 3) := dcX12_says_2.2.1
theorem dX12_says_26 : decode cX12_says 26 = .ok (.imul, 1) := dcX12_says_2.2.2.1
theorem dX12_says_27 : decode cX12_says 27 = .ok (.iload_n 1, 1) := dcX12_says_2.2.2.2.1
theorem dX12_says_28 : decode cX12_says 28 = .ok (.iadd, 1) := dcX12_says_2.2.2.2.2.1
theorem dX12_says_29 : decode cX12_says 29 = .ok (.iconst 1, 1) := dcX12_says_2.2.2.2.2.2.1
theorem dX12_says_30 : decode cX12_says 30 = .ok (.iadd, 1) := dcX12_says_2.2.2.2.2.2.2.1
theorem dX12_says_31 : decode cX12_says 31 = .ok (.iaload, 1) := dcX12_says_2.2.2.2.2.2.2.2
theorem dcX12_says_3 : (decode cX12_says 32 = .ok (.if_icmp .ge 165, 3)) ∧ (decode cX12_says 35 = .ok (.aload_n 0, 1)) ∧ (decode cX12_says 36 = .ok (.getfield 29, 3)) ∧ (decode cX12_says 39 = .ok (.sipush 200, 3)) ∧ (decode cX12_says 42 = .ok (.aload_n 0, 1)) ∧ (decode cX12_says 43 = .ok (.getfield 103, 3)) ∧ (decode cX12_says 46 = .ok (.imul, 1)) ∧ (decode cX12_says 47 = .ok (.iload_n 3, 1)) := by decide +kernel
theorem dX12_says_32 : decode cX12_says 32 = .ok (.if_icmp .ge 165, 3) := dcX12_says_3.1
theorem dX12_says_35 : decode cX12_says 35 = .ok (.aload_n 0, 1) := dcX12_says_3.2.1
theorem dX12_says_36 : decode cX12_says 36 = .ok (.getfield 29, 3) := dcX12_says_3.2.2.1
theorem dX12_says_39 : decode cX12_says 39 = .ok (.sipush 200, 3) := dcX12_says_3.2.2.2.1
theorem dX12_says_42 : decode cX12_says 42 = .ok (.aload_n 0, 1) := dcX12_says_3.2.2.2.2.1
theorem dX12_says_43 : decode cX12_says 43 = .ok (.getfield 103, 3) := dcX12_says_3.2.2.2.2.2.1
theorem dX12_says_46 : decode cX12_says 46 = .ok (.imul, 1) := dcX12_says_3.2.2.2.2.2.2.1
theorem dX12_says_47 : decode cX12_says 47 = .ok (.iload_n 3, 1) := dcX12_says_3.2.2.2.2.2.2.2
theorem dcX12_says_4 : (decode cX12_says 48 = .ok (.iadd, 1)) ∧ (decode cX12_says 49 = .ok (.iaload, 1)) ∧ (decode cX12_says 50 = .ok (.istore 4, 2)) ∧ (decode cX12_says 52 = .ok (.iload 4, 2)) ∧ (decode cX12_says 54 = .ok (.ldc 152, 2)) ∧ (decode cX12_says 56 = .ok (.if_icmp .ge 10, 3)) ∧ (decode cX12_says 59 = .ok (.iload 4, 2)) ∧ (decode cX12_says 61 = .ok (.bipush 11, 2)) := by decide +kernel
theorem dX12_says_48 : decode cX12_says 48 = .ok (.iadd, 1) := dcX12_says_4.1
theorem dX12_says_49 : decode cX12_says 49 = .ok (.iaload, 1) := dcX12_says_4.2.1
theorem dX12_says_50 : decode cX12_says 50 = .ok (.istore 4, 2) := dcX12_says_4.2.2.1
theorem dX12_says_52 : decode cX12_says 52 = .ok (.iload 4, 2) := dcX12_says_4.2.2.2.1
theorem dX12_says_54 : decode cX12_says 54 = .ok (.ldc 152, 2) := dcX12_says_4.2.2.2.2.1
theorem dX12_says_56 : decode cX12_says 56 = .ok (.if_icmp .ge 10, 3) := dcX12_says_4.2.2.2.2.2.1
theorem dX12_says_59 : decode cX12_says 59 = .ok (.iload 4, 2) := dcX12_says_4.2.2.2.2.2.2.1
theorem dX12_says_61 : decode cX12_says 61 = .ok (.bipush 11, 2) := dcX12_says_4.2.2.2.2.2.2.2
theorem dcX12_says_5 : (decode cX12_says 63 = .ok (.if_icmp .ge 37, 3)) ∧ (decode cX12_says 66 = .ok (.aload_n 0, 1)) ∧ (decode cX12_says 67 = .ok (.getfield 62, 3)) ∧ (decode cX12_says 70 = .ok (.iload_n 2, 1)) ∧ (decode cX12_says 71 = .ok (.iload 4, 2)) ∧ (decode cX12_says 73 = .ok (.bipush 11, 2)) ∧ (decode cX12_says 75 = .ok (.if_icmp .ge 13, 3)) ∧ (decode cX12_says 78 = .ok (.aload_n 0, 1)) := by decide +kernel
theorem dX12_says_63 : decode cX12_says 63 = .ok (.if_icmp .ge 37, 3) := dcX12_says_5.1
theorem dX12_says_66 : decode cX12_says 66 = .ok (.aload_n 0, 1) := dcX12_says_5.2.1
theorem dX12_says_67 : decode cX12_says 67 = .ok (.getfield 62, 3) := dcX12_says_5.2.2.1
theorem dX12_says_70 : decode cX12_says 70 = .ok (.iload_n 2, 1) := dcX12_says_5.2.2.2.1
theorem dX12_says_71 : decode cX12_says 71 = .ok (.iload 4, 2) := dcX12_says_5.2.2.2.2.1
theorem dX12_says_73 : decode cX12_says 73 = .ok (.bipush 11, 2) := dcX12_says_5.2.2.2.2.2.1
theorem dX12_says_75 : decode cX12_says 75 = .ok (.if_icmp .ge 13, 3) := dcX12_says_5.2.2.2.2.2.2.1
theorem dX12_says_78 : decode cX12_says 78 = .ok (.aload_n 0, 1) := dcX12_says_5.2.2.2.2.2.2.2
theorem dcX12_says_6 : (decode cX12_says 79 = .ok (.getfield 65, 3)) ∧ (decode cX12_says 82 = .ok (.iload 4, 2)) ∧ (decode cX12_says 84 = .ok (.iaload, 1)) ∧ (decode cX12_says 85 = .ok (.goto 8, 3)) ∧ (decode cX12_says 88 = .ok (.iload 4, 2)) ∧ (decode cX12_says 90 = .ok (.ldc 152, 2)) ∧ (decode cX12_says 92 = .ok (.isub, 1)) ∧ (decode cX12_says 93 = .ok (.iastore, 1)) := by decide +kernel
theorem dX12_says_79 : decode cX12_says 79 = .ok (.getfield 65, 3) := dcX12_says_6.1
theorem dX12_says_82 : decode cX12_says 82 = .ok (.iload 4, 2) := dcX12_says_6.2.1
theorem dX12_says_84 : decode cX12_says 84 = .ok (.iaload, 1) := dcX12_says_6.2.2.1
theorem dX12_says_85 : decode cX12_says 85 = .ok (.goto 8, 3) := dcX12_says_6.2.2.2.1
theorem dX12_says_88 : decode cX12_says 88 = .ok (.iload 4, 2) := dcX12_says_6.2.2.2.2.1
theorem dX12_says_90 : decode cX12_says 90 = .ok (.ldc 152, 2) := dcX12_says_6.2.2.2.2.2.1
theorem dX12_says_92 : decode cX12_says 92 = .ok (.isub, 1) := dcX12_says_6.2.2.2.2.2.2.1
theorem dX12_says_93 : decode cX12_says 93 = .ok (.iastore, 1) := dcX12_says_6.2.2.2.2.2.2.2
theorem dcX12_says_7 : (decode cX12_says 94 = .ok (.iinc 2 1, 3)) ∧ (decode cX12_says 97 = .ok (.goto 94, 3)) ∧ (decode cX12_says 100 = .ok (.iload 4, 2)) ∧ (decode cX12_says 102 = .ok (.bipush 13, 2)) ∧ (decode cX12_says 104 = .ok (.if_icmp .ne 30, 3)) ∧ (decode cX12_says 107 = .ok (.aload_n 0, 1)) ∧ (decode cX12_says 108 = .ok (.getfield 62, 3)) ∧ (decode cX12_says 111 = .ok (.iload_n 2, 1)) := by decide +kernel
theorem dX12_says_94 : decode cX12_says 94 = .ok (.iinc 2 1, 3) := dcX12_says_7.1
theorem dX12_says_97 : decode cX12_says 97 = .ok (.goto 94, 3) := dcX12_says_7.2.1
theorem dX12_says_100 : decode cX12_says 100 = .ok (.iload 4, 2) := dcX12_says_7.2.2.1
theorem dX12_says_102 : decode cX12_says 102 = .ok (.bipush 13, 2) := dcX12_says_7.2.2.2.1
theorem dX12_says_104 : decode cX12_says 104 = .ok (.if_icmp .ne 30, 3) := dcX12_says_7.2.2.2.2.1
theorem dX12_says_107 : decode cX12_says 107 = .ok (.aload_n 0, 1) := dcX12_says_7.2.2.2.2.2.1
theorem dX12_says_108 : decode cX12_says 108 = .ok (.getfield 62, 3) := dcX12_says_7.2.2.2.2.2.2.1
theorem dX12_says_111 : decode cX12_says 111 = .ok (.iload_n 2, 1) := dcX12_says_7.2.2.2.2.2.2.2
theorem dcX12_says_8 : (decode cX12_says 112 = .ok (.iconst 1, 1)) ∧ (decode cX12_says 113 = .ok (.isub, 1)) ∧ (decode cX12_says 114 = .ok (.aload_n 0, 1)) ∧ (decode cX12_says 115 = .ok (.getfield 62, 3)) ∧ (decode cX12_says 118 = .ok (.iload_n 2, 1)) ∧ (decode cX12_says 119 = .ok (.iconst 1, 1)) ∧ (decode cX12_says 120 = .ok (.isub, 1)) ∧ (decode cX12_says 121 = .ok (.iaload, 1)) := by decide +kernel
theorem dX12_says_112 : decode cX12_says 112 = .ok (.iconst 1, 1) := dcX12_says_8.1
theorem dX12_says_113 : decode cX12_says 113 = .ok (.isub, 1) := dcX12_says_8.2.1
theorem dX12_says_114 : decode cX12_says 114 = .ok (.aload_n 0, 1) := dcX12_says_8.2.2.1
theorem dX12_says_115 : decode cX12_says 115 = .ok (.getfield 62, 3) := dcX12_says_8.2.2.2.1
theorem dX12_says_118 : decode cX12_says 118 = .ok (.iload_n 2, 1) := dcX12_says_8.2.2.2.2.1
theorem dX12_says_119 : decode cX12_says 119 = .ok (.iconst 1, 1) := dcX12_says_8.2.2.2.2.2.1
theorem dX12_says_120 : decode cX12_says 120 = .ok (.isub, 1) := dcX12_says_8.2.2.2.2.2.2.1
theorem dX12_says_121 : decode cX12_says 121 = .ok (.iaload, 1) := dcX12_says_8.2.2.2.2.2.2.2
theorem dcX12_says_9 : (decode cX12_says 122 = .ok (.ifCond .ne 7, 3)) ∧ (decode cX12_says 125 = .ok (.iconst 1, 1)) ∧ (decode cX12_says 126 = .ok (.goto 4, 3)) ∧ (decode cX12_says 129 = .ok (.iconst 0, 1)) ∧ (decode cX12_says 130 = .ok (.iastore, 1)) ∧ (decode cX12_says 131 = .ok (.goto 60, 3)) ∧ (decode cX12_says 134 = .ok (.iload 4, 2)) ∧ (decode cX12_says 136 = .ok (.bipush 19, 2)) := by decide +kernel
theorem dX12_says_122 : decode cX12_says 122 = .ok (.ifCond .ne 7, 3) := dcX12_says_9.1
theorem dX12_says_125 : decode cX12_says 125 = .ok (.iconst 1, 1) := dcX12_says_9.2.1
theorem dX12_says_126 : decode cX12_says 126 = .ok (.goto 4, 3) := dcX12_says_9.2.2.1
theorem dX12_says_129 : decode cX12_says 129 = .ok (.iconst 0, 1) := dcX12_says_9.2.2.2.1
theorem dX12_says_130 : decode cX12_says 130 = .ok (.iastore, 1) := dcX12_says_9.2.2.2.2.1
theorem dX12_says_131 : decode cX12_says 131 = .ok (.goto 60, 3) := dcX12_says_9.2.2.2.2.2.1
theorem dX12_says_134 : decode cX12_says 134 = .ok (.iload 4, 2) := dcX12_says_9.2.2.2.2.2.2.1
theorem dX12_says_136 : decode cX12_says 136 = .ok (.bipush 19, 2) := dcX12_says_9.2.2.2.2.2.2.2
theorem dcX12_says_10 : (decode cX12_says 138 = .ok (.if_icmp .ne 23, 3)) ∧ (decode cX12_says 141 = .ok (.aload_n 0, 1)) ∧ (decode cX12_says 142 = .ok (.getfield 62, 3)) ∧ (decode cX12_says 145 = .ok (.iload_n 2, 1)) ∧ (decode cX12_says 146 = .ok (.iconst 1, 1)) ∧ (decode cX12_says 147 = .ok (.isub, 1)) ∧ (decode cX12_says 148 = .ok (.aload_n 0, 1)) ∧ (decode cX12_says 149 = .ok (.getfield 62, 3)) := by decide +kernel
theorem dX12_says_138 : decode cX12_says 138 = .ok (.if_icmp .ne 23, 3) := dcX12_says_10.1
theorem dX12_says_141 : decode cX12_says 141 = .ok (.aload_n 0, 1) := dcX12_says_10.2.1
theorem dX12_says_142 : decode cX12_says 142 = .ok (.getfield 62, 3) := dcX12_says_10.2.2.1
theorem dX12_says_145 : decode cX12_says 145 = .ok (.iload_n 2, 1) := dcX12_says_10.2.2.2.1
theorem dX12_says_146 : decode cX12_says 146 = .ok (.iconst 1, 1) := dcX12_says_10.2.2.2.2.1
theorem dX12_says_147 : decode cX12_says 147 = .ok (.isub, 1) := dcX12_says_10.2.2.2.2.2.1
theorem dX12_says_148 : decode cX12_says 148 = .ok (.aload_n 0, 1) := dcX12_says_10.2.2.2.2.2.2.1
theorem dX12_says_149 : decode cX12_says 149 = .ok (.getfield 62, 3) := dcX12_says_10.2.2.2.2.2.2.2
theorem dcX12_says_11 : (decode cX12_says 152 = .ok (.iload_n 2, 1)) ∧ (decode cX12_says 153 = .ok (.iconst 1, 1)) ∧ (decode cX12_says 154 = .ok (.isub, 1)) ∧ (decode cX12_says 155 = .ok (.iaload, 1)) ∧ (decode cX12_says 156 = .ok (.ineg, 1)) ∧ (decode cX12_says 157 = .ok (.iastore, 1)) ∧ (decode cX12_says 158 = .ok (.goto 33, 3)) ∧ (decode cX12_says 161 = .ok (.iinc 2 (-1), 3)) := by decide +kernel
theorem dX12_says_152 : decode cX12_says 152 = .ok (.iload_n 2, 1) := dcX12_says_11.1
theorem dX12_says_153 : decode cX12_says 153 = .ok (.iconst 1, 1) := dcX12_says_11.2.1
theorem dX12_says_154 : decode cX12_says 154 = .ok (.isub, 1) := dcX12_says_11.2.2.1
theorem dX12_says_155 : decode cX12_says 155 = .ok (.iaload, 1) := dcX12_says_11.2.2.2.1
theorem dX12_says_156 : decode cX12_says 156 = .ok (.ineg, 1) := dcX12_says_11.2.2.2.2.1
theorem dX12_says_157 : decode cX12_says 157 = .ok (.iastore, 1) := dcX12_says_11.2.2.2.2.2.1
theorem dX12_says_158 : decode cX12_says 158 = .ok (.goto 33, 3) := dcX12_says_11.2.2.2.2.2.2.1
theorem dX12_says_161 : decode cX12_says 161 = .ok (.iinc 2 (-1), 3) := dcX12_says_11.2.2.2.2.2.2.2
theorem dcX12_says_12 : (decode cX12_says 164 = .ok (.aload_n 0, 1)) ∧ (decode cX12_says 165 = .ok (.getfield 62, 3)) ∧ (decode cX12_says 168 = .ok (.iload_n 2, 1)) ∧ (decode cX12_says 169 = .ok (.iconst 1, 1)) ∧ (decode cX12_says 170 = .ok (.isub, 1)) ∧ (decode cX12_says 171 = .ok (.iload 4, 2)) ∧ (decode cX12_says 173 = .ok (.aload_n 0, 1)) ∧ (decode cX12_says 174 = .ok (.getfield 62, 3)) := by decide +kernel
theorem dX12_says_164 : decode cX12_says 164 = .ok (.aload_n 0, 1) := dcX12_says_12.1
theorem dX12_says_165 : decode cX12_says 165 = .ok (.getfield 62, 3) := dcX12_says_12.2.1
theorem dX12_says_168 : decode cX12_says 168 = .ok (.iload_n 2, 1) := dcX12_says_12.2.2.1
theorem dX12_says_169 : decode cX12_says 169 = .ok (.iconst 1, 1) := dcX12_says_12.2.2.2.1
theorem dX12_says_170 : decode cX12_says 170 = .ok (.isub, 1) := dcX12_says_12.2.2.2.2.1
theorem dX12_says_171 : decode cX12_says 171 = .ok (.iload 4, 2) := dcX12_says_12.2.2.2.2.2.1
theorem dX12_says_173 : decode cX12_says 173 = .ok (.aload_n 0, 1) := dcX12_says_12.2.2.2.2.2.2.1
theorem dX12_says_174 : decode cX12_says 174 = .ok (.getfield 62, 3) := dcX12_says_12.2.2.2.2.2.2.2
theorem dcX12_says_13 : (decode cX12_says 177 = .ok (.iload_n 2, 1)) ∧ (decode cX12_says 178 = .ok (.iconst 1, 1)) ∧ (decode cX12_says 179 = .ok (.isub, 1)) ∧ (decode cX12_says 180 = .ok (.iaload, 1)) ∧ (decode cX12_says 181 = .ok (.aload_n 0, 1)) ∧ (decode cX12_says 182 = .ok (.getfield 62, 3)) ∧ (decode cX12_says 185 = .ok (.iload_n 2, 1)) ∧ (decode cX12_says 186 = .ok (.iaload, 1)) := by decide +kernel
theorem dX12_says_177 : decode cX12_says 177 = .ok (.iload_n 2, 1) := dcX12_says_13.1
theorem dX12_says_178 : decode cX12_says 178 = .ok (.iconst 1, 1) := dcX12_says_13.2.1
theorem dX12_says_179 : decode cX12_says 179 = .ok (.isub, 1) := dcX12_says_13.2.2.1
theorem dX12_says_180 : decode cX12_says 180 = .ok (.iaload, 1) := dcX12_says_13.2.2.2.1
theorem dX12_says_181 : decode cX12_says 181 = .ok (.aload_n 0, 1) := dcX12_says_13.2.2.2.2.1
theorem dX12_says_182 : decode cX12_says 182 = .ok (.getfield 62, 3) := dcX12_says_13.2.2.2.2.2.1
theorem dX12_says_185 : decode cX12_says 185 = .ok (.iload_n 2, 1) := dcX12_says_13.2.2.2.2.2.2.1
theorem dX12_says_186 : decode cX12_says 186 = .ok (.iaload, 1) := dcX12_says_13.2.2.2.2.2.2.2
theorem dcX12_says_14 : (decode cX12_says 187 = .ok (.invokestatic 166, 3)) ∧ (decode cX12_says 190 = .ok (.iastore, 1)) ∧ (decode cX12_says 191 = .ok (.iinc 3 1, 3)) ∧ (decode cX12_says 194 = .ok (.goto (-178), 3)) ∧ (decode cX12_says 197 = .ok (.aload_n 0, 1)) ∧ (decode cX12_says 198 = .ok (.getfield 62, 3)) ∧ (decode cX12_says 201 = .ok (.iconst 0, 1)) ∧ (decode cX12_says 202 = .ok (.iaload, 1)) := by decide +kernel
theorem dX12_says_187 : decode cX12_says 187 = .ok (.invokestatic 166, 3) := dcX12_says_14.1
theorem dX12_says_190 : decode cX12_says 190 = .ok (.iastore, 1) := dcX12_says_14.2.1
theorem dX12_says_191 : decode cX12_says 191 = .ok (.iinc 3 1, 3) := dcX12_says_14.2.2.1
theorem dX12_says_194 : decode cX12_says 194 = .ok (.goto (-178), 3) := dcX12_says_14.2.2.2.1
theorem dX12_says_197 : decode cX12_says 197 = .ok (.aload_n 0, 1) := dcX12_says_14.2.2.2.2.1
theorem dX12_says_198 : decode cX12_says 198 = .ok (.getfield 62, 3) := dcX12_says_14.2.2.2.2.2.1
theorem dX12_says_201 : decode cX12_says 201 = .ok (.iconst 0, 1) := dcX12_says_14.2.2.2.2.2.2.1
theorem dX12_says_202 : decode cX12_says 202 = .ok (.iaload, 1) := dcX12_says_14.2.2.2.2.2.2.2
theorem dX12_says_203 : decode cX12_says 203 = .ok (.ireturn, 1) := by decide +kernel
theorem dcX12_force_0 : (decode cX12_force 0 = .ok (.iload_n 1, 1)) ∧ (decode cX12_force 1 = .ok (.iconst 0, 1)) ∧ (decode cX12_force 2 = .ok (.aload_n 0, 1)) ∧ (decode cX12_force 3 = .ok (.getfield 100, 3)) ∧ (decode cX12_force 6 = .ok (.iconst 1, 1)) ∧ (decode cX12_force 7 = .ok (.isub, 1)) ∧ (decode cX12_force 8 = .ok (.invokestatic 93, 3)) ∧ (decode cX12_force 11 = .ok (.ifCond .ne 6, 3)) := by decide +kernel
theorem dX12_force_0 : decode cX12_force 0 = .ok (.iload_n 1, 1) := dcX12_force_0.1
theorem dX12_force_1 : decode cX12_force 1 = .ok (.iconst 0, 1) := dcX12_force_0.2.1
theorem dX12_force_2 : decode cX12_force 2 = .ok (.aload_n 0, 1) := dcX12_force_0.2.2.1
theorem dX12_force_3 : decode cX12_force 3 = .ok (.getfield 100, 3) := dcX12_force_0.2.2.2.1
theorem dX12_force_6 : decode cX12_force 6 = .ok (.iconst 1, 1) := dcX12_force_0.2.2.2.2.1
theorem dX12_force_7 : decode cX12_force 7 = .ok (.isub, 1) := dcX12_force_0.2.2.2.2.2.1
theorem dX12_force_8 : decode cX12_force 8 = .ok (.invokestatic 93, 3) := dcX12_force_0.2.2.2.2.2.2.1
theorem dX12_force_11 : decode cX12_force 11 = .ok (.ifCond .ne 6, 3) := dcX12_force_0.2.2.2.2.2.2.2
theorem dcX12_force_1 : (decode cX12_force 14 = .ok (.bipush (-2), 2)) ∧ (decode cX12_force 16 = .ok (.ireturn, 1)) ∧ (decode cX12_force 17 = .ok (.aload_n 0, 1)) ∧ (decode cX12_force 18 = .ok (.getfield 103, 3)) ∧ (decode cX12_force 21 = .ok (.istore_n 2, 1)) ∧ (decode cX12_force 22 = .ok (.aload_n 0, 1)) ∧ (decode cX12_force 23 = .ok (.iload_n 1, 1)) ∧ (decode cX12_force 24 = .ok (.putfield 103, 3)) := by decide +kernel
theorem dX12_force_14 : decode cX12_force 14 = .ok (.bipush (-2), 2) := dcX12_force_1.1
theorem dX12_force_16 : decode cX12_force 16 = .ok (.ireturn, 1) := dcX12_force_1.2.1
theorem dX12_force_17 : decode cX12_force 17 = .ok (.aload_n 0, 1) := dcX12_force_1.2.2.1
theorem dX12_force_18 : decode cX12_force 18 = .ok (.getfield 103, 3) := dcX12_force_1.2.2.2.1
theorem dX12_force_21 : decode cX12_force 21 = .ok (.istore_n 2, 1) := dcX12_force_1.2.2.2.2.1
theorem dX12_force_22 : decode cX12_force 22 = .ok (.aload_n 0, 1) := dcX12_force_1.2.2.2.2.2.1
theorem dX12_force_23 : decode cX12_force 23 = .ok (.iload_n 1, 1) := dcX12_force_1.2.2.2.2.2.2.1
theorem dX12_force_24 : decode cX12_force 24 = .ok (.putfield 103, 3) := dcX12_force_1.2.2.2.2.2.2.2
theorem dcX12_force_2 : (decode cX12_force 27 = .ok (.iload_n 2, 1)) ∧ (decode cX12_force 28 = .ok (.ireturn, 1)) := by decide +kernel
theorem dX12_force_27 : decode cX12_force 27 = .ok (.iload_n 2, 1) := dcX12_force_2.1
theorem dX12_force_28 : decode cX12_force 28 = .ok (.ireturn, 1) := dcX12_force_2.2
theorem dcX12_asksOf_0 : (decode cX12_asksOf 0 = .ok (.aload_n 0, 1)) ∧ (decode cX12_asksOf 1 = .ok (.getfield 65, 3)) ∧ (decode cX12_asksOf 4 = .ok (.iconst 0, 1)) ∧ (decode cX12_asksOf 5 = .ok (.iload_n 3, 1)) ∧ (decode cX12_asksOf 6 = .ok (.iconst 4, 1)) ∧ (decode cX12_asksOf 7 = .ok (.irem, 1)) ∧ (decode cX12_asksOf 8 = .ok (.iastore, 1)) ∧ (decode cX12_asksOf 9 = .ok (.aload_n 0, 1)) := by decide +kernel
theorem dX12_asksOf_0 : decode cX12_asksOf 0 = .ok (.aload_n 0, 1) := dcX12_asksOf_0.1
theorem dX12_asksOf_1 : decode cX12_asksOf 1 = .ok (.getfield 65, 3) := dcX12_asksOf_0.2.1
theorem dX12_asksOf_4 : decode cX12_asksOf 4 = .ok (.iconst 0, 1) := dcX12_asksOf_0.2.2.1
theorem dX12_asksOf_5 : decode cX12_asksOf 5 = .ok (.iload_n 3, 1) := dcX12_asksOf_0.2.2.2.1
theorem dX12_asksOf_6 : decode cX12_asksOf 6 = .ok (.iconst 4, 1) := dcX12_asksOf_0.2.2.2.2.1
theorem dX12_asksOf_7 : decode cX12_asksOf 7 = .ok (.irem, 1) := dcX12_asksOf_0.2.2.2.2.2.1
theorem dX12_asksOf_8 : decode cX12_asksOf 8 = .ok (.iastore, 1) := dcX12_asksOf_0.2.2.2.2.2.2.1
theorem dX12_asksOf_9 : decode cX12_asksOf 9 = .ok (.aload_n 0, 1) := dcX12_asksOf_0.2.2.2.2.2.2.2
theorem dcX12_asksOf_1 : (decode cX12_asksOf 10 = .ok (.getfield 65, 3)) ∧ (decode cX12_asksOf 13 = .ok (.iconst 1, 1)) ∧ (decode cX12_asksOf 14 = .ok (.iload_n 3, 1)) ∧ (decode cX12_asksOf 15 = .ok (.iconst 4, 1)) ∧ (decode cX12_asksOf 16 = .ok (.idiv, 1)) ∧ (decode cX12_asksOf 17 = .ok (.iastore, 1)) ∧ (decode cX12_asksOf 18 = .ok (.aload_n 0, 1)) ∧ (decode cX12_asksOf 19 = .ok (.getfield 65, 3)) := by decide +kernel
theorem dX12_asksOf_10 : decode cX12_asksOf 10 = .ok (.getfield 65, 3) := dcX12_asksOf_1.1
theorem dX12_asksOf_13 : decode cX12_asksOf 13 = .ok (.iconst 1, 1) := dcX12_asksOf_1.2.1
theorem dX12_asksOf_14 : decode cX12_asksOf 14 = .ok (.iload_n 3, 1) := dcX12_asksOf_1.2.2.1
theorem dX12_asksOf_15 : decode cX12_asksOf 15 = .ok (.iconst 4, 1) := dcX12_asksOf_1.2.2.2.1
theorem dX12_asksOf_16 : decode cX12_asksOf 16 = .ok (.idiv, 1) := dcX12_asksOf_1.2.2.2.2.1
theorem dX12_asksOf_17 : decode cX12_asksOf 17 = .ok (.iastore, 1) := dcX12_asksOf_1.2.2.2.2.2.1
theorem dX12_asksOf_18 : decode cX12_asksOf 18 = .ok (.aload_n 0, 1) := dcX12_asksOf_1.2.2.2.2.2.2.1
theorem dX12_asksOf_19 : decode cX12_asksOf 19 = .ok (.getfield 65, 3) := dcX12_asksOf_1.2.2.2.2.2.2.2
theorem dcX12_asksOf_2 : (decode cX12_asksOf 22 = .ok (.iconst 2, 1)) ∧ (decode cX12_asksOf 23 = .ok (.iload 4, 2)) ∧ (decode cX12_asksOf 25 = .ok (.iastore, 1)) ∧ (decode cX12_asksOf 26 = .ok (.aload_n 0, 1)) ∧ (decode cX12_asksOf 27 = .ok (.getfield 65, 3)) ∧ (decode cX12_asksOf 30 = .ok (.iconst 3, 1)) ∧ (decode cX12_asksOf 31 = .ok (.iload 5, 2)) ∧ (decode cX12_asksOf 33 = .ok (.iastore, 1)) := by decide +kernel
theorem dX12_asksOf_22 : decode cX12_asksOf 22 = .ok (.iconst 2, 1) := dcX12_asksOf_2.1
theorem dX12_asksOf_23 : decode cX12_asksOf 23 = .ok (.iload 4, 2) := dcX12_asksOf_2.2.1
theorem dX12_asksOf_25 : decode cX12_asksOf 25 = .ok (.iastore, 1) := dcX12_asksOf_2.2.2.1
theorem dX12_asksOf_26 : decode cX12_asksOf 26 = .ok (.aload_n 0, 1) := dcX12_asksOf_2.2.2.2.1
theorem dX12_asksOf_27 : decode cX12_asksOf 27 = .ok (.getfield 65, 3) := dcX12_asksOf_2.2.2.2.2.1
theorem dX12_asksOf_30 : decode cX12_asksOf 30 = .ok (.iconst 3, 1) := dcX12_asksOf_2.2.2.2.2.2.1
theorem dX12_asksOf_31 : decode cX12_asksOf 31 = .ok (.iload 5, 2) := dcX12_asksOf_2.2.2.2.2.2.2.1
theorem dX12_asksOf_33 : decode cX12_asksOf 33 = .ok (.iastore, 1) := dcX12_asksOf_2.2.2.2.2.2.2.2
theorem dcX12_asksOf_3 : (decode cX12_asksOf 34 = .ok (.aload_n 0, 1)) ∧ (decode cX12_asksOf 35 = .ok (.getfield 65, 3)) ∧ (decode cX12_asksOf 38 = .ok (.iconst 4, 1)) ∧ (decode cX12_asksOf 39 = .ok (.aload_n 0, 1)) ∧ (decode cX12_asksOf 40 = .ok (.getfield 13, 3)) ∧ (decode cX12_asksOf 43 = .ok (.iload_n 2, 1)) ∧ (decode cX12_asksOf 44 = .ok (.iaload, 1)) ∧ (decode cX12_asksOf 45 = .ok (.iastore, 1)) := by decide +kernel
theorem dX12_asksOf_34 : decode cX12_asksOf 34 = .ok (.aload_n 0, 1) := dcX12_asksOf_3.1
theorem dX12_asksOf_35 : decode cX12_asksOf 35 = .ok (.getfield 65, 3) := dcX12_asksOf_3.2.1
theorem dX12_asksOf_38 : decode cX12_asksOf 38 = .ok (.iconst 4, 1) := dcX12_asksOf_3.2.2.1
theorem dX12_asksOf_39 : decode cX12_asksOf 39 = .ok (.aload_n 0, 1) := dcX12_asksOf_3.2.2.2.1
theorem dX12_asksOf_40 : decode cX12_asksOf 40 = .ok (.getfield 13, 3) := dcX12_asksOf_3.2.2.2.2.1
theorem dX12_asksOf_43 : decode cX12_asksOf 43 = .ok (.iload_n 2, 1) := dcX12_asksOf_3.2.2.2.2.2.1
theorem dX12_asksOf_44 : decode cX12_asksOf 44 = .ok (.iaload, 1) := dcX12_asksOf_3.2.2.2.2.2.2.1
theorem dX12_asksOf_45 : decode cX12_asksOf 45 = .ok (.iastore, 1) := dcX12_asksOf_3.2.2.2.2.2.2.2
theorem dcX12_asksOf_4 : (decode cX12_asksOf 46 = .ok (.aload_n 0, 1)) ∧ (decode cX12_asksOf 47 = .ok (.getfield 65, 3)) ∧ (decode cX12_asksOf 50 = .ok (.iconst 5, 1)) ∧ (decode cX12_asksOf 51 = .ok (.aload_n 0, 1)) ∧ (decode cX12_asksOf 52 = .ok (.getfield 19, 3)) ∧ (decode cX12_asksOf 55 = .ok (.iload_n 2, 1)) ∧ (decode cX12_asksOf 56 = .ok (.iaload, 1)) ∧ (decode cX12_asksOf 57 = .ok (.iload_n 3, 1)) := by decide +kernel
theorem dX12_asksOf_46 : decode cX12_asksOf 46 = .ok (.aload_n 0, 1) := dcX12_asksOf_4.1
theorem dX12_asksOf_47 : decode cX12_asksOf 47 = .ok (.getfield 65, 3) := dcX12_asksOf_4.2.1
theorem dX12_asksOf_50 : decode cX12_asksOf 50 = .ok (.iconst 5, 1) := dcX12_asksOf_4.2.2.1
theorem dX12_asksOf_51 : decode cX12_asksOf 51 = .ok (.aload_n 0, 1) := dcX12_asksOf_4.2.2.2.1
theorem dX12_asksOf_52 : decode cX12_asksOf 52 = .ok (.getfield 19, 3) := dcX12_asksOf_4.2.2.2.2.1
theorem dX12_asksOf_55 : decode cX12_asksOf 55 = .ok (.iload_n 2, 1) := dcX12_asksOf_4.2.2.2.2.2.1
theorem dX12_asksOf_56 : decode cX12_asksOf 56 = .ok (.iaload, 1) := dcX12_asksOf_4.2.2.2.2.2.2.1
theorem dX12_asksOf_57 : decode cX12_asksOf 57 = .ok (.iload_n 3, 1) := dcX12_asksOf_4.2.2.2.2.2.2.2
theorem dcX12_asksOf_5 : (decode cX12_asksOf 58 = .ok (.ishr, 1)) ∧ (decode cX12_asksOf 59 = .ok (.iconst 1, 1)) ∧ (decode cX12_asksOf 60 = .ok (.iand, 1)) ∧ (decode cX12_asksOf 61 = .ok (.iastore, 1)) ∧ (decode cX12_asksOf 62 = .ok (.aload_n 0, 1)) ∧ (decode cX12_asksOf 63 = .ok (.iload_n 1, 1)) ∧ (decode cX12_asksOf 64 = .ok (.invokevirtual 170, 3)) ∧ (decode cX12_asksOf 67 = .ok (.iconst 0, 1)) := by decide +kernel
theorem dX12_asksOf_58 : decode cX12_asksOf 58 = .ok (.ishr, 1) := dcX12_asksOf_5.1
theorem dX12_asksOf_59 : decode cX12_asksOf 59 = .ok (.iconst 1, 1) := dcX12_asksOf_5.2.1
theorem dX12_asksOf_60 : decode cX12_asksOf 60 = .ok (.iand, 1) := dcX12_asksOf_5.2.2.1
theorem dX12_asksOf_61 : decode cX12_asksOf 61 = .ok (.iastore, 1) := dcX12_asksOf_5.2.2.2.1
theorem dX12_asksOf_62 : decode cX12_asksOf 62 = .ok (.aload_n 0, 1) := dcX12_asksOf_5.2.2.2.2.1
theorem dX12_asksOf_63 : decode cX12_asksOf 63 = .ok (.iload_n 1, 1) := dcX12_asksOf_5.2.2.2.2.2.1
theorem dX12_asksOf_64 : decode cX12_asksOf 64 = .ok (.invokevirtual 170, 3) := dcX12_asksOf_5.2.2.2.2.2.2.1
theorem dX12_asksOf_67 : decode cX12_asksOf 67 = .ok (.iconst 0, 1) := dcX12_asksOf_5.2.2.2.2.2.2.2
theorem dcX12_asksOf_6 : (decode cX12_asksOf 68 = .ok (.iload_n 1, 1)) ∧ (decode cX12_asksOf 69 = .ok (.ifCond .ne 8, 3)) ∧ (decode cX12_asksOf 72 = .ok (.bipush 50, 2)) ∧ (decode cX12_asksOf 74 = .ok (.goto 5, 3)) ∧ (decode cX12_asksOf 77 = .ok (.bipush 99, 2)) ∧ (decode cX12_asksOf 79 = .ok (.invokestatic 173, 3)) ∧ (decode cX12_asksOf 82 = .ok (.ireturn, 1)) := by decide +kernel
theorem dX12_asksOf_68 : decode cX12_asksOf 68 = .ok (.iload_n 1, 1) := dcX12_asksOf_6.1
theorem dX12_asksOf_69 : decode cX12_asksOf 69 = .ok (.ifCond .ne 8, 3) := dcX12_asksOf_6.2.1
theorem dX12_asksOf_72 : decode cX12_asksOf 72 = .ok (.bipush 50, 2) := dcX12_asksOf_6.2.2.1
theorem dX12_asksOf_74 : decode cX12_asksOf 74 = .ok (.goto 5, 3) := dcX12_asksOf_6.2.2.2.1
theorem dX12_asksOf_77 : decode cX12_asksOf 77 = .ok (.bipush 99, 2) := dcX12_asksOf_6.2.2.2.2.1
theorem dX12_asksOf_79 : decode cX12_asksOf 79 = .ok (.invokestatic 173, 3) := dcX12_asksOf_6.2.2.2.2.2.1
theorem dX12_asksOf_82 : decode cX12_asksOf 82 = .ok (.ireturn, 1) := dcX12_asksOf_6.2.2.2.2.2.2
theorem dcX12_asks_0 : (decode cX12_asks 0 = .ok (.iload_n 1, 1)) ∧ (decode cX12_asks 1 = .ok (.iconst 0, 1)) ∧ (decode cX12_asks 2 = .ok (.iconst 2, 1)) ∧ (decode cX12_asks 3 = .ok (.invokestatic 93, 3)) ∧ (decode cX12_asks 6 = .ok (.ifCond .eq 43, 3)) ∧ (decode cX12_asks 9 = .ok (.aload_n 0, 1)) ∧ (decode cX12_asks 10 = .ok (.iload_n 2, 1)) ∧ (decode cX12_asks 11 = .ok (.invokevirtual 176, 3)) := by decide +kernel
theorem dX12_asks_0 : decode cX12_asks 0 = .ok (.iload_n 1, 1) := dcX12_asks_0.1
theorem dX12_asks_1 : decode cX12_asks 1 = .ok (.iconst 0, 1) := dcX12_asks_0.2.1
theorem dX12_asks_2 : decode cX12_asks 2 = .ok (.iconst 2, 1) := dcX12_asks_0.2.2.1
theorem dX12_asks_3 : decode cX12_asks 3 = .ok (.invokestatic 93, 3) := dcX12_asks_0.2.2.2.1
theorem dX12_asks_6 : decode cX12_asks 6 = .ok (.ifCond .eq 43, 3) := dcX12_asks_0.2.2.2.2.1
theorem dX12_asks_9 : decode cX12_asks 9 = .ok (.aload_n 0, 1) := dcX12_asks_0.2.2.2.2.2.1
theorem dX12_asks_10 : decode cX12_asks 10 = .ok (.iload_n 2, 1) := dcX12_asks_0.2.2.2.2.2.2.1
theorem dX12_asks_11 : decode cX12_asks 11 = .ok (.invokevirtual 176, 3) := dcX12_asks_0.2.2.2.2.2.2.2
theorem dcX12_asks_1 : (decode cX12_asks 14 = .ok (.ifCond .eq 35, 3)) ∧ (decode cX12_asks 17 = .ok (.iload_n 3, 1)) ∧ (decode cX12_asks 18 = .ok (.invokestatic 179, 3)) ∧ (decode cX12_asks 21 = .ok (.ifCond .eq 28, 3)) ∧ (decode cX12_asks 24 = .ok (.aload_n 0, 1)) ∧ (decode cX12_asks 25 = .ok (.iload_n 1, 1)) ∧ (decode cX12_asks 26 = .ok (.iload_n 2, 1)) ∧ (decode cX12_asks 27 = .ok (.iload_n 3, 1)) := by decide +kernel
theorem dX12_asks_14 : decode cX12_asks 14 = .ok (.ifCond .eq 35, 3) := dcX12_asks_1.1
theorem dX12_asks_17 : decode cX12_asks 17 = .ok (.iload_n 3, 1) := dcX12_asks_1.2.1
theorem dX12_asks_18 : decode cX12_asks 18 = .ok (.invokestatic 179, 3) := dcX12_asks_1.2.2.1
theorem dX12_asks_21 : decode cX12_asks 21 = .ok (.ifCond .eq 28, 3) := dcX12_asks_1.2.2.2.1
theorem dX12_asks_24 : decode cX12_asks 24 = .ok (.aload_n 0, 1) := dcX12_asks_1.2.2.2.2.1
theorem dX12_asks_25 : decode cX12_asks 25 = .ok (.iload_n 1, 1) := dcX12_asks_1.2.2.2.2.2.1
theorem dX12_asks_26 : decode cX12_asks 26 = .ok (.iload_n 2, 1) := dcX12_asks_1.2.2.2.2.2.2.1
theorem dX12_asks_27 : decode cX12_asks 27 = .ok (.iload_n 3, 1) := dcX12_asks_1.2.2.2.2.2.2.2
theorem dcX12_asks_2 : (decode cX12_asks 28 = .ok (.aload_n 0, 1)) ∧ (decode cX12_asks 29 = .ok (.getfield 16, 3)) ∧ (decode cX12_asks 32 = .ok (.bipush 16, 2)) ∧ (decode cX12_asks 34 = .ok (.iload_n 2, 1)) ∧ (decode cX12_asks 35 = .ok (.imul, 1)) ∧ (decode cX12_asks 36 = .ok (.iload_n 3, 1)) ∧ (decode cX12_asks 37 = .ok (.iadd, 1)) ∧ (decode cX12_asks 38 = .ok (.iaload, 1)) := by decide +kernel
theorem dX12_asks_28 : decode cX12_asks 28 = .ok (.aload_n 0, 1) := dcX12_asks_2.1
theorem dX12_asks_29 : decode cX12_asks 29 = .ok (.getfield 16, 3) := dcX12_asks_2.2.1
theorem dX12_asks_32 : decode cX12_asks 32 = .ok (.bipush 16, 2) := dcX12_asks_2.2.2.1
theorem dX12_asks_34 : decode cX12_asks 34 = .ok (.iload_n 2, 1) := dcX12_asks_2.2.2.2.1
theorem dX12_asks_35 : decode cX12_asks 35 = .ok (.imul, 1) := dcX12_asks_2.2.2.2.2.1
theorem dX12_asks_36 : decode cX12_asks 36 = .ok (.iload_n 3, 1) := dcX12_asks_2.2.2.2.2.2.1
theorem dX12_asks_37 : decode cX12_asks 37 = .ok (.iadd, 1) := dcX12_asks_2.2.2.2.2.2.2.1
theorem dX12_asks_38 : decode cX12_asks 38 = .ok (.iaload, 1) := dcX12_asks_2.2.2.2.2.2.2.2
theorem dcX12_asks_3 : (decode cX12_asks 39 = .ok (.aload_n 0, 1)) ∧ (decode cX12_asks 40 = .ok (.getfield 97, 3)) ∧ (decode cX12_asks 43 = .ok (.invokevirtual 182, 3)) ∧ (decode cX12_asks 46 = .ok (.goto 5, 3)) ∧ (decode cX12_asks 49 = .ok (.bipush (-2), 2)) ∧ (decode cX12_asks 51 = .ok (.ireturn, 1)) := by decide +kernel
theorem dX12_asks_39 : decode cX12_asks 39 = .ok (.aload_n 0, 1) := dcX12_asks_3.1
theorem dX12_asks_40 : decode cX12_asks 40 = .ok (.getfield 97, 3) := dcX12_asks_3.2.1
theorem dX12_asks_43 : decode cX12_asks 43 = .ok (.invokevirtual 182, 3) := dcX12_asks_3.2.2.1
theorem dX12_asks_46 : decode cX12_asks 46 = .ok (.goto 5, 3) := dcX12_asks_3.2.2.2.1
theorem dX12_asks_49 : decode cX12_asks 49 = .ok (.bipush (-2), 2) := dcX12_asks_3.2.2.2.2.1
theorem dX12_asks_51 : decode cX12_asks 51 = .ok (.ireturn, 1) := dcX12_asks_3.2.2.2.2.2
theorem dcX12_sleeper_0 : (decode cX12_sleeper 0 = .ok (.iload_n 1, 1)) ∧ (decode cX12_sleeper 1 = .ok (.iconst 0, 1)) ∧ (decode cX12_sleeper 2 = .ok (.bipush 59, 2)) ∧ (decode cX12_sleeper 4 = .ok (.invokestatic 93, 3)) ∧ (decode cX12_sleeper 7 = .ok (.ifCond .eq 23, 3)) ∧ (decode cX12_sleeper 10 = .ok (.iload_n 2, 1)) ∧ (decode cX12_sleeper 11 = .ok (.iconst 0, 1)) ∧ (decode cX12_sleeper 12 = .ok (.ldc 186, 2)) := by decide +kernel
theorem dX12_sleeper_0 : decode cX12_sleeper 0 = .ok (.iload_n 1, 1) := dcX12_sleeper_0.1
theorem dX12_sleeper_1 : decode cX12_sleeper 1 = .ok (.iconst 0, 1) := dcX12_sleeper_0.2.1
theorem dX12_sleeper_2 : decode cX12_sleeper 2 = .ok (.bipush 59, 2) := dcX12_sleeper_0.2.2.1
theorem dX12_sleeper_4 : decode cX12_sleeper 4 = .ok (.invokestatic 93, 3) := dcX12_sleeper_0.2.2.2.1
theorem dX12_sleeper_7 : decode cX12_sleeper 7 = .ok (.ifCond .eq 23, 3) := dcX12_sleeper_0.2.2.2.2.1
theorem dX12_sleeper_10 : decode cX12_sleeper 10 = .ok (.iload_n 2, 1) := dcX12_sleeper_0.2.2.2.2.2.1
theorem dX12_sleeper_11 : decode cX12_sleeper 11 = .ok (.iconst 0, 1) := dcX12_sleeper_0.2.2.2.2.2.2.1
theorem dX12_sleeper_12 : decode cX12_sleeper 12 = .ok (.ldc 186, 2) := dcX12_sleeper_0.2.2.2.2.2.2.2
theorem dcX12_sleeper_1 : (decode cX12_sleeper 14 = .ok (.invokestatic 93, 3)) ∧ (decode cX12_sleeper 17 = .ok (.ifCond .eq 13, 3)) ∧ (decode cX12_sleeper 20 = .ok (.iload_n 3, 1)) ∧ (decode cX12_sleeper 21 = .ok (.iconst 0, 1)) ∧ (decode cX12_sleeper 22 = .ok (.bipush 99, 2)) ∧ (decode cX12_sleeper 24 = .ok (.invokestatic 93, 3)) ∧ (decode cX12_sleeper 27 = .ok (.ifCond .ne 6, 3)) ∧ (decode cX12_sleeper 30 = .ok (.bipush (-2), 2)) := by decide +kernel
theorem dX12_sleeper_14 : decode cX12_sleeper 14 = .ok (.invokestatic 93, 3) := dcX12_sleeper_1.1
theorem dX12_sleeper_17 : decode cX12_sleeper 17 = .ok (.ifCond .eq 13, 3) := dcX12_sleeper_1.2.1
theorem dX12_sleeper_20 : decode cX12_sleeper 20 = .ok (.iload_n 3, 1) := dcX12_sleeper_1.2.2.1
theorem dX12_sleeper_21 : decode cX12_sleeper 21 = .ok (.iconst 0, 1) := dcX12_sleeper_1.2.2.2.1
theorem dX12_sleeper_22 : decode cX12_sleeper 22 = .ok (.bipush 99, 2) := dcX12_sleeper_1.2.2.2.2.1
theorem dX12_sleeper_24 : decode cX12_sleeper 24 = .ok (.invokestatic 93, 3) := dcX12_sleeper_1.2.2.2.2.2.1
theorem dX12_sleeper_27 : decode cX12_sleeper 27 = .ok (.ifCond .ne 6, 3) := dcX12_sleeper_1.2.2.2.2.2.2.1
theorem dX12_sleeper_30 : decode cX12_sleeper 30 = .ok (.bipush (-2), 2) := dcX12_sleeper_1.2.2.2.2.2.2.2
theorem dcX12_sleeper_2 : (decode cX12_sleeper 32 = .ok (.ireturn, 1)) ∧ (decode cX12_sleeper 33 = .ok (.aload_n 0, 1)) ∧ (decode cX12_sleeper 34 = .ok (.getfield 90, 3)) ∧ (decode cX12_sleeper 37 = .ok (.bipush 6, 2)) ∧ (decode cX12_sleeper 39 = .ok (.if_icmp .ne 6, 3)) ∧ (decode cX12_sleeper 42 = .ok (.bipush (-4), 2)) ∧ (decode cX12_sleeper 44 = .ok (.ireturn, 1)) ∧ (decode cX12_sleeper 45 = .ok (.aload_n 0, 1)) := by decide +kernel
theorem dX12_sleeper_32 : decode cX12_sleeper 32 = .ok (.ireturn, 1) := dcX12_sleeper_2.1
theorem dX12_sleeper_33 : decode cX12_sleeper 33 = .ok (.aload_n 0, 1) := dcX12_sleeper_2.2.1
theorem dX12_sleeper_34 : decode cX12_sleeper 34 = .ok (.getfield 90, 3) := dcX12_sleeper_2.2.2.1
theorem dX12_sleeper_37 : decode cX12_sleeper 37 = .ok (.bipush 6, 2) := dcX12_sleeper_2.2.2.2.1
theorem dX12_sleeper_39 : decode cX12_sleeper 39 = .ok (.if_icmp .ne 6, 3) := dcX12_sleeper_2.2.2.2.2.1
theorem dX12_sleeper_42 : decode cX12_sleeper 42 = .ok (.bipush (-4), 2) := dcX12_sleeper_2.2.2.2.2.2.1
theorem dX12_sleeper_44 : decode cX12_sleeper 44 = .ok (.ireturn, 1) := dcX12_sleeper_2.2.2.2.2.2.2.1
theorem dX12_sleeper_45 : decode cX12_sleeper 45 = .ok (.aload_n 0, 1) := dcX12_sleeper_2.2.2.2.2.2.2.2
theorem dcX12_sleeper_3 : (decode cX12_sleeper 46 = .ok (.getfield 7, 3)) ∧ (decode cX12_sleeper 49 = .ok (.aload_n 0, 1)) ∧ (decode cX12_sleeper 50 = .ok (.getfield 90, 3)) ∧ (decode cX12_sleeper 53 = .ok (.iload_n 1, 1)) ∧ (decode cX12_sleeper 54 = .ok (.bipush 10, 2)) ∧ (decode cX12_sleeper 56 = .ok (.idiv, 1)) ∧ (decode cX12_sleeper 57 = .ok (.iastore, 1)) ∧ (decode cX12_sleeper 58 = .ok (.aload_n 0, 1)) := by decide +kernel
theorem dX12_sleeper_46 : decode cX12_sleeper 46 = .ok (.getfield 7, 3) := dcX12_sleeper_3.1
theorem dX12_sleeper_49 : decode cX12_sleeper 49 = .ok (.aload_n 0, 1) := dcX12_sleeper_3.2.1
theorem dX12_sleeper_50 : decode cX12_sleeper 50 = .ok (.getfield 90, 3) := dcX12_sleeper_3.2.2.1
theorem dX12_sleeper_53 : decode cX12_sleeper 53 = .ok (.iload_n 1, 1) := dcX12_sleeper_3.2.2.2.1
theorem dX12_sleeper_54 : decode cX12_sleeper 54 = .ok (.bipush 10, 2) := dcX12_sleeper_3.2.2.2.2.1
theorem dX12_sleeper_56 : decode cX12_sleeper 56 = .ok (.idiv, 1) := dcX12_sleeper_3.2.2.2.2.2.1
theorem dX12_sleeper_57 : decode cX12_sleeper 57 = .ok (.iastore, 1) := dcX12_sleeper_3.2.2.2.2.2.2.1
theorem dX12_sleeper_58 : decode cX12_sleeper 58 = .ok (.aload_n 0, 1) := dcX12_sleeper_3.2.2.2.2.2.2.2
theorem dcX12_sleeper_4 : (decode cX12_sleeper 59 = .ok (.getfield 13, 3)) ∧ (decode cX12_sleeper 62 = .ok (.aload_n 0, 1)) ∧ (decode cX12_sleeper 63 = .ok (.getfield 90, 3)) ∧ (decode cX12_sleeper 66 = .ok (.iload_n 1, 1)) ∧ (decode cX12_sleeper 67 = .ok (.bipush 10, 2)) ∧ (decode cX12_sleeper 69 = .ok (.irem, 1)) ∧ (decode cX12_sleeper 70 = .ok (.iastore, 1)) ∧ (decode cX12_sleeper 71 = .ok (.aload_n 0, 1)) := by decide +kernel
theorem dX12_sleeper_59 : decode cX12_sleeper 59 = .ok (.getfield 13, 3) := dcX12_sleeper_4.1
theorem dX12_sleeper_62 : decode cX12_sleeper 62 = .ok (.aload_n 0, 1) := dcX12_sleeper_4.2.1
theorem dX12_sleeper_63 : decode cX12_sleeper 63 = .ok (.getfield 90, 3) := dcX12_sleeper_4.2.2.1
theorem dX12_sleeper_66 : decode cX12_sleeper 66 = .ok (.iload_n 1, 1) := dcX12_sleeper_4.2.2.2.1
theorem dX12_sleeper_67 : decode cX12_sleeper 67 = .ok (.bipush 10, 2) := dcX12_sleeper_4.2.2.2.2.1
theorem dX12_sleeper_69 : decode cX12_sleeper 69 = .ok (.irem, 1) := dcX12_sleeper_4.2.2.2.2.2.1
theorem dX12_sleeper_70 : decode cX12_sleeper 70 = .ok (.iastore, 1) := dcX12_sleeper_4.2.2.2.2.2.2.1
theorem dX12_sleeper_71 : decode cX12_sleeper 71 = .ok (.aload_n 0, 1) := dcX12_sleeper_4.2.2.2.2.2.2.2
theorem dcX12_sleeper_5 : (decode cX12_sleeper 72 = .ok (.getfield 19, 3)) ∧ (decode cX12_sleeper 75 = .ok (.aload_n 0, 1)) ∧ (decode cX12_sleeper 76 = .ok (.getfield 90, 3)) ∧ (decode cX12_sleeper 79 = .ok (.iload_n 2, 1)) ∧ (decode cX12_sleeper 80 = .ok (.iastore, 1)) ∧ (decode cX12_sleeper 81 = .ok (.iconst 0, 1)) ∧ (decode cX12_sleeper 82 = .ok (.istore 4, 2)) ∧ (decode cX12_sleeper 84 = .ok (.iload 4, 2)) := by decide +kernel
theorem dX12_sleeper_72 : decode cX12_sleeper 72 = .ok (.getfield 19, 3) := dcX12_sleeper_5.1
theorem dX12_sleeper_75 : decode cX12_sleeper 75 = .ok (.aload_n 0, 1) := dcX12_sleeper_5.2.1
theorem dX12_sleeper_76 : decode cX12_sleeper 76 = .ok (.getfield 90, 3) := dcX12_sleeper_5.2.2.1
theorem dX12_sleeper_79 : decode cX12_sleeper 79 = .ok (.iload_n 2, 1) := dcX12_sleeper_5.2.2.2.1
theorem dX12_sleeper_80 : decode cX12_sleeper 80 = .ok (.iastore, 1) := dcX12_sleeper_5.2.2.2.2.1
theorem dX12_sleeper_81 : decode cX12_sleeper 81 = .ok (.iconst 0, 1) := dcX12_sleeper_5.2.2.2.2.2.1
theorem dX12_sleeper_82 : decode cX12_sleeper 82 = .ok (.istore 4, 2) := dcX12_sleeper_5.2.2.2.2.2.2.1
theorem dX12_sleeper_84 : decode cX12_sleeper 84 = .ok (.iload 4, 2) := dcX12_sleeper_5.2.2.2.2.2.2.2
theorem dcX12_sleeper_6 : (decode cX12_sleeper 86 = .ok (.bipush 16, 2)) ∧ (decode cX12_sleeper 88 = .ok (.if_icmp .ge 25, 3)) ∧ (decode cX12_sleeper 91 = .ok (.aload_n 0, 1)) ∧ (decode cX12_sleeper 92 = .ok (.getfield 16, 3)) ∧ (decode cX12_sleeper 95 = .ok (.bipush 16, 2)) ∧ (decode cX12_sleeper 97 = .ok (.aload_n 0, 1)) ∧ (decode cX12_sleeper 98 = .ok (.getfield 90, 3)) ∧ (decode cX12_sleeper 101 = .ok (.imul, 1)) := by decide +kernel
theorem dX12_sleeper_86 : decode cX12_sleeper 86 = .ok (.bipush 16, 2) := dcX12_sleeper_6.1
theorem dX12_sleeper_88 : decode cX12_sleeper 88 = .ok (.if_icmp .ge 25, 3) := dcX12_sleeper_6.2.1
theorem dX12_sleeper_91 : decode cX12_sleeper 91 = .ok (.aload_n 0, 1) := dcX12_sleeper_6.2.2.1
theorem dX12_sleeper_92 : decode cX12_sleeper 92 = .ok (.getfield 16, 3) := dcX12_sleeper_6.2.2.2.1
theorem dX12_sleeper_95 : decode cX12_sleeper 95 = .ok (.bipush 16, 2) := dcX12_sleeper_6.2.2.2.2.1
theorem dX12_sleeper_97 : decode cX12_sleeper 97 = .ok (.aload_n 0, 1) := dcX12_sleeper_6.2.2.2.2.2.1
theorem dX12_sleeper_98 : decode cX12_sleeper 98 = .ok (.getfield 90, 3) := dcX12_sleeper_6.2.2.2.2.2.2.1
theorem dX12_sleeper_101 : decode cX12_sleeper 101 = .ok (.imul, 1) := dcX12_sleeper_6.2.2.2.2.2.2.2
theorem dcX12_sleeper_7 : (decode cX12_sleeper 102 = .ok (.iload 4, 2)) ∧ (decode cX12_sleeper 104 = .ok (.iadd, 1)) ∧ (decode cX12_sleeper 105 = .ok (.iload_n 3, 1)) ∧ (decode cX12_sleeper 106 = .ok (.iastore, 1)) ∧ (decode cX12_sleeper 107 = .ok (.iinc 4 1, 3)) ∧ (decode cX12_sleeper 110 = .ok (.goto (-26), 3)) ∧ (decode cX12_sleeper 113 = .ok (.aload_n 0, 1)) ∧ (decode cX12_sleeper 114 = .ok (.dup, 1)) := by decide +kernel
theorem dX12_sleeper_102 : decode cX12_sleeper 102 = .ok (.iload 4, 2) := dcX12_sleeper_7.1
theorem dX12_sleeper_104 : decode cX12_sleeper 104 = .ok (.iadd, 1) := dcX12_sleeper_7.2.1
theorem dX12_sleeper_105 : decode cX12_sleeper 105 = .ok (.iload_n 3, 1) := dcX12_sleeper_7.2.2.1
theorem dX12_sleeper_106 : decode cX12_sleeper 106 = .ok (.iastore, 1) := dcX12_sleeper_7.2.2.2.1
theorem dX12_sleeper_107 : decode cX12_sleeper 107 = .ok (.iinc 4 1, 3) := dcX12_sleeper_7.2.2.2.2.1
theorem dX12_sleeper_110 : decode cX12_sleeper 110 = .ok (.goto (-26), 3) := dcX12_sleeper_7.2.2.2.2.2.1
theorem dX12_sleeper_113 : decode cX12_sleeper 113 = .ok (.aload_n 0, 1) := dcX12_sleeper_7.2.2.2.2.2.2.1
theorem dX12_sleeper_114 : decode cX12_sleeper 114 = .ok (.dup, 1) := dcX12_sleeper_7.2.2.2.2.2.2.2
theorem dcX12_sleeper_8 : (decode cX12_sleeper 115 = .ok (.getfield 90, 3)) ∧ (decode cX12_sleeper 118 = .ok (.iconst 1, 1)) ∧ (decode cX12_sleeper 119 = .ok (.iadd, 1)) ∧ (decode cX12_sleeper 120 = .ok (.putfield 90, 3)) ∧ (decode cX12_sleeper 123 = .ok (.aload_n 0, 1)) ∧ (decode cX12_sleeper 124 = .ok (.getfield 90, 3)) ∧ (decode cX12_sleeper 127 = .ok (.iconst 1, 1)) ∧ (decode cX12_sleeper 128 = .ok (.isub, 1)) := by decide +kernel
theorem dX12_sleeper_115 : decode cX12_sleeper 115 = .ok (.getfield 90, 3) := dcX12_sleeper_8.1
theorem dX12_sleeper_118 : decode cX12_sleeper 118 = .ok (.iconst 1, 1) := dcX12_sleeper_8.2.1
theorem dX12_sleeper_119 : decode cX12_sleeper 119 = .ok (.iadd, 1) := dcX12_sleeper_8.2.2.1
theorem dX12_sleeper_120 : decode cX12_sleeper 120 = .ok (.putfield 90, 3) := dcX12_sleeper_8.2.2.2.1
theorem dX12_sleeper_123 : decode cX12_sleeper 123 = .ok (.aload_n 0, 1) := dcX12_sleeper_8.2.2.2.2.1
theorem dX12_sleeper_124 : decode cX12_sleeper 124 = .ok (.getfield 90, 3) := dcX12_sleeper_8.2.2.2.2.2.1
theorem dX12_sleeper_127 : decode cX12_sleeper 127 = .ok (.iconst 1, 1) := dcX12_sleeper_8.2.2.2.2.2.2.1
theorem dX12_sleeper_128 : decode cX12_sleeper 128 = .ok (.isub, 1) := dcX12_sleeper_8.2.2.2.2.2.2.2
theorem dX12_sleeper_129 : decode cX12_sleeper 129 = .ok (.ireturn, 1) := by decide +kernel
theorem dcX12_put_0 : (decode cX12_put 0 = .ok (.aload_n 0, 1)) ∧ (decode cX12_put 1 = .ok (.iload_n 1, 1)) ∧ (decode cX12_put 2 = .ok (.invokevirtual 176, 3)) ∧ (decode cX12_put 5 = .ok (.ifCond .ne 6, 3)) ∧ (decode cX12_put 8 = .ok (.bipush (-5), 2)) ∧ (decode cX12_put 10 = .ok (.ireturn, 1)) ∧ (decode cX12_put 11 = .ok (.iload_n 2, 1)) ∧ (decode cX12_put 12 = .ok (.iconst 0, 1)) := by decide +kernel
theorem dX12_put_0 : decode cX12_put 0 = .ok (.aload_n 0, 1) := dcX12_put_0.1
theorem dX12_put_1 : decode cX12_put 1 = .ok (.iload_n 1, 1) := dcX12_put_0.2.1
theorem dX12_put_2 : decode cX12_put 2 = .ok (.invokevirtual 176, 3) := dcX12_put_0.2.2.1
theorem dX12_put_5 : decode cX12_put 5 = .ok (.ifCond .ne 6, 3) := dcX12_put_0.2.2.2.1
theorem dX12_put_8 : decode cX12_put 8 = .ok (.bipush (-5), 2) := dcX12_put_0.2.2.2.2.1
theorem dX12_put_10 : decode cX12_put 10 = .ok (.ireturn, 1) := dcX12_put_0.2.2.2.2.2.1
theorem dX12_put_11 : decode cX12_put 11 = .ok (.iload_n 2, 1) := dcX12_put_0.2.2.2.2.2.2.1
theorem dX12_put_12 : decode cX12_put 12 = .ok (.iconst 0, 1) := dcX12_put_0.2.2.2.2.2.2.2
theorem dcX12_put_1 : (decode cX12_put 13 = .ok (.bipush 16, 2)) ∧ (decode cX12_put 15 = .ok (.invokestatic 93, 3)) ∧ (decode cX12_put 18 = .ok (.ifCond .eq 24, 3)) ∧ (decode cX12_put 21 = .ok (.iload_n 3, 1)) ∧ (decode cX12_put 22 = .ok (.iconst 0, 1)) ∧ (decode cX12_put 23 = .ok (.iload_n 2, 1)) ∧ (decode cX12_put 24 = .ok (.bipush 16, 2)) ∧ (decode cX12_put 26 = .ok (.if_icmp .ne 8, 3)) := by decide +kernel
theorem dX12_put_13 : decode cX12_put 13 = .ok (.bipush 16, 2) := dcX12_put_1.1
theorem dX12_put_15 : decode cX12_put 15 = .ok (.invokestatic 93, 3) := dcX12_put_1.2.1
theorem dX12_put_18 : decode cX12_put 18 = .ok (.ifCond .eq 24, 3) := dcX12_put_1.2.2.1
theorem dX12_put_21 : decode cX12_put 21 = .ok (.iload_n 3, 1) := dcX12_put_1.2.2.2.1
theorem dX12_put_22 : decode cX12_put 22 = .ok (.iconst 0, 1) := dcX12_put_1.2.2.2.2.1
theorem dX12_put_23 : decode cX12_put 23 = .ok (.iload_n 2, 1) := dcX12_put_1.2.2.2.2.2.1
theorem dX12_put_24 : decode cX12_put 24 = .ok (.bipush 16, 2) := dcX12_put_1.2.2.2.2.2.2.1
theorem dX12_put_26 : decode cX12_put 26 = .ok (.if_icmp .ne 8, 3) := dcX12_put_1.2.2.2.2.2.2.2
theorem dcX12_put_2 : (decode cX12_put 29 = .ok (.ldc 186, 2)) ∧ (decode cX12_put 31 = .ok (.goto 5, 3)) ∧ (decode cX12_put 34 = .ok (.bipush 99, 2)) ∧ (decode cX12_put 36 = .ok (.invokestatic 93, 3)) ∧ (decode cX12_put 39 = .ok (.ifCond .ne 6, 3)) ∧ (decode cX12_put 42 = .ok (.bipush (-7), 2)) ∧ (decode cX12_put 44 = .ok (.ireturn, 1)) ∧ (decode cX12_put 45 = .ok (.iload_n 2, 1)) := by decide +kernel
theorem dX12_put_29 : decode cX12_put 29 = .ok (.ldc 186, 2) := dcX12_put_2.1
theorem dX12_put_31 : decode cX12_put 31 = .ok (.goto 5, 3) := dcX12_put_2.2.1
theorem dX12_put_34 : decode cX12_put 34 = .ok (.bipush 99, 2) := dcX12_put_2.2.2.1
theorem dX12_put_36 : decode cX12_put 36 = .ok (.invokestatic 93, 3) := dcX12_put_2.2.2.2.1
theorem dX12_put_39 : decode cX12_put 39 = .ok (.ifCond .ne 6, 3) := dcX12_put_2.2.2.2.2.1
theorem dX12_put_42 : decode cX12_put 42 = .ok (.bipush (-7), 2) := dcX12_put_2.2.2.2.2.2.1
theorem dX12_put_44 : decode cX12_put 44 = .ok (.ireturn, 1) := dcX12_put_2.2.2.2.2.2.2.1
theorem dX12_put_45 : decode cX12_put 45 = .ok (.iload_n 2, 1) := dcX12_put_2.2.2.2.2.2.2.2
theorem dcX12_put_3 : (decode cX12_put 46 = .ok (.bipush 16, 2)) ∧ (decode cX12_put 48 = .ok (.if_icmp .ne 12, 3)) ∧ (decode cX12_put 51 = .ok (.aload_n 0, 1)) ∧ (decode cX12_put 52 = .ok (.getfield 19, 3)) ∧ (decode cX12_put 55 = .ok (.iload_n 1, 1)) ∧ (decode cX12_put 56 = .ok (.iaload, 1)) ∧ (decode cX12_put 57 = .ok (.goto 14, 3)) ∧ (decode cX12_put 60 = .ok (.aload_n 0, 1)) := by decide +kernel
theorem dX12_put_46 : decode cX12_put 46 = .ok (.bipush 16, 2) := dcX12_put_3.1
theorem dX12_put_48 : decode cX12_put 48 = .ok (.if_icmp .ne 12, 3) := dcX12_put_3.2.1
theorem dX12_put_51 : decode cX12_put 51 = .ok (.aload_n 0, 1) := dcX12_put_3.2.2.1
theorem dX12_put_52 : decode cX12_put 52 = .ok (.getfield 19, 3) := dcX12_put_3.2.2.2.1
theorem dX12_put_55 : decode cX12_put 55 = .ok (.iload_n 1, 1) := dcX12_put_3.2.2.2.2.1
theorem dX12_put_56 : decode cX12_put 56 = .ok (.iaload, 1) := dcX12_put_3.2.2.2.2.2.1
theorem dX12_put_57 : decode cX12_put 57 = .ok (.goto 14, 3) := dcX12_put_3.2.2.2.2.2.2.1
theorem dX12_put_60 : decode cX12_put 60 = .ok (.aload_n 0, 1) := dcX12_put_3.2.2.2.2.2.2.2
theorem dcX12_put_4 : (decode cX12_put 61 = .ok (.getfield 16, 3)) ∧ (decode cX12_put 64 = .ok (.bipush 16, 2)) ∧ (decode cX12_put 66 = .ok (.iload_n 1, 1)) ∧ (decode cX12_put 67 = .ok (.imul, 1)) ∧ (decode cX12_put 68 = .ok (.iload_n 2, 1)) ∧ (decode cX12_put 69 = .ok (.iadd, 1)) ∧ (decode cX12_put 70 = .ok (.iaload, 1)) ∧ (decode cX12_put 71 = .ok (.istore 4, 2)) := by decide +kernel
theorem dX12_put_61 : decode cX12_put 61 = .ok (.getfield 16, 3) := dcX12_put_4.1
theorem dX12_put_64 : decode cX12_put 64 = .ok (.bipush 16, 2) := dcX12_put_4.2.1
theorem dX12_put_66 : decode cX12_put 66 = .ok (.iload_n 1, 1) := dcX12_put_4.2.2.1
theorem dX12_put_67 : decode cX12_put 67 = .ok (.imul, 1) := dcX12_put_4.2.2.2.1
theorem dX12_put_68 : decode cX12_put 68 = .ok (.iload_n 2, 1) := dcX12_put_4.2.2.2.2.1
theorem dX12_put_69 : decode cX12_put 69 = .ok (.iadd, 1) := dcX12_put_4.2.2.2.2.2.1
theorem dX12_put_70 : decode cX12_put 70 = .ok (.iaload, 1) := dcX12_put_4.2.2.2.2.2.2.1
theorem dX12_put_71 : decode cX12_put 71 = .ok (.istore 4, 2) := dcX12_put_4.2.2.2.2.2.2.2
theorem dcX12_put_5 : (decode cX12_put 73 = .ok (.iload_n 2, 1)) ∧ (decode cX12_put 74 = .ok (.bipush 16, 2)) ∧ (decode cX12_put 76 = .ok (.if_icmp .ne 13, 3)) ∧ (decode cX12_put 79 = .ok (.aload_n 0, 1)) ∧ (decode cX12_put 80 = .ok (.getfield 19, 3)) ∧ (decode cX12_put 83 = .ok (.iload_n 1, 1)) ∧ (decode cX12_put 84 = .ok (.iload_n 3, 1)) ∧ (decode cX12_put 85 = .ok (.iastore, 1)) := by decide +kernel
theorem dX12_put_73 : decode cX12_put 73 = .ok (.iload_n 2, 1) := dcX12_put_5.1
theorem dX12_put_74 : decode cX12_put 74 = .ok (.bipush 16, 2) := dcX12_put_5.2.1
theorem dX12_put_76 : decode cX12_put 76 = .ok (.if_icmp .ne 13, 3) := dcX12_put_5.2.2.1
theorem dX12_put_79 : decode cX12_put 79 = .ok (.aload_n 0, 1) := dcX12_put_5.2.2.2.1
theorem dX12_put_80 : decode cX12_put 80 = .ok (.getfield 19, 3) := dcX12_put_5.2.2.2.2.1
theorem dX12_put_83 : decode cX12_put 83 = .ok (.iload_n 1, 1) := dcX12_put_5.2.2.2.2.2.1
theorem dX12_put_84 : decode cX12_put 84 = .ok (.iload_n 3, 1) := dcX12_put_5.2.2.2.2.2.2.1
theorem dX12_put_85 : decode cX12_put 85 = .ok (.iastore, 1) := dcX12_put_5.2.2.2.2.2.2.2
theorem dcX12_put_6 : (decode cX12_put 86 = .ok (.goto 15, 3)) ∧ (decode cX12_put 89 = .ok (.aload_n 0, 1)) ∧ (decode cX12_put 90 = .ok (.getfield 16, 3)) ∧ (decode cX12_put 93 = .ok (.bipush 16, 2)) ∧ (decode cX12_put 95 = .ok (.iload_n 1, 1)) ∧ (decode cX12_put 96 = .ok (.imul, 1)) ∧ (decode cX12_put 97 = .ok (.iload_n 2, 1)) ∧ (decode cX12_put 98 = .ok (.iadd, 1)) := by decide +kernel
theorem dX12_put_86 : decode cX12_put 86 = .ok (.goto 15, 3) := dcX12_put_6.1
theorem dX12_put_89 : decode cX12_put 89 = .ok (.aload_n 0, 1) := dcX12_put_6.2.1
theorem dX12_put_90 : decode cX12_put 90 = .ok (.getfield 16, 3) := dcX12_put_6.2.2.1
theorem dX12_put_93 : decode cX12_put 93 = .ok (.bipush 16, 2) := dcX12_put_6.2.2.2.1
theorem dX12_put_95 : decode cX12_put 95 = .ok (.iload_n 1, 1) := dcX12_put_6.2.2.2.2.1
theorem dX12_put_96 : decode cX12_put 96 = .ok (.imul, 1) := dcX12_put_6.2.2.2.2.2.1
theorem dX12_put_97 : decode cX12_put 97 = .ok (.iload_n 2, 1) := dcX12_put_6.2.2.2.2.2.2.1
theorem dX12_put_98 : decode cX12_put 98 = .ok (.iadd, 1) := dcX12_put_6.2.2.2.2.2.2.2
theorem dcX12_put_7 : (decode cX12_put 99 = .ok (.iload_n 3, 1)) ∧ (decode cX12_put 100 = .ok (.iastore, 1)) ∧ (decode cX12_put 101 = .ok (.iload 4, 2)) ∧ (decode cX12_put 103 = .ok (.ireturn, 1)) := by decide +kernel
theorem dX12_put_99 : decode cX12_put 99 = .ok (.iload_n 3, 1) := dcX12_put_7.1
theorem dX12_put_100 : decode cX12_put 100 = .ok (.iastore, 1) := dcX12_put_7.2.1
theorem dX12_put_101 : decode cX12_put 101 = .ok (.iload 4, 2) := dcX12_put_7.2.2.1
theorem dX12_put_103 : decode cX12_put 103 = .ok (.ireturn, 1) := dcX12_put_7.2.2.2
theorem dcX12_dullAll_0 : (decode cX12_dullAll 0 = .ok (.iconst 0, 1)) ∧ (decode cX12_dullAll 1 = .ok (.istore_n 2, 1)) ∧ (decode cX12_dullAll 2 = .ok (.iconst 0, 1)) ∧ (decode cX12_dullAll 3 = .ok (.istore_n 3, 1)) ∧ (decode cX12_dullAll 4 = .ok (.iload_n 3, 1)) ∧ (decode cX12_dullAll 5 = .ok (.bipush 16, 2)) ∧ (decode cX12_dullAll 7 = .ok (.if_icmp .ge 23, 3)) ∧ (decode cX12_dullAll 10 = .ok (.iload_n 2, 1)) := by decide +kernel
theorem dX12_dullAll_0 : decode cX12_dullAll 0 = .ok (.iconst 0, 1) := dcX12_dullAll_0.1
theorem dX12_dullAll_1 : decode cX12_dullAll 1 = .ok (.istore_n 2, 1) := dcX12_dullAll_0.2.1
theorem dX12_dullAll_2 : decode cX12_dullAll 2 = .ok (.iconst 0, 1) := dcX12_dullAll_0.2.2.1
theorem dX12_dullAll_3 : decode cX12_dullAll 3 = .ok (.istore_n 3, 1) := dcX12_dullAll_0.2.2.2.1
theorem dX12_dullAll_4 : decode cX12_dullAll 4 = .ok (.iload_n 3, 1) := dcX12_dullAll_0.2.2.2.2.1
theorem dX12_dullAll_5 : decode cX12_dullAll 5 = .ok (.bipush 16, 2) := dcX12_dullAll_0.2.2.2.2.2.1
theorem dX12_dullAll_7 : decode cX12_dullAll 7 = .ok (.if_icmp .ge 23, 3) := dcX12_dullAll_0.2.2.2.2.2.2.1
theorem dX12_dullAll_10 : decode cX12_dullAll 10 = .ok (.iload_n 2, 1) := dcX12_dullAll_0.2.2.2.2.2.2.2
theorem dcX12_dullAll_1 : (decode cX12_dullAll 11 = .ok (.aload_n 0, 1)) ∧ (decode cX12_dullAll 12 = .ok (.getfield 16, 3)) ∧ (decode cX12_dullAll 15 = .ok (.bipush 16, 2)) ∧ (decode cX12_dullAll 17 = .ok (.iload_n 1, 1)) ∧ (decode cX12_dullAll 18 = .ok (.imul, 1)) ∧ (decode cX12_dullAll 19 = .ok (.iload_n 3, 1)) ∧ (decode cX12_dullAll 20 = .ok (.iadd, 1)) ∧ (decode cX12_dullAll 21 = .ok (.iaload, 1)) := by decide +kernel
theorem dX12_dullAll_11 : decode cX12_dullAll 11 = .ok (.aload_n 0, 1) := dcX12_dullAll_1.1
theorem dX12_dullAll_12 : decode cX12_dullAll 12 = .ok (.getfield 16, 3) := dcX12_dullAll_1.2.1
theorem dX12_dullAll_15 : decode cX12_dullAll 15 = .ok (.bipush 16, 2) := dcX12_dullAll_1.2.2.1
theorem dX12_dullAll_17 : decode cX12_dullAll 17 = .ok (.iload_n 1, 1) := dcX12_dullAll_1.2.2.2.1
theorem dX12_dullAll_18 : decode cX12_dullAll 18 = .ok (.imul, 1) := dcX12_dullAll_1.2.2.2.2.1
theorem dX12_dullAll_19 : decode cX12_dullAll 19 = .ok (.iload_n 3, 1) := dcX12_dullAll_1.2.2.2.2.2.1
theorem dX12_dullAll_20 : decode cX12_dullAll 20 = .ok (.iadd, 1) := dcX12_dullAll_1.2.2.2.2.2.2.1
theorem dX12_dullAll_21 : decode cX12_dullAll 21 = .ok (.iaload, 1) := dcX12_dullAll_1.2.2.2.2.2.2.2
theorem dcX12_dullAll_2 : (decode cX12_dullAll 22 = .ok (.iadd, 1)) ∧ (decode cX12_dullAll 23 = .ok (.istore_n 2, 1)) ∧ (decode cX12_dullAll 24 = .ok (.iinc 3 1, 3)) ∧ (decode cX12_dullAll 27 = .ok (.goto (-23), 3)) ∧ (decode cX12_dullAll 30 = .ok (.iload_n 2, 1)) ∧ (decode cX12_dullAll 31 = .ok (.ireturn, 1)) := by decide +kernel
theorem dX12_dullAll_22 : decode cX12_dullAll 22 = .ok (.iadd, 1) := dcX12_dullAll_2.1
theorem dX12_dullAll_23 : decode cX12_dullAll 23 = .ok (.istore_n 2, 1) := dcX12_dullAll_2.2.1
theorem dX12_dullAll_24 : decode cX12_dullAll 24 = .ok (.iinc 3 1, 3) := dcX12_dullAll_2.2.2.1
theorem dX12_dullAll_27 : decode cX12_dullAll 27 = .ok (.goto (-23), 3) := dcX12_dullAll_2.2.2.2.1
theorem dX12_dullAll_30 : decode cX12_dullAll 30 = .ok (.iload_n 2, 1) := dcX12_dullAll_2.2.2.2.2.1
theorem dX12_dullAll_31 : decode cX12_dullAll 31 = .ok (.ireturn, 1) := dcX12_dullAll_2.2.2.2.2.2
theorem dcX12_told_0 : (decode cX12_told 0 = .ok (.aload_n 0, 1)) ∧ (decode cX12_told 1 = .ok (.iload_n 1, 1)) ∧ (decode cX12_told 2 = .ok (.invokevirtual 176, 3)) ∧ (decode cX12_told 5 = .ok (.ifCond .ne 6, 3)) ∧ (decode cX12_told 8 = .ok (.bipush (-5), 2)) ∧ (decode cX12_told 10 = .ok (.ireturn, 1)) ∧ (decode cX12_told 11 = .ok (.iload_n 2, 1)) ∧ (decode cX12_told 12 = .ok (.iconst 0, 1)) := by decide +kernel
theorem dX12_told_0 : decode cX12_told 0 = .ok (.aload_n 0, 1) := dcX12_told_0.1
theorem dX12_told_1 : decode cX12_told 1 = .ok (.iload_n 1, 1) := dcX12_told_0.2.1
theorem dX12_told_2 : decode cX12_told 2 = .ok (.invokevirtual 176, 3) := dcX12_told_0.2.2.1
theorem dX12_told_5 : decode cX12_told 5 = .ok (.ifCond .ne 6, 3) := dcX12_told_0.2.2.2.1
theorem dX12_told_8 : decode cX12_told 8 = .ok (.bipush (-5), 2) := dcX12_told_0.2.2.2.2.1
theorem dX12_told_10 : decode cX12_told 10 = .ok (.ireturn, 1) := dcX12_told_0.2.2.2.2.2.1
theorem dX12_told_11 : decode cX12_told 11 = .ok (.iload_n 2, 1) := dcX12_told_0.2.2.2.2.2.2.1
theorem dX12_told_12 : decode cX12_told 12 = .ok (.iconst 0, 1) := dcX12_told_0.2.2.2.2.2.2.2
theorem dcX12_told_1 : (decode cX12_told 13 = .ok (.bipush 15, 2)) ∧ (decode cX12_told 15 = .ok (.invokestatic 93, 3)) ∧ (decode cX12_told 18 = .ok (.ifCond .eq 15, 3)) ∧ (decode cX12_told 21 = .ok (.aload_n 0, 1)) ∧ (decode cX12_told 22 = .ok (.getfield 16, 3)) ∧ (decode cX12_told 25 = .ok (.bipush 16, 2)) ∧ (decode cX12_told 27 = .ok (.iload_n 1, 1)) ∧ (decode cX12_told 28 = .ok (.imul, 1)) := by decide +kernel
theorem dX12_told_13 : decode cX12_told 13 = .ok (.bipush 15, 2) := dcX12_told_1.1
theorem dX12_told_15 : decode cX12_told 15 = .ok (.invokestatic 93, 3) := dcX12_told_1.2.1
theorem dX12_told_18 : decode cX12_told 18 = .ok (.ifCond .eq 15, 3) := dcX12_told_1.2.2.1
theorem dX12_told_21 : decode cX12_told 21 = .ok (.aload_n 0, 1) := dcX12_told_1.2.2.2.1
theorem dX12_told_22 : decode cX12_told 22 = .ok (.getfield 16, 3) := dcX12_told_1.2.2.2.2.1
theorem dX12_told_25 : decode cX12_told 25 = .ok (.bipush 16, 2) := dcX12_told_1.2.2.2.2.2.1
theorem dX12_told_27 : decode cX12_told 27 = .ok (.iload_n 1, 1) := dcX12_told_1.2.2.2.2.2.2.1
theorem dX12_told_28 : decode cX12_told 28 = .ok (.imul, 1) := dcX12_told_1.2.2.2.2.2.2.2
theorem dcX12_told_2 : (decode cX12_told 29 = .ok (.iload_n 2, 1)) ∧ (decode cX12_told 30 = .ok (.iadd, 1)) ∧ (decode cX12_told 31 = .ok (.iaload, 1)) ∧ (decode cX12_told 32 = .ok (.ireturn, 1)) ∧ (decode cX12_told 33 = .ok (.iload_n 2, 1)) ∧ (decode cX12_told 34 = .ok (.tableswitch 57 16 19 #[30, 37, 44, 51], 30)) ∧ (decode cX12_told 64 = .ok (.aload_n 0, 1)) ∧ (decode cX12_told 65 = .ok (.getfield 19, 3)) := by decide +kernel
theorem dX12_told_29 : decode cX12_told 29 = .ok (.iload_n 2, 1) := dcX12_told_2.1
theorem dX12_told_30 : decode cX12_told 30 = .ok (.iadd, 1) := dcX12_told_2.2.1
theorem dX12_told_31 : decode cX12_told 31 = .ok (.iaload, 1) := dcX12_told_2.2.2.1
theorem dX12_told_32 : decode cX12_told 32 = .ok (.ireturn, 1) := dcX12_told_2.2.2.2.1
theorem dX12_told_33 : decode cX12_told 33 = .ok (.iload_n 2, 1) := dcX12_told_2.2.2.2.2.1
theorem dX12_told_34 : decode cX12_told 34 = .ok (.tableswitch 57 16 19 #[30, 37, 44, 51], 30) := dcX12_told_2.2.2.2.2.2.1
theorem dX12_told_64 : decode cX12_told 64 = .ok (.aload_n 0, 1) := dcX12_told_2.2.2.2.2.2.2.1
theorem dX12_told_65 : decode cX12_told 65 = .ok (.getfield 19, 3) := dcX12_told_2.2.2.2.2.2.2.2
theorem dcX12_told_3 : (decode cX12_told 68 = .ok (.iload_n 1, 1)) ∧ (decode cX12_told 69 = .ok (.iaload, 1)) ∧ (decode cX12_told 70 = .ok (.ireturn, 1)) ∧ (decode cX12_told 71 = .ok (.aload_n 0, 1)) ∧ (decode cX12_told 72 = .ok (.getfield 7, 3)) ∧ (decode cX12_told 75 = .ok (.iload_n 1, 1)) ∧ (decode cX12_told 76 = .ok (.iaload, 1)) ∧ (decode cX12_told 77 = .ok (.ireturn, 1)) := by decide +kernel
theorem dX12_told_68 : decode cX12_told 68 = .ok (.iload_n 1, 1) := dcX12_told_3.1
theorem dX12_told_69 : decode cX12_told 69 = .ok (.iaload, 1) := dcX12_told_3.2.1
theorem dX12_told_70 : decode cX12_told 70 = .ok (.ireturn, 1) := dcX12_told_3.2.2.1
theorem dX12_told_71 : decode cX12_told 71 = .ok (.aload_n 0, 1) := dcX12_told_3.2.2.2.1
theorem dX12_told_72 : decode cX12_told 72 = .ok (.getfield 7, 3) := dcX12_told_3.2.2.2.2.1
theorem dX12_told_75 : decode cX12_told 75 = .ok (.iload_n 1, 1) := dcX12_told_3.2.2.2.2.2.1
theorem dX12_told_76 : decode cX12_told 76 = .ok (.iaload, 1) := dcX12_told_3.2.2.2.2.2.2.1
theorem dX12_told_77 : decode cX12_told 77 = .ok (.ireturn, 1) := dcX12_told_3.2.2.2.2.2.2.2
theorem dcX12_told_4 : (decode cX12_told 78 = .ok (.aload_n 0, 1)) ∧ (decode cX12_told 79 = .ok (.getfield 13, 3)) ∧ (decode cX12_told 82 = .ok (.iload_n 1, 1)) ∧ (decode cX12_told 83 = .ok (.iaload, 1)) ∧ (decode cX12_told 84 = .ok (.ireturn, 1)) ∧ (decode cX12_told 85 = .ok (.aload_n 0, 1)) ∧ (decode cX12_told 86 = .ok (.iload_n 1, 1)) ∧ (decode cX12_told 87 = .ok (.invokevirtual 187, 3)) := by decide +kernel
theorem dX12_told_78 : decode cX12_told 78 = .ok (.aload_n 0, 1) := dcX12_told_4.1
theorem dX12_told_79 : decode cX12_told 79 = .ok (.getfield 13, 3) := dcX12_told_4.2.1
theorem dX12_told_82 : decode cX12_told 82 = .ok (.iload_n 1, 1) := dcX12_told_4.2.2.1
theorem dX12_told_83 : decode cX12_told 83 = .ok (.iaload, 1) := dcX12_told_4.2.2.2.1
theorem dX12_told_84 : decode cX12_told 84 = .ok (.ireturn, 1) := dcX12_told_4.2.2.2.2.1
theorem dX12_told_85 : decode cX12_told 85 = .ok (.aload_n 0, 1) := dcX12_told_4.2.2.2.2.2.1
theorem dX12_told_86 : decode cX12_told 86 = .ok (.iload_n 1, 1) := dcX12_told_4.2.2.2.2.2.2.1
theorem dX12_told_87 : decode cX12_told 87 = .ok (.invokevirtual 187, 3) := dcX12_told_4.2.2.2.2.2.2.2
theorem dcX12_told_5 : (decode cX12_told 90 = .ok (.ireturn, 1)) ∧ (decode cX12_told 91 = .ok (.bipush (-7), 2)) ∧ (decode cX12_told 93 = .ok (.ireturn, 1)) := by decide +kernel
theorem dX12_told_90 : decode cX12_told 90 = .ok (.ireturn, 1) := dcX12_told_5.1
theorem dX12_told_91 : decode cX12_told 91 = .ok (.bipush (-7), 2) := dcX12_told_5.2.1
theorem dX12_told_93 : decode cX12_told 93 = .ok (.ireturn, 1) := dcX12_told_5.2.2
theorem dcX12_dullerOf_0 : (decode cX12_dullerOf 0 = .ok (.aload_n 0, 1)) ∧ (decode cX12_dullerOf 1 = .ok (.getfield 7, 3)) ∧ (decode cX12_dullerOf 4 = .ok (.iload_n 1, 1)) ∧ (decode cX12_dullerOf 5 = .ok (.iaload, 1)) ∧ (decode cX12_dullerOf 6 = .ok (.iconst 4, 1)) ∧ (decode cX12_dullerOf 7 = .ok (.if_icmp .ne 5, 3)) ∧ (decode cX12_dullerOf 10 = .ok (.iconst 0, 1)) ∧ (decode cX12_dullerOf 11 = .ok (.ireturn, 1)) := by decide +kernel
theorem dX12_dullerOf_0 : decode cX12_dullerOf 0 = .ok (.aload_n 0, 1) := dcX12_dullerOf_0.1
theorem dX12_dullerOf_1 : decode cX12_dullerOf 1 = .ok (.getfield 7, 3) := dcX12_dullerOf_0.2.1
theorem dX12_dullerOf_4 : decode cX12_dullerOf 4 = .ok (.iload_n 1, 1) := dcX12_dullerOf_0.2.2.1
theorem dX12_dullerOf_5 : decode cX12_dullerOf 5 = .ok (.iaload, 1) := dcX12_dullerOf_0.2.2.2.1
theorem dX12_dullerOf_6 : decode cX12_dullerOf 6 = .ok (.iconst 4, 1) := dcX12_dullerOf_0.2.2.2.2.1
theorem dX12_dullerOf_7 : decode cX12_dullerOf 7 = .ok (.if_icmp .ne 5, 3) := dcX12_dullerOf_0.2.2.2.2.2.1
theorem dX12_dullerOf_10 : decode cX12_dullerOf 10 = .ok (.iconst 0, 1) := dcX12_dullerOf_0.2.2.2.2.2.2.1
theorem dX12_dullerOf_11 : decode cX12_dullerOf 11 = .ok (.ireturn, 1) := dcX12_dullerOf_0.2.2.2.2.2.2.2
theorem dcX12_dullerOf_1 : (decode cX12_dullerOf 12 = .ok (.aload_n 0, 1)) ∧ (decode cX12_dullerOf 13 = .ok (.iconst 0, 1)) ∧ (decode cX12_dullerOf 14 = .ok (.iload_n 1, 1)) ∧ (decode cX12_dullerOf 15 = .ok (.iload_n 2, 1)) ∧ (decode cX12_dullerOf 16 = .ok (.iload_n 3, 1)) ∧ (decode cX12_dullerOf 17 = .ok (.iload 4, 2)) ∧ (decode cX12_dullerOf 19 = .ok (.invokevirtual 182, 3)) ∧ (decode cX12_dullerOf 22 = .ok (.istore 5, 2)) := by decide +kernel
theorem dX12_dullerOf_12 : decode cX12_dullerOf 12 = .ok (.aload_n 0, 1) := dcX12_dullerOf_1.1
theorem dX12_dullerOf_13 : decode cX12_dullerOf 13 = .ok (.iconst 0, 1) := dcX12_dullerOf_1.2.1
theorem dX12_dullerOf_14 : decode cX12_dullerOf 14 = .ok (.iload_n 1, 1) := dcX12_dullerOf_1.2.2.1
theorem dX12_dullerOf_15 : decode cX12_dullerOf 15 = .ok (.iload_n 2, 1) := dcX12_dullerOf_1.2.2.2.1
theorem dX12_dullerOf_16 : decode cX12_dullerOf 16 = .ok (.iload_n 3, 1) := dcX12_dullerOf_1.2.2.2.2.1
theorem dX12_dullerOf_17 : decode cX12_dullerOf 17 = .ok (.iload 4, 2) := dcX12_dullerOf_1.2.2.2.2.2.1
theorem dX12_dullerOf_19 : decode cX12_dullerOf 19 = .ok (.invokevirtual 182, 3) := dcX12_dullerOf_1.2.2.2.2.2.2.1
theorem dX12_dullerOf_22 : decode cX12_dullerOf 22 = .ok (.istore 5, 2) := dcX12_dullerOf_1.2.2.2.2.2.2.2
theorem dcX12_dullerOf_2 : (decode cX12_dullerOf 24 = .ok (.aload_n 0, 1)) ∧ (decode cX12_dullerOf 25 = .ok (.getfield 7, 3)) ∧ (decode cX12_dullerOf 28 = .ok (.iload_n 1, 1)) ∧ (decode cX12_dullerOf 29 = .ok (.iaload, 1)) ∧ (decode cX12_dullerOf 30 = .ok (.iconst 1, 1)) ∧ (decode cX12_dullerOf 31 = .ok (.if_icmp .eq 13, 3)) ∧ (decode cX12_dullerOf 34 = .ok (.aload_n 0, 1)) ∧ (decode cX12_dullerOf 35 = .ok (.getfield 7, 3)) := by decide +kernel
theorem dX12_dullerOf_24 : decode cX12_dullerOf 24 = .ok (.aload_n 0, 1) := dcX12_dullerOf_2.1
theorem dX12_dullerOf_25 : decode cX12_dullerOf 25 = .ok (.getfield 7, 3) := dcX12_dullerOf_2.2.1
theorem dX12_dullerOf_28 : decode cX12_dullerOf 28 = .ok (.iload_n 1, 1) := dcX12_dullerOf_2.2.2.1
theorem dX12_dullerOf_29 : decode cX12_dullerOf 29 = .ok (.iaload, 1) := dcX12_dullerOf_2.2.2.2.1
theorem dX12_dullerOf_30 : decode cX12_dullerOf 30 = .ok (.iconst 1, 1) := dcX12_dullerOf_2.2.2.2.2.1
theorem dX12_dullerOf_31 : decode cX12_dullerOf 31 = .ok (.if_icmp .eq 13, 3) := dcX12_dullerOf_2.2.2.2.2.2.1
theorem dX12_dullerOf_34 : decode cX12_dullerOf 34 = .ok (.aload_n 0, 1) := dcX12_dullerOf_2.2.2.2.2.2.2.1
theorem dX12_dullerOf_35 : decode cX12_dullerOf 35 = .ok (.getfield 7, 3) := dcX12_dullerOf_2.2.2.2.2.2.2.2
theorem dcX12_dullerOf_3 : (decode cX12_dullerOf 38 = .ok (.iload_n 1, 1)) ∧ (decode cX12_dullerOf 39 = .ok (.iaload, 1)) ∧ (decode cX12_dullerOf 40 = .ok (.iconst 3, 1)) ∧ (decode cX12_dullerOf 41 = .ok (.if_icmp .ne 16, 3)) ∧ (decode cX12_dullerOf 44 = .ok (.iload_n 2, 1)) ∧ (decode cX12_dullerOf 45 = .ok (.invokestatic 190, 3)) ∧ (decode cX12_dullerOf 48 = .ok (.ifCond .eq 9, 3)) ∧ (decode cX12_dullerOf 51 = .ok (.iload 5, 2)) := by decide +kernel
theorem dX12_dullerOf_38 : decode cX12_dullerOf 38 = .ok (.iload_n 1, 1) := dcX12_dullerOf_3.1
theorem dX12_dullerOf_39 : decode cX12_dullerOf 39 = .ok (.iaload, 1) := dcX12_dullerOf_3.2.1
theorem dX12_dullerOf_40 : decode cX12_dullerOf 40 = .ok (.iconst 3, 1) := dcX12_dullerOf_3.2.2.1
theorem dX12_dullerOf_41 : decode cX12_dullerOf 41 = .ok (.if_icmp .ne 16, 3) := dcX12_dullerOf_3.2.2.2.1
theorem dX12_dullerOf_44 : decode cX12_dullerOf 44 = .ok (.iload_n 2, 1) := dcX12_dullerOf_3.2.2.2.2.1
theorem dX12_dullerOf_45 : decode cX12_dullerOf 45 = .ok (.invokestatic 190, 3) := dcX12_dullerOf_3.2.2.2.2.2.1
theorem dX12_dullerOf_48 : decode cX12_dullerOf 48 = .ok (.ifCond .eq 9, 3) := dcX12_dullerOf_3.2.2.2.2.2.2.1
theorem dX12_dullerOf_51 : decode cX12_dullerOf 51 = .ok (.iload 5, 2) := dcX12_dullerOf_3.2.2.2.2.2.2.2
theorem dcX12_dullerOf_4 : (decode cX12_dullerOf 53 = .ok (.iconst 2, 1)) ∧ (decode cX12_dullerOf 54 = .ok (.imul, 1)) ∧ (decode cX12_dullerOf 55 = .ok (.istore 5, 2)) ∧ (decode cX12_dullerOf 57 = .ok (.aload_n 0, 1)) ∧ (decode cX12_dullerOf 58 = .ok (.getfield 7, 3)) ∧ (decode cX12_dullerOf 61 = .ok (.iload_n 1, 1)) ∧ (decode cX12_dullerOf 62 = .ok (.iaload, 1)) ∧ (decode cX12_dullerOf 63 = .ok (.iconst 3, 1)) := by decide +kernel
theorem dX12_dullerOf_53 : decode cX12_dullerOf 53 = .ok (.iconst 2, 1) := dcX12_dullerOf_4.1
theorem dX12_dullerOf_54 : decode cX12_dullerOf 54 = .ok (.imul, 1) := dcX12_dullerOf_4.2.1
theorem dX12_dullerOf_55 : decode cX12_dullerOf 55 = .ok (.istore 5, 2) := dcX12_dullerOf_4.2.2.1
theorem dX12_dullerOf_57 : decode cX12_dullerOf 57 = .ok (.aload_n 0, 1) := dcX12_dullerOf_4.2.2.2.1
theorem dX12_dullerOf_58 : decode cX12_dullerOf 58 = .ok (.getfield 7, 3) := dcX12_dullerOf_4.2.2.2.2.1
theorem dX12_dullerOf_61 : decode cX12_dullerOf 61 = .ok (.iload_n 1, 1) := dcX12_dullerOf_4.2.2.2.2.2.1
theorem dX12_dullerOf_62 : decode cX12_dullerOf 62 = .ok (.iaload, 1) := dcX12_dullerOf_4.2.2.2.2.2.2.1
theorem dX12_dullerOf_63 : decode cX12_dullerOf 63 = .ok (.iconst 3, 1) := dcX12_dullerOf_4.2.2.2.2.2.2.2
theorem dcX12_dullerOf_5 : (decode cX12_dullerOf 64 = .ok (.if_icmp .ne 15, 3)) ∧ (decode cX12_dullerOf 67 = .ok (.iload 5, 2)) ∧ (decode cX12_dullerOf 69 = .ok (.aload_n 0, 1)) ∧ (decode cX12_dullerOf 70 = .ok (.getfield 13, 3)) ∧ (decode cX12_dullerOf 73 = .ok (.iload_n 1, 1)) ∧ (decode cX12_dullerOf 74 = .ok (.iaload, 1)) ∧ (decode cX12_dullerOf 75 = .ok (.iadd, 1)) ∧ (decode cX12_dullerOf 76 = .ok (.goto 39, 3)) := by decide +kernel
theorem dX12_dullerOf_64 : decode cX12_dullerOf 64 = .ok (.if_icmp .ne 15, 3) := dcX12_dullerOf_5.1
theorem dX12_dullerOf_67 : decode cX12_dullerOf 67 = .ok (.iload 5, 2) := dcX12_dullerOf_5.2.1
theorem dX12_dullerOf_69 : decode cX12_dullerOf 69 = .ok (.aload_n 0, 1) := dcX12_dullerOf_5.2.2.1
theorem dX12_dullerOf_70 : decode cX12_dullerOf 70 = .ok (.getfield 13, 3) := dcX12_dullerOf_5.2.2.2.1
theorem dX12_dullerOf_73 : decode cX12_dullerOf 73 = .ok (.iload_n 1, 1) := dcX12_dullerOf_5.2.2.2.2.1
theorem dX12_dullerOf_74 : decode cX12_dullerOf 74 = .ok (.iaload, 1) := dcX12_dullerOf_5.2.2.2.2.2.1
theorem dX12_dullerOf_75 : decode cX12_dullerOf 75 = .ok (.iadd, 1) := dcX12_dullerOf_5.2.2.2.2.2.2.1
theorem dX12_dullerOf_76 : decode cX12_dullerOf 76 = .ok (.goto 39, 3) := dcX12_dullerOf_5.2.2.2.2.2.2.2
theorem dcX12_dullerOf_6 : (decode cX12_dullerOf 79 = .ok (.aload_n 0, 1)) ∧ (decode cX12_dullerOf 80 = .ok (.getfield 7, 3)) ∧ (decode cX12_dullerOf 83 = .ok (.iload_n 1, 1)) ∧ (decode cX12_dullerOf 84 = .ok (.iaload, 1)) ∧ (decode cX12_dullerOf 85 = .ok (.iconst 5, 1)) ∧ (decode cX12_dullerOf 86 = .ok (.if_icmp .ne 27, 3)) ∧ (decode cX12_dullerOf 89 = .ok (.iload 4, 2)) ∧ (decode cX12_dullerOf 91 = .ok (.iconst 2, 1)) := by decide +kernel
theorem dX12_dullerOf_79 : decode cX12_dullerOf 79 = .ok (.aload_n 0, 1) := dcX12_dullerOf_6.1
theorem dX12_dullerOf_80 : decode cX12_dullerOf 80 = .ok (.getfield 7, 3) := dcX12_dullerOf_6.2.1
theorem dX12_dullerOf_83 : decode cX12_dullerOf 83 = .ok (.iload_n 1, 1) := dcX12_dullerOf_6.2.2.1
theorem dX12_dullerOf_84 : decode cX12_dullerOf 84 = .ok (.iaload, 1) := dcX12_dullerOf_6.2.2.2.1
theorem dX12_dullerOf_85 : decode cX12_dullerOf 85 = .ok (.iconst 5, 1) := dcX12_dullerOf_6.2.2.2.2.1
theorem dX12_dullerOf_86 : decode cX12_dullerOf 86 = .ok (.if_icmp .ne 27, 3) := dcX12_dullerOf_6.2.2.2.2.2.1
theorem dX12_dullerOf_89 : decode cX12_dullerOf 89 = .ok (.iload 4, 2) := dcX12_dullerOf_6.2.2.2.2.2.2.1
theorem dX12_dullerOf_91 : decode cX12_dullerOf 91 = .ok (.iconst 2, 1) := dcX12_dullerOf_6.2.2.2.2.2.2.2
theorem dcX12_dullerOf_7 : (decode cX12_dullerOf 92 = .ok (.irem, 1)) ∧ (decode cX12_dullerOf 93 = .ok (.iconst 1, 1)) ∧ (decode cX12_dullerOf 94 = .ok (.if_icmp .ne 15, 3)) ∧ (decode cX12_dullerOf 97 = .ok (.iload 5, 2)) ∧ (decode cX12_dullerOf 99 = .ok (.aload_n 0, 1)) ∧ (decode cX12_dullerOf 100 = .ok (.getfield 13, 3)) ∧ (decode cX12_dullerOf 103 = .ok (.iload_n 1, 1)) ∧ (decode cX12_dullerOf 104 = .ok (.iaload, 1)) := by decide +kernel
theorem dX12_dullerOf_92 : decode cX12_dullerOf 92 = .ok (.irem, 1) := dcX12_dullerOf_7.1
theorem dX12_dullerOf_93 : decode cX12_dullerOf 93 = .ok (.iconst 1, 1) := dcX12_dullerOf_7.2.1
theorem dX12_dullerOf_94 : decode cX12_dullerOf 94 = .ok (.if_icmp .ne 15, 3) := dcX12_dullerOf_7.2.2.1
theorem dX12_dullerOf_97 : decode cX12_dullerOf 97 = .ok (.iload 5, 2) := dcX12_dullerOf_7.2.2.2.1
theorem dX12_dullerOf_99 : decode cX12_dullerOf 99 = .ok (.aload_n 0, 1) := dcX12_dullerOf_7.2.2.2.2.1
theorem dX12_dullerOf_100 : decode cX12_dullerOf 100 = .ok (.getfield 13, 3) := dcX12_dullerOf_7.2.2.2.2.2.1
theorem dX12_dullerOf_103 : decode cX12_dullerOf 103 = .ok (.iload_n 1, 1) := dcX12_dullerOf_7.2.2.2.2.2.2.1
theorem dX12_dullerOf_104 : decode cX12_dullerOf 104 = .ok (.iaload, 1) := dcX12_dullerOf_7.2.2.2.2.2.2.2
theorem dcX12_dullerOf_8 : (decode cX12_dullerOf 105 = .ok (.iadd, 1)) ∧ (decode cX12_dullerOf 106 = .ok (.goto 9, 3)) ∧ (decode cX12_dullerOf 109 = .ok (.iconst 1, 1)) ∧ (decode cX12_dullerOf 110 = .ok (.goto 5, 3)) ∧ (decode cX12_dullerOf 113 = .ok (.iload 5, 2)) ∧ (decode cX12_dullerOf 115 = .ok (.ireturn, 1)) := by decide +kernel
theorem dX12_dullerOf_105 : decode cX12_dullerOf 105 = .ok (.iadd, 1) := dcX12_dullerOf_8.1
theorem dX12_dullerOf_106 : decode cX12_dullerOf 106 = .ok (.goto 9, 3) := dcX12_dullerOf_8.2.1
theorem dX12_dullerOf_109 : decode cX12_dullerOf 109 = .ok (.iconst 1, 1) := dcX12_dullerOf_8.2.2.1
theorem dX12_dullerOf_110 : decode cX12_dullerOf 110 = .ok (.goto 5, 3) := dcX12_dullerOf_8.2.2.2.1
theorem dX12_dullerOf_113 : decode cX12_dullerOf 113 = .ok (.iload 5, 2) := dcX12_dullerOf_8.2.2.2.2.1
theorem dX12_dullerOf_115 : decode cX12_dullerOf 115 = .ok (.ireturn, 1) := dcX12_dullerOf_8.2.2.2.2.2
theorem dcX12_isClear_0 : (decode cX12_isClear 0 = .ok (.aload_n 0, 1)) ∧ (decode cX12_isClear 1 = .ok (.iconst 1, 1)) ∧ (decode cX12_isClear 2 = .ok (.iload_n 1, 1)) ∧ (decode cX12_isClear 3 = .ok (.iload_n 2, 1)) ∧ (decode cX12_isClear 4 = .ok (.iload_n 3, 1)) ∧ (decode cX12_isClear 5 = .ok (.iload 4, 2)) ∧ (decode cX12_isClear 7 = .ok (.invokevirtual 182, 3)) ∧ (decode cX12_isClear 10 = .ok (.istore 5, 2)) := by decide +kernel
theorem dX12_isClear_0 : decode cX12_isClear 0 = .ok (.aload_n 0, 1) := dcX12_isClear_0.1
theorem dX12_isClear_1 : decode cX12_isClear 1 = .ok (.iconst 1, 1) := dcX12_isClear_0.2.1
theorem dX12_isClear_2 : decode cX12_isClear 2 = .ok (.iload_n 1, 1) := dcX12_isClear_0.2.2.1
theorem dX12_isClear_3 : decode cX12_isClear 3 = .ok (.iload_n 2, 1) := dcX12_isClear_0.2.2.2.1
theorem dX12_isClear_4 : decode cX12_isClear 4 = .ok (.iload_n 3, 1) := dcX12_isClear_0.2.2.2.2.1
theorem dX12_isClear_5 : decode cX12_isClear 5 = .ok (.iload 4, 2) := dcX12_isClear_0.2.2.2.2.2.1
theorem dX12_isClear_7 : decode cX12_isClear 7 = .ok (.invokevirtual 182, 3) := dcX12_isClear_0.2.2.2.2.2.2.1
theorem dX12_isClear_10 : decode cX12_isClear 10 = .ok (.istore 5, 2) := dcX12_isClear_0.2.2.2.2.2.2.2
theorem dcX12_isClear_1 : (decode cX12_isClear 12 = .ok (.aload_n 0, 1)) ∧ (decode cX12_isClear 13 = .ok (.getfield 7, 3)) ∧ (decode cX12_isClear 16 = .ok (.iload_n 1, 1)) ∧ (decode cX12_isClear 17 = .ok (.iaload, 1)) ∧ (decode cX12_isClear 18 = .ok (.iconst 2, 1)) ∧ (decode cX12_isClear 19 = .ok (.if_icmp .eq 13, 3)) ∧ (decode cX12_isClear 22 = .ok (.aload_n 0, 1)) ∧ (decode cX12_isClear 23 = .ok (.getfield 7, 3)) := by decide +kernel
theorem dX12_isClear_12 : decode cX12_isClear 12 = .ok (.aload_n 0, 1) := dcX12_isClear_1.1
theorem dX12_isClear_13 : decode cX12_isClear 13 = .ok (.getfield 7, 3) := dcX12_isClear_1.2.1
theorem dX12_isClear_16 : decode cX12_isClear 16 = .ok (.iload_n 1, 1) := dcX12_isClear_1.2.2.1
theorem dX12_isClear_17 : decode cX12_isClear 17 = .ok (.iaload, 1) := dcX12_isClear_1.2.2.2.1
theorem dX12_isClear_18 : decode cX12_isClear 18 = .ok (.iconst 2, 1) := dcX12_isClear_1.2.2.2.2.1
theorem dX12_isClear_19 : decode cX12_isClear 19 = .ok (.if_icmp .eq 13, 3) := dcX12_isClear_1.2.2.2.2.2.1
theorem dX12_isClear_22 : decode cX12_isClear 22 = .ok (.aload_n 0, 1) := dcX12_isClear_1.2.2.2.2.2.2.1
theorem dX12_isClear_23 : decode cX12_isClear 23 = .ok (.getfield 7, 3) := dcX12_isClear_1.2.2.2.2.2.2.2
theorem dcX12_isClear_2 : (decode cX12_isClear 26 = .ok (.iload_n 1, 1)) ∧ (decode cX12_isClear 27 = .ok (.iaload, 1)) ∧ (decode cX12_isClear 28 = .ok (.iconst 4, 1)) ∧ (decode cX12_isClear 29 = .ok (.if_icmp .ne 15, 3)) ∧ (decode cX12_isClear 32 = .ok (.iload 5, 2)) ∧ (decode cX12_isClear 34 = .ok (.aload_n 0, 1)) ∧ (decode cX12_isClear 35 = .ok (.getfield 13, 3)) ∧ (decode cX12_isClear 38 = .ok (.iload_n 1, 1)) := by decide +kernel
theorem dX12_isClear_26 : decode cX12_isClear 26 = .ok (.iload_n 1, 1) := dcX12_isClear_2.1
theorem dX12_isClear_27 : decode cX12_isClear 27 = .ok (.iaload, 1) := dcX12_isClear_2.2.1
theorem dX12_isClear_28 : decode cX12_isClear 28 = .ok (.iconst 4, 1) := dcX12_isClear_2.2.2.1
theorem dX12_isClear_29 : decode cX12_isClear 29 = .ok (.if_icmp .ne 15, 3) := dcX12_isClear_2.2.2.2.1
theorem dX12_isClear_32 : decode cX12_isClear 32 = .ok (.iload 5, 2) := dcX12_isClear_2.2.2.2.2.1
theorem dX12_isClear_34 : decode cX12_isClear 34 = .ok (.aload_n 0, 1) := dcX12_isClear_2.2.2.2.2.2.1
theorem dX12_isClear_35 : decode cX12_isClear 35 = .ok (.getfield 13, 3) := dcX12_isClear_2.2.2.2.2.2.2.1
theorem dX12_isClear_38 : decode cX12_isClear 38 = .ok (.iload_n 1, 1) := dcX12_isClear_2.2.2.2.2.2.2.2
theorem dcX12_isClear_3 : (decode cX12_isClear 39 = .ok (.iaload, 1)) ∧ (decode cX12_isClear 40 = .ok (.iadd, 1)) ∧ (decode cX12_isClear 41 = .ok (.goto 27, 3)) ∧ (decode cX12_isClear 44 = .ok (.aload_n 0, 1)) ∧ (decode cX12_isClear 45 = .ok (.getfield 7, 3)) ∧ (decode cX12_isClear 48 = .ok (.iload_n 1, 1)) ∧ (decode cX12_isClear 49 = .ok (.iaload, 1)) ∧ (decode cX12_isClear 50 = .ok (.iconst 3, 1)) := by decide +kernel
theorem dX12_isClear_39 : decode cX12_isClear 39 = .ok (.iaload, 1) := dcX12_isClear_3.1
theorem dX12_isClear_40 : decode cX12_isClear 40 = .ok (.iadd, 1) := dcX12_isClear_3.2.1
theorem dX12_isClear_41 : decode cX12_isClear 41 = .ok (.goto 27, 3) := dcX12_isClear_3.2.2.1
theorem dX12_isClear_44 : decode cX12_isClear 44 = .ok (.aload_n 0, 1) := dcX12_isClear_3.2.2.2.1
theorem dX12_isClear_45 : decode cX12_isClear 45 = .ok (.getfield 7, 3) := dcX12_isClear_3.2.2.2.2.1
theorem dX12_isClear_48 : decode cX12_isClear 48 = .ok (.iload_n 1, 1) := dcX12_isClear_3.2.2.2.2.2.1
theorem dX12_isClear_49 : decode cX12_isClear 49 = .ok (.iaload, 1) := dcX12_isClear_3.2.2.2.2.2.2.1
theorem dX12_isClear_50 : decode cX12_isClear 50 = .ok (.iconst 3, 1) := dcX12_isClear_3.2.2.2.2.2.2.2
theorem dcX12_isClear_4 : (decode cX12_isClear 51 = .ok (.if_icmp .ne 15, 3)) ∧ (decode cX12_isClear 54 = .ok (.iload_n 2, 1)) ∧ (decode cX12_isClear 55 = .ok (.invokestatic 190, 3)) ∧ (decode cX12_isClear 58 = .ok (.ifCond .eq 8, 3)) ∧ (decode cX12_isClear 61 = .ok (.bipush 99, 2)) ∧ (decode cX12_isClear 63 = .ok (.goto 5, 3)) ∧ (decode cX12_isClear 66 = .ok (.iload 5, 2)) ∧ (decode cX12_isClear 68 = .ok (.istore 6, 2)) := by decide +kernel
theorem dX12_isClear_51 : decode cX12_isClear 51 = .ok (.if_icmp .ne 15, 3) := dcX12_isClear_4.1
theorem dX12_isClear_54 : decode cX12_isClear 54 = .ok (.iload_n 2, 1) := dcX12_isClear_4.2.1
theorem dX12_isClear_55 : decode cX12_isClear 55 = .ok (.invokestatic 190, 3) := dcX12_isClear_4.2.2.1
theorem dX12_isClear_58 : decode cX12_isClear 58 = .ok (.ifCond .eq 8, 3) := dcX12_isClear_4.2.2.2.1
theorem dX12_isClear_61 : decode cX12_isClear 61 = .ok (.bipush 99, 2) := dcX12_isClear_4.2.2.2.2.1
theorem dX12_isClear_63 : decode cX12_isClear 63 = .ok (.goto 5, 3) := dcX12_isClear_4.2.2.2.2.2.1
theorem dX12_isClear_66 : decode cX12_isClear 66 = .ok (.iload 5, 2) := dcX12_isClear_4.2.2.2.2.2.2.1
theorem dX12_isClear_68 : decode cX12_isClear 68 = .ok (.istore 6, 2) := dcX12_isClear_4.2.2.2.2.2.2.2
theorem dcX12_isClear_5 : (decode cX12_isClear 70 = .ok (.iload_n 3, 1)) ∧ (decode cX12_isClear 71 = .ok (.iload 6, 2)) ∧ (decode cX12_isClear 73 = .ok (.if_icmp .gt 7, 3)) ∧ (decode cX12_isClear 76 = .ok (.iconst 1, 1)) ∧ (decode cX12_isClear 77 = .ok (.goto 4, 3)) ∧ (decode cX12_isClear 80 = .ok (.iconst 0, 1)) ∧ (decode cX12_isClear 81 = .ok (.ireturn, 1)) := by decide +kernel
theorem dX12_isClear_70 : decode cX12_isClear 70 = .ok (.iload_n 3, 1) := dcX12_isClear_5.1
theorem dX12_isClear_71 : decode cX12_isClear 71 = .ok (.iload 6, 2) := dcX12_isClear_5.2.1
theorem dX12_isClear_73 : decode cX12_isClear 73 = .ok (.if_icmp .gt 7, 3) := dcX12_isClear_5.2.2.1
theorem dX12_isClear_76 : decode cX12_isClear 76 = .ok (.iconst 1, 1) := dcX12_isClear_5.2.2.2.1
theorem dX12_isClear_77 : decode cX12_isClear 77 = .ok (.goto 4, 3) := dcX12_isClear_5.2.2.2.2.1
theorem dX12_isClear_80 : decode cX12_isClear 80 = .ok (.iconst 0, 1) := dcX12_isClear_5.2.2.2.2.2.1
theorem dX12_isClear_81 : decode cX12_isClear 81 = .ok (.ireturn, 1) := dcX12_isClear_5.2.2.2.2.2.2
theorem dcX12_costOf_0 : (decode cX12_costOf 0 = .ok (.aload_n 0, 1)) ∧ (decode cX12_costOf 1 = .ok (.iconst 2, 1)) ∧ (decode cX12_costOf 2 = .ok (.iload_n 1, 1)) ∧ (decode cX12_costOf 3 = .ok (.iload_n 2, 1)) ∧ (decode cX12_costOf 4 = .ok (.aload_n 0, 1)) ∧ (decode cX12_costOf 5 = .ok (.getfield 16, 3)) ∧ (decode cX12_costOf 8 = .ok (.bipush 16, 2)) ∧ (decode cX12_costOf 10 = .ok (.iload_n 1, 1)) := by decide +kernel
theorem dX12_costOf_0 : decode cX12_costOf 0 = .ok (.aload_n 0, 1) := dcX12_costOf_0.1
theorem dX12_costOf_1 : decode cX12_costOf 1 = .ok (.iconst 2, 1) := dcX12_costOf_0.2.1
theorem dX12_costOf_2 : decode cX12_costOf 2 = .ok (.iload_n 1, 1) := dcX12_costOf_0.2.2.1
theorem dX12_costOf_3 : decode cX12_costOf 3 = .ok (.iload_n 2, 1) := dcX12_costOf_0.2.2.2.1
theorem dX12_costOf_4 : decode cX12_costOf 4 = .ok (.aload_n 0, 1) := dcX12_costOf_0.2.2.2.2.1
theorem dX12_costOf_5 : decode cX12_costOf 5 = .ok (.getfield 16, 3) := dcX12_costOf_0.2.2.2.2.2.1
theorem dX12_costOf_8 : decode cX12_costOf 8 = .ok (.bipush 16, 2) := dcX12_costOf_0.2.2.2.2.2.2.1
theorem dX12_costOf_10 : decode cX12_costOf 10 = .ok (.iload_n 1, 1) := dcX12_costOf_0.2.2.2.2.2.2.2
theorem dcX12_costOf_1 : (decode cX12_costOf 11 = .ok (.imul, 1)) ∧ (decode cX12_costOf 12 = .ok (.iload_n 2, 1)) ∧ (decode cX12_costOf 13 = .ok (.iadd, 1)) ∧ (decode cX12_costOf 14 = .ok (.iaload, 1)) ∧ (decode cX12_costOf 15 = .ok (.aload_n 0, 1)) ∧ (decode cX12_costOf 16 = .ok (.getfield 97, 3)) ∧ (decode cX12_costOf 19 = .ok (.invokevirtual 182, 3)) ∧ (decode cX12_costOf 22 = .ok (.istore_n 3, 1)) := by decide +kernel
theorem dX12_costOf_11 : decode cX12_costOf 11 = .ok (.imul, 1) := dcX12_costOf_1.1
theorem dX12_costOf_12 : decode cX12_costOf 12 = .ok (.iload_n 2, 1) := dcX12_costOf_1.2.1
theorem dX12_costOf_13 : decode cX12_costOf 13 = .ok (.iadd, 1) := dcX12_costOf_1.2.2.1
theorem dX12_costOf_14 : decode cX12_costOf 14 = .ok (.iaload, 1) := dcX12_costOf_1.2.2.2.1
theorem dX12_costOf_15 : decode cX12_costOf 15 = .ok (.aload_n 0, 1) := dcX12_costOf_1.2.2.2.2.1
theorem dX12_costOf_16 : decode cX12_costOf 16 = .ok (.getfield 97, 3) := dcX12_costOf_1.2.2.2.2.2.1
theorem dX12_costOf_19 : decode cX12_costOf 19 = .ok (.invokevirtual 182, 3) := dcX12_costOf_1.2.2.2.2.2.2.1
theorem dX12_costOf_22 : decode cX12_costOf 22 = .ok (.istore_n 3, 1) := dcX12_costOf_1.2.2.2.2.2.2.2
theorem dcX12_costOf_2 : (decode cX12_costOf 23 = .ok (.iload_n 2, 1)) ∧ (decode cX12_costOf 24 = .ok (.invokestatic 193, 3)) ∧ (decode cX12_costOf 27 = .ok (.ifCond .eq 11, 3)) ∧ (decode cX12_costOf 30 = .ok (.iconst 2, 1)) ∧ (decode cX12_costOf 31 = .ok (.iload_n 3, 1)) ∧ (decode cX12_costOf 32 = .ok (.iconst 1, 1)) ∧ (decode cX12_costOf 33 = .ok (.iadd, 1)) ∧ (decode cX12_costOf 34 = .ok (.imul, 1)) := by decide +kernel
theorem dX12_costOf_23 : decode cX12_costOf 23 = .ok (.iload_n 2, 1) := dcX12_costOf_2.1
theorem dX12_costOf_24 : decode cX12_costOf 24 = .ok (.invokestatic 193, 3) := dcX12_costOf_2.2.1
theorem dX12_costOf_27 : decode cX12_costOf 27 = .ok (.ifCond .eq 11, 3) := dcX12_costOf_2.2.2.1
theorem dX12_costOf_30 : decode cX12_costOf 30 = .ok (.iconst 2, 1) := dcX12_costOf_2.2.2.2.1
theorem dX12_costOf_31 : decode cX12_costOf 31 = .ok (.iload_n 3, 1) := dcX12_costOf_2.2.2.2.2.1
theorem dX12_costOf_32 : decode cX12_costOf 32 = .ok (.iconst 1, 1) := dcX12_costOf_2.2.2.2.2.2.1
theorem dX12_costOf_33 : decode cX12_costOf 33 = .ok (.iadd, 1) := dcX12_costOf_2.2.2.2.2.2.2.1
theorem dX12_costOf_34 : decode cX12_costOf 34 = .ok (.imul, 1) := dcX12_costOf_2.2.2.2.2.2.2.2
theorem dcX12_costOf_3 : (decode cX12_costOf 35 = .ok (.goto 6, 3)) ∧ (decode cX12_costOf 38 = .ok (.iload_n 3, 1)) ∧ (decode cX12_costOf 39 = .ok (.iconst 1, 1)) ∧ (decode cX12_costOf 40 = .ok (.iadd, 1)) ∧ (decode cX12_costOf 41 = .ok (.istore 4, 2)) ∧ (decode cX12_costOf 43 = .ok (.aload_n 0, 1)) ∧ (decode cX12_costOf 44 = .ok (.getfield 7, 3)) ∧ (decode cX12_costOf 47 = .ok (.iload_n 1, 1)) := by decide +kernel
theorem dX12_costOf_35 : decode cX12_costOf 35 = .ok (.goto 6, 3) := dcX12_costOf_3.1
theorem dX12_costOf_38 : decode cX12_costOf 38 = .ok (.iload_n 3, 1) := dcX12_costOf_3.2.1
theorem dX12_costOf_39 : decode cX12_costOf 39 = .ok (.iconst 1, 1) := dcX12_costOf_3.2.2.1
theorem dX12_costOf_40 : decode cX12_costOf 40 = .ok (.iadd, 1) := dcX12_costOf_3.2.2.2.1
theorem dX12_costOf_41 : decode cX12_costOf 41 = .ok (.istore 4, 2) := dcX12_costOf_3.2.2.2.2.1
theorem dX12_costOf_43 : decode cX12_costOf 43 = .ok (.aload_n 0, 1) := dcX12_costOf_3.2.2.2.2.2.1
theorem dX12_costOf_44 : decode cX12_costOf 44 = .ok (.getfield 7, 3) := dcX12_costOf_3.2.2.2.2.2.2.1
theorem dX12_costOf_47 : decode cX12_costOf 47 = .ok (.iload_n 1, 1) := dcX12_costOf_3.2.2.2.2.2.2.2
theorem dcX12_costOf_4 : (decode cX12_costOf 48 = .ok (.iaload, 1)) ∧ (decode cX12_costOf 49 = .ok (.tableswitch 52 2 5 #[31, 52, 34, 39], 31)) ∧ (decode cX12_costOf 80 = .ok (.iload 4, 2)) ∧ (decode cX12_costOf 82 = .ok (.ireturn, 1)) ∧ (decode cX12_costOf 83 = .ok (.iload 4, 2)) ∧ (decode cX12_costOf 85 = .ok (.iconst 2, 1)) ∧ (decode cX12_costOf 86 = .ok (.idiv, 1)) ∧ (decode cX12_costOf 87 = .ok (.ireturn, 1)) := by decide +kernel
theorem dX12_costOf_48 : decode cX12_costOf 48 = .ok (.iaload, 1) := dcX12_costOf_4.1
theorem dX12_costOf_49 : decode cX12_costOf 49 = .ok (.tableswitch 52 2 5 #[31, 52, 34, 39], 31) := dcX12_costOf_4.2.1
theorem dX12_costOf_80 : decode cX12_costOf 80 = .ok (.iload 4, 2) := dcX12_costOf_4.2.2.1
theorem dX12_costOf_82 : decode cX12_costOf 82 = .ok (.ireturn, 1) := dcX12_costOf_4.2.2.2.1
theorem dX12_costOf_83 : decode cX12_costOf 83 = .ok (.iload 4, 2) := dcX12_costOf_4.2.2.2.2.1
theorem dX12_costOf_85 : decode cX12_costOf 85 = .ok (.iconst 2, 1) := dcX12_costOf_4.2.2.2.2.2.1
theorem dX12_costOf_86 : decode cX12_costOf 86 = .ok (.idiv, 1) := dcX12_costOf_4.2.2.2.2.2.2.1
theorem dX12_costOf_87 : decode cX12_costOf 87 = .ok (.ireturn, 1) := dcX12_costOf_4.2.2.2.2.2.2.2
theorem dcX12_costOf_5 : (decode cX12_costOf 88 = .ok (.iload_n 3, 1)) ∧ (decode cX12_costOf 89 = .ok (.iconst 5, 1)) ∧ (decode cX12_costOf 90 = .ok (.if_icmp .ge 7, 3)) ∧ (decode cX12_costOf 93 = .ok (.iconst 5, 1)) ∧ (decode cX12_costOf 94 = .ok (.goto 6, 3)) ∧ (decode cX12_costOf 97 = .ok (.iload_n 3, 1)) ∧ (decode cX12_costOf 98 = .ok (.iconst 1, 1)) ∧ (decode cX12_costOf 99 = .ok (.iadd, 1)) := by decide +kernel
theorem dX12_costOf_88 : decode cX12_costOf 88 = .ok (.iload_n 3, 1) := dcX12_costOf_5.1
theorem dX12_costOf_89 : decode cX12_costOf 89 = .ok (.iconst 5, 1) := dcX12_costOf_5.2.1
theorem dX12_costOf_90 : decode cX12_costOf 90 = .ok (.if_icmp .ge 7, 3) := dcX12_costOf_5.2.2.1
theorem dX12_costOf_93 : decode cX12_costOf 93 = .ok (.iconst 5, 1) := dcX12_costOf_5.2.2.2.1
theorem dX12_costOf_94 : decode cX12_costOf 94 = .ok (.goto 6, 3) := dcX12_costOf_5.2.2.2.2.1
theorem dX12_costOf_97 : decode cX12_costOf 97 = .ok (.iload_n 3, 1) := dcX12_costOf_5.2.2.2.2.2.1
theorem dX12_costOf_98 : decode cX12_costOf 98 = .ok (.iconst 1, 1) := dcX12_costOf_5.2.2.2.2.2.2.1
theorem dX12_costOf_99 : decode cX12_costOf 99 = .ok (.iadd, 1) := dcX12_costOf_5.2.2.2.2.2.2.2
theorem dcX12_costOf_6 : (decode cX12_costOf 100 = .ok (.ireturn, 1)) ∧ (decode cX12_costOf 101 = .ok (.iload_n 3, 1)) ∧ (decode cX12_costOf 102 = .ok (.iconst 1, 1)) ∧ (decode cX12_costOf 103 = .ok (.iadd, 1)) ∧ (decode cX12_costOf 104 = .ok (.ireturn, 1)) := by decide +kernel
theorem dX12_costOf_100 : decode cX12_costOf 100 = .ok (.ireturn, 1) := dcX12_costOf_6.1
theorem dX12_costOf_101 : decode cX12_costOf 101 = .ok (.iload_n 3, 1) := dcX12_costOf_6.2.1
theorem dX12_costOf_102 : decode cX12_costOf 102 = .ok (.iconst 1, 1) := dcX12_costOf_6.2.2.1
theorem dX12_costOf_103 : decode cX12_costOf 103 = .ok (.iadd, 1) := dcX12_costOf_6.2.2.2.1
theorem dX12_costOf_104 : decode cX12_costOf 104 = .ok (.ireturn, 1) := dcX12_costOf_6.2.2.2.2
theorem dcX12_clearSet_0 : (decode cX12_clearSet 0 = .ok (.iconst 0, 1)) ∧ (decode cX12_clearSet 1 = .ok (.istore_n 2, 1)) ∧ (decode cX12_clearSet 2 = .ok (.iconst 0, 1)) ∧ (decode cX12_clearSet 3 = .ok (.istore_n 3, 1)) ∧ (decode cX12_clearSet 4 = .ok (.iload_n 3, 1)) ∧ (decode cX12_clearSet 5 = .ok (.bipush 16, 2)) ∧ (decode cX12_clearSet 7 = .ok (.if_icmp .ge 43, 3)) ∧ (decode cX12_clearSet 10 = .ok (.iload_n 2, 1)) := by decide +kernel
theorem dX12_clearSet_0 : decode cX12_clearSet 0 = .ok (.iconst 0, 1) := dcX12_clearSet_0.1
theorem dX12_clearSet_1 : decode cX12_clearSet 1 = .ok (.istore_n 2, 1) := dcX12_clearSet_0.2.1
theorem dX12_clearSet_2 : decode cX12_clearSet 2 = .ok (.iconst 0, 1) := dcX12_clearSet_0.2.2.1
theorem dX12_clearSet_3 : decode cX12_clearSet 3 = .ok (.istore_n 3, 1) := dcX12_clearSet_0.2.2.2.1
theorem dX12_clearSet_4 : decode cX12_clearSet 4 = .ok (.iload_n 3, 1) := dcX12_clearSet_0.2.2.2.2.1
theorem dX12_clearSet_5 : decode cX12_clearSet 5 = .ok (.bipush 16, 2) := dcX12_clearSet_0.2.2.2.2.2.1
theorem dX12_clearSet_7 : decode cX12_clearSet 7 = .ok (.if_icmp .ge 43, 3) := dcX12_clearSet_0.2.2.2.2.2.2.1
theorem dX12_clearSet_10 : decode cX12_clearSet 10 = .ok (.iload_n 2, 1) := dcX12_clearSet_0.2.2.2.2.2.2.2
theorem dcX12_clearSet_1 : (decode cX12_clearSet 11 = .ok (.aload_n 0, 1)) ∧ (decode cX12_clearSet 12 = .ok (.iload_n 1, 1)) ∧ (decode cX12_clearSet 13 = .ok (.iload_n 3, 1)) ∧ (decode cX12_clearSet 14 = .ok (.aload_n 0, 1)) ∧ (decode cX12_clearSet 15 = .ok (.getfield 16, 3)) ∧ (decode cX12_clearSet 18 = .ok (.bipush 16, 2)) ∧ (decode cX12_clearSet 20 = .ok (.iload_n 1, 1)) ∧ (decode cX12_clearSet 21 = .ok (.imul, 1)) := by decide +kernel
theorem dX12_clearSet_11 : decode cX12_clearSet 11 = .ok (.aload_n 0, 1) := dcX12_clearSet_1.1
theorem dX12_clearSet_12 : decode cX12_clearSet 12 = .ok (.iload_n 1, 1) := dcX12_clearSet_1.2.1
theorem dX12_clearSet_13 : decode cX12_clearSet 13 = .ok (.iload_n 3, 1) := dcX12_clearSet_1.2.2.1
theorem dX12_clearSet_14 : decode cX12_clearSet 14 = .ok (.aload_n 0, 1) := dcX12_clearSet_1.2.2.2.1
theorem dX12_clearSet_15 : decode cX12_clearSet 15 = .ok (.getfield 16, 3) := dcX12_clearSet_1.2.2.2.2.1
theorem dX12_clearSet_18 : decode cX12_clearSet 18 = .ok (.bipush 16, 2) := dcX12_clearSet_1.2.2.2.2.2.1
theorem dX12_clearSet_20 : decode cX12_clearSet 20 = .ok (.iload_n 1, 1) := dcX12_clearSet_1.2.2.2.2.2.2.1
theorem dX12_clearSet_21 : decode cX12_clearSet 21 = .ok (.imul, 1) := dcX12_clearSet_1.2.2.2.2.2.2.2
theorem dcX12_clearSet_2 : (decode cX12_clearSet 22 = .ok (.iload_n 3, 1)) ∧ (decode cX12_clearSet 23 = .ok (.iadd, 1)) ∧ (decode cX12_clearSet 24 = .ok (.iaload, 1)) ∧ (decode cX12_clearSet 25 = .ok (.aload_n 0, 1)) ∧ (decode cX12_clearSet 26 = .ok (.getfield 97, 3)) ∧ (decode cX12_clearSet 29 = .ok (.invokevirtual 196, 3)) ∧ (decode cX12_clearSet 32 = .ok (.ifCond .eq 9, 3)) ∧ (decode cX12_clearSet 35 = .ok (.iconst 1, 1)) := by decide +kernel
theorem dX12_clearSet_22 : decode cX12_clearSet 22 = .ok (.iload_n 3, 1) := dcX12_clearSet_2.1
theorem dX12_clearSet_23 : decode cX12_clearSet 23 = .ok (.iadd, 1) := dcX12_clearSet_2.2.1
theorem dX12_clearSet_24 : decode cX12_clearSet 24 = .ok (.iaload, 1) := dcX12_clearSet_2.2.2.1
theorem dX12_clearSet_25 : decode cX12_clearSet 25 = .ok (.aload_n 0, 1) := dcX12_clearSet_2.2.2.2.1
theorem dX12_clearSet_26 : decode cX12_clearSet 26 = .ok (.getfield 97, 3) := dcX12_clearSet_2.2.2.2.2.1
theorem dX12_clearSet_29 : decode cX12_clearSet 29 = .ok (.invokevirtual 196, 3) := dcX12_clearSet_2.2.2.2.2.2.1
theorem dX12_clearSet_32 : decode cX12_clearSet 32 = .ok (.ifCond .eq 9, 3) := dcX12_clearSet_2.2.2.2.2.2.2.1
theorem dX12_clearSet_35 : decode cX12_clearSet 35 = .ok (.iconst 1, 1) := dcX12_clearSet_2.2.2.2.2.2.2.2
theorem dcX12_clearSet_3 : (decode cX12_clearSet 36 = .ok (.iload_n 3, 1)) ∧ (decode cX12_clearSet 37 = .ok (.ishl, 1)) ∧ (decode cX12_clearSet 38 = .ok (.goto 4, 3)) ∧ (decode cX12_clearSet 41 = .ok (.iconst 0, 1)) ∧ (decode cX12_clearSet 42 = .ok (.ior, 1)) ∧ (decode cX12_clearSet 43 = .ok (.istore_n 2, 1)) ∧ (decode cX12_clearSet 44 = .ok (.iinc 3 1, 3)) ∧ (decode cX12_clearSet 47 = .ok (.goto (-43), 3)) := by decide +kernel
theorem dX12_clearSet_36 : decode cX12_clearSet 36 = .ok (.iload_n 3, 1) := dcX12_clearSet_3.1
theorem dX12_clearSet_37 : decode cX12_clearSet 37 = .ok (.ishl, 1) := dcX12_clearSet_3.2.1
theorem dX12_clearSet_38 : decode cX12_clearSet 38 = .ok (.goto 4, 3) := dcX12_clearSet_3.2.2.1
theorem dX12_clearSet_41 : decode cX12_clearSet 41 = .ok (.iconst 0, 1) := dcX12_clearSet_3.2.2.2.1
theorem dX12_clearSet_42 : decode cX12_clearSet 42 = .ok (.ior, 1) := dcX12_clearSet_3.2.2.2.2.1
theorem dX12_clearSet_43 : decode cX12_clearSet 43 = .ok (.istore_n 2, 1) := dcX12_clearSet_3.2.2.2.2.2.1
theorem dX12_clearSet_44 : decode cX12_clearSet 44 = .ok (.iinc 3 1, 3) := dcX12_clearSet_3.2.2.2.2.2.2.1
theorem dX12_clearSet_47 : decode cX12_clearSet 47 = .ok (.goto (-43), 3) := dcX12_clearSet_3.2.2.2.2.2.2.2
theorem dcX12_clearSet_4 : (decode cX12_clearSet 50 = .ok (.iload_n 2, 1)) ∧ (decode cX12_clearSet 51 = .ok (.ireturn, 1)) := by decide +kernel
theorem dX12_clearSet_50 : decode cX12_clearSet 50 = .ok (.iload_n 2, 1) := dcX12_clearSet_4.1
theorem dX12_clearSet_51 : decode cX12_clearSet 51 = .ok (.ireturn, 1) := dcX12_clearSet_4.2
theorem dcX12_seenSet_0 : (decode cX12_seenSet 0 = .ok (.aload_n 0, 1)) ∧ (decode cX12_seenSet 1 = .ok (.iload_n 1, 1)) ∧ (decode cX12_seenSet 2 = .ok (.invokevirtual 200, 3)) ∧ (decode cX12_seenSet 5 = .ok (.aload_n 0, 1)) ∧ (decode cX12_seenSet 6 = .ok (.getfield 19, 3)) ∧ (decode cX12_seenSet 9 = .ok (.iload_n 1, 1)) ∧ (decode cX12_seenSet 10 = .ok (.iaload, 1)) ∧ (decode cX12_seenSet 11 = .ok (.iand, 1)) := by decide +kernel
theorem dX12_seenSet_0 : decode cX12_seenSet 0 = .ok (.aload_n 0, 1) := dcX12_seenSet_0.1
theorem dX12_seenSet_1 : decode cX12_seenSet 1 = .ok (.iload_n 1, 1) := dcX12_seenSet_0.2.1
theorem dX12_seenSet_2 : decode cX12_seenSet 2 = .ok (.invokevirtual 200, 3) := dcX12_seenSet_0.2.2.1
theorem dX12_seenSet_5 : decode cX12_seenSet 5 = .ok (.aload_n 0, 1) := dcX12_seenSet_0.2.2.2.1
theorem dX12_seenSet_6 : decode cX12_seenSet 6 = .ok (.getfield 19, 3) := dcX12_seenSet_0.2.2.2.2.1
theorem dX12_seenSet_9 : decode cX12_seenSet 9 = .ok (.iload_n 1, 1) := dcX12_seenSet_0.2.2.2.2.2.1
theorem dX12_seenSet_10 : decode cX12_seenSet 10 = .ok (.iaload, 1) := dcX12_seenSet_0.2.2.2.2.2.2.1
theorem dX12_seenSet_11 : decode cX12_seenSet 11 = .ok (.iand, 1) := dcX12_seenSet_0.2.2.2.2.2.2.2
theorem dX12_seenSet_12 : decode cX12_seenSet 12 = .ok (.ireturn, 1) := by decide +kernel
theorem dcX12_costAll_0 : (decode cX12_costAll 0 = .ok (.iconst 0, 1)) ∧ (decode cX12_costAll 1 = .ok (.istore_n 2, 1)) ∧ (decode cX12_costAll 2 = .ok (.iconst 0, 1)) ∧ (decode cX12_costAll 3 = .ok (.istore_n 3, 1)) ∧ (decode cX12_costAll 4 = .ok (.iload_n 3, 1)) ∧ (decode cX12_costAll 5 = .ok (.bipush 16, 2)) ∧ (decode cX12_costAll 7 = .ok (.if_icmp .ge 18, 3)) ∧ (decode cX12_costAll 10 = .ok (.iload_n 2, 1)) := by decide +kernel
theorem dX12_costAll_0 : decode cX12_costAll 0 = .ok (.iconst 0, 1) := dcX12_costAll_0.1
theorem dX12_costAll_1 : decode cX12_costAll 1 = .ok (.istore_n 2, 1) := dcX12_costAll_0.2.1
theorem dX12_costAll_2 : decode cX12_costAll 2 = .ok (.iconst 0, 1) := dcX12_costAll_0.2.2.1
theorem dX12_costAll_3 : decode cX12_costAll 3 = .ok (.istore_n 3, 1) := dcX12_costAll_0.2.2.2.1
theorem dX12_costAll_4 : decode cX12_costAll 4 = .ok (.iload_n 3, 1) := dcX12_costAll_0.2.2.2.2.1
theorem dX12_costAll_5 : decode cX12_costAll 5 = .ok (.bipush 16, 2) := dcX12_costAll_0.2.2.2.2.2.1
theorem dX12_costAll_7 : decode cX12_costAll 7 = .ok (.if_icmp .ge 18, 3) := dcX12_costAll_0.2.2.2.2.2.2.1
theorem dX12_costAll_10 : decode cX12_costAll 10 = .ok (.iload_n 2, 1) := dcX12_costAll_0.2.2.2.2.2.2.2
theorem dcX12_costAll_1 : (decode cX12_costAll 11 = .ok (.aload_n 0, 1)) ∧ (decode cX12_costAll 12 = .ok (.iload_n 1, 1)) ∧ (decode cX12_costAll 13 = .ok (.iload_n 3, 1)) ∧ (decode cX12_costAll 14 = .ok (.invokevirtual 203, 3)) ∧ (decode cX12_costAll 17 = .ok (.iadd, 1)) ∧ (decode cX12_costAll 18 = .ok (.istore_n 2, 1)) ∧ (decode cX12_costAll 19 = .ok (.iinc 3 1, 3)) ∧ (decode cX12_costAll 22 = .ok (.goto (-18), 3)) := by decide +kernel
theorem dX12_costAll_11 : decode cX12_costAll 11 = .ok (.aload_n 0, 1) := dcX12_costAll_1.1
theorem dX12_costAll_12 : decode cX12_costAll 12 = .ok (.iload_n 1, 1) := dcX12_costAll_1.2.1
theorem dX12_costAll_13 : decode cX12_costAll 13 = .ok (.iload_n 3, 1) := dcX12_costAll_1.2.2.1
theorem dX12_costAll_14 : decode cX12_costAll 14 = .ok (.invokevirtual 203, 3) := dcX12_costAll_1.2.2.2.1
theorem dX12_costAll_17 : decode cX12_costAll 17 = .ok (.iadd, 1) := dcX12_costAll_1.2.2.2.2.1
theorem dX12_costAll_18 : decode cX12_costAll 18 = .ok (.istore_n 2, 1) := dcX12_costAll_1.2.2.2.2.2.1
theorem dX12_costAll_19 : decode cX12_costAll 19 = .ok (.iinc 3 1, 3) := dcX12_costAll_1.2.2.2.2.2.2.1
theorem dX12_costAll_22 : decode cX12_costAll 22 = .ok (.goto (-18), 3) := dcX12_costAll_1.2.2.2.2.2.2.2
theorem dcX12_costAll_2 : (decode cX12_costAll 25 = .ok (.iload_n 2, 1)) ∧ (decode cX12_costAll 26 = .ok (.ireturn, 1)) := by decide +kernel
theorem dX12_costAll_25 : decode cX12_costAll 25 = .ok (.iload_n 2, 1) := dcX12_costAll_2.1
theorem dX12_costAll_26 : decode cX12_costAll 26 = .ok (.ireturn, 1) := dcX12_costAll_2.2
theorem dcX12_view_0 : (decode cX12_view 0 = .ok (.aload_n 0, 1)) ∧ (decode cX12_view 1 = .ok (.iload_n 1, 1)) ∧ (decode cX12_view 2 = .ok (.invokevirtual 176, 3)) ∧ (decode cX12_view 5 = .ok (.ifCond .ne 6, 3)) ∧ (decode cX12_view 8 = .ok (.bipush (-5), 2)) ∧ (decode cX12_view 10 = .ok (.ireturn, 1)) ∧ (decode cX12_view 11 = .ok (.iload_n 2, 1)) ∧ (decode cX12_view 12 = .ok (.iconst 0, 1)) := by decide +kernel
theorem dX12_view_0 : decode cX12_view 0 = .ok (.aload_n 0, 1) := dcX12_view_0.1
theorem dX12_view_1 : decode cX12_view 1 = .ok (.iload_n 1, 1) := dcX12_view_0.2.1
theorem dX12_view_2 : decode cX12_view 2 = .ok (.invokevirtual 176, 3) := dcX12_view_0.2.2.1
theorem dX12_view_5 : decode cX12_view 5 = .ok (.ifCond .ne 6, 3) := dcX12_view_0.2.2.2.1
theorem dX12_view_8 : decode cX12_view 8 = .ok (.bipush (-5), 2) := dcX12_view_0.2.2.2.2.1
theorem dX12_view_10 : decode cX12_view 10 = .ok (.ireturn, 1) := dcX12_view_0.2.2.2.2.2.1
theorem dX12_view_11 : decode cX12_view 11 = .ok (.iload_n 2, 1) := dcX12_view_0.2.2.2.2.2.2.1
theorem dX12_view_12 : decode cX12_view 12 = .ok (.iconst 0, 1) := dcX12_view_0.2.2.2.2.2.2.2
theorem dcX12_view_1 : (decode cX12_view 13 = .ok (.iconst 3, 1)) ∧ (decode cX12_view 14 = .ok (.invokestatic 93, 3)) ∧ (decode cX12_view 17 = .ok (.ifCond .ne 6, 3)) ∧ (decode cX12_view 20 = .ok (.bipush (-7), 2)) ∧ (decode cX12_view 22 = .ok (.ireturn, 1)) ∧ (decode cX12_view 23 = .ok (.iload_n 2, 1)) ∧ (decode cX12_view 24 = .ok (.ifCond .ne 11, 3)) ∧ (decode cX12_view 27 = .ok (.aload_n 0, 1)) := by decide +kernel
theorem dX12_view_13 : decode cX12_view 13 = .ok (.iconst 3, 1) := dcX12_view_1.1
theorem dX12_view_14 : decode cX12_view 14 = .ok (.invokestatic 93, 3) := dcX12_view_1.2.1
theorem dX12_view_17 : decode cX12_view 17 = .ok (.ifCond .ne 6, 3) := dcX12_view_1.2.2.1
theorem dX12_view_20 : decode cX12_view 20 = .ok (.bipush (-7), 2) := dcX12_view_1.2.2.2.1
theorem dX12_view_22 : decode cX12_view 22 = .ok (.ireturn, 1) := dcX12_view_1.2.2.2.2.1
theorem dX12_view_23 : decode cX12_view 23 = .ok (.iload_n 2, 1) := dcX12_view_1.2.2.2.2.2.1
theorem dX12_view_24 : decode cX12_view 24 = .ok (.ifCond .ne 11, 3) := dcX12_view_1.2.2.2.2.2.2.1
theorem dX12_view_27 : decode cX12_view 27 = .ok (.aload_n 0, 1) := dcX12_view_1.2.2.2.2.2.2.2
theorem dcX12_view_2 : (decode cX12_view 28 = .ok (.iload_n 1, 1)) ∧ (decode cX12_view 29 = .ok (.invokevirtual 200, 3)) ∧ (decode cX12_view 32 = .ok (.goto 37, 3)) ∧ (decode cX12_view 35 = .ok (.iload_n 2, 1)) ∧ (decode cX12_view 36 = .ok (.iconst 1, 1)) ∧ (decode cX12_view 37 = .ok (.if_icmp .ne 11, 3)) ∧ (decode cX12_view 40 = .ok (.aload_n 0, 1)) ∧ (decode cX12_view 41 = .ok (.iload_n 1, 1)) := by decide +kernel
theorem dX12_view_28 : decode cX12_view 28 = .ok (.iload_n 1, 1) := dcX12_view_2.1
theorem dX12_view_29 : decode cX12_view 29 = .ok (.invokevirtual 200, 3) := dcX12_view_2.2.1
theorem dX12_view_32 : decode cX12_view 32 = .ok (.goto 37, 3) := dcX12_view_2.2.2.1
theorem dX12_view_35 : decode cX12_view 35 = .ok (.iload_n 2, 1) := dcX12_view_2.2.2.2.1
theorem dX12_view_36 : decode cX12_view 36 = .ok (.iconst 1, 1) := dcX12_view_2.2.2.2.2.1
theorem dX12_view_37 : decode cX12_view 37 = .ok (.if_icmp .ne 11, 3) := dcX12_view_2.2.2.2.2.2.1
theorem dX12_view_40 : decode cX12_view 40 = .ok (.aload_n 0, 1) := dcX12_view_2.2.2.2.2.2.2.1
theorem dX12_view_41 : decode cX12_view 41 = .ok (.iload_n 1, 1) := dcX12_view_2.2.2.2.2.2.2.2
theorem dcX12_view_3 : (decode cX12_view 42 = .ok (.invokevirtual 206, 3)) ∧ (decode cX12_view 45 = .ok (.goto 24, 3)) ∧ (decode cX12_view 48 = .ok (.iload_n 2, 1)) ∧ (decode cX12_view 49 = .ok (.iconst 2, 1)) ∧ (decode cX12_view 50 = .ok (.if_icmp .ne 14, 3)) ∧ (decode cX12_view 53 = .ok (.aload_n 0, 1)) ∧ (decode cX12_view 54 = .ok (.iload_n 1, 1)) ∧ (decode cX12_view 55 = .ok (.invokevirtual 206, 3)) := by decide +kernel
theorem dX12_view_42 : decode cX12_view 42 = .ok (.invokevirtual 206, 3) := dcX12_view_3.1
theorem dX12_view_45 : decode cX12_view 45 = .ok (.goto 24, 3) := dcX12_view_3.2.1
theorem dX12_view_48 : decode cX12_view 48 = .ok (.iload_n 2, 1) := dcX12_view_3.2.2.1
theorem dX12_view_49 : decode cX12_view 49 = .ok (.iconst 2, 1) := dcX12_view_3.2.2.2.1
theorem dX12_view_50 : decode cX12_view 50 = .ok (.if_icmp .ne 14, 3) := dcX12_view_3.2.2.2.2.1
theorem dX12_view_53 : decode cX12_view 53 = .ok (.aload_n 0, 1) := dcX12_view_3.2.2.2.2.2.1
theorem dX12_view_54 : decode cX12_view 54 = .ok (.iload_n 1, 1) := dcX12_view_3.2.2.2.2.2.2.1
theorem dX12_view_55 : decode cX12_view 55 = .ok (.invokevirtual 206, 3) := dcX12_view_3.2.2.2.2.2.2.2
theorem dcX12_view_4 : (decode cX12_view 58 = .ok (.invokestatic 209, 3)) ∧ (decode cX12_view 61 = .ok (.goto 8, 3)) ∧ (decode cX12_view 64 = .ok (.aload_n 0, 1)) ∧ (decode cX12_view 65 = .ok (.iload_n 1, 1)) ∧ (decode cX12_view 66 = .ok (.invokevirtual 212, 3)) ∧ (decode cX12_view 69 = .ok (.ireturn, 1)) := by decide +kernel
theorem dX12_view_58 : decode cX12_view 58 = .ok (.invokestatic 209, 3) := dcX12_view_4.1
theorem dX12_view_61 : decode cX12_view 61 = .ok (.goto 8, 3) := dcX12_view_4.2.1
theorem dX12_view_64 : decode cX12_view 64 = .ok (.aload_n 0, 1) := dcX12_view_4.2.2.1
theorem dX12_view_65 : decode cX12_view 65 = .ok (.iload_n 1, 1) := dcX12_view_4.2.2.2.1
theorem dX12_view_66 : decode cX12_view 66 = .ok (.invokevirtual 212, 3) := dcX12_view_4.2.2.2.2.1
theorem dX12_view_69 : decode cX12_view 69 = .ok (.ireturn, 1) := dcX12_view_4.2.2.2.2.2
theorem dcX12_seenMany_0 : (decode cX12_seenMany 0 = .ok (.iconst 0, 1)) ∧ (decode cX12_seenMany 1 = .ok (.istore_n 1, 1)) ∧ (decode cX12_seenMany 2 = .ok (.iconst 0, 1)) ∧ (decode cX12_seenMany 3 = .ok (.istore_n 2, 1)) ∧ (decode cX12_seenMany 4 = .ok (.iload_n 2, 1)) ∧ (decode cX12_seenMany 5 = .ok (.aload_n 0, 1)) ∧ (decode cX12_seenMany 6 = .ok (.getfield 90, 3)) ∧ (decode cX12_seenMany 9 = .ok (.if_icmp .ge 20, 3)) := by decide +kernel
theorem dX12_seenMany_0 : decode cX12_seenMany 0 = .ok (.iconst 0, 1) := dcX12_seenMany_0.1
theorem dX12_seenMany_1 : decode cX12_seenMany 1 = .ok (.istore_n 1, 1) := dcX12_seenMany_0.2.1
theorem dX12_seenMany_2 : decode cX12_seenMany 2 = .ok (.iconst 0, 1) := dcX12_seenMany_0.2.2.1
theorem dX12_seenMany_3 : decode cX12_seenMany 3 = .ok (.istore_n 2, 1) := dcX12_seenMany_0.2.2.2.1
theorem dX12_seenMany_4 : decode cX12_seenMany 4 = .ok (.iload_n 2, 1) := dcX12_seenMany_0.2.2.2.2.1
theorem dX12_seenMany_5 : decode cX12_seenMany 5 = .ok (.aload_n 0, 1) := dcX12_seenMany_0.2.2.2.2.2.1
theorem dX12_seenMany_6 : decode cX12_seenMany 6 = .ok (.getfield 90, 3) := dcX12_seenMany_0.2.2.2.2.2.2.1
theorem dX12_seenMany_9 : decode cX12_seenMany 9 = .ok (.if_icmp .ge 20, 3) := dcX12_seenMany_0.2.2.2.2.2.2.2
theorem dcX12_seenMany_1 : (decode cX12_seenMany 12 = .ok (.iload_n 1, 1)) ∧ (decode cX12_seenMany 13 = .ok (.aload_n 0, 1)) ∧ (decode cX12_seenMany 14 = .ok (.iload_n 2, 1)) ∧ (decode cX12_seenMany 15 = .ok (.invokevirtual 206, 3)) ∧ (decode cX12_seenMany 18 = .ok (.invokestatic 209, 3)) ∧ (decode cX12_seenMany 21 = .ok (.iadd, 1)) ∧ (decode cX12_seenMany 22 = .ok (.istore_n 1, 1)) ∧ (decode cX12_seenMany 23 = .ok (.iinc 2 1, 3)) := by decide +kernel
theorem dX12_seenMany_12 : decode cX12_seenMany 12 = .ok (.iload_n 1, 1) := dcX12_seenMany_1.1
theorem dX12_seenMany_13 : decode cX12_seenMany 13 = .ok (.aload_n 0, 1) := dcX12_seenMany_1.2.1
theorem dX12_seenMany_14 : decode cX12_seenMany 14 = .ok (.iload_n 2, 1) := dcX12_seenMany_1.2.2.1
theorem dX12_seenMany_15 : decode cX12_seenMany 15 = .ok (.invokevirtual 206, 3) := dcX12_seenMany_1.2.2.2.1
theorem dX12_seenMany_18 : decode cX12_seenMany 18 = .ok (.invokestatic 209, 3) := dcX12_seenMany_1.2.2.2.2.1
theorem dX12_seenMany_21 : decode cX12_seenMany 21 = .ok (.iadd, 1) := dcX12_seenMany_1.2.2.2.2.2.1
theorem dX12_seenMany_22 : decode cX12_seenMany 22 = .ok (.istore_n 1, 1) := dcX12_seenMany_1.2.2.2.2.2.2.1
theorem dX12_seenMany_23 : decode cX12_seenMany 23 = .ok (.iinc 2 1, 3) := dcX12_seenMany_1.2.2.2.2.2.2.2
theorem dcX12_seenMany_2 : (decode cX12_seenMany 26 = .ok (.goto (-22), 3)) ∧ (decode cX12_seenMany 29 = .ok (.iload_n 1, 1)) ∧ (decode cX12_seenMany 30 = .ok (.ireturn, 1)) := by decide +kernel
theorem dX12_seenMany_26 : decode cX12_seenMany 26 = .ok (.goto (-22), 3) := dcX12_seenMany_2.1
theorem dX12_seenMany_29 : decode cX12_seenMany 29 = .ok (.iload_n 1, 1) := dcX12_seenMany_2.2.1
theorem dX12_seenMany_30 : decode cX12_seenMany 30 = .ok (.ireturn, 1) := dcX12_seenMany_2.2.2
theorem dcX12_all_0 : (decode cX12_all 0 = .ok (.iload_n 1, 1)) ∧ (decode cX12_all 1 = .ok (.iconst 0, 1)) ∧ (decode cX12_all 2 = .ok (.iconst 2, 1)) ∧ (decode cX12_all 3 = .ok (.invokestatic 93, 3)) ∧ (decode cX12_all 6 = .ok (.ifCond .ne 6, 3)) ∧ (decode cX12_all 9 = .ok (.bipush (-2), 2)) ∧ (decode cX12_all 11 = .ok (.ireturn, 1)) ∧ (decode cX12_all 12 = .ok (.iload_n 1, 1)) := by decide +kernel
theorem dX12_all_0 : decode cX12_all 0 = .ok (.iload_n 1, 1) := dcX12_all_0.1
theorem dX12_all_1 : decode cX12_all 1 = .ok (.iconst 0, 1) := dcX12_all_0.2.1
theorem dX12_all_2 : decode cX12_all 2 = .ok (.iconst 2, 1) := dcX12_all_0.2.2.1
theorem dX12_all_3 : decode cX12_all 3 = .ok (.invokestatic 93, 3) := dcX12_all_0.2.2.2.1
theorem dX12_all_6 : decode cX12_all 6 = .ok (.ifCond .ne 6, 3) := dcX12_all_0.2.2.2.2.1
theorem dX12_all_9 : decode cX12_all 9 = .ok (.bipush (-2), 2) := dcX12_all_0.2.2.2.2.2.1
theorem dX12_all_11 : decode cX12_all 11 = .ok (.ireturn, 1) := dcX12_all_0.2.2.2.2.2.2.1
theorem dX12_all_12 : decode cX12_all 12 = .ok (.iload_n 1, 1) := dcX12_all_0.2.2.2.2.2.2.2
theorem dcX12_all_1 : (decode cX12_all 13 = .ok (.iconst 2, 1)) ∧ (decode cX12_all 14 = .ok (.if_icmp .ne 8, 3)) ∧ (decode cX12_all 17 = .ok (.aload_n 0, 1)) ∧ (decode cX12_all 18 = .ok (.invokevirtual 215, 3)) ∧ (decode cX12_all 21 = .ok (.ireturn, 1)) ∧ (decode cX12_all 22 = .ok (.iconst 0, 1)) ∧ (decode cX12_all 23 = .ok (.istore_n 2, 1)) ∧ (decode cX12_all 24 = .ok (.aload_n 0, 1)) := by decide +kernel
theorem dX12_all_13 : decode cX12_all 13 = .ok (.iconst 2, 1) := dcX12_all_1.1
theorem dX12_all_14 : decode cX12_all 14 = .ok (.if_icmp .ne 8, 3) := dcX12_all_1.2.1
theorem dX12_all_17 : decode cX12_all 17 = .ok (.aload_n 0, 1) := dcX12_all_1.2.2.1
theorem dX12_all_18 : decode cX12_all 18 = .ok (.invokevirtual 215, 3) := dcX12_all_1.2.2.2.1
theorem dX12_all_21 : decode cX12_all 21 = .ok (.ireturn, 1) := dcX12_all_1.2.2.2.2.1
theorem dX12_all_22 : decode cX12_all 22 = .ok (.iconst 0, 1) := dcX12_all_1.2.2.2.2.2.1
theorem dX12_all_23 : decode cX12_all 23 = .ok (.istore_n 2, 1) := dcX12_all_1.2.2.2.2.2.2.1
theorem dX12_all_24 : decode cX12_all 24 = .ok (.aload_n 0, 1) := dcX12_all_1.2.2.2.2.2.2.2
theorem dcX12_all_2 : (decode cX12_all 25 = .ok (.getfield 90, 3)) ∧ (decode cX12_all 28 = .ok (.ifCond .ne 7, 3)) ∧ (decode cX12_all 31 = .ok (.iconst 0, 1)) ∧ (decode cX12_all 32 = .ok (.goto 5, 3)) ∧ (decode cX12_all 35 = .ok (.ldc 186, 2)) ∧ (decode cX12_all 37 = .ok (.istore_n 3, 1)) ∧ (decode cX12_all 38 = .ok (.iconst 0, 1)) ∧ (decode cX12_all 39 = .ok (.istore 4, 2)) := by decide +kernel
theorem dX12_all_25 : decode cX12_all 25 = .ok (.getfield 90, 3) := dcX12_all_2.1
theorem dX12_all_28 : decode cX12_all 28 = .ok (.ifCond .ne 7, 3) := dcX12_all_2.2.1
theorem dX12_all_31 : decode cX12_all 31 = .ok (.iconst 0, 1) := dcX12_all_2.2.2.1
theorem dX12_all_32 : decode cX12_all 32 = .ok (.goto 5, 3) := dcX12_all_2.2.2.2.1
theorem dX12_all_35 : decode cX12_all 35 = .ok (.ldc 186, 2) := dcX12_all_2.2.2.2.2.1
theorem dX12_all_37 : decode cX12_all 37 = .ok (.istore_n 3, 1) := dcX12_all_2.2.2.2.2.2.1
theorem dX12_all_38 : decode cX12_all 38 = .ok (.iconst 0, 1) := dcX12_all_2.2.2.2.2.2.2.1
theorem dX12_all_39 : decode cX12_all 39 = .ok (.istore 4, 2) := dcX12_all_2.2.2.2.2.2.2.2
theorem dcX12_all_3 : (decode cX12_all 41 = .ok (.iload 4, 2)) ∧ (decode cX12_all 43 = .ok (.aload_n 0, 1)) ∧ (decode cX12_all 44 = .ok (.getfield 90, 3)) ∧ (decode cX12_all 47 = .ok (.if_icmp .ge 27, 3)) ∧ (decode cX12_all 50 = .ok (.aload_n 0, 1)) ∧ (decode cX12_all 51 = .ok (.iload 4, 2)) ∧ (decode cX12_all 53 = .ok (.invokevirtual 206, 3)) ∧ (decode cX12_all 56 = .ok (.istore 5, 2)) := by decide +kernel
theorem dX12_all_41 : decode cX12_all 41 = .ok (.iload 4, 2) := dcX12_all_3.1
theorem dX12_all_43 : decode cX12_all 43 = .ok (.aload_n 0, 1) := dcX12_all_3.2.1
theorem dX12_all_44 : decode cX12_all 44 = .ok (.getfield 90, 3) := dcX12_all_3.2.2.1
theorem dX12_all_47 : decode cX12_all 47 = .ok (.if_icmp .ge 27, 3) := dcX12_all_3.2.2.2.1
theorem dX12_all_50 : decode cX12_all 50 = .ok (.aload_n 0, 1) := dcX12_all_3.2.2.2.2.1
theorem dX12_all_51 : decode cX12_all 51 = .ok (.iload 4, 2) := dcX12_all_3.2.2.2.2.2.1
theorem dX12_all_53 : decode cX12_all 53 = .ok (.invokevirtual 206, 3) := dcX12_all_3.2.2.2.2.2.2.1
theorem dX12_all_56 : decode cX12_all 56 = .ok (.istore 5, 2) := dcX12_all_3.2.2.2.2.2.2.2
theorem dcX12_all_4 : (decode cX12_all 58 = .ok (.iload_n 2, 1)) ∧ (decode cX12_all 59 = .ok (.iload 5, 2)) ∧ (decode cX12_all 61 = .ok (.ior, 1)) ∧ (decode cX12_all 62 = .ok (.istore_n 2, 1)) ∧ (decode cX12_all 63 = .ok (.iload_n 3, 1)) ∧ (decode cX12_all 64 = .ok (.iload 5, 2)) ∧ (decode cX12_all 66 = .ok (.iand, 1)) ∧ (decode cX12_all 67 = .ok (.istore_n 3, 1)) := by decide +kernel
theorem dX12_all_58 : decode cX12_all 58 = .ok (.iload_n 2, 1) := dcX12_all_4.1
theorem dX12_all_59 : decode cX12_all 59 = .ok (.iload 5, 2) := dcX12_all_4.2.1
theorem dX12_all_61 : decode cX12_all 61 = .ok (.ior, 1) := dcX12_all_4.2.2.1
theorem dX12_all_62 : decode cX12_all 62 = .ok (.istore_n 2, 1) := dcX12_all_4.2.2.2.1
theorem dX12_all_63 : decode cX12_all 63 = .ok (.iload_n 3, 1) := dcX12_all_4.2.2.2.2.1
theorem dX12_all_64 : decode cX12_all 64 = .ok (.iload 5, 2) := dcX12_all_4.2.2.2.2.2.1
theorem dX12_all_66 : decode cX12_all 66 = .ok (.iand, 1) := dcX12_all_4.2.2.2.2.2.2.1
theorem dX12_all_67 : decode cX12_all 67 = .ok (.istore_n 3, 1) := dcX12_all_4.2.2.2.2.2.2.2
theorem dcX12_all_5 : (decode cX12_all 68 = .ok (.iinc 4 1, 3)) ∧ (decode cX12_all 71 = .ok (.goto (-30), 3)) ∧ (decode cX12_all 74 = .ok (.iload_n 1, 1)) ∧ (decode cX12_all 75 = .ok (.ifCond .ne 7, 3)) ∧ (decode cX12_all 78 = .ok (.iload_n 2, 1)) ∧ (decode cX12_all 79 = .ok (.goto 4, 3)) ∧ (decode cX12_all 82 = .ok (.iload_n 3, 1)) ∧ (decode cX12_all 83 = .ok (.ireturn, 1)) := by decide +kernel
theorem dX12_all_68 : decode cX12_all 68 = .ok (.iinc 4 1, 3) := dcX12_all_5.1
theorem dX12_all_71 : decode cX12_all 71 = .ok (.goto (-30), 3) := dcX12_all_5.2.1
theorem dX12_all_74 : decode cX12_all 74 = .ok (.iload_n 1, 1) := dcX12_all_5.2.2.1
theorem dX12_all_75 : decode cX12_all 75 = .ok (.ifCond .ne 7, 3) := dcX12_all_5.2.2.2.1
theorem dX12_all_78 : decode cX12_all 78 = .ok (.iload_n 2, 1) := dcX12_all_5.2.2.2.2.1
theorem dX12_all_79 : decode cX12_all 79 = .ok (.goto 4, 3) := dcX12_all_5.2.2.2.2.2.1
theorem dX12_all_82 : decode cX12_all 82 = .ok (.iload_n 3, 1) := dcX12_all_5.2.2.2.2.2.2.1
theorem dX12_all_83 : decode cX12_all 83 = .ok (.ireturn, 1) := dcX12_all_5.2.2.2.2.2.2.2
theorem dcX12_sleep_0 : (decode cX12_sleep 0 = .ok (.aload_n 0, 1)) ∧ (decode cX12_sleep 1 = .ok (.getfield 97, 3)) ∧ (decode cX12_sleep 4 = .ok (.sipush 999, 3)) ∧ (decode cX12_sleep 7 = .ok (.if_icmp .ne 6, 3)) ∧ (decode cX12_sleep 10 = .ok (.bipush (-3), 2)) ∧ (decode cX12_sleep 12 = .ok (.ireturn, 1)) ∧ (decode cX12_sleep 13 = .ok (.iconst 0, 1)) ∧ (decode cX12_sleep 14 = .ok (.istore_n 1, 1)) := by decide +kernel
theorem dX12_sleep_0 : decode cX12_sleep 0 = .ok (.aload_n 0, 1) := dcX12_sleep_0.1
theorem dX12_sleep_1 : decode cX12_sleep 1 = .ok (.getfield 97, 3) := dcX12_sleep_0.2.1
theorem dX12_sleep_4 : decode cX12_sleep 4 = .ok (.sipush 999, 3) := dcX12_sleep_0.2.2.1
theorem dX12_sleep_7 : decode cX12_sleep 7 = .ok (.if_icmp .ne 6, 3) := dcX12_sleep_0.2.2.2.1
theorem dX12_sleep_10 : decode cX12_sleep 10 = .ok (.bipush (-3), 2) := dcX12_sleep_0.2.2.2.2.1
theorem dX12_sleep_12 : decode cX12_sleep 12 = .ok (.ireturn, 1) := dcX12_sleep_0.2.2.2.2.2.1
theorem dX12_sleep_13 : decode cX12_sleep 13 = .ok (.iconst 0, 1) := dcX12_sleep_0.2.2.2.2.2.2.1
theorem dX12_sleep_14 : decode cX12_sleep 14 = .ok (.istore_n 1, 1) := dcX12_sleep_0.2.2.2.2.2.2.2
theorem dcX12_sleep_1 : (decode cX12_sleep 15 = .ok (.iload_n 1, 1)) ∧ (decode cX12_sleep 16 = .ok (.aload_n 0, 1)) ∧ (decode cX12_sleep 17 = .ok (.getfield 90, 3)) ∧ (decode cX12_sleep 20 = .ok (.if_icmp .ge 65, 3)) ∧ (decode cX12_sleep 23 = .ok (.iconst 0, 1)) ∧ (decode cX12_sleep 24 = .ok (.istore_n 2, 1)) ∧ (decode cX12_sleep 25 = .ok (.iload_n 2, 1)) ∧ (decode cX12_sleep 26 = .ok (.bipush 16, 2)) := by decide +kernel
theorem dX12_sleep_15 : decode cX12_sleep 15 = .ok (.iload_n 1, 1) := dcX12_sleep_1.1
theorem dX12_sleep_16 : decode cX12_sleep 16 = .ok (.aload_n 0, 1) := dcX12_sleep_1.2.1
theorem dX12_sleep_17 : decode cX12_sleep 17 = .ok (.getfield 90, 3) := dcX12_sleep_1.2.2.1
theorem dX12_sleep_20 : decode cX12_sleep 20 = .ok (.if_icmp .ge 65, 3) := dcX12_sleep_1.2.2.2.1
theorem dX12_sleep_23 : decode cX12_sleep 23 = .ok (.iconst 0, 1) := dcX12_sleep_1.2.2.2.2.1
theorem dX12_sleep_24 : decode cX12_sleep 24 = .ok (.istore_n 2, 1) := dcX12_sleep_1.2.2.2.2.2.1
theorem dX12_sleep_25 : decode cX12_sleep 25 = .ok (.iload_n 2, 1) := dcX12_sleep_1.2.2.2.2.2.2.1
theorem dX12_sleep_26 : decode cX12_sleep 26 = .ok (.bipush 16, 2) := dcX12_sleep_1.2.2.2.2.2.2.2
theorem dcX12_sleep_2 : (decode cX12_sleep 28 = .ok (.if_icmp .ge 51, 3)) ∧ (decode cX12_sleep 31 = .ok (.bipush 16, 2)) ∧ (decode cX12_sleep 33 = .ok (.iload_n 1, 1)) ∧ (decode cX12_sleep 34 = .ok (.imul, 1)) ∧ (decode cX12_sleep 35 = .ok (.iload_n 2, 1)) ∧ (decode cX12_sleep 36 = .ok (.iadd, 1)) ∧ (decode cX12_sleep 37 = .ok (.istore_n 3, 1)) ∧ (decode cX12_sleep 38 = .ok (.aload_n 0, 1)) := by decide +kernel
theorem dX12_sleep_28 : decode cX12_sleep 28 = .ok (.if_icmp .ge 51, 3) := dcX12_sleep_2.1
theorem dX12_sleep_31 : decode cX12_sleep 31 = .ok (.bipush 16, 2) := dcX12_sleep_2.2.1
theorem dX12_sleep_33 : decode cX12_sleep 33 = .ok (.iload_n 1, 1) := dcX12_sleep_2.2.2.1
theorem dX12_sleep_34 : decode cX12_sleep 34 = .ok (.imul, 1) := dcX12_sleep_2.2.2.2.1
theorem dX12_sleep_35 : decode cX12_sleep 35 = .ok (.iload_n 2, 1) := dcX12_sleep_2.2.2.2.2.1
theorem dX12_sleep_36 : decode cX12_sleep 36 = .ok (.iadd, 1) := dcX12_sleep_2.2.2.2.2.2.1
theorem dX12_sleep_37 : decode cX12_sleep 37 = .ok (.istore_n 3, 1) := dcX12_sleep_2.2.2.2.2.2.2.1
theorem dX12_sleep_38 : decode cX12_sleep 38 = .ok (.aload_n 0, 1) := dcX12_sleep_2.2.2.2.2.2.2.2
theorem dcX12_sleep_3 : (decode cX12_sleep 39 = .ok (.getfield 16, 3)) ∧ (decode cX12_sleep 42 = .ok (.iload_n 3, 1)) ∧ (decode cX12_sleep 43 = .ok (.aload_n 0, 1)) ∧ (decode cX12_sleep 44 = .ok (.getfield 16, 3)) ∧ (decode cX12_sleep 47 = .ok (.iload_n 3, 1)) ∧ (decode cX12_sleep 48 = .ok (.iaload, 1)) ∧ (decode cX12_sleep 49 = .ok (.aload_n 0, 1)) ∧ (decode cX12_sleep 50 = .ok (.iload_n 1, 1)) := by decide +kernel
theorem dX12_sleep_39 : decode cX12_sleep 39 = .ok (.getfield 16, 3) := dcX12_sleep_3.1
theorem dX12_sleep_42 : decode cX12_sleep 42 = .ok (.iload_n 3, 1) := dcX12_sleep_3.2.1
theorem dX12_sleep_43 : decode cX12_sleep 43 = .ok (.aload_n 0, 1) := dcX12_sleep_3.2.2.1
theorem dX12_sleep_44 : decode cX12_sleep 44 = .ok (.getfield 16, 3) := dcX12_sleep_3.2.2.2.1
theorem dX12_sleep_47 : decode cX12_sleep 47 = .ok (.iload_n 3, 1) := dcX12_sleep_3.2.2.2.2.1
theorem dX12_sleep_48 : decode cX12_sleep 48 = .ok (.iaload, 1) := dcX12_sleep_3.2.2.2.2.2.1
theorem dX12_sleep_49 : decode cX12_sleep 49 = .ok (.aload_n 0, 1) := dcX12_sleep_3.2.2.2.2.2.2.1
theorem dX12_sleep_50 : decode cX12_sleep 50 = .ok (.iload_n 1, 1) := dcX12_sleep_3.2.2.2.2.2.2.2
theorem dcX12_sleep_4 : (decode cX12_sleep 51 = .ok (.iload_n 2, 1)) ∧ (decode cX12_sleep 52 = .ok (.aload_n 0, 1)) ∧ (decode cX12_sleep 53 = .ok (.getfield 16, 3)) ∧ (decode cX12_sleep 56 = .ok (.iload_n 3, 1)) ∧ (decode cX12_sleep 57 = .ok (.iaload, 1)) ∧ (decode cX12_sleep 58 = .ok (.aload_n 0, 1)) ∧ (decode cX12_sleep 59 = .ok (.getfield 97, 3)) ∧ (decode cX12_sleep 62 = .ok (.invokevirtual 218, 3)) := by decide +kernel
theorem dX12_sleep_51 : decode cX12_sleep 51 = .ok (.iload_n 2, 1) := dcX12_sleep_4.1
theorem dX12_sleep_52 : decode cX12_sleep 52 = .ok (.aload_n 0, 1) := dcX12_sleep_4.2.1
theorem dX12_sleep_53 : decode cX12_sleep 53 = .ok (.getfield 16, 3) := dcX12_sleep_4.2.2.1
theorem dX12_sleep_56 : decode cX12_sleep 56 = .ok (.iload_n 3, 1) := dcX12_sleep_4.2.2.2.1
theorem dX12_sleep_57 : decode cX12_sleep 57 = .ok (.iaload, 1) := dcX12_sleep_4.2.2.2.2.1
theorem dX12_sleep_58 : decode cX12_sleep 58 = .ok (.aload_n 0, 1) := dcX12_sleep_4.2.2.2.2.2.1
theorem dX12_sleep_59 : decode cX12_sleep 59 = .ok (.getfield 97, 3) := dcX12_sleep_4.2.2.2.2.2.2.1
theorem dX12_sleep_62 : decode cX12_sleep 62 = .ok (.invokevirtual 218, 3) := dcX12_sleep_4.2.2.2.2.2.2.2
theorem dcX12_sleep_5 : (decode cX12_sleep 65 = .ok (.iadd, 1)) ∧ (decode cX12_sleep 66 = .ok (.iconst 0, 1)) ∧ (decode cX12_sleep 67 = .ok (.bipush 99, 2)) ∧ (decode cX12_sleep 69 = .ok (.invokestatic 173, 3)) ∧ (decode cX12_sleep 72 = .ok (.iastore, 1)) ∧ (decode cX12_sleep 73 = .ok (.iinc 2 1, 3)) ∧ (decode cX12_sleep 76 = .ok (.goto (-51), 3)) ∧ (decode cX12_sleep 79 = .ok (.iinc 1 1, 3)) := by decide +kernel
theorem dX12_sleep_65 : decode cX12_sleep 65 = .ok (.iadd, 1) := dcX12_sleep_5.1
theorem dX12_sleep_66 : decode cX12_sleep 66 = .ok (.iconst 0, 1) := dcX12_sleep_5.2.1
theorem dX12_sleep_67 : decode cX12_sleep 67 = .ok (.bipush 99, 2) := dcX12_sleep_5.2.2.1
theorem dX12_sleep_69 : decode cX12_sleep 69 = .ok (.invokestatic 173, 3) := dcX12_sleep_5.2.2.2.1
theorem dX12_sleep_72 : decode cX12_sleep 72 = .ok (.iastore, 1) := dcX12_sleep_5.2.2.2.2.1
theorem dX12_sleep_73 : decode cX12_sleep 73 = .ok (.iinc 2 1, 3) := dcX12_sleep_5.2.2.2.2.2.1
theorem dX12_sleep_76 : decode cX12_sleep 76 = .ok (.goto (-51), 3) := dcX12_sleep_5.2.2.2.2.2.2.1
theorem dX12_sleep_79 : decode cX12_sleep 79 = .ok (.iinc 1 1, 3) := dcX12_sleep_5.2.2.2.2.2.2.2
theorem dcX12_sleep_6 : (decode cX12_sleep 82 = .ok (.goto (-67), 3)) ∧ (decode cX12_sleep 85 = .ok (.aload_n 0, 1)) ∧ (decode cX12_sleep 86 = .ok (.dup, 1)) ∧ (decode cX12_sleep 87 = .ok (.getfield 97, 3)) ∧ (decode cX12_sleep 90 = .ok (.iconst 1, 1)) ∧ (decode cX12_sleep 91 = .ok (.iadd, 1)) ∧ (decode cX12_sleep 92 = .ok (.putfield 97, 3)) ∧ (decode cX12_sleep 95 = .ok (.aload_n 0, 1)) := by decide +kernel
theorem dX12_sleep_82 : decode cX12_sleep 82 = .ok (.goto (-67), 3) := dcX12_sleep_6.1
theorem dX12_sleep_85 : decode cX12_sleep 85 = .ok (.aload_n 0, 1) := dcX12_sleep_6.2.1
theorem dX12_sleep_86 : decode cX12_sleep 86 = .ok (.dup, 1) := dcX12_sleep_6.2.2.1
theorem dX12_sleep_87 : decode cX12_sleep 87 = .ok (.getfield 97, 3) := dcX12_sleep_6.2.2.2.1
theorem dX12_sleep_90 : decode cX12_sleep 90 = .ok (.iconst 1, 1) := dcX12_sleep_6.2.2.2.2.1
theorem dX12_sleep_91 : decode cX12_sleep 91 = .ok (.iadd, 1) := dcX12_sleep_6.2.2.2.2.2.1
theorem dX12_sleep_92 : decode cX12_sleep 92 = .ok (.putfield 97, 3) := dcX12_sleep_6.2.2.2.2.2.2.1
theorem dX12_sleep_95 : decode cX12_sleep 95 = .ok (.aload_n 0, 1) := dcX12_sleep_6.2.2.2.2.2.2.2
theorem dcX12_sleep_7 : (decode cX12_sleep 96 = .ok (.getfield 97, 3)) ∧ (decode cX12_sleep 99 = .ok (.ireturn, 1)) := by decide +kernel
theorem dX12_sleep_96 : decode cX12_sleep 96 = .ok (.getfield 97, 3) := dcX12_sleep_7.1
theorem dX12_sleep_99 : decode cX12_sleep 99 = .ok (.ireturn, 1) := dcX12_sleep_7.2
theorem dcX12_rowOf_0 : (decode cX12_rowOf 0 = .ok (.aload_n 0, 1)) ∧ (decode cX12_rowOf 1 = .ok (.aload_n 0, 1)) ∧ (decode cX12_rowOf 2 = .ok (.getfield 97, 3)) ∧ (decode cX12_rowOf 5 = .ok (.putfield 222, 3)) ∧ (decode cX12_rowOf 8 = .ok (.iconst 0, 1)) ∧ (decode cX12_rowOf 9 = .ok (.istore_n 2, 1)) ∧ (decode cX12_rowOf 10 = .ok (.iload_n 2, 1)) ∧ (decode cX12_rowOf 11 = .ok (.bipush 16, 2)) := by decide +kernel
theorem dX12_rowOf_0 : decode cX12_rowOf 0 = .ok (.aload_n 0, 1) := dcX12_rowOf_0.1
theorem dX12_rowOf_1 : decode cX12_rowOf 1 = .ok (.aload_n 0, 1) := dcX12_rowOf_0.2.1
theorem dX12_rowOf_2 : decode cX12_rowOf 2 = .ok (.getfield 97, 3) := dcX12_rowOf_0.2.2.1
theorem dX12_rowOf_5 : decode cX12_rowOf 5 = .ok (.putfield 222, 3) := dcX12_rowOf_0.2.2.2.1
theorem dX12_rowOf_8 : decode cX12_rowOf 8 = .ok (.iconst 0, 1) := dcX12_rowOf_0.2.2.2.2.1
theorem dX12_rowOf_9 : decode cX12_rowOf 9 = .ok (.istore_n 2, 1) := dcX12_rowOf_0.2.2.2.2.2.1
theorem dX12_rowOf_10 : decode cX12_rowOf 10 = .ok (.iload_n 2, 1) := dcX12_rowOf_0.2.2.2.2.2.2.1
theorem dX12_rowOf_11 : decode cX12_rowOf 11 = .ok (.bipush 16, 2) := dcX12_rowOf_0.2.2.2.2.2.2.2
theorem dcX12_rowOf_1 : (decode cX12_rowOf 13 = .ok (.if_icmp .ge 26, 3)) ∧ (decode cX12_rowOf 16 = .ok (.aload_n 0, 1)) ∧ (decode cX12_rowOf 17 = .ok (.getfield 68, 3)) ∧ (decode cX12_rowOf 20 = .ok (.iload_n 2, 1)) ∧ (decode cX12_rowOf 21 = .ok (.aload_n 0, 1)) ∧ (decode cX12_rowOf 22 = .ok (.getfield 16, 3)) ∧ (decode cX12_rowOf 25 = .ok (.bipush 16, 2)) ∧ (decode cX12_rowOf 27 = .ok (.iload_n 1, 1)) := by decide +kernel
theorem dX12_rowOf_13 : decode cX12_rowOf 13 = .ok (.if_icmp .ge 26, 3) := dcX12_rowOf_1.1
theorem dX12_rowOf_16 : decode cX12_rowOf 16 = .ok (.aload_n 0, 1) := dcX12_rowOf_1.2.1
theorem dX12_rowOf_17 : decode cX12_rowOf 17 = .ok (.getfield 68, 3) := dcX12_rowOf_1.2.2.1
theorem dX12_rowOf_20 : decode cX12_rowOf 20 = .ok (.iload_n 2, 1) := dcX12_rowOf_1.2.2.2.1
theorem dX12_rowOf_21 : decode cX12_rowOf 21 = .ok (.aload_n 0, 1) := dcX12_rowOf_1.2.2.2.2.1
theorem dX12_rowOf_22 : decode cX12_rowOf 22 = .ok (.getfield 16, 3) := dcX12_rowOf_1.2.2.2.2.2.1
theorem dX12_rowOf_25 : decode cX12_rowOf 25 = .ok (.bipush 16, 2) := dcX12_rowOf_1.2.2.2.2.2.2.1
theorem dX12_rowOf_27 : decode cX12_rowOf 27 = .ok (.iload_n 1, 1) := dcX12_rowOf_1.2.2.2.2.2.2.2
theorem dcX12_rowOf_2 : (decode cX12_rowOf 28 = .ok (.imul, 1)) ∧ (decode cX12_rowOf 29 = .ok (.iload_n 2, 1)) ∧ (decode cX12_rowOf 30 = .ok (.iadd, 1)) ∧ (decode cX12_rowOf 31 = .ok (.iaload, 1)) ∧ (decode cX12_rowOf 32 = .ok (.iastore, 1)) ∧ (decode cX12_rowOf 33 = .ok (.iinc 2 1, 3)) ∧ (decode cX12_rowOf 36 = .ok (.goto (-26), 3)) ∧ (decode cX12_rowOf 39 = .ok (.return_, 1)) := by decide +kernel
theorem dX12_rowOf_28 : decode cX12_rowOf 28 = .ok (.imul, 1) := dcX12_rowOf_2.1
theorem dX12_rowOf_29 : decode cX12_rowOf 29 = .ok (.iload_n 2, 1) := dcX12_rowOf_2.2.1
theorem dX12_rowOf_30 : decode cX12_rowOf 30 = .ok (.iadd, 1) := dcX12_rowOf_2.2.2.1
theorem dX12_rowOf_31 : decode cX12_rowOf 31 = .ok (.iaload, 1) := dcX12_rowOf_2.2.2.2.1
theorem dX12_rowOf_32 : decode cX12_rowOf 32 = .ok (.iastore, 1) := dcX12_rowOf_2.2.2.2.2.1
theorem dX12_rowOf_33 : decode cX12_rowOf 33 = .ok (.iinc 2 1, 3) := dcX12_rowOf_2.2.2.2.2.2.1
theorem dX12_rowOf_36 : decode cX12_rowOf 36 = .ok (.goto (-26), 3) := dcX12_rowOf_2.2.2.2.2.2.2.1
theorem dX12_rowOf_39 : decode cX12_rowOf 39 = .ok (.return_, 1) := dcX12_rowOf_2.2.2.2.2.2.2.2
theorem dcX12_rowNight_0 : (decode cX12_rowNight 0 = .ok (.iconst 0, 1)) ∧ (decode cX12_rowNight 1 = .ok (.istore_n 2, 1)) ∧ (decode cX12_rowNight 2 = .ok (.iload_n 2, 1)) ∧ (decode cX12_rowNight 3 = .ok (.bipush 16, 2)) ∧ (decode cX12_rowNight 5 = .ok (.if_icmp .ge 44, 3)) ∧ (decode cX12_rowNight 8 = .ok (.aload_n 0, 1)) ∧ (decode cX12_rowNight 9 = .ok (.getfield 68, 3)) ∧ (decode cX12_rowNight 12 = .ok (.iload_n 2, 1)) := by decide +kernel
theorem dX12_rowNight_0 : decode cX12_rowNight 0 = .ok (.iconst 0, 1) := dcX12_rowNight_0.1
theorem dX12_rowNight_1 : decode cX12_rowNight 1 = .ok (.istore_n 2, 1) := dcX12_rowNight_0.2.1
theorem dX12_rowNight_2 : decode cX12_rowNight 2 = .ok (.iload_n 2, 1) := dcX12_rowNight_0.2.2.1
theorem dX12_rowNight_3 : decode cX12_rowNight 3 = .ok (.bipush 16, 2) := dcX12_rowNight_0.2.2.2.1
theorem dX12_rowNight_5 : decode cX12_rowNight 5 = .ok (.if_icmp .ge 44, 3) := dcX12_rowNight_0.2.2.2.2.1
theorem dX12_rowNight_8 : decode cX12_rowNight 8 = .ok (.aload_n 0, 1) := dcX12_rowNight_0.2.2.2.2.2.1
theorem dX12_rowNight_9 : decode cX12_rowNight 9 = .ok (.getfield 68, 3) := dcX12_rowNight_0.2.2.2.2.2.2.1
theorem dX12_rowNight_12 : decode cX12_rowNight 12 = .ok (.iload_n 2, 1) := dcX12_rowNight_0.2.2.2.2.2.2.2
theorem dcX12_rowNight_1 : (decode cX12_rowNight 13 = .ok (.aload_n 0, 1)) ∧ (decode cX12_rowNight 14 = .ok (.getfield 68, 3)) ∧ (decode cX12_rowNight 17 = .ok (.iload_n 2, 1)) ∧ (decode cX12_rowNight 18 = .ok (.iaload, 1)) ∧ (decode cX12_rowNight 19 = .ok (.aload_n 0, 1)) ∧ (decode cX12_rowNight 20 = .ok (.iload_n 1, 1)) ∧ (decode cX12_rowNight 21 = .ok (.iload_n 2, 1)) ∧ (decode cX12_rowNight 22 = .ok (.aload_n 0, 1)) := by decide +kernel
theorem dX12_rowNight_13 : decode cX12_rowNight 13 = .ok (.aload_n 0, 1) := dcX12_rowNight_1.1
theorem dX12_rowNight_14 : decode cX12_rowNight 14 = .ok (.getfield 68, 3) := dcX12_rowNight_1.2.1
theorem dX12_rowNight_17 : decode cX12_rowNight 17 = .ok (.iload_n 2, 1) := dcX12_rowNight_1.2.2.1
theorem dX12_rowNight_18 : decode cX12_rowNight 18 = .ok (.iaload, 1) := dcX12_rowNight_1.2.2.2.1
theorem dX12_rowNight_19 : decode cX12_rowNight 19 = .ok (.aload_n 0, 1) := dcX12_rowNight_1.2.2.2.2.1
theorem dX12_rowNight_20 : decode cX12_rowNight 20 = .ok (.iload_n 1, 1) := dcX12_rowNight_1.2.2.2.2.2.1
theorem dX12_rowNight_21 : decode cX12_rowNight 21 = .ok (.iload_n 2, 1) := dcX12_rowNight_1.2.2.2.2.2.2.1
theorem dX12_rowNight_22 : decode cX12_rowNight 22 = .ok (.aload_n 0, 1) := dcX12_rowNight_1.2.2.2.2.2.2.2
theorem dcX12_rowNight_2 : (decode cX12_rowNight 23 = .ok (.getfield 68, 3)) ∧ (decode cX12_rowNight 26 = .ok (.iload_n 2, 1)) ∧ (decode cX12_rowNight 27 = .ok (.iaload, 1)) ∧ (decode cX12_rowNight 28 = .ok (.aload_n 0, 1)) ∧ (decode cX12_rowNight 29 = .ok (.getfield 222, 3)) ∧ (decode cX12_rowNight 32 = .ok (.invokevirtual 218, 3)) ∧ (decode cX12_rowNight 35 = .ok (.iadd, 1)) ∧ (decode cX12_rowNight 36 = .ok (.iconst 0, 1)) := by decide +kernel
theorem dX12_rowNight_23 : decode cX12_rowNight 23 = .ok (.getfield 68, 3) := dcX12_rowNight_2.1
theorem dX12_rowNight_26 : decode cX12_rowNight 26 = .ok (.iload_n 2, 1) := dcX12_rowNight_2.2.1
theorem dX12_rowNight_27 : decode cX12_rowNight 27 = .ok (.iaload, 1) := dcX12_rowNight_2.2.2.1
theorem dX12_rowNight_28 : decode cX12_rowNight 28 = .ok (.aload_n 0, 1) := dcX12_rowNight_2.2.2.2.1
theorem dX12_rowNight_29 : decode cX12_rowNight 29 = .ok (.getfield 222, 3) := dcX12_rowNight_2.2.2.2.2.1
theorem dX12_rowNight_32 : decode cX12_rowNight 32 = .ok (.invokevirtual 218, 3) := dcX12_rowNight_2.2.2.2.2.2.1
theorem dX12_rowNight_35 : decode cX12_rowNight 35 = .ok (.iadd, 1) := dcX12_rowNight_2.2.2.2.2.2.2.1
theorem dX12_rowNight_36 : decode cX12_rowNight 36 = .ok (.iconst 0, 1) := dcX12_rowNight_2.2.2.2.2.2.2.2
theorem dcX12_rowNight_3 : (decode cX12_rowNight 37 = .ok (.bipush 99, 2)) ∧ (decode cX12_rowNight 39 = .ok (.invokestatic 173, 3)) ∧ (decode cX12_rowNight 42 = .ok (.iastore, 1)) ∧ (decode cX12_rowNight 43 = .ok (.iinc 2 1, 3)) ∧ (decode cX12_rowNight 46 = .ok (.goto (-44), 3)) ∧ (decode cX12_rowNight 49 = .ok (.aload_n 0, 1)) ∧ (decode cX12_rowNight 50 = .ok (.dup, 1)) ∧ (decode cX12_rowNight 51 = .ok (.getfield 222, 3)) := by decide +kernel
theorem dX12_rowNight_37 : decode cX12_rowNight 37 = .ok (.bipush 99, 2) := dcX12_rowNight_3.1
theorem dX12_rowNight_39 : decode cX12_rowNight 39 = .ok (.invokestatic 173, 3) := dcX12_rowNight_3.2.1
theorem dX12_rowNight_42 : decode cX12_rowNight 42 = .ok (.iastore, 1) := dcX12_rowNight_3.2.2.1
theorem dX12_rowNight_43 : decode cX12_rowNight 43 = .ok (.iinc 2 1, 3) := dcX12_rowNight_3.2.2.2.1
theorem dX12_rowNight_46 : decode cX12_rowNight 46 = .ok (.goto (-44), 3) := dcX12_rowNight_3.2.2.2.2.1
theorem dX12_rowNight_49 : decode cX12_rowNight 49 = .ok (.aload_n 0, 1) := dcX12_rowNight_3.2.2.2.2.2.1
theorem dX12_rowNight_50 : decode cX12_rowNight 50 = .ok (.dup, 1) := dcX12_rowNight_3.2.2.2.2.2.2.1
theorem dX12_rowNight_51 : decode cX12_rowNight 51 = .ok (.getfield 222, 3) := dcX12_rowNight_3.2.2.2.2.2.2.2
theorem dcX12_rowNight_4 : (decode cX12_rowNight 54 = .ok (.iconst 1, 1)) ∧ (decode cX12_rowNight 55 = .ok (.iadd, 1)) ∧ (decode cX12_rowNight 56 = .ok (.putfield 222, 3)) ∧ (decode cX12_rowNight 59 = .ok (.return_, 1)) := by decide +kernel
theorem dX12_rowNight_54 : decode cX12_rowNight 54 = .ok (.iconst 1, 1) := dcX12_rowNight_4.1
theorem dX12_rowNight_55 : decode cX12_rowNight 55 = .ok (.iadd, 1) := dcX12_rowNight_4.2.1
theorem dX12_rowNight_56 : decode cX12_rowNight 56 = .ok (.putfield 222, 3) := dcX12_rowNight_4.2.2.1
theorem dX12_rowNight_59 : decode cX12_rowNight 59 = .ok (.return_, 1) := dcX12_rowNight_4.2.2.2
theorem dcX12_rowClear_0 : (decode cX12_rowClear 0 = .ok (.iconst 0, 1)) ∧ (decode cX12_rowClear 1 = .ok (.istore_n 2, 1)) ∧ (decode cX12_rowClear 2 = .ok (.iconst 0, 1)) ∧ (decode cX12_rowClear 3 = .ok (.istore_n 3, 1)) ∧ (decode cX12_rowClear 4 = .ok (.iload_n 3, 1)) ∧ (decode cX12_rowClear 5 = .ok (.bipush 16, 2)) ∧ (decode cX12_rowClear 7 = .ok (.if_icmp .ge 38, 3)) ∧ (decode cX12_rowClear 10 = .ok (.iload_n 2, 1)) := by decide +kernel
theorem dX12_rowClear_0 : decode cX12_rowClear 0 = .ok (.iconst 0, 1) := dcX12_rowClear_0.1
theorem dX12_rowClear_1 : decode cX12_rowClear 1 = .ok (.istore_n 2, 1) := dcX12_rowClear_0.2.1
theorem dX12_rowClear_2 : decode cX12_rowClear 2 = .ok (.iconst 0, 1) := dcX12_rowClear_0.2.2.1
theorem dX12_rowClear_3 : decode cX12_rowClear 3 = .ok (.istore_n 3, 1) := dcX12_rowClear_0.2.2.2.1
theorem dX12_rowClear_4 : decode cX12_rowClear 4 = .ok (.iload_n 3, 1) := dcX12_rowClear_0.2.2.2.2.1
theorem dX12_rowClear_5 : decode cX12_rowClear 5 = .ok (.bipush 16, 2) := dcX12_rowClear_0.2.2.2.2.2.1
theorem dX12_rowClear_7 : decode cX12_rowClear 7 = .ok (.if_icmp .ge 38, 3) := dcX12_rowClear_0.2.2.2.2.2.2.1
theorem dX12_rowClear_10 : decode cX12_rowClear 10 = .ok (.iload_n 2, 1) := dcX12_rowClear_0.2.2.2.2.2.2.2
theorem dcX12_rowClear_1 : (decode cX12_rowClear 11 = .ok (.aload_n 0, 1)) ∧ (decode cX12_rowClear 12 = .ok (.iload_n 1, 1)) ∧ (decode cX12_rowClear 13 = .ok (.iload_n 3, 1)) ∧ (decode cX12_rowClear 14 = .ok (.aload_n 0, 1)) ∧ (decode cX12_rowClear 15 = .ok (.getfield 68, 3)) ∧ (decode cX12_rowClear 18 = .ok (.iload_n 3, 1)) ∧ (decode cX12_rowClear 19 = .ok (.iaload, 1)) ∧ (decode cX12_rowClear 20 = .ok (.aload_n 0, 1)) := by decide +kernel
theorem dX12_rowClear_11 : decode cX12_rowClear 11 = .ok (.aload_n 0, 1) := dcX12_rowClear_1.1
theorem dX12_rowClear_12 : decode cX12_rowClear 12 = .ok (.iload_n 1, 1) := dcX12_rowClear_1.2.1
theorem dX12_rowClear_13 : decode cX12_rowClear 13 = .ok (.iload_n 3, 1) := dcX12_rowClear_1.2.2.1
theorem dX12_rowClear_14 : decode cX12_rowClear 14 = .ok (.aload_n 0, 1) := dcX12_rowClear_1.2.2.2.1
theorem dX12_rowClear_15 : decode cX12_rowClear 15 = .ok (.getfield 68, 3) := dcX12_rowClear_1.2.2.2.2.1
theorem dX12_rowClear_18 : decode cX12_rowClear 18 = .ok (.iload_n 3, 1) := dcX12_rowClear_1.2.2.2.2.2.1
theorem dX12_rowClear_19 : decode cX12_rowClear 19 = .ok (.iaload, 1) := dcX12_rowClear_1.2.2.2.2.2.2.1
theorem dX12_rowClear_20 : decode cX12_rowClear 20 = .ok (.aload_n 0, 1) := dcX12_rowClear_1.2.2.2.2.2.2.2
theorem dcX12_rowClear_2 : (decode cX12_rowClear 21 = .ok (.getfield 222, 3)) ∧ (decode cX12_rowClear 24 = .ok (.invokevirtual 196, 3)) ∧ (decode cX12_rowClear 27 = .ok (.ifCond .eq 9, 3)) ∧ (decode cX12_rowClear 30 = .ok (.iconst 1, 1)) ∧ (decode cX12_rowClear 31 = .ok (.iload_n 3, 1)) ∧ (decode cX12_rowClear 32 = .ok (.ishl, 1)) ∧ (decode cX12_rowClear 33 = .ok (.goto 4, 3)) ∧ (decode cX12_rowClear 36 = .ok (.iconst 0, 1)) := by decide +kernel
theorem dX12_rowClear_21 : decode cX12_rowClear 21 = .ok (.getfield 222, 3) := dcX12_rowClear_2.1
theorem dX12_rowClear_24 : decode cX12_rowClear 24 = .ok (.invokevirtual 196, 3) := dcX12_rowClear_2.2.1
theorem dX12_rowClear_27 : decode cX12_rowClear 27 = .ok (.ifCond .eq 9, 3) := dcX12_rowClear_2.2.2.1
theorem dX12_rowClear_30 : decode cX12_rowClear 30 = .ok (.iconst 1, 1) := dcX12_rowClear_2.2.2.2.1
theorem dX12_rowClear_31 : decode cX12_rowClear 31 = .ok (.iload_n 3, 1) := dcX12_rowClear_2.2.2.2.2.1
theorem dX12_rowClear_32 : decode cX12_rowClear 32 = .ok (.ishl, 1) := dcX12_rowClear_2.2.2.2.2.2.1
theorem dX12_rowClear_33 : decode cX12_rowClear 33 = .ok (.goto 4, 3) := dcX12_rowClear_2.2.2.2.2.2.2.1
theorem dX12_rowClear_36 : decode cX12_rowClear 36 = .ok (.iconst 0, 1) := dcX12_rowClear_2.2.2.2.2.2.2.2
theorem dcX12_rowClear_3 : (decode cX12_rowClear 37 = .ok (.ior, 1)) ∧ (decode cX12_rowClear 38 = .ok (.istore_n 2, 1)) ∧ (decode cX12_rowClear 39 = .ok (.iinc 3 1, 3)) ∧ (decode cX12_rowClear 42 = .ok (.goto (-38), 3)) ∧ (decode cX12_rowClear 45 = .ok (.iload_n 2, 1)) ∧ (decode cX12_rowClear 46 = .ok (.ireturn, 1)) := by decide +kernel
theorem dX12_rowClear_37 : decode cX12_rowClear 37 = .ok (.ior, 1) := dcX12_rowClear_3.1
theorem dX12_rowClear_38 : decode cX12_rowClear 38 = .ok (.istore_n 2, 1) := dcX12_rowClear_3.2.1
theorem dX12_rowClear_39 : decode cX12_rowClear 39 = .ok (.iinc 3 1, 3) := dcX12_rowClear_3.2.2.1
theorem dX12_rowClear_42 : decode cX12_rowClear 42 = .ok (.goto (-38), 3) := dcX12_rowClear_3.2.2.2.1
theorem dX12_rowClear_45 : decode cX12_rowClear 45 = .ok (.iload_n 2, 1) := dcX12_rowClear_3.2.2.2.2.1
theorem dX12_rowClear_46 : decode cX12_rowClear 46 = .ok (.ireturn, 1) := dcX12_rowClear_3.2.2.2.2.2
theorem dcX12_clean_0 : (decode cX12_clean 0 = .ok (.aload_n 0, 1)) ∧ (decode cX12_clean 1 = .ok (.iload_n 1, 1)) ∧ (decode cX12_clean 2 = .ok (.invokevirtual 176, 3)) ∧ (decode cX12_clean 5 = .ok (.ifCond .ne 6, 3)) ∧ (decode cX12_clean 8 = .ok (.bipush (-5), 2)) ∧ (decode cX12_clean 10 = .ok (.ireturn, 1)) ∧ (decode cX12_clean 11 = .ok (.iload_n 2, 1)) ∧ (decode cX12_clean 12 = .ok (.invokestatic 179, 3)) := by decide +kernel
theorem dX12_clean_0 : decode cX12_clean 0 = .ok (.aload_n 0, 1) := dcX12_clean_0.1
theorem dX12_clean_1 : decode cX12_clean 1 = .ok (.iload_n 1, 1) := dcX12_clean_0.2.1
theorem dX12_clean_2 : decode cX12_clean 2 = .ok (.invokevirtual 176, 3) := dcX12_clean_0.2.2.1
theorem dX12_clean_5 : decode cX12_clean 5 = .ok (.ifCond .ne 6, 3) := dcX12_clean_0.2.2.2.1
theorem dX12_clean_8 : decode cX12_clean 8 = .ok (.bipush (-5), 2) := dcX12_clean_0.2.2.2.2.1
theorem dX12_clean_10 : decode cX12_clean 10 = .ok (.ireturn, 1) := dcX12_clean_0.2.2.2.2.2.1
theorem dX12_clean_11 : decode cX12_clean 11 = .ok (.iload_n 2, 1) := dcX12_clean_0.2.2.2.2.2.2.1
theorem dX12_clean_12 : decode cX12_clean 12 = .ok (.invokestatic 179, 3) := dcX12_clean_0.2.2.2.2.2.2.2
theorem dcX12_clean_1 : (decode cX12_clean 15 = .ok (.ifCond .ne 6, 3)) ∧ (decode cX12_clean 18 = .ok (.bipush (-7), 2)) ∧ (decode cX12_clean 20 = .ok (.ireturn, 1)) ∧ (decode cX12_clean 21 = .ok (.aload_n 0, 1)) ∧ (decode cX12_clean 22 = .ok (.iload_n 1, 1)) ∧ (decode cX12_clean 23 = .ok (.iload_n 2, 1)) ∧ (decode cX12_clean 24 = .ok (.invokevirtual 203, 3)) ∧ (decode cX12_clean 27 = .ok (.istore_n 3, 1)) := by decide +kernel
theorem dX12_clean_15 : decode cX12_clean 15 = .ok (.ifCond .ne 6, 3) := dcX12_clean_1.1
theorem dX12_clean_18 : decode cX12_clean 18 = .ok (.bipush (-7), 2) := dcX12_clean_1.2.1
theorem dX12_clean_20 : decode cX12_clean 20 = .ok (.ireturn, 1) := dcX12_clean_1.2.2.1
theorem dX12_clean_21 : decode cX12_clean 21 = .ok (.aload_n 0, 1) := dcX12_clean_1.2.2.2.1
theorem dX12_clean_22 : decode cX12_clean 22 = .ok (.iload_n 1, 1) := dcX12_clean_1.2.2.2.2.1
theorem dX12_clean_23 : decode cX12_clean 23 = .ok (.iload_n 2, 1) := dcX12_clean_1.2.2.2.2.2.1
theorem dX12_clean_24 : decode cX12_clean 24 = .ok (.invokevirtual 203, 3) := dcX12_clean_1.2.2.2.2.2.2.1
theorem dX12_clean_27 : decode cX12_clean 27 = .ok (.istore_n 3, 1) := dcX12_clean_1.2.2.2.2.2.2.2
theorem dcX12_clean_2 : (decode cX12_clean 28 = .ok (.iload_n 3, 1)) ∧ (decode cX12_clean 29 = .ok (.aload_n 0, 1)) ∧ (decode cX12_clean 30 = .ok (.getfield 22, 3)) ∧ (decode cX12_clean 33 = .ok (.if_icmp .le 6, 3)) ∧ (decode cX12_clean 36 = .ok (.bipush (-3), 2)) ∧ (decode cX12_clean 38 = .ok (.ireturn, 1)) ∧ (decode cX12_clean 39 = .ok (.aload_n 0, 1)) ∧ (decode cX12_clean 40 = .ok (.getfield 16, 3)) := by decide +kernel
theorem dX12_clean_28 : decode cX12_clean 28 = .ok (.iload_n 3, 1) := dcX12_clean_2.1
theorem dX12_clean_29 : decode cX12_clean 29 = .ok (.aload_n 0, 1) := dcX12_clean_2.2.1
theorem dX12_clean_30 : decode cX12_clean 30 = .ok (.getfield 22, 3) := dcX12_clean_2.2.2.1
theorem dX12_clean_33 : decode cX12_clean 33 = .ok (.if_icmp .le 6, 3) := dcX12_clean_2.2.2.2.1
theorem dX12_clean_36 : decode cX12_clean 36 = .ok (.bipush (-3), 2) := dcX12_clean_2.2.2.2.2.1
theorem dX12_clean_38 : decode cX12_clean 38 = .ok (.ireturn, 1) := dcX12_clean_2.2.2.2.2.2.1
theorem dX12_clean_39 : decode cX12_clean 39 = .ok (.aload_n 0, 1) := dcX12_clean_2.2.2.2.2.2.2.1
theorem dX12_clean_40 : decode cX12_clean 40 = .ok (.getfield 16, 3) := dcX12_clean_2.2.2.2.2.2.2.2
theorem dcX12_clean_3 : (decode cX12_clean 43 = .ok (.bipush 16, 2)) ∧ (decode cX12_clean 45 = .ok (.iload_n 1, 1)) ∧ (decode cX12_clean 46 = .ok (.imul, 1)) ∧ (decode cX12_clean 47 = .ok (.iload_n 2, 1)) ∧ (decode cX12_clean 48 = .ok (.iadd, 1)) ∧ (decode cX12_clean 49 = .ok (.iconst 0, 1)) ∧ (decode cX12_clean 50 = .ok (.iastore, 1)) ∧ (decode cX12_clean 51 = .ok (.iload_n 3, 1)) := by decide +kernel
theorem dX12_clean_43 : decode cX12_clean 43 = .ok (.bipush 16, 2) := dcX12_clean_3.1
theorem dX12_clean_45 : decode cX12_clean 45 = .ok (.iload_n 1, 1) := dcX12_clean_3.2.1
theorem dX12_clean_46 : decode cX12_clean 46 = .ok (.imul, 1) := dcX12_clean_3.2.2.1
theorem dX12_clean_47 : decode cX12_clean 47 = .ok (.iload_n 2, 1) := dcX12_clean_3.2.2.2.1
theorem dX12_clean_48 : decode cX12_clean 48 = .ok (.iadd, 1) := dcX12_clean_3.2.2.2.2.1
theorem dX12_clean_49 : decode cX12_clean 49 = .ok (.iconst 0, 1) := dcX12_clean_3.2.2.2.2.2.1
theorem dX12_clean_50 : decode cX12_clean 50 = .ok (.iastore, 1) := dcX12_clean_3.2.2.2.2.2.2.1
theorem dX12_clean_51 : decode cX12_clean 51 = .ok (.iload_n 3, 1) := dcX12_clean_3.2.2.2.2.2.2.2
theorem dX12_clean_52 : decode cX12_clean 52 = .ok (.ireturn, 1) := by decide +kernel
theorem dcX12_run_0 : (decode cX12_run 0 = .ok (.aload_n 0, 1)) ∧ (decode cX12_run 1 = .ok (.iload_n 1, 1)) ∧ (decode cX12_run 2 = .ok (.invokevirtual 176, 3)) ∧ (decode cX12_run 5 = .ok (.ifCond .ne 6, 3)) ∧ (decode cX12_run 8 = .ok (.bipush (-5), 2)) ∧ (decode cX12_run 10 = .ok (.ireturn, 1)) ∧ (decode cX12_run 11 = .ok (.iload_n 2, 1)) ∧ (decode cX12_run 12 = .ok (.iconst 0, 1)) := by decide +kernel
theorem dX12_run_0 : decode cX12_run 0 = .ok (.aload_n 0, 1) := dcX12_run_0.1
theorem dX12_run_1 : decode cX12_run 1 = .ok (.iload_n 1, 1) := dcX12_run_0.2.1
theorem dX12_run_2 : decode cX12_run 2 = .ok (.invokevirtual 176, 3) := dcX12_run_0.2.2.1
theorem dX12_run_5 : decode cX12_run 5 = .ok (.ifCond .ne 6, 3) := dcX12_run_0.2.2.2.1
theorem dX12_run_8 : decode cX12_run 8 = .ok (.bipush (-5), 2) := dcX12_run_0.2.2.2.2.1
theorem dX12_run_10 : decode cX12_run 10 = .ok (.ireturn, 1) := dcX12_run_0.2.2.2.2.2.1
theorem dX12_run_11 : decode cX12_run 11 = .ok (.iload_n 2, 1) := dcX12_run_0.2.2.2.2.2.2.1
theorem dX12_run_12 : decode cX12_run 12 = .ok (.iconst 0, 1) := dcX12_run_0.2.2.2.2.2.2.2
theorem dcX12_run_1 : (decode cX12_run 13 = .ok (.bipush 40, 2)) ∧ (decode cX12_run 15 = .ok (.invokestatic 93, 3)) ∧ (decode cX12_run 18 = .ok (.ifCond .eq 12, 3)) ∧ (decode cX12_run 21 = .ok (.iload_n 3, 1)) ∧ (decode cX12_run 22 = .ok (.iconst 0, 1)) ∧ (decode cX12_run 23 = .ok (.iconst 1, 1)) ∧ (decode cX12_run 24 = .ok (.invokestatic 93, 3)) ∧ (decode cX12_run 27 = .ok (.ifCond .ne 6, 3)) := by decide +kernel
theorem dX12_run_13 : decode cX12_run 13 = .ok (.bipush 40, 2) := dcX12_run_1.1
theorem dX12_run_15 : decode cX12_run 15 = .ok (.invokestatic 93, 3) := dcX12_run_1.2.1
theorem dX12_run_18 : decode cX12_run 18 = .ok (.ifCond .eq 12, 3) := dcX12_run_1.2.2.1
theorem dX12_run_21 : decode cX12_run 21 = .ok (.iload_n 3, 1) := dcX12_run_1.2.2.2.1
theorem dX12_run_22 : decode cX12_run 22 = .ok (.iconst 0, 1) := dcX12_run_1.2.2.2.2.1
theorem dX12_run_23 : decode cX12_run 23 = .ok (.iconst 1, 1) := dcX12_run_1.2.2.2.2.2.1
theorem dX12_run_24 : decode cX12_run 24 = .ok (.invokestatic 93, 3) := dcX12_run_1.2.2.2.2.2.2.1
theorem dX12_run_27 : decode cX12_run 27 = .ok (.ifCond .ne 6, 3) := dcX12_run_1.2.2.2.2.2.2.2
theorem dcX12_run_2 : (decode cX12_run 30 = .ok (.bipush (-7), 2)) ∧ (decode cX12_run 32 = .ok (.ireturn, 1)) ∧ (decode cX12_run 33 = .ok (.aload_n 0, 1)) ∧ (decode cX12_run 34 = .ok (.iload_n 1, 1)) ∧ (decode cX12_run 35 = .ok (.invokevirtual 225, 3)) ∧ (decode cX12_run 38 = .ok (.iconst 0, 1)) ∧ (decode cX12_run 39 = .ok (.istore 4, 2)) ∧ (decode cX12_run 41 = .ok (.iload 4, 2)) := by decide +kernel
theorem dX12_run_30 : decode cX12_run 30 = .ok (.bipush (-7), 2) := dcX12_run_2.1
theorem dX12_run_32 : decode cX12_run 32 = .ok (.ireturn, 1) := dcX12_run_2.2.1
theorem dX12_run_33 : decode cX12_run 33 = .ok (.aload_n 0, 1) := dcX12_run_2.2.2.1
theorem dX12_run_34 : decode cX12_run 34 = .ok (.iload_n 1, 1) := dcX12_run_2.2.2.2.1
theorem dX12_run_35 : decode cX12_run 35 = .ok (.invokevirtual 225, 3) := dcX12_run_2.2.2.2.2.1
theorem dX12_run_38 : decode cX12_run 38 = .ok (.iconst 0, 1) := dcX12_run_2.2.2.2.2.2.1
theorem dX12_run_39 : decode cX12_run 39 = .ok (.istore 4, 2) := dcX12_run_2.2.2.2.2.2.2.1
theorem dX12_run_41 : decode cX12_run 41 = .ok (.iload 4, 2) := dcX12_run_2.2.2.2.2.2.2.2
theorem dcX12_run_3 : (decode cX12_run 43 = .ok (.iload_n 2, 1)) ∧ (decode cX12_run 44 = .ok (.if_icmp .ge 14, 3)) ∧ (decode cX12_run 47 = .ok (.aload_n 0, 1)) ∧ (decode cX12_run 48 = .ok (.iload_n 1, 1)) ∧ (decode cX12_run 49 = .ok (.invokevirtual 228, 3)) ∧ (decode cX12_run 52 = .ok (.iinc 4 1, 3)) ∧ (decode cX12_run 55 = .ok (.goto (-14), 3)) ∧ (decode cX12_run 58 = .ok (.iconst 0, 1)) := by decide +kernel
theorem dX12_run_43 : decode cX12_run 43 = .ok (.iload_n 2, 1) := dcX12_run_3.1
theorem dX12_run_44 : decode cX12_run 44 = .ok (.if_icmp .ge 14, 3) := dcX12_run_3.2.1
theorem dX12_run_47 : decode cX12_run 47 = .ok (.aload_n 0, 1) := dcX12_run_3.2.2.1
theorem dX12_run_48 : decode cX12_run 48 = .ok (.iload_n 1, 1) := dcX12_run_3.2.2.2.1
theorem dX12_run_49 : decode cX12_run 49 = .ok (.invokevirtual 228, 3) := dcX12_run_3.2.2.2.2.1
theorem dX12_run_52 : decode cX12_run 52 = .ok (.iinc 4 1, 3) := dcX12_run_3.2.2.2.2.2.1
theorem dX12_run_55 : decode cX12_run 55 = .ok (.goto (-14), 3) := dcX12_run_3.2.2.2.2.2.2.1
theorem dX12_run_58 : decode cX12_run 58 = .ok (.iconst 0, 1) := dcX12_run_3.2.2.2.2.2.2.2
theorem dcX12_run_4 : (decode cX12_run 59 = .ok (.istore 4, 2)) ∧ (decode cX12_run 61 = .ok (.iconst 0, 1)) ∧ (decode cX12_run 62 = .ok (.istore 5, 2)) ∧ (decode cX12_run 64 = .ok (.iload 5, 2)) ∧ (decode cX12_run 66 = .ok (.bipush 16, 2)) ∧ (decode cX12_run 68 = .ok (.if_icmp .ge 21, 3)) ∧ (decode cX12_run 71 = .ok (.iload 4, 2)) ∧ (decode cX12_run 73 = .ok (.aload_n 0, 1)) := by decide +kernel
theorem dX12_run_59 : decode cX12_run 59 = .ok (.istore 4, 2) := dcX12_run_4.1
theorem dX12_run_61 : decode cX12_run 61 = .ok (.iconst 0, 1) := dcX12_run_4.2.1
theorem dX12_run_62 : decode cX12_run 62 = .ok (.istore 5, 2) := dcX12_run_4.2.2.1
theorem dX12_run_64 : decode cX12_run 64 = .ok (.iload 5, 2) := dcX12_run_4.2.2.2.1
theorem dX12_run_66 : decode cX12_run 66 = .ok (.bipush 16, 2) := dcX12_run_4.2.2.2.2.1
theorem dX12_run_68 : decode cX12_run 68 = .ok (.if_icmp .ge 21, 3) := dcX12_run_4.2.2.2.2.2.1
theorem dX12_run_71 : decode cX12_run 71 = .ok (.iload 4, 2) := dcX12_run_4.2.2.2.2.2.2.1
theorem dX12_run_73 : decode cX12_run 73 = .ok (.aload_n 0, 1) := dcX12_run_4.2.2.2.2.2.2.2
theorem dcX12_run_5 : (decode cX12_run 74 = .ok (.getfield 68, 3)) ∧ (decode cX12_run 77 = .ok (.iload 5, 2)) ∧ (decode cX12_run 79 = .ok (.iaload, 1)) ∧ (decode cX12_run 80 = .ok (.iadd, 1)) ∧ (decode cX12_run 81 = .ok (.istore 4, 2)) ∧ (decode cX12_run 83 = .ok (.iinc 5 1, 3)) ∧ (decode cX12_run 86 = .ok (.goto (-22), 3)) ∧ (decode cX12_run 89 = .ok (.iload_n 3, 1)) := by decide +kernel
theorem dX12_run_74 : decode cX12_run 74 = .ok (.getfield 68, 3) := dcX12_run_5.1
theorem dX12_run_77 : decode cX12_run 77 = .ok (.iload 5, 2) := dcX12_run_5.2.1
theorem dX12_run_79 : decode cX12_run 79 = .ok (.iaload, 1) := dcX12_run_5.2.2.1
theorem dX12_run_80 : decode cX12_run 80 = .ok (.iadd, 1) := dcX12_run_5.2.2.2.1
theorem dX12_run_81 : decode cX12_run 81 = .ok (.istore 4, 2) := dcX12_run_5.2.2.2.2.1
theorem dX12_run_83 : decode cX12_run 83 = .ok (.iinc 5 1, 3) := dcX12_run_5.2.2.2.2.2.1
theorem dX12_run_86 : decode cX12_run 86 = .ok (.goto (-22), 3) := dcX12_run_5.2.2.2.2.2.2.1
theorem dX12_run_89 : decode cX12_run 89 = .ok (.iload_n 3, 1) := dcX12_run_5.2.2.2.2.2.2.2
theorem dcX12_run_6 : (decode cX12_run 90 = .ok (.ifCond .ne 18, 3)) ∧ (decode cX12_run 93 = .ok (.aload_n 0, 1)) ∧ (decode cX12_run 94 = .ok (.iload_n 1, 1)) ∧ (decode cX12_run 95 = .ok (.invokevirtual 231, 3)) ∧ (decode cX12_run 98 = .ok (.aload_n 0, 1)) ∧ (decode cX12_run 99 = .ok (.getfield 19, 3)) ∧ (decode cX12_run 102 = .ok (.iload_n 1, 1)) ∧ (decode cX12_run 103 = .ok (.iaload, 1)) := by decide +kernel
theorem dX12_run_90 : decode cX12_run 90 = .ok (.ifCond .ne 18, 3) := dcX12_run_6.1
theorem dX12_run_93 : decode cX12_run 93 = .ok (.aload_n 0, 1) := dcX12_run_6.2.1
theorem dX12_run_94 : decode cX12_run 94 = .ok (.iload_n 1, 1) := dcX12_run_6.2.2.1
theorem dX12_run_95 : decode cX12_run 95 = .ok (.invokevirtual 231, 3) := dcX12_run_6.2.2.2.1
theorem dX12_run_98 : decode cX12_run 98 = .ok (.aload_n 0, 1) := dcX12_run_6.2.2.2.2.1
theorem dX12_run_99 : decode cX12_run 99 = .ok (.getfield 19, 3) := dcX12_run_6.2.2.2.2.2.1
theorem dX12_run_102 : decode cX12_run 102 = .ok (.iload_n 1, 1) := dcX12_run_6.2.2.2.2.2.2.1
theorem dX12_run_103 : decode cX12_run 103 = .ok (.iaload, 1) := dcX12_run_6.2.2.2.2.2.2.2
theorem dcX12_run_7 : (decode cX12_run 104 = .ok (.iand, 1)) ∧ (decode cX12_run 105 = .ok (.goto 5, 3)) ∧ (decode cX12_run 108 = .ok (.iload 4, 2)) ∧ (decode cX12_run 110 = .ok (.ireturn, 1)) := by decide +kernel
theorem dX12_run_104 : decode cX12_run 104 = .ok (.iand, 1) := dcX12_run_7.1
theorem dX12_run_105 : decode cX12_run 105 = .ok (.goto 5, 3) := dcX12_run_7.2.1
theorem dX12_run_108 : decode cX12_run 108 = .ok (.iload 4, 2) := dcX12_run_7.2.2.1
theorem dX12_run_110 : decode cX12_run 110 = .ok (.ireturn, 1) := dcX12_run_7.2.2.2
theorem dcX12_blind_0 : (decode cX12_blind 0 = .ok (.aload_n 0, 1)) ∧ (decode cX12_blind 1 = .ok (.iload_n 1, 1)) ∧ (decode cX12_blind 2 = .ok (.invokevirtual 176, 3)) ∧ (decode cX12_blind 5 = .ok (.ifCond .ne 6, 3)) ∧ (decode cX12_blind 8 = .ok (.bipush (-5), 2)) ∧ (decode cX12_blind 10 = .ok (.ireturn, 1)) ∧ (decode cX12_blind 11 = .ok (.aload_n 0, 1)) ∧ (decode cX12_blind 12 = .ok (.iload_n 1, 1)) := by decide +kernel
theorem dX12_blind_0 : decode cX12_blind 0 = .ok (.aload_n 0, 1) := dcX12_blind_0.1
theorem dX12_blind_1 : decode cX12_blind 1 = .ok (.iload_n 1, 1) := dcX12_blind_0.2.1
theorem dX12_blind_2 : decode cX12_blind 2 = .ok (.invokevirtual 176, 3) := dcX12_blind_0.2.2.1
theorem dX12_blind_5 : decode cX12_blind 5 = .ok (.ifCond .ne 6, 3) := dcX12_blind_0.2.2.2.1
theorem dX12_blind_8 : decode cX12_blind 8 = .ok (.bipush (-5), 2) := dcX12_blind_0.2.2.2.2.1
theorem dX12_blind_10 : decode cX12_blind 10 = .ok (.ireturn, 1) := dcX12_blind_0.2.2.2.2.2.1
theorem dX12_blind_11 : decode cX12_blind 11 = .ok (.aload_n 0, 1) := dcX12_blind_0.2.2.2.2.2.2.1
theorem dX12_blind_12 : decode cX12_blind 12 = .ok (.iload_n 1, 1) := dcX12_blind_0.2.2.2.2.2.2.2
theorem dcX12_blind_1 : (decode cX12_blind 13 = .ok (.invokevirtual 225, 3)) ∧ (decode cX12_blind 16 = .ok (.iconst 0, 1)) ∧ (decode cX12_blind 17 = .ok (.istore_n 2, 1)) ∧ (decode cX12_blind 18 = .ok (.iload_n 2, 1)) ∧ (decode cX12_blind 19 = .ok (.bipush 40, 2)) ∧ (decode cX12_blind 21 = .ok (.if_icmp .gt 31, 3)) ∧ (decode cX12_blind 24 = .ok (.aload_n 0, 1)) ∧ (decode cX12_blind 25 = .ok (.iload_n 1, 1)) := by decide +kernel
theorem dX12_blind_13 : decode cX12_blind 13 = .ok (.invokevirtual 225, 3) := dcX12_blind_1.1
theorem dX12_blind_16 : decode cX12_blind 16 = .ok (.iconst 0, 1) := dcX12_blind_1.2.1
theorem dX12_blind_17 : decode cX12_blind 17 = .ok (.istore_n 2, 1) := dcX12_blind_1.2.2.1
theorem dX12_blind_18 : decode cX12_blind 18 = .ok (.iload_n 2, 1) := dcX12_blind_1.2.2.2.1
theorem dX12_blind_19 : decode cX12_blind 19 = .ok (.bipush 40, 2) := dcX12_blind_1.2.2.2.2.1
theorem dX12_blind_21 : decode cX12_blind 21 = .ok (.if_icmp .gt 31, 3) := dcX12_blind_1.2.2.2.2.2.1
theorem dX12_blind_24 : decode cX12_blind 24 = .ok (.aload_n 0, 1) := dcX12_blind_1.2.2.2.2.2.2.1
theorem dX12_blind_25 : decode cX12_blind 25 = .ok (.iload_n 1, 1) := dcX12_blind_1.2.2.2.2.2.2.2
theorem dcX12_blind_2 : (decode cX12_blind 26 = .ok (.invokevirtual 231, 3)) ∧ (decode cX12_blind 29 = .ok (.aload_n 0, 1)) ∧ (decode cX12_blind 30 = .ok (.getfield 19, 3)) ∧ (decode cX12_blind 33 = .ok (.iload_n 1, 1)) ∧ (decode cX12_blind 34 = .ok (.iaload, 1)) ∧ (decode cX12_blind 35 = .ok (.iand, 1)) ∧ (decode cX12_blind 36 = .ok (.ifCond .ne 5, 3)) ∧ (decode cX12_blind 39 = .ok (.iload_n 2, 1)) := by decide +kernel
theorem dX12_blind_26 : decode cX12_blind 26 = .ok (.invokevirtual 231, 3) := dcX12_blind_2.1
theorem dX12_blind_29 : decode cX12_blind 29 = .ok (.aload_n 0, 1) := dcX12_blind_2.2.1
theorem dX12_blind_30 : decode cX12_blind 30 = .ok (.getfield 19, 3) := dcX12_blind_2.2.2.1
theorem dX12_blind_33 : decode cX12_blind 33 = .ok (.iload_n 1, 1) := dcX12_blind_2.2.2.2.1
theorem dX12_blind_34 : decode cX12_blind 34 = .ok (.iaload, 1) := dcX12_blind_2.2.2.2.2.1
theorem dX12_blind_35 : decode cX12_blind 35 = .ok (.iand, 1) := dcX12_blind_2.2.2.2.2.2.1
theorem dX12_blind_36 : decode cX12_blind 36 = .ok (.ifCond .ne 5, 3) := dcX12_blind_2.2.2.2.2.2.2.1
theorem dX12_blind_39 : decode cX12_blind 39 = .ok (.iload_n 2, 1) := dcX12_blind_2.2.2.2.2.2.2.2
theorem dcX12_blind_3 : (decode cX12_blind 40 = .ok (.ireturn, 1)) ∧ (decode cX12_blind 41 = .ok (.aload_n 0, 1)) ∧ (decode cX12_blind 42 = .ok (.iload_n 1, 1)) ∧ (decode cX12_blind 43 = .ok (.invokevirtual 228, 3)) ∧ (decode cX12_blind 46 = .ok (.iinc 2 1, 3)) ∧ (decode cX12_blind 49 = .ok (.goto (-31), 3)) ∧ (decode cX12_blind 52 = .ok (.iconst (-1), 1)) ∧ (decode cX12_blind 53 = .ok (.ireturn, 1)) := by decide +kernel
theorem dX12_blind_40 : decode cX12_blind 40 = .ok (.ireturn, 1) := dcX12_blind_3.1
theorem dX12_blind_41 : decode cX12_blind 41 = .ok (.aload_n 0, 1) := dcX12_blind_3.2.1
theorem dX12_blind_42 : decode cX12_blind 42 = .ok (.iload_n 1, 1) := dcX12_blind_3.2.2.1
theorem dX12_blind_43 : decode cX12_blind 43 = .ok (.invokevirtual 228, 3) := dcX12_blind_3.2.2.2.1
theorem dX12_blind_46 : decode cX12_blind 46 = .ok (.iinc 2 1, 3) := dcX12_blind_3.2.2.2.2.1
theorem dX12_blind_49 : decode cX12_blind 49 = .ok (.goto (-31), 3) := dcX12_blind_3.2.2.2.2.2.1
theorem dX12_blind_52 : decode cX12_blind 52 = .ok (.iconst (-1), 1) := dcX12_blind_3.2.2.2.2.2.2.1
theorem dX12_blind_53 : decode cX12_blind 53 = .ok (.ireturn, 1) := dcX12_blind_3.2.2.2.2.2.2.2
theorem dcX12_couldSet_0 : (decode cX12_couldSet 0 = .ok (.iconst 0, 1)) ∧ (decode cX12_couldSet 1 = .ok (.istore_n 2, 1)) ∧ (decode cX12_couldSet 2 = .ok (.iconst 0, 1)) ∧ (decode cX12_couldSet 3 = .ok (.istore_n 3, 1)) ∧ (decode cX12_couldSet 4 = .ok (.iload_n 3, 1)) ∧ (decode cX12_couldSet 5 = .ok (.bipush 16, 2)) ∧ (decode cX12_couldSet 7 = .ok (.if_icmp .ge 79, 3)) ∧ (decode cX12_couldSet 10 = .ok (.aload_n 0, 1)) := by decide +kernel
theorem dX12_couldSet_0 : decode cX12_couldSet 0 = .ok (.iconst 0, 1) := dcX12_couldSet_0.1
theorem dX12_couldSet_1 : decode cX12_couldSet 1 = .ok (.istore_n 2, 1) := dcX12_couldSet_0.2.1
theorem dX12_couldSet_2 : decode cX12_couldSet 2 = .ok (.iconst 0, 1) := dcX12_couldSet_0.2.2.1
theorem dX12_couldSet_3 : decode cX12_couldSet 3 = .ok (.istore_n 3, 1) := dcX12_couldSet_0.2.2.2.1
theorem dX12_couldSet_4 : decode cX12_couldSet 4 = .ok (.iload_n 3, 1) := dcX12_couldSet_0.2.2.2.2.1
theorem dX12_couldSet_5 : decode cX12_couldSet 5 = .ok (.bipush 16, 2) := dcX12_couldSet_0.2.2.2.2.2.1
theorem dX12_couldSet_7 : decode cX12_couldSet 7 = .ok (.if_icmp .ge 79, 3) := dcX12_couldSet_0.2.2.2.2.2.2.1
theorem dX12_couldSet_10 : decode cX12_couldSet 10 = .ok (.aload_n 0, 1) := dcX12_couldSet_0.2.2.2.2.2.2.2
theorem dcX12_couldSet_1 : (decode cX12_couldSet 11 = .ok (.getfield 19, 3)) ∧ (decode cX12_couldSet 14 = .ok (.iload_n 1, 1)) ∧ (decode cX12_couldSet 15 = .ok (.iaload, 1)) ∧ (decode cX12_couldSet 16 = .ok (.iload_n 3, 1)) ∧ (decode cX12_couldSet 17 = .ok (.ishr, 1)) ∧ (decode cX12_couldSet 18 = .ok (.iconst 1, 1)) ∧ (decode cX12_couldSet 19 = .ok (.iand, 1)) ∧ (decode cX12_couldSet 20 = .ok (.iconst 1, 1)) := by decide +kernel
theorem dX12_couldSet_11 : decode cX12_couldSet 11 = .ok (.getfield 19, 3) := dcX12_couldSet_1.1
theorem dX12_couldSet_14 : decode cX12_couldSet 14 = .ok (.iload_n 1, 1) := dcX12_couldSet_1.2.1
theorem dX12_couldSet_15 : decode cX12_couldSet 15 = .ok (.iaload, 1) := dcX12_couldSet_1.2.2.1
theorem dX12_couldSet_16 : decode cX12_couldSet 16 = .ok (.iload_n 3, 1) := dcX12_couldSet_1.2.2.2.1
theorem dX12_couldSet_17 : decode cX12_couldSet 17 = .ok (.ishr, 1) := dcX12_couldSet_1.2.2.2.2.1
theorem dX12_couldSet_18 : decode cX12_couldSet 18 = .ok (.iconst 1, 1) := dcX12_couldSet_1.2.2.2.2.2.1
theorem dX12_couldSet_19 : decode cX12_couldSet 19 = .ok (.iand, 1) := dcX12_couldSet_1.2.2.2.2.2.2.1
theorem dX12_couldSet_20 : decode cX12_couldSet 20 = .ok (.iconst 1, 1) := dcX12_couldSet_1.2.2.2.2.2.2.2
theorem dcX12_couldSet_2 : (decode cX12_couldSet 21 = .ok (.if_icmp .ne 31, 3)) ∧ (decode cX12_couldSet 24 = .ok (.aload_n 0, 1)) ∧ (decode cX12_couldSet 25 = .ok (.iload_n 1, 1)) ∧ (decode cX12_couldSet 26 = .ok (.iload_n 3, 1)) ∧ (decode cX12_couldSet 27 = .ok (.aload_n 0, 1)) ∧ (decode cX12_couldSet 28 = .ok (.getfield 16, 3)) ∧ (decode cX12_couldSet 31 = .ok (.bipush 16, 2)) ∧ (decode cX12_couldSet 33 = .ok (.iload_n 1, 1)) := by decide +kernel
theorem dX12_couldSet_21 : decode cX12_couldSet 21 = .ok (.if_icmp .ne 31, 3) := dcX12_couldSet_2.1
theorem dX12_couldSet_24 : decode cX12_couldSet 24 = .ok (.aload_n 0, 1) := dcX12_couldSet_2.2.1
theorem dX12_couldSet_25 : decode cX12_couldSet 25 = .ok (.iload_n 1, 1) := dcX12_couldSet_2.2.2.1
theorem dX12_couldSet_26 : decode cX12_couldSet 26 = .ok (.iload_n 3, 1) := dcX12_couldSet_2.2.2.2.1
theorem dX12_couldSet_27 : decode cX12_couldSet 27 = .ok (.aload_n 0, 1) := dcX12_couldSet_2.2.2.2.2.1
theorem dX12_couldSet_28 : decode cX12_couldSet 28 = .ok (.getfield 16, 3) := dcX12_couldSet_2.2.2.2.2.2.1
theorem dX12_couldSet_31 : decode cX12_couldSet 31 = .ok (.bipush 16, 2) := dcX12_couldSet_2.2.2.2.2.2.2.1
theorem dX12_couldSet_33 : decode cX12_couldSet 33 = .ok (.iload_n 1, 1) := dcX12_couldSet_2.2.2.2.2.2.2.2
theorem dcX12_couldSet_3 : (decode cX12_couldSet 34 = .ok (.imul, 1)) ∧ (decode cX12_couldSet 35 = .ok (.iload_n 3, 1)) ∧ (decode cX12_couldSet 36 = .ok (.iadd, 1)) ∧ (decode cX12_couldSet 37 = .ok (.iaload, 1)) ∧ (decode cX12_couldSet 38 = .ok (.aload_n 0, 1)) ∧ (decode cX12_couldSet 39 = .ok (.getfield 97, 3)) ∧ (decode cX12_couldSet 42 = .ok (.invokevirtual 196, 3)) ∧ (decode cX12_couldSet 45 = .ok (.ifCond .ne 7, 3)) := by decide +kernel
theorem dX12_couldSet_34 : decode cX12_couldSet 34 = .ok (.imul, 1) := dcX12_couldSet_3.1
theorem dX12_couldSet_35 : decode cX12_couldSet 35 = .ok (.iload_n 3, 1) := dcX12_couldSet_3.2.1
theorem dX12_couldSet_36 : decode cX12_couldSet 36 = .ok (.iadd, 1) := dcX12_couldSet_3.2.2.1
theorem dX12_couldSet_37 : decode cX12_couldSet 37 = .ok (.iaload, 1) := dcX12_couldSet_3.2.2.2.1
theorem dX12_couldSet_38 : decode cX12_couldSet 38 = .ok (.aload_n 0, 1) := dcX12_couldSet_3.2.2.2.2.1
theorem dX12_couldSet_39 : decode cX12_couldSet 39 = .ok (.getfield 97, 3) := dcX12_couldSet_3.2.2.2.2.2.1
theorem dX12_couldSet_42 : decode cX12_couldSet 42 = .ok (.invokevirtual 196, 3) := dcX12_couldSet_3.2.2.2.2.2.2.1
theorem dX12_couldSet_45 : decode cX12_couldSet 45 = .ok (.ifCond .ne 7, 3) := dcX12_couldSet_3.2.2.2.2.2.2.2
theorem dcX12_couldSet_4 : (decode cX12_couldSet 48 = .ok (.iconst 1, 1)) ∧ (decode cX12_couldSet 49 = .ok (.goto 4, 3)) ∧ (decode cX12_couldSet 52 = .ok (.iconst 0, 1)) ∧ (decode cX12_couldSet 53 = .ok (.istore 4, 2)) ∧ (decode cX12_couldSet 55 = .ok (.iload 4, 2)) ∧ (decode cX12_couldSet 57 = .ok (.ifCond .eq 23, 3)) ∧ (decode cX12_couldSet 60 = .ok (.aload_n 0, 1)) ∧ (decode cX12_couldSet 61 = .ok (.iload_n 1, 1)) := by decide +kernel
theorem dX12_couldSet_48 : decode cX12_couldSet 48 = .ok (.iconst 1, 1) := dcX12_couldSet_4.1
theorem dX12_couldSet_49 : decode cX12_couldSet 49 = .ok (.goto 4, 3) := dcX12_couldSet_4.2.1
theorem dX12_couldSet_52 : decode cX12_couldSet 52 = .ok (.iconst 0, 1) := dcX12_couldSet_4.2.2.1
theorem dX12_couldSet_53 : decode cX12_couldSet 53 = .ok (.istore 4, 2) := dcX12_couldSet_4.2.2.2.1
theorem dX12_couldSet_55 : decode cX12_couldSet 55 = .ok (.iload 4, 2) := dcX12_couldSet_4.2.2.2.2.1
theorem dX12_couldSet_57 : decode cX12_couldSet 57 = .ok (.ifCond .eq 23, 3) := dcX12_couldSet_4.2.2.2.2.2.1
theorem dX12_couldSet_60 : decode cX12_couldSet 60 = .ok (.aload_n 0, 1) := dcX12_couldSet_4.2.2.2.2.2.2.1
theorem dX12_couldSet_61 : decode cX12_couldSet 61 = .ok (.iload_n 1, 1) := dcX12_couldSet_4.2.2.2.2.2.2.2
theorem dcX12_couldSet_5 : (decode cX12_couldSet 62 = .ok (.iload_n 3, 1)) ∧ (decode cX12_couldSet 63 = .ok (.iconst 0, 1)) ∧ (decode cX12_couldSet 64 = .ok (.aload_n 0, 1)) ∧ (decode cX12_couldSet 65 = .ok (.getfield 97, 3)) ∧ (decode cX12_couldSet 68 = .ok (.invokevirtual 196, 3)) ∧ (decode cX12_couldSet 71 = .ok (.ifCond .eq 9, 3)) ∧ (decode cX12_couldSet 74 = .ok (.iload_n 2, 1)) ∧ (decode cX12_couldSet 75 = .ok (.iconst 1, 1)) := by decide +kernel
theorem dX12_couldSet_62 : decode cX12_couldSet 62 = .ok (.iload_n 3, 1) := dcX12_couldSet_5.1
theorem dX12_couldSet_63 : decode cX12_couldSet 63 = .ok (.iconst 0, 1) := dcX12_couldSet_5.2.1
theorem dX12_couldSet_64 : decode cX12_couldSet 64 = .ok (.aload_n 0, 1) := dcX12_couldSet_5.2.2.1
theorem dX12_couldSet_65 : decode cX12_couldSet 65 = .ok (.getfield 97, 3) := dcX12_couldSet_5.2.2.2.1
theorem dX12_couldSet_68 : decode cX12_couldSet 68 = .ok (.invokevirtual 196, 3) := dcX12_couldSet_5.2.2.2.2.1
theorem dX12_couldSet_71 : decode cX12_couldSet 71 = .ok (.ifCond .eq 9, 3) := dcX12_couldSet_5.2.2.2.2.2.1
theorem dX12_couldSet_74 : decode cX12_couldSet 74 = .ok (.iload_n 2, 1) := dcX12_couldSet_5.2.2.2.2.2.2.1
theorem dX12_couldSet_75 : decode cX12_couldSet 75 = .ok (.iconst 1, 1) := dcX12_couldSet_5.2.2.2.2.2.2.2
theorem dcX12_couldSet_6 : (decode cX12_couldSet 76 = .ok (.iload_n 3, 1)) ∧ (decode cX12_couldSet 77 = .ok (.ishl, 1)) ∧ (decode cX12_couldSet 78 = .ok (.ior, 1)) ∧ (decode cX12_couldSet 79 = .ok (.istore_n 2, 1)) ∧ (decode cX12_couldSet 80 = .ok (.iinc 3 1, 3)) ∧ (decode cX12_couldSet 83 = .ok (.goto (-79), 3)) ∧ (decode cX12_couldSet 86 = .ok (.iload_n 2, 1)) ∧ (decode cX12_couldSet 87 = .ok (.ireturn, 1)) := by decide +kernel
theorem dX12_couldSet_76 : decode cX12_couldSet 76 = .ok (.iload_n 3, 1) := dcX12_couldSet_6.1
theorem dX12_couldSet_77 : decode cX12_couldSet 77 = .ok (.ishl, 1) := dcX12_couldSet_6.2.1
theorem dX12_couldSet_78 : decode cX12_couldSet 78 = .ok (.ior, 1) := dcX12_couldSet_6.2.2.1
theorem dX12_couldSet_79 : decode cX12_couldSet 79 = .ok (.istore_n 2, 1) := dcX12_couldSet_6.2.2.2.1
theorem dX12_couldSet_80 : decode cX12_couldSet 80 = .ok (.iinc 3 1, 3) := dcX12_couldSet_6.2.2.2.2.1
theorem dX12_couldSet_83 : decode cX12_couldSet 83 = .ok (.goto (-79), 3) := dcX12_couldSet_6.2.2.2.2.2.1
theorem dX12_couldSet_86 : decode cX12_couldSet 86 = .ok (.iload_n 2, 1) := dcX12_couldSet_6.2.2.2.2.2.2.1
theorem dX12_couldSet_87 : decode cX12_couldSet 87 = .ok (.ireturn, 1) := dcX12_couldSet_6.2.2.2.2.2.2.2
theorem dcX12_finds_0 : (decode cX12_finds 0 = .ok (.aload_n 0, 1)) ∧ (decode cX12_finds 1 = .ok (.iload_n 1, 1)) ∧ (decode cX12_finds 2 = .ok (.invokevirtual 234, 3)) ∧ (decode cX12_finds 5 = .ok (.istore_n 2, 1)) ∧ (decode cX12_finds 6 = .ok (.aload_n 0, 1)) ∧ (decode cX12_finds 7 = .ok (.iconst 0, 1)) ∧ (decode cX12_finds 8 = .ok (.putfield 237, 3)) ∧ (decode cX12_finds 11 = .ok (.aload_n 0, 1)) := by decide +kernel
theorem dX12_finds_0 : decode cX12_finds 0 = .ok (.aload_n 0, 1) := dcX12_finds_0.1
theorem dX12_finds_1 : decode cX12_finds 1 = .ok (.iload_n 1, 1) := dcX12_finds_0.2.1
theorem dX12_finds_2 : decode cX12_finds 2 = .ok (.invokevirtual 234, 3) := dcX12_finds_0.2.2.1
theorem dX12_finds_5 : decode cX12_finds 5 = .ok (.istore_n 2, 1) := dcX12_finds_0.2.2.2.1
theorem dX12_finds_6 : decode cX12_finds 6 = .ok (.aload_n 0, 1) := dcX12_finds_0.2.2.2.2.1
theorem dX12_finds_7 : decode cX12_finds 7 = .ok (.iconst 0, 1) := dcX12_finds_0.2.2.2.2.2.1
theorem dX12_finds_8 : decode cX12_finds 8 = .ok (.putfield 237, 3) := dcX12_finds_0.2.2.2.2.2.2.1
theorem dX12_finds_11 : decode cX12_finds 11 = .ok (.aload_n 0, 1) := dcX12_finds_0.2.2.2.2.2.2.2
theorem dcX12_finds_1 : (decode cX12_finds 12 = .ok (.iconst 0, 1)) ∧ (decode cX12_finds 13 = .ok (.putfield 240, 3)) ∧ (decode cX12_finds 16 = .ok (.aload_n 0, 1)) ∧ (decode cX12_finds 17 = .ok (.iconst 0, 1)) ∧ (decode cX12_finds 18 = .ok (.putfield 243, 3)) ∧ (decode cX12_finds 21 = .ok (.iconst 0, 1)) ∧ (decode cX12_finds 22 = .ok (.istore_n 3, 1)) ∧ (decode cX12_finds 23 = .ok (.iload_n 3, 1)) := by decide +kernel
theorem dX12_finds_12 : decode cX12_finds 12 = .ok (.iconst 0, 1) := dcX12_finds_1.1
theorem dX12_finds_13 : decode cX12_finds 13 = .ok (.putfield 240, 3) := dcX12_finds_1.2.1
theorem dX12_finds_16 : decode cX12_finds 16 = .ok (.aload_n 0, 1) := dcX12_finds_1.2.2.1
theorem dX12_finds_17 : decode cX12_finds 17 = .ok (.iconst 0, 1) := dcX12_finds_1.2.2.2.1
theorem dX12_finds_18 : decode cX12_finds 18 = .ok (.putfield 243, 3) := dcX12_finds_1.2.2.2.2.1
theorem dX12_finds_21 : decode cX12_finds 21 = .ok (.iconst 0, 1) := dcX12_finds_1.2.2.2.2.2.1
theorem dX12_finds_22 : decode cX12_finds 22 = .ok (.istore_n 3, 1) := dcX12_finds_1.2.2.2.2.2.2.1
theorem dX12_finds_23 : decode cX12_finds 23 = .ok (.iload_n 3, 1) := dcX12_finds_1.2.2.2.2.2.2.2
theorem dcX12_finds_2 : (decode cX12_finds 24 = .ok (.bipush 16, 2)) ∧ (decode cX12_finds 26 = .ok (.if_icmp .ge 34, 3)) ∧ (decode cX12_finds 29 = .ok (.aload_n 0, 1)) ∧ (decode cX12_finds 30 = .ok (.getfield 71, 3)) ∧ (decode cX12_finds 33 = .ok (.iload_n 3, 1)) ∧ (decode cX12_finds 34 = .ok (.iload_n 2, 1)) ∧ (decode cX12_finds 35 = .ok (.iload_n 3, 1)) ∧ (decode cX12_finds 36 = .ok (.ishr, 1)) := by decide +kernel
theorem dX12_finds_24 : decode cX12_finds 24 = .ok (.bipush 16, 2) := dcX12_finds_2.1
theorem dX12_finds_26 : decode cX12_finds 26 = .ok (.if_icmp .ge 34, 3) := dcX12_finds_2.2.1
theorem dX12_finds_29 : decode cX12_finds 29 = .ok (.aload_n 0, 1) := dcX12_finds_2.2.2.1
theorem dX12_finds_30 : decode cX12_finds 30 = .ok (.getfield 71, 3) := dcX12_finds_2.2.2.2.1
theorem dX12_finds_33 : decode cX12_finds 33 = .ok (.iload_n 3, 1) := dcX12_finds_2.2.2.2.2.1
theorem dX12_finds_34 : decode cX12_finds 34 = .ok (.iload_n 2, 1) := dcX12_finds_2.2.2.2.2.2.1
theorem dX12_finds_35 : decode cX12_finds 35 = .ok (.iload_n 3, 1) := dcX12_finds_2.2.2.2.2.2.2.1
theorem dX12_finds_36 : decode cX12_finds 36 = .ok (.ishr, 1) := dcX12_finds_2.2.2.2.2.2.2.2
theorem dcX12_finds_3 : (decode cX12_finds 37 = .ok (.iconst 1, 1)) ∧ (decode cX12_finds 38 = .ok (.iand, 1)) ∧ (decode cX12_finds 39 = .ok (.iconst 1, 1)) ∧ (decode cX12_finds 40 = .ok (.if_icmp .ne 12, 3)) ∧ (decode cX12_finds 43 = .ok (.aload_n 0, 1)) ∧ (decode cX12_finds 44 = .ok (.iload_n 1, 1)) ∧ (decode cX12_finds 45 = .ok (.iload_n 3, 1)) ∧ (decode cX12_finds 46 = .ok (.invokevirtual 203, 3)) := by decide +kernel
theorem dX12_finds_37 : decode cX12_finds 37 = .ok (.iconst 1, 1) := dcX12_finds_3.1
theorem dX12_finds_38 : decode cX12_finds 38 = .ok (.iand, 1) := dcX12_finds_3.2.1
theorem dX12_finds_39 : decode cX12_finds 39 = .ok (.iconst 1, 1) := dcX12_finds_3.2.2.1
theorem dX12_finds_40 : decode cX12_finds 40 = .ok (.if_icmp .ne 12, 3) := dcX12_finds_3.2.2.2.1
theorem dX12_finds_43 : decode cX12_finds 43 = .ok (.aload_n 0, 1) := dcX12_finds_3.2.2.2.2.1
theorem dX12_finds_44 : decode cX12_finds 44 = .ok (.iload_n 1, 1) := dcX12_finds_3.2.2.2.2.2.1
theorem dX12_finds_45 : decode cX12_finds 45 = .ok (.iload_n 3, 1) := dcX12_finds_3.2.2.2.2.2.2.1
theorem dX12_finds_46 : decode cX12_finds 46 = .ok (.invokevirtual 203, 3) := dcX12_finds_3.2.2.2.2.2.2.2
theorem dcX12_finds_4 : (decode cX12_finds 49 = .ok (.goto 4, 3)) ∧ (decode cX12_finds 52 = .ok (.iconst 0, 1)) ∧ (decode cX12_finds 53 = .ok (.iastore, 1)) ∧ (decode cX12_finds 54 = .ok (.iinc 3 1, 3)) ∧ (decode cX12_finds 57 = .ok (.goto (-34), 3)) ∧ (decode cX12_finds 60 = .ok (.iconst 1, 1)) ∧ (decode cX12_finds 61 = .ok (.istore_n 3, 1)) ∧ (decode cX12_finds 62 = .ok (.iload_n 3, 1)) := by decide +kernel
theorem dX12_finds_49 : decode cX12_finds 49 = .ok (.goto 4, 3) := dcX12_finds_4.1
theorem dX12_finds_52 : decode cX12_finds 52 = .ok (.iconst 0, 1) := dcX12_finds_4.2.1
theorem dX12_finds_53 : decode cX12_finds 53 = .ok (.iastore, 1) := dcX12_finds_4.2.2.1
theorem dX12_finds_54 : decode cX12_finds 54 = .ok (.iinc 3 1, 3) := dcX12_finds_4.2.2.2.1
theorem dX12_finds_57 : decode cX12_finds 57 = .ok (.goto (-34), 3) := dcX12_finds_4.2.2.2.2.1
theorem dX12_finds_60 : decode cX12_finds 60 = .ok (.iconst 1, 1) := dcX12_finds_4.2.2.2.2.2.1
theorem dX12_finds_61 : decode cX12_finds 61 = .ok (.istore_n 3, 1) := dcX12_finds_4.2.2.2.2.2.2.1
theorem dX12_finds_62 : decode cX12_finds 62 = .ok (.iload_n 3, 1) := dcX12_finds_4.2.2.2.2.2.2.2
theorem dcX12_finds_5 : (decode cX12_finds 63 = .ok (.ifCond .eq 169, 3)) ∧ (decode cX12_finds 66 = .ok (.iconst (-1), 1)) ∧ (decode cX12_finds 67 = .ok (.istore 4, 2)) ∧ (decode cX12_finds 69 = .ok (.iconst 0, 1)) ∧ (decode cX12_finds 70 = .ok (.istore 5, 2)) ∧ (decode cX12_finds 72 = .ok (.iload 5, 2)) ∧ (decode cX12_finds 74 = .ok (.bipush 16, 2)) ∧ (decode cX12_finds 76 = .ok (.if_icmp .ge 64, 3)) := by decide +kernel
theorem dX12_finds_63 : decode cX12_finds 63 = .ok (.ifCond .eq 169, 3) := dcX12_finds_5.1
theorem dX12_finds_66 : decode cX12_finds 66 = .ok (.iconst (-1), 1) := dcX12_finds_5.2.1
theorem dX12_finds_67 : decode cX12_finds 67 = .ok (.istore 4, 2) := dcX12_finds_5.2.2.1
theorem dX12_finds_69 : decode cX12_finds 69 = .ok (.iconst 0, 1) := dcX12_finds_5.2.2.2.1
theorem dX12_finds_70 : decode cX12_finds 70 = .ok (.istore 5, 2) := dcX12_finds_5.2.2.2.2.1
theorem dX12_finds_72 : decode cX12_finds 72 = .ok (.iload 5, 2) := dcX12_finds_5.2.2.2.2.2.1
theorem dX12_finds_74 : decode cX12_finds 74 = .ok (.bipush 16, 2) := dcX12_finds_5.2.2.2.2.2.2.1
theorem dX12_finds_76 : decode cX12_finds 76 = .ok (.if_icmp .ge 64, 3) := dcX12_finds_5.2.2.2.2.2.2.2
theorem dcX12_finds_6 : (decode cX12_finds 79 = .ok (.iload_n 2, 1)) ∧ (decode cX12_finds 80 = .ok (.iload 5, 2)) ∧ (decode cX12_finds 82 = .ok (.ishr, 1)) ∧ (decode cX12_finds 83 = .ok (.iconst 1, 1)) ∧ (decode cX12_finds 84 = .ok (.iand, 1)) ∧ (decode cX12_finds 85 = .ok (.iconst 1, 1)) ∧ (decode cX12_finds 86 = .ok (.if_icmp .ne 7, 3)) ∧ (decode cX12_finds 89 = .ok (.iconst 1, 1)) := by decide +kernel
theorem dX12_finds_79 : decode cX12_finds 79 = .ok (.iload_n 2, 1) := dcX12_finds_6.1
theorem dX12_finds_80 : decode cX12_finds 80 = .ok (.iload 5, 2) := dcX12_finds_6.2.1
theorem dX12_finds_82 : decode cX12_finds 82 = .ok (.ishr, 1) := dcX12_finds_6.2.2.1
theorem dX12_finds_83 : decode cX12_finds 83 = .ok (.iconst 1, 1) := dcX12_finds_6.2.2.2.1
theorem dX12_finds_84 : decode cX12_finds 84 = .ok (.iand, 1) := dcX12_finds_6.2.2.2.2.1
theorem dX12_finds_85 : decode cX12_finds 85 = .ok (.iconst 1, 1) := dcX12_finds_6.2.2.2.2.2.1
theorem dX12_finds_86 : decode cX12_finds 86 = .ok (.if_icmp .ne 7, 3) := dcX12_finds_6.2.2.2.2.2.2.1
theorem dX12_finds_89 : decode cX12_finds 89 = .ok (.iconst 1, 1) := dcX12_finds_6.2.2.2.2.2.2.2
theorem dcX12_finds_7 : (decode cX12_finds 90 = .ok (.goto 4, 3)) ∧ (decode cX12_finds 93 = .ok (.iconst 0, 1)) ∧ (decode cX12_finds 94 = .ok (.istore 6, 2)) ∧ (decode cX12_finds 96 = .ok (.iload 6, 2)) ∧ (decode cX12_finds 98 = .ok (.ifCond .eq 36, 3)) ∧ (decode cX12_finds 101 = .ok (.iload 4, 2)) ∧ (decode cX12_finds 103 = .ok (.iconst (-1), 1)) ∧ (decode cX12_finds 104 = .ok (.if_icmp .eq 26, 3)) := by decide +kernel
theorem dX12_finds_90 : decode cX12_finds 90 = .ok (.goto 4, 3) := dcX12_finds_7.1
theorem dX12_finds_93 : decode cX12_finds 93 = .ok (.iconst 0, 1) := dcX12_finds_7.2.1
theorem dX12_finds_94 : decode cX12_finds 94 = .ok (.istore 6, 2) := dcX12_finds_7.2.2.1
theorem dX12_finds_96 : decode cX12_finds 96 = .ok (.iload 6, 2) := dcX12_finds_7.2.2.2.1
theorem dX12_finds_98 : decode cX12_finds 98 = .ok (.ifCond .eq 36, 3) := dcX12_finds_7.2.2.2.2.1
theorem dX12_finds_101 : decode cX12_finds 101 = .ok (.iload 4, 2) := dcX12_finds_7.2.2.2.2.2.1
theorem dX12_finds_103 : decode cX12_finds 103 = .ok (.iconst (-1), 1) := dcX12_finds_7.2.2.2.2.2.2.1
theorem dX12_finds_104 : decode cX12_finds 104 = .ok (.if_icmp .eq 26, 3) := dcX12_finds_7.2.2.2.2.2.2.2
theorem dcX12_finds_8 : (decode cX12_finds 107 = .ok (.aload_n 0, 1)) ∧ (decode cX12_finds 108 = .ok (.getfield 71, 3)) ∧ (decode cX12_finds 111 = .ok (.iload 5, 2)) ∧ (decode cX12_finds 113 = .ok (.iaload, 1)) ∧ (decode cX12_finds 114 = .ok (.aload_n 0, 1)) ∧ (decode cX12_finds 115 = .ok (.getfield 71, 3)) ∧ (decode cX12_finds 118 = .ok (.iload 4, 2)) ∧ (decode cX12_finds 120 = .ok (.iconst 0, 1)) := by decide +kernel
theorem dX12_finds_107 : decode cX12_finds 107 = .ok (.aload_n 0, 1) := dcX12_finds_8.1
theorem dX12_finds_108 : decode cX12_finds 108 = .ok (.getfield 71, 3) := dcX12_finds_8.2.1
theorem dX12_finds_111 : decode cX12_finds 111 = .ok (.iload 5, 2) := dcX12_finds_8.2.2.1
theorem dX12_finds_113 : decode cX12_finds 113 = .ok (.iaload, 1) := dcX12_finds_8.2.2.2.1
theorem dX12_finds_114 : decode cX12_finds 114 = .ok (.aload_n 0, 1) := dcX12_finds_8.2.2.2.2.1
theorem dX12_finds_115 : decode cX12_finds 115 = .ok (.getfield 71, 3) := dcX12_finds_8.2.2.2.2.2.1
theorem dX12_finds_118 : decode cX12_finds 118 = .ok (.iload 4, 2) := dcX12_finds_8.2.2.2.2.2.2.1
theorem dX12_finds_120 : decode cX12_finds 120 = .ok (.iconst 0, 1) := dcX12_finds_8.2.2.2.2.2.2.2
theorem dcX12_finds_9 : (decode cX12_finds 121 = .ok (.bipush 15, 2)) ∧ (decode cX12_finds 123 = .ok (.invokestatic 173, 3)) ∧ (decode cX12_finds 126 = .ok (.iaload, 1)) ∧ (decode cX12_finds 127 = .ok (.if_icmp .ge 7, 3)) ∧ (decode cX12_finds 130 = .ok (.iload 5, 2)) ∧ (decode cX12_finds 132 = .ok (.istore 4, 2)) ∧ (decode cX12_finds 134 = .ok (.iinc 5 1, 3)) ∧ (decode cX12_finds 137 = .ok (.goto (-65), 3)) := by decide +kernel
theorem dX12_finds_121 : decode cX12_finds 121 = .ok (.bipush 15, 2) := dcX12_finds_9.1
theorem dX12_finds_123 : decode cX12_finds 123 = .ok (.invokestatic 173, 3) := dcX12_finds_9.2.1
theorem dX12_finds_126 : decode cX12_finds 126 = .ok (.iaload, 1) := dcX12_finds_9.2.2.1
theorem dX12_finds_127 : decode cX12_finds 127 = .ok (.if_icmp .ge 7, 3) := dcX12_finds_9.2.2.2.1
theorem dX12_finds_130 : decode cX12_finds 130 = .ok (.iload 5, 2) := dcX12_finds_9.2.2.2.2.1
theorem dX12_finds_132 : decode cX12_finds 132 = .ok (.istore 4, 2) := dcX12_finds_9.2.2.2.2.2.1
theorem dX12_finds_134 : decode cX12_finds 134 = .ok (.iinc 5 1, 3) := dcX12_finds_9.2.2.2.2.2.2.1
theorem dX12_finds_137 : decode cX12_finds 137 = .ok (.goto (-65), 3) := dcX12_finds_9.2.2.2.2.2.2.2
theorem dcX12_finds_10 : (decode cX12_finds 140 = .ok (.iload 4, 2)) ∧ (decode cX12_finds 142 = .ok (.iconst (-1), 1)) ∧ (decode cX12_finds 143 = .ok (.if_icmp .eq 32, 3)) ∧ (decode cX12_finds 146 = .ok (.aload_n 0, 1)) ∧ (decode cX12_finds 147 = .ok (.getfield 243, 3)) ∧ (decode cX12_finds 150 = .ok (.aload_n 0, 1)) ∧ (decode cX12_finds 151 = .ok (.getfield 71, 3)) ∧ (decode cX12_finds 154 = .ok (.iload 4, 2)) := by decide +kernel
theorem dX12_finds_140 : decode cX12_finds 140 = .ok (.iload 4, 2) := dcX12_finds_10.1
theorem dX12_finds_142 : decode cX12_finds 142 = .ok (.iconst (-1), 1) := dcX12_finds_10.2.1
theorem dX12_finds_143 : decode cX12_finds 143 = .ok (.if_icmp .eq 32, 3) := dcX12_finds_10.2.2.1
theorem dX12_finds_146 : decode cX12_finds 146 = .ok (.aload_n 0, 1) := dcX12_finds_10.2.2.2.1
theorem dX12_finds_147 : decode cX12_finds 147 = .ok (.getfield 243, 3) := dcX12_finds_10.2.2.2.2.1
theorem dX12_finds_150 : decode cX12_finds 150 = .ok (.aload_n 0, 1) := dcX12_finds_10.2.2.2.2.2.1
theorem dX12_finds_151 : decode cX12_finds 151 = .ok (.getfield 71, 3) := dcX12_finds_10.2.2.2.2.2.2.1
theorem dX12_finds_154 : decode cX12_finds 154 = .ok (.iload 4, 2) := dcX12_finds_10.2.2.2.2.2.2.2
theorem dcX12_finds_11 : (decode cX12_finds 156 = .ok (.iconst 0, 1)) ∧ (decode cX12_finds 157 = .ok (.bipush 15, 2)) ∧ (decode cX12_finds 159 = .ok (.invokestatic 173, 3)) ∧ (decode cX12_finds 162 = .ok (.iaload, 1)) ∧ (decode cX12_finds 163 = .ok (.iadd, 1)) ∧ (decode cX12_finds 164 = .ok (.aload_n 0, 1)) ∧ (decode cX12_finds 165 = .ok (.getfield 22, 3)) ∧ (decode cX12_finds 168 = .ok (.if_icmp .gt 7, 3)) := by decide +kernel
theorem dX12_finds_156 : decode cX12_finds 156 = .ok (.iconst 0, 1) := dcX12_finds_11.1
theorem dX12_finds_157 : decode cX12_finds 157 = .ok (.bipush 15, 2) := dcX12_finds_11.2.1
theorem dX12_finds_159 : decode cX12_finds 159 = .ok (.invokestatic 173, 3) := dcX12_finds_11.2.2.1
theorem dX12_finds_162 : decode cX12_finds 162 = .ok (.iaload, 1) := dcX12_finds_11.2.2.2.1
theorem dX12_finds_163 : decode cX12_finds 163 = .ok (.iadd, 1) := dcX12_finds_11.2.2.2.2.1
theorem dX12_finds_164 : decode cX12_finds 164 = .ok (.aload_n 0, 1) := dcX12_finds_11.2.2.2.2.2.1
theorem dX12_finds_165 : decode cX12_finds 165 = .ok (.getfield 22, 3) := dcX12_finds_11.2.2.2.2.2.2.1
theorem dX12_finds_168 : decode cX12_finds 168 = .ok (.if_icmp .gt 7, 3) := dcX12_finds_11.2.2.2.2.2.2.2
theorem dcX12_finds_12 : (decode cX12_finds 171 = .ok (.iconst 1, 1)) ∧ (decode cX12_finds 172 = .ok (.goto 4, 3)) ∧ (decode cX12_finds 175 = .ok (.iconst 0, 1)) ∧ (decode cX12_finds 176 = .ok (.istore_n 3, 1)) ∧ (decode cX12_finds 177 = .ok (.iload_n 3, 1)) ∧ (decode cX12_finds 178 = .ok (.ifCond .eq 51, 3)) ∧ (decode cX12_finds 181 = .ok (.aload_n 0, 1)) ∧ (decode cX12_finds 182 = .ok (.dup, 1)) := by decide +kernel
theorem dX12_finds_171 : decode cX12_finds 171 = .ok (.iconst 1, 1) := dcX12_finds_12.1
theorem dX12_finds_172 : decode cX12_finds 172 = .ok (.goto 4, 3) := dcX12_finds_12.2.1
theorem dX12_finds_175 : decode cX12_finds 175 = .ok (.iconst 0, 1) := dcX12_finds_12.2.2.1
theorem dX12_finds_176 : decode cX12_finds 176 = .ok (.istore_n 3, 1) := dcX12_finds_12.2.2.2.1
theorem dX12_finds_177 : decode cX12_finds 177 = .ok (.iload_n 3, 1) := dcX12_finds_12.2.2.2.2.1
theorem dX12_finds_178 : decode cX12_finds 178 = .ok (.ifCond .eq 51, 3) := dcX12_finds_12.2.2.2.2.2.1
theorem dX12_finds_181 : decode cX12_finds 181 = .ok (.aload_n 0, 1) := dcX12_finds_12.2.2.2.2.2.2.1
theorem dX12_finds_182 : decode cX12_finds 182 = .ok (.dup, 1) := dcX12_finds_12.2.2.2.2.2.2.2
theorem dcX12_finds_13 : (decode cX12_finds 183 = .ok (.getfield 237, 3)) ∧ (decode cX12_finds 186 = .ok (.iconst 1, 1)) ∧ (decode cX12_finds 187 = .ok (.iload 4, 2)) ∧ (decode cX12_finds 189 = .ok (.ishl, 1)) ∧ (decode cX12_finds 190 = .ok (.ior, 1)) ∧ (decode cX12_finds 191 = .ok (.putfield 237, 3)) ∧ (decode cX12_finds 194 = .ok (.iload_n 2, 1)) ∧ (decode cX12_finds 195 = .ok (.iconst 1, 1)) := by decide +kernel
theorem dX12_finds_183 : decode cX12_finds 183 = .ok (.getfield 237, 3) := dcX12_finds_13.1
theorem dX12_finds_186 : decode cX12_finds 186 = .ok (.iconst 1, 1) := dcX12_finds_13.2.1
theorem dX12_finds_187 : decode cX12_finds 187 = .ok (.iload 4, 2) := dcX12_finds_13.2.2.1
theorem dX12_finds_189 : decode cX12_finds 189 = .ok (.ishl, 1) := dcX12_finds_13.2.2.2.1
theorem dX12_finds_190 : decode cX12_finds 190 = .ok (.ior, 1) := dcX12_finds_13.2.2.2.2.1
theorem dX12_finds_191 : decode cX12_finds 191 = .ok (.putfield 237, 3) := dcX12_finds_13.2.2.2.2.2.1
theorem dX12_finds_194 : decode cX12_finds 194 = .ok (.iload_n 2, 1) := dcX12_finds_13.2.2.2.2.2.2.1
theorem dX12_finds_195 : decode cX12_finds 195 = .ok (.iconst 1, 1) := dcX12_finds_13.2.2.2.2.2.2.2
theorem dcX12_finds_14 : (decode cX12_finds 196 = .ok (.iload 4, 2)) ∧ (decode cX12_finds 198 = .ok (.ishl, 1)) ∧ (decode cX12_finds 199 = .ok (.iconst (-1), 1)) ∧ (decode cX12_finds 200 = .ok (.ixor, 1)) ∧ (decode cX12_finds 201 = .ok (.iand, 1)) ∧ (decode cX12_finds 202 = .ok (.istore_n 2, 1)) ∧ (decode cX12_finds 203 = .ok (.aload_n 0, 1)) ∧ (decode cX12_finds 204 = .ok (.dup, 1)) := by decide +kernel
theorem dX12_finds_196 : decode cX12_finds 196 = .ok (.iload 4, 2) := dcX12_finds_14.1
theorem dX12_finds_198 : decode cX12_finds 198 = .ok (.ishl, 1) := dcX12_finds_14.2.1
theorem dX12_finds_199 : decode cX12_finds 199 = .ok (.iconst (-1), 1) := dcX12_finds_14.2.2.1
theorem dX12_finds_200 : decode cX12_finds 200 = .ok (.ixor, 1) := dcX12_finds_14.2.2.2.1
theorem dX12_finds_201 : decode cX12_finds 201 = .ok (.iand, 1) := dcX12_finds_14.2.2.2.2.1
theorem dX12_finds_202 : decode cX12_finds 202 = .ok (.istore_n 2, 1) := dcX12_finds_14.2.2.2.2.2.1
theorem dX12_finds_203 : decode cX12_finds 203 = .ok (.aload_n 0, 1) := dcX12_finds_14.2.2.2.2.2.2.1
theorem dX12_finds_204 : decode cX12_finds 204 = .ok (.dup, 1) := dcX12_finds_14.2.2.2.2.2.2.2
theorem dcX12_finds_15 : (decode cX12_finds 205 = .ok (.getfield 240, 3)) ∧ (decode cX12_finds 208 = .ok (.iconst 1, 1)) ∧ (decode cX12_finds 209 = .ok (.iadd, 1)) ∧ (decode cX12_finds 210 = .ok (.putfield 240, 3)) ∧ (decode cX12_finds 213 = .ok (.aload_n 0, 1)) ∧ (decode cX12_finds 214 = .ok (.dup, 1)) ∧ (decode cX12_finds 215 = .ok (.getfield 243, 3)) ∧ (decode cX12_finds 218 = .ok (.aload_n 0, 1)) := by decide +kernel
theorem dX12_finds_205 : decode cX12_finds 205 = .ok (.getfield 240, 3) := dcX12_finds_15.1
theorem dX12_finds_208 : decode cX12_finds 208 = .ok (.iconst 1, 1) := dcX12_finds_15.2.1
theorem dX12_finds_209 : decode cX12_finds 209 = .ok (.iadd, 1) := dcX12_finds_15.2.2.1
theorem dX12_finds_210 : decode cX12_finds 210 = .ok (.putfield 240, 3) := dcX12_finds_15.2.2.2.1
theorem dX12_finds_213 : decode cX12_finds 213 = .ok (.aload_n 0, 1) := dcX12_finds_15.2.2.2.2.1
theorem dX12_finds_214 : decode cX12_finds 214 = .ok (.dup, 1) := dcX12_finds_15.2.2.2.2.2.1
theorem dX12_finds_215 : decode cX12_finds 215 = .ok (.getfield 243, 3) := dcX12_finds_15.2.2.2.2.2.2.1
theorem dX12_finds_218 : decode cX12_finds 218 = .ok (.aload_n 0, 1) := dcX12_finds_15.2.2.2.2.2.2.2
theorem dcX12_finds_16 : (decode cX12_finds 219 = .ok (.getfield 71, 3)) ∧ (decode cX12_finds 222 = .ok (.iload 4, 2)) ∧ (decode cX12_finds 224 = .ok (.iaload, 1)) ∧ (decode cX12_finds 225 = .ok (.iadd, 1)) ∧ (decode cX12_finds 226 = .ok (.putfield 243, 3)) ∧ (decode cX12_finds 229 = .ok (.goto (-167), 3)) ∧ (decode cX12_finds 232 = .ok (.return_, 1)) := by decide +kernel
theorem dX12_finds_219 : decode cX12_finds 219 = .ok (.getfield 71, 3) := dcX12_finds_16.1
theorem dX12_finds_222 : decode cX12_finds 222 = .ok (.iload 4, 2) := dcX12_finds_16.2.1
theorem dX12_finds_224 : decode cX12_finds 224 = .ok (.iaload, 1) := dcX12_finds_16.2.2.1
theorem dX12_finds_225 : decode cX12_finds 225 = .ok (.iadd, 1) := dcX12_finds_16.2.2.2.1
theorem dX12_finds_226 : decode cX12_finds 226 = .ok (.putfield 243, 3) := dcX12_finds_16.2.2.2.2.1
theorem dX12_finds_229 : decode cX12_finds 229 = .ok (.goto (-167), 3) := dcX12_finds_16.2.2.2.2.2.1
theorem dX12_finds_232 : decode cX12_finds 232 = .ok (.return_, 1) := dcX12_finds_16.2.2.2.2.2.2
theorem dcX12_best_0 : (decode cX12_best 0 = .ok (.aload_n 0, 1)) ∧ (decode cX12_best 1 = .ok (.iload_n 1, 1)) ∧ (decode cX12_best 2 = .ok (.invokevirtual 176, 3)) ∧ (decode cX12_best 5 = .ok (.ifCond .ne 6, 3)) ∧ (decode cX12_best 8 = .ok (.bipush (-5), 2)) ∧ (decode cX12_best 10 = .ok (.ireturn, 1)) ∧ (decode cX12_best 11 = .ok (.iload_n 2, 1)) ∧ (decode cX12_best 12 = .ok (.iconst 0, 1)) := by decide +kernel
theorem dX12_best_0 : decode cX12_best 0 = .ok (.aload_n 0, 1) := dcX12_best_0.1
theorem dX12_best_1 : decode cX12_best 1 = .ok (.iload_n 1, 1) := dcX12_best_0.2.1
theorem dX12_best_2 : decode cX12_best 2 = .ok (.invokevirtual 176, 3) := dcX12_best_0.2.2.1
theorem dX12_best_5 : decode cX12_best 5 = .ok (.ifCond .ne 6, 3) := dcX12_best_0.2.2.2.1
theorem dX12_best_8 : decode cX12_best 8 = .ok (.bipush (-5), 2) := dcX12_best_0.2.2.2.2.1
theorem dX12_best_10 : decode cX12_best 10 = .ok (.ireturn, 1) := dcX12_best_0.2.2.2.2.2.1
theorem dX12_best_11 : decode cX12_best 11 = .ok (.iload_n 2, 1) := dcX12_best_0.2.2.2.2.2.2.1
theorem dX12_best_12 : decode cX12_best 12 = .ok (.iconst 0, 1) := dcX12_best_0.2.2.2.2.2.2.2
theorem dcX12_best_1 : (decode cX12_best 13 = .ok (.iconst 2, 1)) ∧ (decode cX12_best 14 = .ok (.invokestatic 93, 3)) ∧ (decode cX12_best 17 = .ok (.ifCond .ne 6, 3)) ∧ (decode cX12_best 20 = .ok (.bipush (-7), 2)) ∧ (decode cX12_best 22 = .ok (.ireturn, 1)) ∧ (decode cX12_best 23 = .ok (.aload_n 0, 1)) ∧ (decode cX12_best 24 = .ok (.iload_n 1, 1)) ∧ (decode cX12_best 25 = .ok (.invokevirtual 246, 3)) := by decide +kernel
theorem dX12_best_13 : decode cX12_best 13 = .ok (.iconst 2, 1) := dcX12_best_1.1
theorem dX12_best_14 : decode cX12_best 14 = .ok (.invokestatic 93, 3) := dcX12_best_1.2.1
theorem dX12_best_17 : decode cX12_best 17 = .ok (.ifCond .ne 6, 3) := dcX12_best_1.2.2.1
theorem dX12_best_20 : decode cX12_best 20 = .ok (.bipush (-7), 2) := dcX12_best_1.2.2.2.1
theorem dX12_best_22 : decode cX12_best 22 = .ok (.ireturn, 1) := dcX12_best_1.2.2.2.2.1
theorem dX12_best_23 : decode cX12_best 23 = .ok (.aload_n 0, 1) := dcX12_best_1.2.2.2.2.2.1
theorem dX12_best_24 : decode cX12_best 24 = .ok (.iload_n 1, 1) := dcX12_best_1.2.2.2.2.2.2.1
theorem dX12_best_25 : decode cX12_best 25 = .ok (.invokevirtual 246, 3) := dcX12_best_1.2.2.2.2.2.2.2
theorem dcX12_best_2 : (decode cX12_best 28 = .ok (.iload_n 2, 1)) ∧ (decode cX12_best 29 = .ok (.ifCond .ne 10, 3)) ∧ (decode cX12_best 32 = .ok (.aload_n 0, 1)) ∧ (decode cX12_best 33 = .ok (.getfield 237, 3)) ∧ (decode cX12_best 36 = .ok (.goto 19, 3)) ∧ (decode cX12_best 39 = .ok (.iload_n 2, 1)) ∧ (decode cX12_best 40 = .ok (.iconst 1, 1)) ∧ (decode cX12_best 41 = .ok (.if_icmp .ne 10, 3)) := by decide +kernel
theorem dX12_best_28 : decode cX12_best 28 = .ok (.iload_n 2, 1) := dcX12_best_2.1
theorem dX12_best_29 : decode cX12_best 29 = .ok (.ifCond .ne 10, 3) := dcX12_best_2.2.1
theorem dX12_best_32 : decode cX12_best 32 = .ok (.aload_n 0, 1) := dcX12_best_2.2.2.1
theorem dX12_best_33 : decode cX12_best 33 = .ok (.getfield 237, 3) := dcX12_best_2.2.2.2.1
theorem dX12_best_36 : decode cX12_best 36 = .ok (.goto 19, 3) := dcX12_best_2.2.2.2.2.1
theorem dX12_best_39 : decode cX12_best 39 = .ok (.iload_n 2, 1) := dcX12_best_2.2.2.2.2.2.1
theorem dX12_best_40 : decode cX12_best 40 = .ok (.iconst 1, 1) := dcX12_best_2.2.2.2.2.2.2.1
theorem dX12_best_41 : decode cX12_best 41 = .ok (.if_icmp .ne 10, 3) := dcX12_best_2.2.2.2.2.2.2.2
theorem dcX12_best_3 : (decode cX12_best 44 = .ok (.aload_n 0, 1)) ∧ (decode cX12_best 45 = .ok (.getfield 240, 3)) ∧ (decode cX12_best 48 = .ok (.goto 7, 3)) ∧ (decode cX12_best 51 = .ok (.aload_n 0, 1)) ∧ (decode cX12_best 52 = .ok (.getfield 243, 3)) ∧ (decode cX12_best 55 = .ok (.ireturn, 1)) := by decide +kernel
theorem dX12_best_44 : decode cX12_best 44 = .ok (.aload_n 0, 1) := dcX12_best_3.1
theorem dX12_best_45 : decode cX12_best 45 = .ok (.getfield 240, 3) := dcX12_best_3.2.1
theorem dX12_best_48 : decode cX12_best 48 = .ok (.goto 7, 3) := dcX12_best_3.2.2.1
theorem dX12_best_51 : decode cX12_best 51 = .ok (.aload_n 0, 1) := dcX12_best_3.2.2.2.1
theorem dX12_best_52 : decode cX12_best 52 = .ok (.getfield 243, 3) := dcX12_best_3.2.2.2.2.1
theorem dX12_best_55 : decode cX12_best 55 = .ok (.ireturn, 1) := dcX12_best_3.2.2.2.2.2
theorem dcX12_whom_0 : (decode cX12_whom 0 = .ok (.iload_n 1, 1)) ∧ (decode cX12_whom 1 = .ok (.iconst 0, 1)) ∧ (decode cX12_whom 2 = .ok (.iconst 1, 1)) ∧ (decode cX12_whom 3 = .ok (.invokestatic 93, 3)) ∧ (decode cX12_whom 6 = .ok (.ifCond .ne 6, 3)) ∧ (decode cX12_whom 9 = .ok (.bipush (-2), 2)) ∧ (decode cX12_whom 11 = .ok (.ireturn, 1)) ∧ (decode cX12_whom 12 = .ok (.iconst (-1), 1)) := by decide +kernel
theorem dX12_whom_0 : decode cX12_whom 0 = .ok (.iload_n 1, 1) := dcX12_whom_0.1
theorem dX12_whom_1 : decode cX12_whom 1 = .ok (.iconst 0, 1) := dcX12_whom_0.2.1
theorem dX12_whom_2 : decode cX12_whom 2 = .ok (.iconst 1, 1) := dcX12_whom_0.2.2.1
theorem dX12_whom_3 : decode cX12_whom 3 = .ok (.invokestatic 93, 3) := dcX12_whom_0.2.2.2.1
theorem dX12_whom_6 : decode cX12_whom 6 = .ok (.ifCond .ne 6, 3) := dcX12_whom_0.2.2.2.2.1
theorem dX12_whom_9 : decode cX12_whom 9 = .ok (.bipush (-2), 2) := dcX12_whom_0.2.2.2.2.2.1
theorem dX12_whom_11 : decode cX12_whom 11 = .ok (.ireturn, 1) := dcX12_whom_0.2.2.2.2.2.2.1
theorem dX12_whom_12 : decode cX12_whom 12 = .ok (.iconst (-1), 1) := dcX12_whom_0.2.2.2.2.2.2.2
theorem dcX12_whom_1 : (decode cX12_whom 13 = .ok (.istore_n 2, 1)) ∧ (decode cX12_whom 14 = .ok (.iconst 0, 1)) ∧ (decode cX12_whom 15 = .ok (.istore_n 3, 1)) ∧ (decode cX12_whom 16 = .ok (.iconst 0, 1)) ∧ (decode cX12_whom 17 = .ok (.istore 4, 2)) ∧ (decode cX12_whom 19 = .ok (.iload 4, 2)) ∧ (decode cX12_whom 21 = .ok (.aload_n 0, 1)) ∧ (decode cX12_whom 22 = .ok (.getfield 90, 3)) := by decide +kernel
theorem dX12_whom_13 : decode cX12_whom 13 = .ok (.istore_n 2, 1) := dcX12_whom_1.1
theorem dX12_whom_14 : decode cX12_whom 14 = .ok (.iconst 0, 1) := dcX12_whom_1.2.1
theorem dX12_whom_15 : decode cX12_whom 15 = .ok (.istore_n 3, 1) := dcX12_whom_1.2.2.1
theorem dX12_whom_16 : decode cX12_whom 16 = .ok (.iconst 0, 1) := dcX12_whom_1.2.2.2.1
theorem dX12_whom_17 : decode cX12_whom 17 = .ok (.istore 4, 2) := dcX12_whom_1.2.2.2.2.1
theorem dX12_whom_19 : decode cX12_whom 19 = .ok (.iload 4, 2) := dcX12_whom_1.2.2.2.2.2.1
theorem dX12_whom_21 : decode cX12_whom 21 = .ok (.aload_n 0, 1) := dcX12_whom_1.2.2.2.2.2.2.1
theorem dX12_whom_22 : decode cX12_whom 22 = .ok (.getfield 90, 3) := dcX12_whom_1.2.2.2.2.2.2.2
theorem dcX12_whom_2 : (decode cX12_whom 25 = .ok (.if_icmp .ge 61, 3)) ∧ (decode cX12_whom 28 = .ok (.aload_n 0, 1)) ∧ (decode cX12_whom 29 = .ok (.iload 4, 2)) ∧ (decode cX12_whom 31 = .ok (.invokevirtual 246, 3)) ∧ (decode cX12_whom 34 = .ok (.iload_n 2, 1)) ∧ (decode cX12_whom 35 = .ok (.iconst (-1), 1)) ∧ (decode cX12_whom 36 = .ok (.if_icmp .eq 11, 3)) ∧ (decode cX12_whom 39 = .ok (.aload_n 0, 1)) := by decide +kernel
theorem dX12_whom_25 : decode cX12_whom 25 = .ok (.if_icmp .ge 61, 3) := dcX12_whom_2.1
theorem dX12_whom_28 : decode cX12_whom 28 = .ok (.aload_n 0, 1) := dcX12_whom_2.2.1
theorem dX12_whom_29 : decode cX12_whom 29 = .ok (.iload 4, 2) := dcX12_whom_2.2.2.1
theorem dX12_whom_31 : decode cX12_whom 31 = .ok (.invokevirtual 246, 3) := dcX12_whom_2.2.2.2.1
theorem dX12_whom_34 : decode cX12_whom 34 = .ok (.iload_n 2, 1) := dcX12_whom_2.2.2.2.2.1
theorem dX12_whom_35 : decode cX12_whom 35 = .ok (.iconst (-1), 1) := dcX12_whom_2.2.2.2.2.2.1
theorem dX12_whom_36 : decode cX12_whom 36 = .ok (.if_icmp .eq 11, 3) := dcX12_whom_2.2.2.2.2.2.2.1
theorem dX12_whom_39 : decode cX12_whom 39 = .ok (.aload_n 0, 1) := dcX12_whom_2.2.2.2.2.2.2.2
theorem dcX12_whom_3 : (decode cX12_whom 40 = .ok (.getfield 240, 3)) ∧ (decode cX12_whom 43 = .ok (.iload_n 3, 1)) ∧ (decode cX12_whom 44 = .ok (.if_icmp .le 7, 3)) ∧ (decode cX12_whom 47 = .ok (.iconst 1, 1)) ∧ (decode cX12_whom 48 = .ok (.goto 4, 3)) ∧ (decode cX12_whom 51 = .ok (.iconst 0, 1)) ∧ (decode cX12_whom 52 = .ok (.istore 5, 2)) ∧ (decode cX12_whom 54 = .ok (.iload 5, 2)) := by decide +kernel
theorem dX12_whom_40 : decode cX12_whom 40 = .ok (.getfield 240, 3) := dcX12_whom_3.1
theorem dX12_whom_43 : decode cX12_whom 43 = .ok (.iload_n 3, 1) := dcX12_whom_3.2.1
theorem dX12_whom_44 : decode cX12_whom 44 = .ok (.if_icmp .le 7, 3) := dcX12_whom_3.2.2.1
theorem dX12_whom_47 : decode cX12_whom 47 = .ok (.iconst 1, 1) := dcX12_whom_3.2.2.2.1
theorem dX12_whom_48 : decode cX12_whom 48 = .ok (.goto 4, 3) := dcX12_whom_3.2.2.2.2.1
theorem dX12_whom_51 : decode cX12_whom 51 = .ok (.iconst 0, 1) := dcX12_whom_3.2.2.2.2.2.1
theorem dX12_whom_52 : decode cX12_whom 52 = .ok (.istore 5, 2) := dcX12_whom_3.2.2.2.2.2.2.1
theorem dX12_whom_54 : decode cX12_whom 54 = .ok (.iload 5, 2) := dcX12_whom_3.2.2.2.2.2.2.2
theorem dcX12_whom_4 : (decode cX12_whom 56 = .ok (.ifCond .eq 8, 3)) ∧ (decode cX12_whom 59 = .ok (.iload 4, 2)) ∧ (decode cX12_whom 61 = .ok (.goto 4, 3)) ∧ (decode cX12_whom 64 = .ok (.iload_n 2, 1)) ∧ (decode cX12_whom 65 = .ok (.istore_n 2, 1)) ∧ (decode cX12_whom 66 = .ok (.iload 5, 2)) ∧ (decode cX12_whom 68 = .ok (.ifCond .eq 10, 3)) ∧ (decode cX12_whom 71 = .ok (.aload_n 0, 1)) := by decide +kernel
theorem dX12_whom_56 : decode cX12_whom 56 = .ok (.ifCond .eq 8, 3) := dcX12_whom_4.1
theorem dX12_whom_59 : decode cX12_whom 59 = .ok (.iload 4, 2) := dcX12_whom_4.2.1
theorem dX12_whom_61 : decode cX12_whom 61 = .ok (.goto 4, 3) := dcX12_whom_4.2.2.1
theorem dX12_whom_64 : decode cX12_whom 64 = .ok (.iload_n 2, 1) := dcX12_whom_4.2.2.2.1
theorem dX12_whom_65 : decode cX12_whom 65 = .ok (.istore_n 2, 1) := dcX12_whom_4.2.2.2.2.1
theorem dX12_whom_66 : decode cX12_whom 66 = .ok (.iload 5, 2) := dcX12_whom_4.2.2.2.2.2.1
theorem dX12_whom_68 : decode cX12_whom 68 = .ok (.ifCond .eq 10, 3) := dcX12_whom_4.2.2.2.2.2.2.1
theorem dX12_whom_71 : decode cX12_whom 71 = .ok (.aload_n 0, 1) := dcX12_whom_4.2.2.2.2.2.2.2
theorem dcX12_whom_5 : (decode cX12_whom 72 = .ok (.getfield 240, 3)) ∧ (decode cX12_whom 75 = .ok (.goto 4, 3)) ∧ (decode cX12_whom 78 = .ok (.iload_n 3, 1)) ∧ (decode cX12_whom 79 = .ok (.istore_n 3, 1)) ∧ (decode cX12_whom 80 = .ok (.iinc 4 1, 3)) ∧ (decode cX12_whom 83 = .ok (.goto (-64), 3)) ∧ (decode cX12_whom 86 = .ok (.iload_n 1, 1)) ∧ (decode cX12_whom 87 = .ok (.ifCond .ne 7, 3)) := by decide +kernel
theorem dX12_whom_72 : decode cX12_whom 72 = .ok (.getfield 240, 3) := dcX12_whom_5.1
theorem dX12_whom_75 : decode cX12_whom 75 = .ok (.goto 4, 3) := dcX12_whom_5.2.1
theorem dX12_whom_78 : decode cX12_whom 78 = .ok (.iload_n 3, 1) := dcX12_whom_5.2.2.1
theorem dX12_whom_79 : decode cX12_whom 79 = .ok (.istore_n 3, 1) := dcX12_whom_5.2.2.2.1
theorem dX12_whom_80 : decode cX12_whom 80 = .ok (.iinc 4 1, 3) := dcX12_whom_5.2.2.2.2.1
theorem dX12_whom_83 : decode cX12_whom 83 = .ok (.goto (-64), 3) := dcX12_whom_5.2.2.2.2.2.1
theorem dX12_whom_86 : decode cX12_whom 86 = .ok (.iload_n 1, 1) := dcX12_whom_5.2.2.2.2.2.2.1
theorem dX12_whom_87 : decode cX12_whom 87 = .ok (.ifCond .ne 7, 3) := dcX12_whom_5.2.2.2.2.2.2.2
theorem dcX12_whom_6 : (decode cX12_whom 90 = .ok (.iload_n 2, 1)) ∧ (decode cX12_whom 91 = .ok (.goto 4, 3)) ∧ (decode cX12_whom 94 = .ok (.iload_n 3, 1)) ∧ (decode cX12_whom 95 = .ok (.ireturn, 1)) := by decide +kernel
theorem dX12_whom_90 : decode cX12_whom 90 = .ok (.iload_n 2, 1) := dcX12_whom_6.1
theorem dX12_whom_91 : decode cX12_whom 91 = .ok (.goto 4, 3) := dcX12_whom_6.2.1
theorem dX12_whom_94 : decode cX12_whom 94 = .ok (.iload_n 3, 1) := dcX12_whom_6.2.2.1
theorem dX12_whom_95 : decode cX12_whom 95 = .ok (.ireturn, 1) := dcX12_whom_6.2.2.2
theorem dcX12_show_0 : (decode cX12_show 0 = .ok (.aload_n 0, 1)) ∧ (decode cX12_show 1 = .ok (.iload_n 1, 1)) ∧ (decode cX12_show 2 = .ok (.invokevirtual 176, 3)) ∧ (decode cX12_show 5 = .ok (.ifCond .ne 6, 3)) ∧ (decode cX12_show 8 = .ok (.bipush (-5), 2)) ∧ (decode cX12_show 10 = .ok (.ireturn, 1)) ∧ (decode cX12_show 11 = .ok (.iload_n 2, 1)) ∧ (decode cX12_show 12 = .ok (.iconst 0, 1)) := by decide +kernel
theorem dX12_show_0 : decode cX12_show 0 = .ok (.aload_n 0, 1) := dcX12_show_0.1
theorem dX12_show_1 : decode cX12_show 1 = .ok (.iload_n 1, 1) := dcX12_show_0.2.1
theorem dX12_show_2 : decode cX12_show 2 = .ok (.invokevirtual 176, 3) := dcX12_show_0.2.2.1
theorem dX12_show_5 : decode cX12_show 5 = .ok (.ifCond .ne 6, 3) := dcX12_show_0.2.2.2.1
theorem dX12_show_8 : decode cX12_show 8 = .ok (.bipush (-5), 2) := dcX12_show_0.2.2.2.2.1
theorem dX12_show_10 : decode cX12_show 10 = .ok (.ireturn, 1) := dcX12_show_0.2.2.2.2.2.1
theorem dX12_show_11 : decode cX12_show 11 = .ok (.iload_n 2, 1) := dcX12_show_0.2.2.2.2.2.2.1
theorem dX12_show_12 : decode cX12_show 12 = .ok (.iconst 0, 1) := dcX12_show_0.2.2.2.2.2.2.2
theorem dcX12_show_1 : (decode cX12_show 13 = .ok (.ldc 186, 2)) ∧ (decode cX12_show 15 = .ok (.invokestatic 93, 3)) ∧ (decode cX12_show 18 = .ok (.ifCond .ne 6, 3)) ∧ (decode cX12_show 21 = .ok (.bipush (-7), 2)) ∧ (decode cX12_show 23 = .ok (.ireturn, 1)) ∧ (decode cX12_show 24 = .ok (.iload_n 2, 1)) ∧ (decode cX12_show 25 = .ok (.aload_n 0, 1)) ∧ (decode cX12_show 26 = .ok (.iload_n 1, 1)) := by decide +kernel
theorem dX12_show_13 : decode cX12_show 13 = .ok (.ldc 186, 2) := dcX12_show_1.1
theorem dX12_show_15 : decode cX12_show 15 = .ok (.invokestatic 93, 3) := dcX12_show_1.2.1
theorem dX12_show_18 : decode cX12_show 18 = .ok (.ifCond .ne 6, 3) := dcX12_show_1.2.2.1
theorem dX12_show_21 : decode cX12_show 21 = .ok (.bipush (-7), 2) := dcX12_show_1.2.2.2.1
theorem dX12_show_23 : decode cX12_show 23 = .ok (.ireturn, 1) := dcX12_show_1.2.2.2.2.1
theorem dX12_show_24 : decode cX12_show 24 = .ok (.iload_n 2, 1) := dcX12_show_1.2.2.2.2.2.1
theorem dX12_show_25 : decode cX12_show 25 = .ok (.aload_n 0, 1) := dcX12_show_1.2.2.2.2.2.2.1
theorem dX12_show_26 : decode cX12_show 26 = .ok (.iload_n 1, 1) := dcX12_show_1.2.2.2.2.2.2.2
theorem dcX12_show_2 : (decode cX12_show 27 = .ok (.invokevirtual 206, 3)) ∧ (decode cX12_show 30 = .ok (.iconst (-1), 1)) ∧ (decode cX12_show 31 = .ok (.ixor, 1)) ∧ (decode cX12_show 32 = .ok (.iand, 1)) ∧ (decode cX12_show 33 = .ok (.istore_n 3, 1)) ∧ (decode cX12_show 34 = .ok (.iload_n 3, 1)) ∧ (decode cX12_show 35 = .ok (.aload_n 0, 1)) ∧ (decode cX12_show 36 = .ok (.iload_n 1, 1)) := by decide +kernel
theorem dX12_show_27 : decode cX12_show 27 = .ok (.invokevirtual 206, 3) := dcX12_show_2.1
theorem dX12_show_30 : decode cX12_show 30 = .ok (.iconst (-1), 1) := dcX12_show_2.2.1
theorem dX12_show_31 : decode cX12_show 31 = .ok (.ixor, 1) := dcX12_show_2.2.2.1
theorem dX12_show_32 : decode cX12_show 32 = .ok (.iand, 1) := dcX12_show_2.2.2.2.1
theorem dX12_show_33 : decode cX12_show 33 = .ok (.istore_n 3, 1) := dcX12_show_2.2.2.2.2.1
theorem dX12_show_34 : decode cX12_show 34 = .ok (.iload_n 3, 1) := dcX12_show_2.2.2.2.2.2.1
theorem dX12_show_35 : decode cX12_show 35 = .ok (.aload_n 0, 1) := dcX12_show_2.2.2.2.2.2.2.1
theorem dX12_show_36 : decode cX12_show 36 = .ok (.iload_n 1, 1) := dcX12_show_2.2.2.2.2.2.2.2
theorem dcX12_show_3 : (decode cX12_show 37 = .ok (.invokevirtual 234, 3)) ∧ (decode cX12_show 40 = .ok (.iconst (-1), 1)) ∧ (decode cX12_show 41 = .ok (.ixor, 1)) ∧ (decode cX12_show 42 = .ok (.iand, 1)) ∧ (decode cX12_show 43 = .ok (.ifCond .eq 5, 3)) ∧ (decode cX12_show 46 = .ok (.iconst (-1), 1)) ∧ (decode cX12_show 47 = .ok (.ireturn, 1)) ∧ (decode cX12_show 48 = .ok (.iconst 0, 1)) := by decide +kernel
theorem dX12_show_37 : decode cX12_show 37 = .ok (.invokevirtual 234, 3) := dcX12_show_3.1
theorem dX12_show_40 : decode cX12_show 40 = .ok (.iconst (-1), 1) := dcX12_show_3.2.1
theorem dX12_show_41 : decode cX12_show 41 = .ok (.ixor, 1) := dcX12_show_3.2.2.1
theorem dX12_show_42 : decode cX12_show 42 = .ok (.iand, 1) := dcX12_show_3.2.2.2.1
theorem dX12_show_43 : decode cX12_show 43 = .ok (.ifCond .eq 5, 3) := dcX12_show_3.2.2.2.2.1
theorem dX12_show_46 : decode cX12_show 46 = .ok (.iconst (-1), 1) := dcX12_show_3.2.2.2.2.2.1
theorem dX12_show_47 : decode cX12_show 47 = .ok (.ireturn, 1) := dcX12_show_3.2.2.2.2.2.2.1
theorem dX12_show_48 : decode cX12_show 48 = .ok (.iconst 0, 1) := dcX12_show_3.2.2.2.2.2.2.2
theorem dcX12_show_4 : (decode cX12_show 49 = .ok (.istore 4, 2)) ∧ (decode cX12_show 51 = .ok (.iconst 0, 1)) ∧ (decode cX12_show 52 = .ok (.istore 5, 2)) ∧ (decode cX12_show 54 = .ok (.iload 5, 2)) ∧ (decode cX12_show 56 = .ok (.bipush 16, 2)) ∧ (decode cX12_show 58 = .ok (.if_icmp .ge 35, 3)) ∧ (decode cX12_show 61 = .ok (.iload 4, 2)) ∧ (decode cX12_show 63 = .ok (.iload_n 3, 1)) := by decide +kernel
theorem dX12_show_49 : decode cX12_show 49 = .ok (.istore 4, 2) := dcX12_show_4.1
theorem dX12_show_51 : decode cX12_show 51 = .ok (.iconst 0, 1) := dcX12_show_4.2.1
theorem dX12_show_52 : decode cX12_show 52 = .ok (.istore 5, 2) := dcX12_show_4.2.2.1
theorem dX12_show_54 : decode cX12_show 54 = .ok (.iload 5, 2) := dcX12_show_4.2.2.2.1
theorem dX12_show_56 : decode cX12_show 56 = .ok (.bipush 16, 2) := dcX12_show_4.2.2.2.2.1
theorem dX12_show_58 : decode cX12_show 58 = .ok (.if_icmp .ge 35, 3) := dcX12_show_4.2.2.2.2.2.1
theorem dX12_show_61 : decode cX12_show 61 = .ok (.iload 4, 2) := dcX12_show_4.2.2.2.2.2.2.1
theorem dX12_show_63 : decode cX12_show 63 = .ok (.iload_n 3, 1) := dcX12_show_4.2.2.2.2.2.2.2
theorem dcX12_show_5 : (decode cX12_show 64 = .ok (.iload 5, 2)) ∧ (decode cX12_show 66 = .ok (.ishr, 1)) ∧ (decode cX12_show 67 = .ok (.iconst 1, 1)) ∧ (decode cX12_show 68 = .ok (.iand, 1)) ∧ (decode cX12_show 69 = .ok (.iconst 1, 1)) ∧ (decode cX12_show 70 = .ok (.if_icmp .ne 13, 3)) ∧ (decode cX12_show 73 = .ok (.aload_n 0, 1)) ∧ (decode cX12_show 74 = .ok (.iload_n 1, 1)) := by decide +kernel
theorem dX12_show_64 : decode cX12_show 64 = .ok (.iload 5, 2) := dcX12_show_5.1
theorem dX12_show_66 : decode cX12_show 66 = .ok (.ishr, 1) := dcX12_show_5.2.1
theorem dX12_show_67 : decode cX12_show 67 = .ok (.iconst 1, 1) := dcX12_show_5.2.2.1
theorem dX12_show_68 : decode cX12_show 68 = .ok (.iand, 1) := dcX12_show_5.2.2.2.1
theorem dX12_show_69 : decode cX12_show 69 = .ok (.iconst 1, 1) := dcX12_show_5.2.2.2.2.1
theorem dX12_show_70 : decode cX12_show 70 = .ok (.if_icmp .ne 13, 3) := dcX12_show_5.2.2.2.2.2.1
theorem dX12_show_73 : decode cX12_show 73 = .ok (.aload_n 0, 1) := dcX12_show_5.2.2.2.2.2.2.1
theorem dX12_show_74 : decode cX12_show 74 = .ok (.iload_n 1, 1) := dcX12_show_5.2.2.2.2.2.2.2
theorem dcX12_show_6 : (decode cX12_show 75 = .ok (.iload 5, 2)) ∧ (decode cX12_show 77 = .ok (.invokevirtual 203, 3)) ∧ (decode cX12_show 80 = .ok (.goto 4, 3)) ∧ (decode cX12_show 83 = .ok (.iconst 0, 1)) ∧ (decode cX12_show 84 = .ok (.iadd, 1)) ∧ (decode cX12_show 85 = .ok (.istore 4, 2)) ∧ (decode cX12_show 87 = .ok (.iinc 5 1, 3)) ∧ (decode cX12_show 90 = .ok (.goto (-36), 3)) := by decide +kernel
theorem dX12_show_75 : decode cX12_show 75 = .ok (.iload 5, 2) := dcX12_show_6.1
theorem dX12_show_77 : decode cX12_show 77 = .ok (.invokevirtual 203, 3) := dcX12_show_6.2.1
theorem dX12_show_80 : decode cX12_show 80 = .ok (.goto 4, 3) := dcX12_show_6.2.2.1
theorem dX12_show_83 : decode cX12_show 83 = .ok (.iconst 0, 1) := dcX12_show_6.2.2.2.1
theorem dX12_show_84 : decode cX12_show 84 = .ok (.iadd, 1) := dcX12_show_6.2.2.2.2.1
theorem dX12_show_85 : decode cX12_show 85 = .ok (.istore 4, 2) := dcX12_show_6.2.2.2.2.2.1
theorem dX12_show_87 : decode cX12_show 87 = .ok (.iinc 5 1, 3) := dcX12_show_6.2.2.2.2.2.2.1
theorem dX12_show_90 : decode cX12_show 90 = .ok (.goto (-36), 3) := dcX12_show_6.2.2.2.2.2.2.2
theorem dcX12_show_7 : (decode cX12_show 93 = .ok (.iload 4, 2)) ∧ (decode cX12_show 95 = .ok (.ireturn, 1)) := by decide +kernel
theorem dX12_show_93 : decode cX12_show 93 = .ok (.iload 4, 2) := dcX12_show_7.1
theorem dX12_show_95 : decode cX12_show 95 = .ok (.ireturn, 1) := dcX12_show_7.2
theorem dcX12_relaxes_0 : (decode cX12_relaxes 0 = .ok (.aload_n 0, 1)) ∧ (decode cX12_relaxes 1 = .ok (.getfield 74, 3)) ∧ (decode cX12_relaxes 4 = .ok (.iload_n 1, 1)) ∧ (decode cX12_relaxes 5 = .ok (.iaload, 1)) ∧ (decode cX12_relaxes 6 = .ok (.aload_n 0, 1)) ∧ (decode cX12_relaxes 7 = .ok (.getfield 71, 3)) ∧ (decode cX12_relaxes 10 = .ok (.iload_n 2, 1)) ∧ (decode cX12_relaxes 11 = .ok (.iaload, 1)) := by decide +kernel
theorem dX12_relaxes_0 : decode cX12_relaxes 0 = .ok (.aload_n 0, 1) := dcX12_relaxes_0.1
theorem dX12_relaxes_1 : decode cX12_relaxes 1 = .ok (.getfield 74, 3) := dcX12_relaxes_0.2.1
theorem dX12_relaxes_4 : decode cX12_relaxes 4 = .ok (.iload_n 1, 1) := dcX12_relaxes_0.2.2.1
theorem dX12_relaxes_5 : decode cX12_relaxes 5 = .ok (.iaload, 1) := dcX12_relaxes_0.2.2.2.1
theorem dX12_relaxes_6 : decode cX12_relaxes 6 = .ok (.aload_n 0, 1) := dcX12_relaxes_0.2.2.2.2.1
theorem dX12_relaxes_7 : decode cX12_relaxes 7 = .ok (.getfield 71, 3) := dcX12_relaxes_0.2.2.2.2.2.1
theorem dX12_relaxes_10 : decode cX12_relaxes 10 = .ok (.iload_n 2, 1) := dcX12_relaxes_0.2.2.2.2.2.2.1
theorem dX12_relaxes_11 : decode cX12_relaxes 11 = .ok (.iaload, 1) := dcX12_relaxes_0.2.2.2.2.2.2.2
theorem dcX12_relaxes_1 : (decode cX12_relaxes 12 = .ok (.iadd, 1)) ∧ (decode cX12_relaxes 13 = .ok (.istore_n 3, 1)) ∧ (decode cX12_relaxes 14 = .ok (.aload_n 0, 1)) ∧ (decode cX12_relaxes 15 = .ok (.getfield 74, 3)) ∧ (decode cX12_relaxes 18 = .ok (.iload_n 1, 1)) ∧ (decode cX12_relaxes 19 = .ok (.iaload, 1)) ∧ (decode cX12_relaxes 20 = .ok (.iconst (-1), 1)) ∧ (decode cX12_relaxes 21 = .ok (.if_icmp .eq 23, 3)) := by decide +kernel
theorem dX12_relaxes_12 : decode cX12_relaxes 12 = .ok (.iadd, 1) := dcX12_relaxes_1.1
theorem dX12_relaxes_13 : decode cX12_relaxes 13 = .ok (.istore_n 3, 1) := dcX12_relaxes_1.2.1
theorem dX12_relaxes_14 : decode cX12_relaxes 14 = .ok (.aload_n 0, 1) := dcX12_relaxes_1.2.2.1
theorem dX12_relaxes_15 : decode cX12_relaxes 15 = .ok (.getfield 74, 3) := dcX12_relaxes_1.2.2.2.1
theorem dX12_relaxes_18 : decode cX12_relaxes 18 = .ok (.iload_n 1, 1) := dcX12_relaxes_1.2.2.2.2.1
theorem dX12_relaxes_19 : decode cX12_relaxes 19 = .ok (.iaload, 1) := dcX12_relaxes_1.2.2.2.2.2.1
theorem dX12_relaxes_20 : decode cX12_relaxes 20 = .ok (.iconst (-1), 1) := dcX12_relaxes_1.2.2.2.2.2.2.1
theorem dX12_relaxes_21 : decode cX12_relaxes 21 = .ok (.if_icmp .eq 23, 3) := dcX12_relaxes_1.2.2.2.2.2.2.2
theorem dcX12_relaxes_2 : (decode cX12_relaxes 24 = .ok (.aload_n 0, 1)) ∧ (decode cX12_relaxes 25 = .ok (.getfield 74, 3)) ∧ (decode cX12_relaxes 28 = .ok (.iload_n 2, 1)) ∧ (decode cX12_relaxes 29 = .ok (.iaload, 1)) ∧ (decode cX12_relaxes 30 = .ok (.iconst (-1), 1)) ∧ (decode cX12_relaxes 31 = .ok (.if_icmp .eq 15, 3)) ∧ (decode cX12_relaxes 34 = .ok (.aload_n 0, 1)) ∧ (decode cX12_relaxes 35 = .ok (.getfield 74, 3)) := by decide +kernel
theorem dX12_relaxes_24 : decode cX12_relaxes 24 = .ok (.aload_n 0, 1) := dcX12_relaxes_2.1
theorem dX12_relaxes_25 : decode cX12_relaxes 25 = .ok (.getfield 74, 3) := dcX12_relaxes_2.2.1
theorem dX12_relaxes_28 : decode cX12_relaxes 28 = .ok (.iload_n 2, 1) := dcX12_relaxes_2.2.2.1
theorem dX12_relaxes_29 : decode cX12_relaxes 29 = .ok (.iaload, 1) := dcX12_relaxes_2.2.2.2.1
theorem dX12_relaxes_30 : decode cX12_relaxes 30 = .ok (.iconst (-1), 1) := dcX12_relaxes_2.2.2.2.2.1
theorem dX12_relaxes_31 : decode cX12_relaxes 31 = .ok (.if_icmp .eq 15, 3) := dcX12_relaxes_2.2.2.2.2.2.1
theorem dX12_relaxes_34 : decode cX12_relaxes 34 = .ok (.aload_n 0, 1) := dcX12_relaxes_2.2.2.2.2.2.2.1
theorem dX12_relaxes_35 : decode cX12_relaxes 35 = .ok (.getfield 74, 3) := dcX12_relaxes_2.2.2.2.2.2.2.2
theorem dcX12_relaxes_3 : (decode cX12_relaxes 38 = .ok (.iload_n 2, 1)) ∧ (decode cX12_relaxes 39 = .ok (.iaload, 1)) ∧ (decode cX12_relaxes 40 = .ok (.iload_n 3, 1)) ∧ (decode cX12_relaxes 41 = .ok (.if_icmp .gt 5, 3)) ∧ (decode cX12_relaxes 44 = .ok (.iconst 0, 1)) ∧ (decode cX12_relaxes 45 = .ok (.ireturn, 1)) ∧ (decode cX12_relaxes 46 = .ok (.aload_n 0, 1)) ∧ (decode cX12_relaxes 47 = .ok (.getfield 74, 3)) := by decide +kernel
theorem dX12_relaxes_38 : decode cX12_relaxes 38 = .ok (.iload_n 2, 1) := dcX12_relaxes_3.1
theorem dX12_relaxes_39 : decode cX12_relaxes 39 = .ok (.iaload, 1) := dcX12_relaxes_3.2.1
theorem dX12_relaxes_40 : decode cX12_relaxes 40 = .ok (.iload_n 3, 1) := dcX12_relaxes_3.2.2.1
theorem dX12_relaxes_41 : decode cX12_relaxes 41 = .ok (.if_icmp .gt 5, 3) := dcX12_relaxes_3.2.2.2.1
theorem dX12_relaxes_44 : decode cX12_relaxes 44 = .ok (.iconst 0, 1) := dcX12_relaxes_3.2.2.2.2.1
theorem dX12_relaxes_45 : decode cX12_relaxes 45 = .ok (.ireturn, 1) := dcX12_relaxes_3.2.2.2.2.2.1
theorem dX12_relaxes_46 : decode cX12_relaxes 46 = .ok (.aload_n 0, 1) := dcX12_relaxes_3.2.2.2.2.2.2.1
theorem dX12_relaxes_47 : decode cX12_relaxes 47 = .ok (.getfield 74, 3) := dcX12_relaxes_3.2.2.2.2.2.2.2
theorem dcX12_relaxes_4 : (decode cX12_relaxes 50 = .ok (.iload_n 2, 1)) ∧ (decode cX12_relaxes 51 = .ok (.iload_n 3, 1)) ∧ (decode cX12_relaxes 52 = .ok (.iastore, 1)) ∧ (decode cX12_relaxes 53 = .ok (.iconst 1, 1)) ∧ (decode cX12_relaxes 54 = .ok (.ireturn, 1)) := by decide +kernel
theorem dX12_relaxes_50 : decode cX12_relaxes 50 = .ok (.iload_n 2, 1) := dcX12_relaxes_4.1
theorem dX12_relaxes_51 : decode cX12_relaxes 51 = .ok (.iload_n 3, 1) := dcX12_relaxes_4.2.1
theorem dX12_relaxes_52 : decode cX12_relaxes 52 = .ok (.iastore, 1) := dcX12_relaxes_4.2.2.1
theorem dX12_relaxes_53 : decode cX12_relaxes 53 = .ok (.iconst 1, 1) := dcX12_relaxes_4.2.2.2.1
theorem dX12_relaxes_54 : decode cX12_relaxes 54 = .ok (.ireturn, 1) := dcX12_relaxes_4.2.2.2.2
theorem dcX12_way_0 : (decode cX12_way 0 = .ok (.aload_n 0, 1)) ∧ (decode cX12_way 1 = .ok (.iload_n 1, 1)) ∧ (decode cX12_way 2 = .ok (.invokevirtual 176, 3)) ∧ (decode cX12_way 5 = .ok (.ifCond .ne 6, 3)) ∧ (decode cX12_way 8 = .ok (.bipush (-5), 2)) ∧ (decode cX12_way 10 = .ok (.ireturn, 1)) ∧ (decode cX12_way 11 = .ok (.iload_n 2, 1)) ∧ (decode cX12_way 12 = .ok (.iconst 0, 1)) := by decide +kernel
theorem dX12_way_0 : decode cX12_way 0 = .ok (.aload_n 0, 1) := dcX12_way_0.1
theorem dX12_way_1 : decode cX12_way 1 = .ok (.iload_n 1, 1) := dcX12_way_0.2.1
theorem dX12_way_2 : decode cX12_way 2 = .ok (.invokevirtual 176, 3) := dcX12_way_0.2.2.1
theorem dX12_way_5 : decode cX12_way 5 = .ok (.ifCond .ne 6, 3) := dcX12_way_0.2.2.2.1
theorem dX12_way_8 : decode cX12_way 8 = .ok (.bipush (-5), 2) := dcX12_way_0.2.2.2.2.1
theorem dX12_way_10 : decode cX12_way 10 = .ok (.ireturn, 1) := dcX12_way_0.2.2.2.2.2.1
theorem dX12_way_11 : decode cX12_way 11 = .ok (.iload_n 2, 1) := dcX12_way_0.2.2.2.2.2.2.1
theorem dX12_way_12 : decode cX12_way 12 = .ok (.iconst 0, 1) := dcX12_way_0.2.2.2.2.2.2.2
theorem dcX12_way_1 : (decode cX12_way 13 = .ok (.sipush 1515, 3)) ∧ (decode cX12_way 16 = .ok (.invokestatic 93, 3)) ∧ (decode cX12_way 19 = .ok (.ifCond .eq 12, 3)) ∧ (decode cX12_way 22 = .ok (.iload_n 2, 1)) ∧ (decode cX12_way 23 = .ok (.bipush 100, 2)) ∧ (decode cX12_way 25 = .ok (.irem, 1)) ∧ (decode cX12_way 26 = .ok (.bipush 16, 2)) ∧ (decode cX12_way 28 = .ok (.if_icmp .lt 6, 3)) := by decide +kernel
theorem dX12_way_13 : decode cX12_way 13 = .ok (.sipush 1515, 3) := dcX12_way_1.1
theorem dX12_way_16 : decode cX12_way 16 = .ok (.invokestatic 93, 3) := dcX12_way_1.2.1
theorem dX12_way_19 : decode cX12_way 19 = .ok (.ifCond .eq 12, 3) := dcX12_way_1.2.2.1
theorem dX12_way_22 : decode cX12_way 22 = .ok (.iload_n 2, 1) := dcX12_way_1.2.2.2.1
theorem dX12_way_23 : decode cX12_way 23 = .ok (.bipush 100, 2) := dcX12_way_1.2.2.2.2.1
theorem dX12_way_25 : decode cX12_way 25 = .ok (.irem, 1) := dcX12_way_1.2.2.2.2.2.1
theorem dX12_way_26 : decode cX12_way 26 = .ok (.bipush 16, 2) := dcX12_way_1.2.2.2.2.2.2.1
theorem dX12_way_28 : decode cX12_way 28 = .ok (.if_icmp .lt 6, 3) := dcX12_way_1.2.2.2.2.2.2.2
theorem dcX12_way_2 : (decode cX12_way 31 = .ok (.bipush (-7), 2)) ∧ (decode cX12_way 33 = .ok (.ireturn, 1)) ∧ (decode cX12_way 34 = .ok (.iconst 0, 1)) ∧ (decode cX12_way 35 = .ok (.istore_n 3, 1)) ∧ (decode cX12_way 36 = .ok (.iload_n 3, 1)) ∧ (decode cX12_way 37 = .ok (.bipush 16, 2)) ∧ (decode cX12_way 39 = .ok (.if_icmp .ge 28, 3)) ∧ (decode cX12_way 42 = .ok (.aload_n 0, 1)) := by decide +kernel
theorem dX12_way_31 : decode cX12_way 31 = .ok (.bipush (-7), 2) := dcX12_way_2.1
theorem dX12_way_33 : decode cX12_way 33 = .ok (.ireturn, 1) := dcX12_way_2.2.1
theorem dX12_way_34 : decode cX12_way 34 = .ok (.iconst 0, 1) := dcX12_way_2.2.2.1
theorem dX12_way_35 : decode cX12_way 35 = .ok (.istore_n 3, 1) := dcX12_way_2.2.2.2.1
theorem dX12_way_36 : decode cX12_way 36 = .ok (.iload_n 3, 1) := dcX12_way_2.2.2.2.2.1
theorem dX12_way_37 : decode cX12_way 37 = .ok (.bipush 16, 2) := dcX12_way_2.2.2.2.2.2.1
theorem dX12_way_39 : decode cX12_way 39 = .ok (.if_icmp .ge 28, 3) := dcX12_way_2.2.2.2.2.2.2.1
theorem dX12_way_42 : decode cX12_way 42 = .ok (.aload_n 0, 1) := dcX12_way_2.2.2.2.2.2.2.2
theorem dcX12_way_3 : (decode cX12_way 43 = .ok (.getfield 71, 3)) ∧ (decode cX12_way 46 = .ok (.iload_n 3, 1)) ∧ (decode cX12_way 47 = .ok (.aload_n 0, 1)) ∧ (decode cX12_way 48 = .ok (.iload_n 1, 1)) ∧ (decode cX12_way 49 = .ok (.iload_n 3, 1)) ∧ (decode cX12_way 50 = .ok (.invokevirtual 203, 3)) ∧ (decode cX12_way 53 = .ok (.iastore, 1)) ∧ (decode cX12_way 54 = .ok (.aload_n 0, 1)) := by decide +kernel
theorem dX12_way_43 : decode cX12_way 43 = .ok (.getfield 71, 3) := dcX12_way_3.1
theorem dX12_way_46 : decode cX12_way 46 = .ok (.iload_n 3, 1) := dcX12_way_3.2.1
theorem dX12_way_47 : decode cX12_way 47 = .ok (.aload_n 0, 1) := dcX12_way_3.2.2.1
theorem dX12_way_48 : decode cX12_way 48 = .ok (.iload_n 1, 1) := dcX12_way_3.2.2.2.1
theorem dX12_way_49 : decode cX12_way 49 = .ok (.iload_n 3, 1) := dcX12_way_3.2.2.2.2.1
theorem dX12_way_50 : decode cX12_way 50 = .ok (.invokevirtual 203, 3) := dcX12_way_3.2.2.2.2.2.1
theorem dX12_way_53 : decode cX12_way 53 = .ok (.iastore, 1) := dcX12_way_3.2.2.2.2.2.2.1
theorem dX12_way_54 : decode cX12_way 54 = .ok (.aload_n 0, 1) := dcX12_way_3.2.2.2.2.2.2.2
theorem dcX12_way_4 : (decode cX12_way 55 = .ok (.getfield 74, 3)) ∧ (decode cX12_way 58 = .ok (.iload_n 3, 1)) ∧ (decode cX12_way 59 = .ok (.iconst (-1), 1)) ∧ (decode cX12_way 60 = .ok (.iastore, 1)) ∧ (decode cX12_way 61 = .ok (.iinc 3 1, 3)) ∧ (decode cX12_way 64 = .ok (.goto (-28), 3)) ∧ (decode cX12_way 67 = .ok (.iload_n 2, 1)) ∧ (decode cX12_way 68 = .ok (.bipush 100, 2)) := by decide +kernel
theorem dX12_way_55 : decode cX12_way 55 = .ok (.getfield 74, 3) := dcX12_way_4.1
theorem dX12_way_58 : decode cX12_way 58 = .ok (.iload_n 3, 1) := dcX12_way_4.2.1
theorem dX12_way_59 : decode cX12_way 59 = .ok (.iconst (-1), 1) := dcX12_way_4.2.2.1
theorem dX12_way_60 : decode cX12_way 60 = .ok (.iastore, 1) := dcX12_way_4.2.2.2.1
theorem dX12_way_61 : decode cX12_way 61 = .ok (.iinc 3 1, 3) := dcX12_way_4.2.2.2.2.1
theorem dX12_way_64 : decode cX12_way 64 = .ok (.goto (-28), 3) := dcX12_way_4.2.2.2.2.2.1
theorem dX12_way_67 : decode cX12_way 67 = .ok (.iload_n 2, 1) := dcX12_way_4.2.2.2.2.2.2.1
theorem dX12_way_68 : decode cX12_way 68 = .ok (.bipush 100, 2) := dcX12_way_4.2.2.2.2.2.2.2
theorem dcX12_way_5 : (decode cX12_way 70 = .ok (.idiv, 1)) ∧ (decode cX12_way 71 = .ok (.istore_n 3, 1)) ∧ (decode cX12_way 72 = .ok (.aload_n 0, 1)) ∧ (decode cX12_way 73 = .ok (.getfield 74, 3)) ∧ (decode cX12_way 76 = .ok (.iload_n 3, 1)) ∧ (decode cX12_way 77 = .ok (.aload_n 0, 1)) ∧ (decode cX12_way 78 = .ok (.getfield 71, 3)) ∧ (decode cX12_way 81 = .ok (.iload_n 3, 1)) := by decide +kernel
theorem dX12_way_70 : decode cX12_way 70 = .ok (.idiv, 1) := dcX12_way_5.1
theorem dX12_way_71 : decode cX12_way 71 = .ok (.istore_n 3, 1) := dcX12_way_5.2.1
theorem dX12_way_72 : decode cX12_way 72 = .ok (.aload_n 0, 1) := dcX12_way_5.2.2.1
theorem dX12_way_73 : decode cX12_way 73 = .ok (.getfield 74, 3) := dcX12_way_5.2.2.2.1
theorem dX12_way_76 : decode cX12_way 76 = .ok (.iload_n 3, 1) := dcX12_way_5.2.2.2.2.1
theorem dX12_way_77 : decode cX12_way 77 = .ok (.aload_n 0, 1) := dcX12_way_5.2.2.2.2.2.1
theorem dX12_way_78 : decode cX12_way 78 = .ok (.getfield 71, 3) := dcX12_way_5.2.2.2.2.2.2.1
theorem dX12_way_81 : decode cX12_way 81 = .ok (.iload_n 3, 1) := dcX12_way_5.2.2.2.2.2.2.2
theorem dcX12_way_6 : (decode cX12_way 82 = .ok (.iaload, 1)) ∧ (decode cX12_way 83 = .ok (.iastore, 1)) ∧ (decode cX12_way 84 = .ok (.iconst 1, 1)) ∧ (decode cX12_way 85 = .ok (.istore 4, 2)) ∧ (decode cX12_way 87 = .ok (.iload 4, 2)) ∧ (decode cX12_way 89 = .ok (.ifCond .eq 100, 3)) ∧ (decode cX12_way 92 = .ok (.iconst 0, 1)) ∧ (decode cX12_way 93 = .ok (.istore 4, 2)) := by decide +kernel
theorem dX12_way_82 : decode cX12_way 82 = .ok (.iaload, 1) := dcX12_way_6.1
theorem dX12_way_83 : decode cX12_way 83 = .ok (.iastore, 1) := dcX12_way_6.2.1
theorem dX12_way_84 : decode cX12_way 84 = .ok (.iconst 1, 1) := dcX12_way_6.2.2.1
theorem dX12_way_85 : decode cX12_way 85 = .ok (.istore 4, 2) := dcX12_way_6.2.2.2.1
theorem dX12_way_87 : decode cX12_way 87 = .ok (.iload 4, 2) := dcX12_way_6.2.2.2.2.1
theorem dX12_way_89 : decode cX12_way 89 = .ok (.ifCond .eq 100, 3) := dcX12_way_6.2.2.2.2.2.1
theorem dX12_way_92 : decode cX12_way 92 = .ok (.iconst 0, 1) := dcX12_way_6.2.2.2.2.2.2.1
theorem dX12_way_93 : decode cX12_way 93 = .ok (.istore 4, 2) := dcX12_way_6.2.2.2.2.2.2.2
theorem dcX12_way_7 : (decode cX12_way 95 = .ok (.iconst 0, 1)) ∧ (decode cX12_way 96 = .ok (.istore 5, 2)) ∧ (decode cX12_way 98 = .ok (.iload 5, 2)) ∧ (decode cX12_way 100 = .ok (.bipush 16, 2)) ∧ (decode cX12_way 102 = .ok (.if_icmp .ge 84, 3)) ∧ (decode cX12_way 105 = .ok (.iload 5, 2)) ∧ (decode cX12_way 107 = .ok (.iconst 4, 1)) ∧ (decode cX12_way 108 = .ok (.irem, 1)) := by decide +kernel
theorem dX12_way_95 : decode cX12_way 95 = .ok (.iconst 0, 1) := dcX12_way_7.1
theorem dX12_way_96 : decode cX12_way 96 = .ok (.istore 5, 2) := dcX12_way_7.2.1
theorem dX12_way_98 : decode cX12_way 98 = .ok (.iload 5, 2) := dcX12_way_7.2.2.1
theorem dX12_way_100 : decode cX12_way 100 = .ok (.bipush 16, 2) := dcX12_way_7.2.2.2.1
theorem dX12_way_102 : decode cX12_way 102 = .ok (.if_icmp .ge 84, 3) := dcX12_way_7.2.2.2.2.1
theorem dX12_way_105 : decode cX12_way 105 = .ok (.iload 5, 2) := dcX12_way_7.2.2.2.2.2.1
theorem dX12_way_107 : decode cX12_way 107 = .ok (.iconst 4, 1) := dcX12_way_7.2.2.2.2.2.2.1
theorem dX12_way_108 : decode cX12_way 108 = .ok (.irem, 1) := dcX12_way_7.2.2.2.2.2.2.2
theorem dcX12_way_8 : (decode cX12_way 109 = .ok (.iconst 3, 1)) ∧ (decode cX12_way 110 = .ok (.if_icmp .ge 33, 3)) ∧ (decode cX12_way 113 = .ok (.iload 4, 2)) ∧ (decode cX12_way 115 = .ok (.aload_n 0, 1)) ∧ (decode cX12_way 116 = .ok (.iload 5, 2)) ∧ (decode cX12_way 118 = .ok (.iload 5, 2)) ∧ (decode cX12_way 120 = .ok (.iconst 1, 1)) ∧ (decode cX12_way 121 = .ok (.iadd, 1)) := by decide +kernel
theorem dX12_way_109 : decode cX12_way 109 = .ok (.iconst 3, 1) := dcX12_way_8.1
theorem dX12_way_110 : decode cX12_way 110 = .ok (.if_icmp .ge 33, 3) := dcX12_way_8.2.1
theorem dX12_way_113 : decode cX12_way 113 = .ok (.iload 4, 2) := dcX12_way_8.2.2.1
theorem dX12_way_115 : decode cX12_way 115 = .ok (.aload_n 0, 1) := dcX12_way_8.2.2.2.1
theorem dX12_way_116 : decode cX12_way 116 = .ok (.iload 5, 2) := dcX12_way_8.2.2.2.2.1
theorem dX12_way_118 : decode cX12_way 118 = .ok (.iload 5, 2) := dcX12_way_8.2.2.2.2.2.1
theorem dX12_way_120 : decode cX12_way 120 = .ok (.iconst 1, 1) := dcX12_way_8.2.2.2.2.2.2.1
theorem dX12_way_121 : decode cX12_way 121 = .ok (.iadd, 1) := dcX12_way_8.2.2.2.2.2.2.2
theorem dcX12_way_9 : (decode cX12_way 122 = .ok (.invokevirtual 249, 3)) ∧ (decode cX12_way 125 = .ok (.ior, 1)) ∧ (decode cX12_way 126 = .ok (.istore 4, 2)) ∧ (decode cX12_way 128 = .ok (.iload 4, 2)) ∧ (decode cX12_way 130 = .ok (.aload_n 0, 1)) ∧ (decode cX12_way 131 = .ok (.iload 5, 2)) ∧ (decode cX12_way 133 = .ok (.iconst 1, 1)) ∧ (decode cX12_way 134 = .ok (.iadd, 1)) := by decide +kernel
theorem dX12_way_122 : decode cX12_way 122 = .ok (.invokevirtual 249, 3) := dcX12_way_9.1
theorem dX12_way_125 : decode cX12_way 125 = .ok (.ior, 1) := dcX12_way_9.2.1
theorem dX12_way_126 : decode cX12_way 126 = .ok (.istore 4, 2) := dcX12_way_9.2.2.1
theorem dX12_way_128 : decode cX12_way 128 = .ok (.iload 4, 2) := dcX12_way_9.2.2.2.1
theorem dX12_way_130 : decode cX12_way 130 = .ok (.aload_n 0, 1) := dcX12_way_9.2.2.2.2.1
theorem dX12_way_131 : decode cX12_way 131 = .ok (.iload 5, 2) := dcX12_way_9.2.2.2.2.2.1
theorem dX12_way_133 : decode cX12_way 133 = .ok (.iconst 1, 1) := dcX12_way_9.2.2.2.2.2.2.1
theorem dX12_way_134 : decode cX12_way 134 = .ok (.iadd, 1) := dcX12_way_9.2.2.2.2.2.2.2
theorem dcX12_way_10 : (decode cX12_way 135 = .ok (.iload 5, 2)) ∧ (decode cX12_way 137 = .ok (.invokevirtual 249, 3)) ∧ (decode cX12_way 140 = .ok (.ior, 1)) ∧ (decode cX12_way 141 = .ok (.istore 4, 2)) ∧ (decode cX12_way 143 = .ok (.iload 5, 2)) ∧ (decode cX12_way 145 = .ok (.bipush 12, 2)) ∧ (decode cX12_way 147 = .ok (.if_icmp .ge 33, 3)) ∧ (decode cX12_way 150 = .ok (.iload 4, 2)) := by decide +kernel
theorem dX12_way_135 : decode cX12_way 135 = .ok (.iload 5, 2) := dcX12_way_10.1
theorem dX12_way_137 : decode cX12_way 137 = .ok (.invokevirtual 249, 3) := dcX12_way_10.2.1
theorem dX12_way_140 : decode cX12_way 140 = .ok (.ior, 1) := dcX12_way_10.2.2.1
theorem dX12_way_141 : decode cX12_way 141 = .ok (.istore 4, 2) := dcX12_way_10.2.2.2.1
theorem dX12_way_143 : decode cX12_way 143 = .ok (.iload 5, 2) := dcX12_way_10.2.2.2.2.1
theorem dX12_way_145 : decode cX12_way 145 = .ok (.bipush 12, 2) := dcX12_way_10.2.2.2.2.2.1
theorem dX12_way_147 : decode cX12_way 147 = .ok (.if_icmp .ge 33, 3) := dcX12_way_10.2.2.2.2.2.2.1
theorem dX12_way_150 : decode cX12_way 150 = .ok (.iload 4, 2) := dcX12_way_10.2.2.2.2.2.2.2
theorem dcX12_way_11 : (decode cX12_way 152 = .ok (.aload_n 0, 1)) ∧ (decode cX12_way 153 = .ok (.iload 5, 2)) ∧ (decode cX12_way 155 = .ok (.iload 5, 2)) ∧ (decode cX12_way 157 = .ok (.iconst 4, 1)) ∧ (decode cX12_way 158 = .ok (.iadd, 1)) ∧ (decode cX12_way 159 = .ok (.invokevirtual 249, 3)) ∧ (decode cX12_way 162 = .ok (.ior, 1)) ∧ (decode cX12_way 163 = .ok (.istore 4, 2)) := by decide +kernel
theorem dX12_way_152 : decode cX12_way 152 = .ok (.aload_n 0, 1) := dcX12_way_11.1
theorem dX12_way_153 : decode cX12_way 153 = .ok (.iload 5, 2) := dcX12_way_11.2.1
theorem dX12_way_155 : decode cX12_way 155 = .ok (.iload 5, 2) := dcX12_way_11.2.2.1
theorem dX12_way_157 : decode cX12_way 157 = .ok (.iconst 4, 1) := dcX12_way_11.2.2.2.1
theorem dX12_way_158 : decode cX12_way 158 = .ok (.iadd, 1) := dcX12_way_11.2.2.2.2.1
theorem dX12_way_159 : decode cX12_way 159 = .ok (.invokevirtual 249, 3) := dcX12_way_11.2.2.2.2.2.1
theorem dX12_way_162 : decode cX12_way 162 = .ok (.ior, 1) := dcX12_way_11.2.2.2.2.2.2.1
theorem dX12_way_163 : decode cX12_way 163 = .ok (.istore 4, 2) := dcX12_way_11.2.2.2.2.2.2.2
theorem dcX12_way_12 : (decode cX12_way 165 = .ok (.iload 4, 2)) ∧ (decode cX12_way 167 = .ok (.aload_n 0, 1)) ∧ (decode cX12_way 168 = .ok (.iload 5, 2)) ∧ (decode cX12_way 170 = .ok (.iconst 4, 1)) ∧ (decode cX12_way 171 = .ok (.iadd, 1)) ∧ (decode cX12_way 172 = .ok (.iload 5, 2)) ∧ (decode cX12_way 174 = .ok (.invokevirtual 249, 3)) ∧ (decode cX12_way 177 = .ok (.ior, 1)) := by decide +kernel
theorem dX12_way_165 : decode cX12_way 165 = .ok (.iload 4, 2) := dcX12_way_12.1
theorem dX12_way_167 : decode cX12_way 167 = .ok (.aload_n 0, 1) := dcX12_way_12.2.1
theorem dX12_way_168 : decode cX12_way 168 = .ok (.iload 5, 2) := dcX12_way_12.2.2.1
theorem dX12_way_170 : decode cX12_way 170 = .ok (.iconst 4, 1) := dcX12_way_12.2.2.2.1
theorem dX12_way_171 : decode cX12_way 171 = .ok (.iadd, 1) := dcX12_way_12.2.2.2.2.1
theorem dX12_way_172 : decode cX12_way 172 = .ok (.iload 5, 2) := dcX12_way_12.2.2.2.2.2.1
theorem dX12_way_174 : decode cX12_way 174 = .ok (.invokevirtual 249, 3) := dcX12_way_12.2.2.2.2.2.2.1
theorem dX12_way_177 : decode cX12_way 177 = .ok (.ior, 1) := dcX12_way_12.2.2.2.2.2.2.2
theorem dcX12_way_13 : (decode cX12_way 178 = .ok (.istore 4, 2)) ∧ (decode cX12_way 180 = .ok (.iinc 5 1, 3)) ∧ (decode cX12_way 183 = .ok (.goto (-85), 3)) ∧ (decode cX12_way 186 = .ok (.goto (-99), 3)) ∧ (decode cX12_way 189 = .ok (.aload_n 0, 1)) ∧ (decode cX12_way 190 = .ok (.getfield 74, 3)) ∧ (decode cX12_way 193 = .ok (.iload_n 2, 1)) ∧ (decode cX12_way 194 = .ok (.bipush 100, 2)) := by decide +kernel
theorem dX12_way_178 : decode cX12_way 178 = .ok (.istore 4, 2) := dcX12_way_13.1
theorem dX12_way_180 : decode cX12_way 180 = .ok (.iinc 5 1, 3) := dcX12_way_13.2.1
theorem dX12_way_183 : decode cX12_way 183 = .ok (.goto (-85), 3) := dcX12_way_13.2.2.1
theorem dX12_way_186 : decode cX12_way 186 = .ok (.goto (-99), 3) := dcX12_way_13.2.2.2.1
theorem dX12_way_189 : decode cX12_way 189 = .ok (.aload_n 0, 1) := dcX12_way_13.2.2.2.2.1
theorem dX12_way_190 : decode cX12_way 190 = .ok (.getfield 74, 3) := dcX12_way_13.2.2.2.2.2.1
theorem dX12_way_193 : decode cX12_way 193 = .ok (.iload_n 2, 1) := dcX12_way_13.2.2.2.2.2.2.1
theorem dX12_way_194 : decode cX12_way 194 = .ok (.bipush 100, 2) := dcX12_way_13.2.2.2.2.2.2.2
theorem dcX12_way_14 : (decode cX12_way 196 = .ok (.irem, 1)) ∧ (decode cX12_way 197 = .ok (.iaload, 1)) ∧ (decode cX12_way 198 = .ok (.ireturn, 1)) := by decide +kernel
theorem dX12_way_196 : decode cX12_way 196 = .ok (.irem, 1) := dcX12_way_14.1
theorem dX12_way_197 : decode cX12_way 197 = .ok (.iaload, 1) := dcX12_way_14.2.1
theorem dX12_way_198 : decode cX12_way 198 = .ok (.ireturn, 1) := dcX12_way_14.2.2
theorem dcX12_isOftenEnough_0 : (decode cX12_isOftenEnough 0 = .ok (.aload_n 0, 1)) ∧ (decode cX12_isOftenEnough 1 = .ok (.iload_n 1, 1)) ∧ (decode cX12_isOftenEnough 2 = .ok (.invokevirtual 225, 3)) ∧ (decode cX12_isOftenEnough 5 = .ok (.iconst 0, 1)) ∧ (decode cX12_isOftenEnough 6 = .ok (.istore_n 3, 1)) ∧ (decode cX12_isOftenEnough 7 = .ok (.iload_n 3, 1)) ∧ (decode cX12_isOftenEnough 8 = .ok (.bipush 20, 2)) ∧ (decode cX12_isOftenEnough 10 = .ok (.if_icmp .ge 63, 3)) := by decide +kernel
theorem dX12_isOftenEnough_0 : decode cX12_isOftenEnough 0 = .ok (.aload_n 0, 1) := dcX12_isOftenEnough_0.1
theorem dX12_isOftenEnough_1 : decode cX12_isOftenEnough 1 = .ok (.iload_n 1, 1) := dcX12_isOftenEnough_0.2.1
theorem dX12_isOftenEnough_2 : decode cX12_isOftenEnough 2 = .ok (.invokevirtual 225, 3) := dcX12_isOftenEnough_0.2.2.1
theorem dX12_isOftenEnough_5 : decode cX12_isOftenEnough 5 = .ok (.iconst 0, 1) := dcX12_isOftenEnough_0.2.2.2.1
theorem dX12_isOftenEnough_6 : decode cX12_isOftenEnough 6 = .ok (.istore_n 3, 1) := dcX12_isOftenEnough_0.2.2.2.2.1
theorem dX12_isOftenEnough_7 : decode cX12_isOftenEnough 7 = .ok (.iload_n 3, 1) := dcX12_isOftenEnough_0.2.2.2.2.2.1
theorem dX12_isOftenEnough_8 : decode cX12_isOftenEnough 8 = .ok (.bipush 20, 2) := dcX12_isOftenEnough_0.2.2.2.2.2.2.1
theorem dX12_isOftenEnough_10 : decode cX12_isOftenEnough 10 = .ok (.if_icmp .ge 63, 3) := dcX12_isOftenEnough_0.2.2.2.2.2.2.2
theorem dcX12_isOftenEnough_1 : (decode cX12_isOftenEnough 13 = .ok (.iload_n 3, 1)) ∧ (decode cX12_isOftenEnough 14 = .ok (.iload_n 2, 1)) ∧ (decode cX12_isOftenEnough 15 = .ok (.irem, 1)) ∧ (decode cX12_isOftenEnough 16 = .ok (.ifCond .ne 27, 3)) ∧ (decode cX12_isOftenEnough 19 = .ok (.iconst 0, 1)) ∧ (decode cX12_isOftenEnough 20 = .ok (.istore 4, 2)) ∧ (decode cX12_isOftenEnough 22 = .ok (.iload 4, 2)) ∧ (decode cX12_isOftenEnough 24 = .ok (.bipush 16, 2)) := by decide +kernel
theorem dX12_isOftenEnough_13 : decode cX12_isOftenEnough 13 = .ok (.iload_n 3, 1) := dcX12_isOftenEnough_1.1
theorem dX12_isOftenEnough_14 : decode cX12_isOftenEnough 14 = .ok (.iload_n 2, 1) := dcX12_isOftenEnough_1.2.1
theorem dX12_isOftenEnough_15 : decode cX12_isOftenEnough 15 = .ok (.irem, 1) := dcX12_isOftenEnough_1.2.2.1
theorem dX12_isOftenEnough_16 : decode cX12_isOftenEnough 16 = .ok (.ifCond .ne 27, 3) := dcX12_isOftenEnough_1.2.2.2.1
theorem dX12_isOftenEnough_19 : decode cX12_isOftenEnough 19 = .ok (.iconst 0, 1) := dcX12_isOftenEnough_1.2.2.2.2.1
theorem dX12_isOftenEnough_20 : decode cX12_isOftenEnough 20 = .ok (.istore 4, 2) := dcX12_isOftenEnough_1.2.2.2.2.2.1
theorem dX12_isOftenEnough_22 : decode cX12_isOftenEnough 22 = .ok (.iload 4, 2) := dcX12_isOftenEnough_1.2.2.2.2.2.2.1
theorem dX12_isOftenEnough_24 : decode cX12_isOftenEnough 24 = .ok (.bipush 16, 2) := dcX12_isOftenEnough_1.2.2.2.2.2.2.2
theorem dcX12_isOftenEnough_2 : (decode cX12_isOftenEnough 26 = .ok (.if_icmp .ge 17, 3)) ∧ (decode cX12_isOftenEnough 29 = .ok (.aload_n 0, 1)) ∧ (decode cX12_isOftenEnough 30 = .ok (.getfield 68, 3)) ∧ (decode cX12_isOftenEnough 33 = .ok (.iload 4, 2)) ∧ (decode cX12_isOftenEnough 35 = .ok (.iconst 0, 1)) ∧ (decode cX12_isOftenEnough 36 = .ok (.iastore, 1)) ∧ (decode cX12_isOftenEnough 37 = .ok (.iinc 4 1, 3)) ∧ (decode cX12_isOftenEnough 40 = .ok (.goto (-18), 3)) := by decide +kernel
theorem dX12_isOftenEnough_26 : decode cX12_isOftenEnough 26 = .ok (.if_icmp .ge 17, 3) := dcX12_isOftenEnough_2.1
theorem dX12_isOftenEnough_29 : decode cX12_isOftenEnough 29 = .ok (.aload_n 0, 1) := dcX12_isOftenEnough_2.2.1
theorem dX12_isOftenEnough_30 : decode cX12_isOftenEnough 30 = .ok (.getfield 68, 3) := dcX12_isOftenEnough_2.2.2.1
theorem dX12_isOftenEnough_33 : decode cX12_isOftenEnough 33 = .ok (.iload 4, 2) := dcX12_isOftenEnough_2.2.2.2.1
theorem dX12_isOftenEnough_35 : decode cX12_isOftenEnough 35 = .ok (.iconst 0, 1) := dcX12_isOftenEnough_2.2.2.2.2.1
theorem dX12_isOftenEnough_36 : decode cX12_isOftenEnough 36 = .ok (.iastore, 1) := dcX12_isOftenEnough_2.2.2.2.2.2.1
theorem dX12_isOftenEnough_37 : decode cX12_isOftenEnough 37 = .ok (.iinc 4 1, 3) := dcX12_isOftenEnough_2.2.2.2.2.2.2.1
theorem dX12_isOftenEnough_40 : decode cX12_isOftenEnough 40 = .ok (.goto (-18), 3) := dcX12_isOftenEnough_2.2.2.2.2.2.2.2
theorem dcX12_isOftenEnough_3 : (decode cX12_isOftenEnough 43 = .ok (.aload_n 0, 1)) ∧ (decode cX12_isOftenEnough 44 = .ok (.iload_n 1, 1)) ∧ (decode cX12_isOftenEnough 45 = .ok (.invokevirtual 228, 3)) ∧ (decode cX12_isOftenEnough 48 = .ok (.aload_n 0, 1)) ∧ (decode cX12_isOftenEnough 49 = .ok (.getfield 19, 3)) ∧ (decode cX12_isOftenEnough 52 = .ok (.iload_n 1, 1)) ∧ (decode cX12_isOftenEnough 53 = .ok (.iaload, 1)) ∧ (decode cX12_isOftenEnough 54 = .ok (.aload_n 0, 1)) := by decide +kernel
theorem dX12_isOftenEnough_43 : decode cX12_isOftenEnough 43 = .ok (.aload_n 0, 1) := dcX12_isOftenEnough_3.1
theorem dX12_isOftenEnough_44 : decode cX12_isOftenEnough 44 = .ok (.iload_n 1, 1) := dcX12_isOftenEnough_3.2.1
theorem dX12_isOftenEnough_45 : decode cX12_isOftenEnough 45 = .ok (.invokevirtual 228, 3) := dcX12_isOftenEnough_3.2.2.1
theorem dX12_isOftenEnough_48 : decode cX12_isOftenEnough 48 = .ok (.aload_n 0, 1) := dcX12_isOftenEnough_3.2.2.2.1
theorem dX12_isOftenEnough_49 : decode cX12_isOftenEnough 49 = .ok (.getfield 19, 3) := dcX12_isOftenEnough_3.2.2.2.2.1
theorem dX12_isOftenEnough_52 : decode cX12_isOftenEnough 52 = .ok (.iload_n 1, 1) := dcX12_isOftenEnough_3.2.2.2.2.2.1
theorem dX12_isOftenEnough_53 : decode cX12_isOftenEnough 53 = .ok (.iaload, 1) := dcX12_isOftenEnough_3.2.2.2.2.2.2.1
theorem dX12_isOftenEnough_54 : decode cX12_isOftenEnough 54 = .ok (.aload_n 0, 1) := dcX12_isOftenEnough_3.2.2.2.2.2.2.2
theorem dcX12_isOftenEnough_4 : (decode cX12_isOftenEnough 55 = .ok (.iload_n 1, 1)) ∧ (decode cX12_isOftenEnough 56 = .ok (.invokevirtual 231, 3)) ∧ (decode cX12_isOftenEnough 59 = .ok (.iconst (-1), 1)) ∧ (decode cX12_isOftenEnough 60 = .ok (.ixor, 1)) ∧ (decode cX12_isOftenEnough 61 = .ok (.iand, 1)) ∧ (decode cX12_isOftenEnough 62 = .ok (.ifCond .eq 5, 3)) ∧ (decode cX12_isOftenEnough 65 = .ok (.iconst 0, 1)) ∧ (decode cX12_isOftenEnough 66 = .ok (.ireturn, 1)) := by decide +kernel
theorem dX12_isOftenEnough_55 : decode cX12_isOftenEnough 55 = .ok (.iload_n 1, 1) := dcX12_isOftenEnough_4.1
theorem dX12_isOftenEnough_56 : decode cX12_isOftenEnough 56 = .ok (.invokevirtual 231, 3) := dcX12_isOftenEnough_4.2.1
theorem dX12_isOftenEnough_59 : decode cX12_isOftenEnough 59 = .ok (.iconst (-1), 1) := dcX12_isOftenEnough_4.2.2.1
theorem dX12_isOftenEnough_60 : decode cX12_isOftenEnough 60 = .ok (.ixor, 1) := dcX12_isOftenEnough_4.2.2.2.1
theorem dX12_isOftenEnough_61 : decode cX12_isOftenEnough 61 = .ok (.iand, 1) := dcX12_isOftenEnough_4.2.2.2.2.1
theorem dX12_isOftenEnough_62 : decode cX12_isOftenEnough 62 = .ok (.ifCond .eq 5, 3) := dcX12_isOftenEnough_4.2.2.2.2.2.1
theorem dX12_isOftenEnough_65 : decode cX12_isOftenEnough 65 = .ok (.iconst 0, 1) := dcX12_isOftenEnough_4.2.2.2.2.2.2.1
theorem dX12_isOftenEnough_66 : decode cX12_isOftenEnough 66 = .ok (.ireturn, 1) := dcX12_isOftenEnough_4.2.2.2.2.2.2.2
theorem dcX12_isOftenEnough_5 : (decode cX12_isOftenEnough 67 = .ok (.iinc 3 1, 3)) ∧ (decode cX12_isOftenEnough 70 = .ok (.goto (-63), 3)) ∧ (decode cX12_isOftenEnough 73 = .ok (.iconst 1, 1)) ∧ (decode cX12_isOftenEnough 74 = .ok (.ireturn, 1)) := by decide +kernel
theorem dX12_isOftenEnough_67 : decode cX12_isOftenEnough 67 = .ok (.iinc 3 1, 3) := dcX12_isOftenEnough_5.1
theorem dX12_isOftenEnough_70 : decode cX12_isOftenEnough 70 = .ok (.goto (-63), 3) := dcX12_isOftenEnough_5.2.1
theorem dX12_isOftenEnough_73 : decode cX12_isOftenEnough 73 = .ok (.iconst 1, 1) := dcX12_isOftenEnough_5.2.2.1
theorem dX12_isOftenEnough_74 : decode cX12_isOftenEnough 74 = .ok (.ireturn, 1) := dcX12_isOftenEnough_5.2.2.2
theorem dcX12_often_0 : (decode cX12_often 0 = .ok (.aload_n 0, 1)) ∧ (decode cX12_often 1 = .ok (.iload_n 1, 1)) ∧ (decode cX12_often 2 = .ok (.invokevirtual 176, 3)) ∧ (decode cX12_often 5 = .ok (.ifCond .ne 6, 3)) ∧ (decode cX12_often 8 = .ok (.bipush (-5), 2)) ∧ (decode cX12_often 10 = .ok (.ireturn, 1)) ∧ (decode cX12_often 11 = .ok (.bipush 9, 2)) ∧ (decode cX12_often 13 = .ok (.istore_n 2, 1)) := by decide +kernel
theorem dX12_often_0 : decode cX12_often 0 = .ok (.aload_n 0, 1) := dcX12_often_0.1
theorem dX12_often_1 : decode cX12_often 1 = .ok (.iload_n 1, 1) := dcX12_often_0.2.1
theorem dX12_often_2 : decode cX12_often 2 = .ok (.invokevirtual 176, 3) := dcX12_often_0.2.2.1
theorem dX12_often_5 : decode cX12_often 5 = .ok (.ifCond .ne 6, 3) := dcX12_often_0.2.2.2.1
theorem dX12_often_8 : decode cX12_often 8 = .ok (.bipush (-5), 2) := dcX12_often_0.2.2.2.2.1
theorem dX12_often_10 : decode cX12_often 10 = .ok (.ireturn, 1) := dcX12_often_0.2.2.2.2.2.1
theorem dX12_often_11 : decode cX12_often 11 = .ok (.bipush 9, 2) := dcX12_often_0.2.2.2.2.2.2.1
theorem dX12_often_13 : decode cX12_often 13 = .ok (.istore_n 2, 1) := dcX12_often_0.2.2.2.2.2.2.2
theorem dcX12_often_1 : (decode cX12_often 14 = .ok (.iload_n 2, 1)) ∧ (decode cX12_often 15 = .ok (.ifCond .le 20, 3)) ∧ (decode cX12_often 18 = .ok (.aload_n 0, 1)) ∧ (decode cX12_often 19 = .ok (.iload_n 1, 1)) ∧ (decode cX12_often 20 = .ok (.iload_n 2, 1)) ∧ (decode cX12_often 21 = .ok (.invokevirtual 253, 3)) ∧ (decode cX12_often 24 = .ok (.ifCond .eq 5, 3)) ∧ (decode cX12_often 27 = .ok (.iload_n 2, 1)) := by decide +kernel
theorem dX12_often_14 : decode cX12_often 14 = .ok (.iload_n 2, 1) := dcX12_often_1.1
theorem dX12_often_15 : decode cX12_often 15 = .ok (.ifCond .le 20, 3) := dcX12_often_1.2.1
theorem dX12_often_18 : decode cX12_often 18 = .ok (.aload_n 0, 1) := dcX12_often_1.2.2.1
theorem dX12_often_19 : decode cX12_often 19 = .ok (.iload_n 1, 1) := dcX12_often_1.2.2.2.1
theorem dX12_often_20 : decode cX12_often 20 = .ok (.iload_n 2, 1) := dcX12_often_1.2.2.2.2.1
theorem dX12_often_21 : decode cX12_often 21 = .ok (.invokevirtual 253, 3) := dcX12_often_1.2.2.2.2.2.1
theorem dX12_often_24 : decode cX12_often 24 = .ok (.ifCond .eq 5, 3) := dcX12_often_1.2.2.2.2.2.2.1
theorem dX12_often_27 : decode cX12_often 27 = .ok (.iload_n 2, 1) := dcX12_often_1.2.2.2.2.2.2.2
theorem dcX12_often_2 : (decode cX12_often 28 = .ok (.ireturn, 1)) ∧ (decode cX12_often 29 = .ok (.iinc 2 (-1), 3)) ∧ (decode cX12_often 32 = .ok (.goto (-18), 3)) ∧ (decode cX12_often 35 = .ok (.iconst (-1), 1)) ∧ (decode cX12_often 36 = .ok (.ireturn, 1)) := by decide +kernel
theorem dX12_often_28 : decode cX12_often 28 = .ok (.ireturn, 1) := dcX12_often_2.1
theorem dX12_often_29 : decode cX12_often 29 = .ok (.iinc 2 (-1), 3) := dcX12_often_2.2.1
theorem dX12_often_32 : decode cX12_often 32 = .ok (.goto (-18), 3) := dcX12_often_2.2.2.1
theorem dX12_often_35 : decode cX12_often 35 = .ok (.iconst (-1), 1) := dcX12_often_2.2.2.2.1
theorem dX12_often_36 : decode cX12_often 36 = .ok (.ireturn, 1) := dcX12_often_2.2.2.2.2
theorem dcX12_isLike_0 : (decode cX12_isLike 0 = .ok (.iconst 0, 1)) ∧ (decode cX12_isLike 1 = .ok (.istore 7, 2)) ∧ (decode cX12_isLike 3 = .ok (.iload 7, 2)) ∧ (decode cX12_isLike 5 = .ok (.bipush 16, 2)) ∧ (decode cX12_isLike 7 = .ok (.if_icmp .ge 116, 3)) ∧ (decode cX12_isLike 10 = .ok (.iload 7, 2)) ∧ (decode cX12_isLike 12 = .ok (.iconst 4, 1)) ∧ (decode cX12_isLike 13 = .ok (.irem, 1)) := by decide +kernel
theorem dX12_isLike_0 : decode cX12_isLike 0 = .ok (.iconst 0, 1) := dcX12_isLike_0.1
theorem dX12_isLike_1 : decode cX12_isLike 1 = .ok (.istore 7, 2) := dcX12_isLike_0.2.1
theorem dX12_isLike_3 : decode cX12_isLike 3 = .ok (.iload 7, 2) := dcX12_isLike_0.2.2.1
theorem dX12_isLike_5 : decode cX12_isLike 5 = .ok (.bipush 16, 2) := dcX12_isLike_0.2.2.2.1
theorem dX12_isLike_7 : decode cX12_isLike 7 = .ok (.if_icmp .ge 116, 3) := dcX12_isLike_0.2.2.2.2.1
theorem dX12_isLike_10 : decode cX12_isLike 10 = .ok (.iload 7, 2) := dcX12_isLike_0.2.2.2.2.2.1
theorem dX12_isLike_12 : decode cX12_isLike 12 = .ok (.iconst 4, 1) := dcX12_isLike_0.2.2.2.2.2.2.1
theorem dX12_isLike_13 : decode cX12_isLike 13 = .ok (.irem, 1) := dcX12_isLike_0.2.2.2.2.2.2.2
theorem dcX12_isLike_1 : (decode cX12_isLike 14 = .ok (.iload 5, 2)) ∧ (decode cX12_isLike 16 = .ok (.iadd, 1)) ∧ (decode cX12_isLike 17 = .ok (.istore 8, 2)) ∧ (decode cX12_isLike 19 = .ok (.iload 7, 2)) ∧ (decode cX12_isLike 21 = .ok (.iconst 4, 1)) ∧ (decode cX12_isLike 22 = .ok (.idiv, 1)) ∧ (decode cX12_isLike 23 = .ok (.iload 6, 2)) ∧ (decode cX12_isLike 25 = .ok (.iadd, 1)) := by decide +kernel
theorem dX12_isLike_14 : decode cX12_isLike 14 = .ok (.iload 5, 2) := dcX12_isLike_1.1
theorem dX12_isLike_16 : decode cX12_isLike 16 = .ok (.iadd, 1) := dcX12_isLike_1.2.1
theorem dX12_isLike_17 : decode cX12_isLike 17 = .ok (.istore 8, 2) := dcX12_isLike_1.2.2.1
theorem dX12_isLike_19 : decode cX12_isLike 19 = .ok (.iload 7, 2) := dcX12_isLike_1.2.2.2.1
theorem dX12_isLike_21 : decode cX12_isLike 21 = .ok (.iconst 4, 1) := dcX12_isLike_1.2.2.2.2.1
theorem dX12_isLike_22 : decode cX12_isLike 22 = .ok (.idiv, 1) := dcX12_isLike_1.2.2.2.2.2.1
theorem dX12_isLike_23 : decode cX12_isLike 23 = .ok (.iload 6, 2) := dcX12_isLike_1.2.2.2.2.2.2.1
theorem dX12_isLike_25 : decode cX12_isLike 25 = .ok (.iadd, 1) := dcX12_isLike_1.2.2.2.2.2.2.2
theorem dcX12_isLike_2 : (decode cX12_isLike 26 = .ok (.istore 9, 2)) ∧ (decode cX12_isLike 28 = .ok (.iload 8, 2)) ∧ (decode cX12_isLike 30 = .ok (.iconst 0, 1)) ∧ (decode cX12_isLike 31 = .ok (.iconst 3, 1)) ∧ (decode cX12_isLike 32 = .ok (.invokestatic 93, 3)) ∧ (decode cX12_isLike 35 = .ok (.ifCond .eq 82, 3)) ∧ (decode cX12_isLike 38 = .ok (.iload 9, 2)) ∧ (decode cX12_isLike 40 = .ok (.iconst 0, 1)) := by decide +kernel
theorem dX12_isLike_26 : decode cX12_isLike 26 = .ok (.istore 9, 2) := dcX12_isLike_2.1
theorem dX12_isLike_28 : decode cX12_isLike 28 = .ok (.iload 8, 2) := dcX12_isLike_2.2.1
theorem dX12_isLike_30 : decode cX12_isLike 30 = .ok (.iconst 0, 1) := dcX12_isLike_2.2.2.1
theorem dX12_isLike_31 : decode cX12_isLike 31 = .ok (.iconst 3, 1) := dcX12_isLike_2.2.2.2.1
theorem dX12_isLike_32 : decode cX12_isLike 32 = .ok (.invokestatic 93, 3) := dcX12_isLike_2.2.2.2.2.1
theorem dX12_isLike_35 : decode cX12_isLike 35 = .ok (.ifCond .eq 82, 3) := dcX12_isLike_2.2.2.2.2.2.1
theorem dX12_isLike_38 : decode cX12_isLike 38 = .ok (.iload 9, 2) := dcX12_isLike_2.2.2.2.2.2.2.1
theorem dX12_isLike_40 : decode cX12_isLike 40 = .ok (.iconst 0, 1) := dcX12_isLike_2.2.2.2.2.2.2.2
theorem dcX12_isLike_3 : (decode cX12_isLike 41 = .ok (.iconst 3, 1)) ∧ (decode cX12_isLike 42 = .ok (.invokestatic 93, 3)) ∧ (decode cX12_isLike 45 = .ok (.ifCond .eq 72, 3)) ∧ (decode cX12_isLike 48 = .ok (.iload 4, 2)) ∧ (decode cX12_isLike 50 = .ok (.iload 7, 2)) ∧ (decode cX12_isLike 52 = .ok (.ishr, 1)) ∧ (decode cX12_isLike 53 = .ok (.iconst 1, 1)) ∧ (decode cX12_isLike 54 = .ok (.iand, 1)) := by decide +kernel
theorem dX12_isLike_41 : decode cX12_isLike 41 = .ok (.iconst 3, 1) := dcX12_isLike_3.1
theorem dX12_isLike_42 : decode cX12_isLike 42 = .ok (.invokestatic 93, 3) := dcX12_isLike_3.2.1
theorem dX12_isLike_45 : decode cX12_isLike 45 = .ok (.ifCond .eq 72, 3) := dcX12_isLike_3.2.2.1
theorem dX12_isLike_48 : decode cX12_isLike 48 = .ok (.iload 4, 2) := dcX12_isLike_3.2.2.2.1
theorem dX12_isLike_50 : decode cX12_isLike 50 = .ok (.iload 7, 2) := dcX12_isLike_3.2.2.2.2.1
theorem dX12_isLike_52 : decode cX12_isLike 52 = .ok (.ishr, 1) := dcX12_isLike_3.2.2.2.2.2.1
theorem dX12_isLike_53 : decode cX12_isLike 53 = .ok (.iconst 1, 1) := dcX12_isLike_3.2.2.2.2.2.2.1
theorem dX12_isLike_54 : decode cX12_isLike 54 = .ok (.iand, 1) := dcX12_isLike_3.2.2.2.2.2.2.2
theorem dcX12_isLike_4 : (decode cX12_isLike 55 = .ok (.iconst 1, 1)) ∧ (decode cX12_isLike 56 = .ok (.if_icmp .ne 61, 3)) ∧ (decode cX12_isLike 59 = .ok (.iconst 4, 1)) ∧ (decode cX12_isLike 60 = .ok (.iload 9, 2)) ∧ (decode cX12_isLike 62 = .ok (.imul, 1)) ∧ (decode cX12_isLike 63 = .ok (.iload 8, 2)) ∧ (decode cX12_isLike 65 = .ok (.iadd, 1)) ∧ (decode cX12_isLike 66 = .ok (.istore 10, 2)) := by decide +kernel
theorem dX12_isLike_55 : decode cX12_isLike 55 = .ok (.iconst 1, 1) := dcX12_isLike_4.1
theorem dX12_isLike_56 : decode cX12_isLike 56 = .ok (.if_icmp .ne 61, 3) := dcX12_isLike_4.2.1
theorem dX12_isLike_59 : decode cX12_isLike 59 = .ok (.iconst 4, 1) := dcX12_isLike_4.2.2.1
theorem dX12_isLike_60 : decode cX12_isLike 60 = .ok (.iload 9, 2) := dcX12_isLike_4.2.2.2.1
theorem dX12_isLike_62 : decode cX12_isLike 62 = .ok (.imul, 1) := dcX12_isLike_4.2.2.2.2.1
theorem dX12_isLike_63 : decode cX12_isLike 63 = .ok (.iload 8, 2) := dcX12_isLike_4.2.2.2.2.2.1
theorem dX12_isLike_65 : decode cX12_isLike 65 = .ok (.iadd, 1) := dcX12_isLike_4.2.2.2.2.2.2.1
theorem dX12_isLike_66 : decode cX12_isLike 66 = .ok (.istore 10, 2) := dcX12_isLike_4.2.2.2.2.2.2.2
theorem dcX12_isLike_5 : (decode cX12_isLike 68 = .ok (.iload_n 3, 1)) ∧ (decode cX12_isLike 69 = .ok (.iload 10, 2)) ∧ (decode cX12_isLike 71 = .ok (.ishr, 1)) ∧ (decode cX12_isLike 72 = .ok (.iconst 1, 1)) ∧ (decode cX12_isLike 73 = .ok (.iand, 1)) ∧ (decode cX12_isLike 74 = .ok (.iconst 1, 1)) ∧ (decode cX12_isLike 75 = .ok (.if_icmp .ne 7, 3)) ∧ (decode cX12_isLike 78 = .ok (.iconst 1, 1)) := by decide +kernel
theorem dX12_isLike_68 : decode cX12_isLike 68 = .ok (.iload_n 3, 1) := dcX12_isLike_5.1
theorem dX12_isLike_69 : decode cX12_isLike 69 = .ok (.iload 10, 2) := dcX12_isLike_5.2.1
theorem dX12_isLike_71 : decode cX12_isLike 71 = .ok (.ishr, 1) := dcX12_isLike_5.2.2.1
theorem dX12_isLike_72 : decode cX12_isLike 72 = .ok (.iconst 1, 1) := dcX12_isLike_5.2.2.2.1
theorem dX12_isLike_73 : decode cX12_isLike 73 = .ok (.iand, 1) := dcX12_isLike_5.2.2.2.2.1
theorem dX12_isLike_74 : decode cX12_isLike 74 = .ok (.iconst 1, 1) := dcX12_isLike_5.2.2.2.2.2.1
theorem dX12_isLike_75 : decode cX12_isLike 75 = .ok (.if_icmp .ne 7, 3) := dcX12_isLike_5.2.2.2.2.2.2.1
theorem dX12_isLike_78 : decode cX12_isLike 78 = .ok (.iconst 1, 1) := dcX12_isLike_5.2.2.2.2.2.2.2
theorem dcX12_isLike_6 : (decode cX12_isLike 79 = .ok (.goto 4, 3)) ∧ (decode cX12_isLike 82 = .ok (.iconst 0, 1)) ∧ (decode cX12_isLike 83 = .ok (.istore 11, 2)) ∧ (decode cX12_isLike 85 = .ok (.iload 11, 2)) ∧ (decode cX12_isLike 87 = .ok (.ifCond .eq 30, 3)) ∧ (decode cX12_isLike 90 = .ok (.aload_n 0, 1)) ∧ (decode cX12_isLike 91 = .ok (.getfield 19, 3)) ∧ (decode cX12_isLike 94 = .ok (.iload_n 1, 1)) := by decide +kernel
theorem dX12_isLike_79 : decode cX12_isLike 79 = .ok (.goto 4, 3) := dcX12_isLike_6.1
theorem dX12_isLike_82 : decode cX12_isLike 82 = .ok (.iconst 0, 1) := dcX12_isLike_6.2.1
theorem dX12_isLike_83 : decode cX12_isLike 83 = .ok (.istore 11, 2) := dcX12_isLike_6.2.2.1
theorem dX12_isLike_85 : decode cX12_isLike 85 = .ok (.iload 11, 2) := dcX12_isLike_6.2.2.2.1
theorem dX12_isLike_87 : decode cX12_isLike 87 = .ok (.ifCond .eq 30, 3) := dcX12_isLike_6.2.2.2.2.1
theorem dX12_isLike_90 : decode cX12_isLike 90 = .ok (.aload_n 0, 1) := dcX12_isLike_6.2.2.2.2.2.1
theorem dX12_isLike_91 : decode cX12_isLike 91 = .ok (.getfield 19, 3) := dcX12_isLike_6.2.2.2.2.2.2.1
theorem dX12_isLike_94 : decode cX12_isLike 94 = .ok (.iload_n 1, 1) := dcX12_isLike_6.2.2.2.2.2.2.2
theorem dcX12_isLike_7 : (decode cX12_isLike 95 = .ok (.iaload, 1)) ∧ (decode cX12_isLike 96 = .ok (.iload 10, 2)) ∧ (decode cX12_isLike 98 = .ok (.ishr, 1)) ∧ (decode cX12_isLike 99 = .ok (.iconst 1, 1)) ∧ (decode cX12_isLike 100 = .ok (.iand, 1)) ∧ (decode cX12_isLike 101 = .ok (.aload_n 0, 1)) ∧ (decode cX12_isLike 102 = .ok (.getfield 19, 3)) ∧ (decode cX12_isLike 105 = .ok (.iload_n 2, 1)) := by decide +kernel
theorem dX12_isLike_95 : decode cX12_isLike 95 = .ok (.iaload, 1) := dcX12_isLike_7.1
theorem dX12_isLike_96 : decode cX12_isLike 96 = .ok (.iload 10, 2) := dcX12_isLike_7.2.1
theorem dX12_isLike_98 : decode cX12_isLike 98 = .ok (.ishr, 1) := dcX12_isLike_7.2.2.1
theorem dX12_isLike_99 : decode cX12_isLike 99 = .ok (.iconst 1, 1) := dcX12_isLike_7.2.2.2.1
theorem dX12_isLike_100 : decode cX12_isLike 100 = .ok (.iand, 1) := dcX12_isLike_7.2.2.2.2.1
theorem dX12_isLike_101 : decode cX12_isLike 101 = .ok (.aload_n 0, 1) := dcX12_isLike_7.2.2.2.2.2.1
theorem dX12_isLike_102 : decode cX12_isLike 102 = .ok (.getfield 19, 3) := dcX12_isLike_7.2.2.2.2.2.2.1
theorem dX12_isLike_105 : decode cX12_isLike 105 = .ok (.iload_n 2, 1) := dcX12_isLike_7.2.2.2.2.2.2.2
theorem dcX12_isLike_8 : (decode cX12_isLike 106 = .ok (.iaload, 1)) ∧ (decode cX12_isLike 107 = .ok (.iload 7, 2)) ∧ (decode cX12_isLike 109 = .ok (.ishr, 1)) ∧ (decode cX12_isLike 110 = .ok (.iconst 1, 1)) ∧ (decode cX12_isLike 111 = .ok (.iand, 1)) ∧ (decode cX12_isLike 112 = .ok (.if_icmp .eq 5, 3)) ∧ (decode cX12_isLike 115 = .ok (.iconst 0, 1)) ∧ (decode cX12_isLike 116 = .ok (.ireturn, 1)) := by decide +kernel
theorem dX12_isLike_106 : decode cX12_isLike 106 = .ok (.iaload, 1) := dcX12_isLike_8.1
theorem dX12_isLike_107 : decode cX12_isLike 107 = .ok (.iload 7, 2) := dcX12_isLike_8.2.1
theorem dX12_isLike_109 : decode cX12_isLike 109 = .ok (.ishr, 1) := dcX12_isLike_8.2.2.1
theorem dX12_isLike_110 : decode cX12_isLike 110 = .ok (.iconst 1, 1) := dcX12_isLike_8.2.2.2.1
theorem dX12_isLike_111 : decode cX12_isLike 111 = .ok (.iand, 1) := dcX12_isLike_8.2.2.2.2.1
theorem dX12_isLike_112 : decode cX12_isLike 112 = .ok (.if_icmp .eq 5, 3) := dcX12_isLike_8.2.2.2.2.2.1
theorem dX12_isLike_115 : decode cX12_isLike 115 = .ok (.iconst 0, 1) := dcX12_isLike_8.2.2.2.2.2.2.1
theorem dX12_isLike_116 : decode cX12_isLike 116 = .ok (.ireturn, 1) := dcX12_isLike_8.2.2.2.2.2.2.2
theorem dcX12_isLike_9 : (decode cX12_isLike 117 = .ok (.iinc 7 1, 3)) ∧ (decode cX12_isLike 120 = .ok (.goto (-117), 3)) ∧ (decode cX12_isLike 123 = .ok (.iconst 1, 1)) ∧ (decode cX12_isLike 124 = .ok (.ireturn, 1)) := by decide +kernel
theorem dX12_isLike_117 : decode cX12_isLike 117 = .ok (.iinc 7 1, 3) := dcX12_isLike_9.1
theorem dX12_isLike_120 : decode cX12_isLike 120 = .ok (.goto (-117), 3) := dcX12_isLike_9.2.1
theorem dX12_isLike_123 : decode cX12_isLike 123 = .ok (.iconst 1, 1) := dcX12_isLike_9.2.2.1
theorem dX12_isLike_124 : decode cX12_isLike 124 = .ok (.ireturn, 1) := dcX12_isLike_9.2.2.2
theorem dcX12_joins_0 : (decode cX12_joins 0 = .ok (.iload_n 1, 1)) ∧ (decode cX12_joins 1 = .ok (.iconst 0, 1)) ∧ (decode cX12_joins 2 = .ok (.bipush 55, 2)) ∧ (decode cX12_joins 4 = .ok (.invokestatic 93, 3)) ∧ (decode cX12_joins 7 = .ok (.ifCond .eq 29, 3)) ∧ (decode cX12_joins 10 = .ok (.aload_n 0, 1)) ∧ (decode cX12_joins 11 = .ok (.iload_n 1, 1)) ∧ (decode cX12_joins 12 = .ok (.bipush 10, 2)) := by decide +kernel
theorem dX12_joins_0 : decode cX12_joins 0 = .ok (.iload_n 1, 1) := dcX12_joins_0.1
theorem dX12_joins_1 : decode cX12_joins 1 = .ok (.iconst 0, 1) := dcX12_joins_0.2.1
theorem dX12_joins_2 : decode cX12_joins 2 = .ok (.bipush 55, 2) := dcX12_joins_0.2.2.1
theorem dX12_joins_4 : decode cX12_joins 4 = .ok (.invokestatic 93, 3) := dcX12_joins_0.2.2.2.1
theorem dX12_joins_7 : decode cX12_joins 7 = .ok (.ifCond .eq 29, 3) := dcX12_joins_0.2.2.2.2.1
theorem dX12_joins_10 : decode cX12_joins 10 = .ok (.aload_n 0, 1) := dcX12_joins_0.2.2.2.2.2.1
theorem dX12_joins_11 : decode cX12_joins 11 = .ok (.iload_n 1, 1) := dcX12_joins_0.2.2.2.2.2.2.1
theorem dX12_joins_12 : decode cX12_joins 12 = .ok (.bipush 10, 2) := dcX12_joins_0.2.2.2.2.2.2.2
theorem dcX12_joins_1 : (decode cX12_joins 14 = .ok (.idiv, 1)) ∧ (decode cX12_joins 15 = .ok (.invokevirtual 176, 3)) ∧ (decode cX12_joins 18 = .ok (.ifCond .eq 18, 3)) ∧ (decode cX12_joins 21 = .ok (.aload_n 0, 1)) ∧ (decode cX12_joins 22 = .ok (.iload_n 1, 1)) ∧ (decode cX12_joins 23 = .ok (.bipush 10, 2)) ∧ (decode cX12_joins 25 = .ok (.irem, 1)) ∧ (decode cX12_joins 26 = .ok (.invokevirtual 176, 3)) := by decide +kernel
theorem dX12_joins_14 : decode cX12_joins 14 = .ok (.idiv, 1) := dcX12_joins_1.1
theorem dX12_joins_15 : decode cX12_joins 15 = .ok (.invokevirtual 176, 3) := dcX12_joins_1.2.1
theorem dX12_joins_18 : decode cX12_joins 18 = .ok (.ifCond .eq 18, 3) := dcX12_joins_1.2.2.1
theorem dX12_joins_21 : decode cX12_joins 21 = .ok (.aload_n 0, 1) := dcX12_joins_1.2.2.2.1
theorem dX12_joins_22 : decode cX12_joins 22 = .ok (.iload_n 1, 1) := dcX12_joins_1.2.2.2.2.1
theorem dX12_joins_23 : decode cX12_joins 23 = .ok (.bipush 10, 2) := dcX12_joins_1.2.2.2.2.2.1
theorem dX12_joins_25 : decode cX12_joins 25 = .ok (.irem, 1) := dcX12_joins_1.2.2.2.2.2.2.1
theorem dX12_joins_26 : decode cX12_joins 26 = .ok (.invokevirtual 176, 3) := dcX12_joins_1.2.2.2.2.2.2.2
theorem dcX12_joins_2 : (decode cX12_joins 29 = .ok (.ifCond .eq 7, 3)) ∧ (decode cX12_joins 32 = .ok (.iconst 1, 1)) ∧ (decode cX12_joins 33 = .ok (.goto 4, 3)) ∧ (decode cX12_joins 36 = .ok (.iconst 0, 1)) ∧ (decode cX12_joins 37 = .ok (.istore_n 3, 1)) ∧ (decode cX12_joins 38 = .ok (.iload_n 3, 1)) ∧ (decode cX12_joins 39 = .ok (.ifCond .eq 14, 3)) ∧ (decode cX12_joins 42 = .ok (.iload_n 1, 1)) := by decide +kernel
theorem dX12_joins_29 : decode cX12_joins 29 = .ok (.ifCond .eq 7, 3) := dcX12_joins_2.1
theorem dX12_joins_32 : decode cX12_joins 32 = .ok (.iconst 1, 1) := dcX12_joins_2.2.1
theorem dX12_joins_33 : decode cX12_joins 33 = .ok (.goto 4, 3) := dcX12_joins_2.2.2.1
theorem dX12_joins_36 : decode cX12_joins 36 = .ok (.iconst 0, 1) := dcX12_joins_2.2.2.2.1
theorem dX12_joins_37 : decode cX12_joins 37 = .ok (.istore_n 3, 1) := dcX12_joins_2.2.2.2.2.1
theorem dX12_joins_38 : decode cX12_joins 38 = .ok (.iload_n 3, 1) := dcX12_joins_2.2.2.2.2.2.1
theorem dX12_joins_39 : decode cX12_joins 39 = .ok (.ifCond .eq 14, 3) := dcX12_joins_2.2.2.2.2.2.2.1
theorem dX12_joins_42 : decode cX12_joins 42 = .ok (.iload_n 1, 1) := dcX12_joins_2.2.2.2.2.2.2.2
theorem dcX12_joins_3 : (decode cX12_joins 43 = .ok (.bipush 10, 2)) ∧ (decode cX12_joins 45 = .ok (.idiv, 1)) ∧ (decode cX12_joins 46 = .ok (.iload_n 1, 1)) ∧ (decode cX12_joins 47 = .ok (.bipush 10, 2)) ∧ (decode cX12_joins 49 = .ok (.irem, 1)) ∧ (decode cX12_joins 50 = .ok (.if_icmp .ne 6, 3)) ∧ (decode cX12_joins 53 = .ok (.bipush (-5), 2)) ∧ (decode cX12_joins 55 = .ok (.ireturn, 1)) := by decide +kernel
theorem dX12_joins_43 : decode cX12_joins 43 = .ok (.bipush 10, 2) := dcX12_joins_3.1
theorem dX12_joins_45 : decode cX12_joins 45 = .ok (.idiv, 1) := dcX12_joins_3.2.1
theorem dX12_joins_46 : decode cX12_joins 46 = .ok (.iload_n 1, 1) := dcX12_joins_3.2.2.1
theorem dX12_joins_47 : decode cX12_joins 47 = .ok (.bipush 10, 2) := dcX12_joins_3.2.2.2.1
theorem dX12_joins_49 : decode cX12_joins 49 = .ok (.irem, 1) := dcX12_joins_3.2.2.2.2.1
theorem dX12_joins_50 : decode cX12_joins 50 = .ok (.if_icmp .ne 6, 3) := dcX12_joins_3.2.2.2.2.2.1
theorem dX12_joins_53 : decode cX12_joins 53 = .ok (.bipush (-5), 2) := dcX12_joins_3.2.2.2.2.2.2.1
theorem dX12_joins_55 : decode cX12_joins 55 = .ok (.ireturn, 1) := dcX12_joins_3.2.2.2.2.2.2.2
theorem dcX12_joins_4 : (decode cX12_joins 56 = .ok (.iload_n 2, 1)) ∧ (decode cX12_joins 57 = .ok (.iconst 0, 1)) ∧ (decode cX12_joins 58 = .ok (.iconst 1, 1)) ∧ (decode cX12_joins 59 = .ok (.invokestatic 93, 3)) ∧ (decode cX12_joins 62 = .ok (.ifCond .ne 6, 3)) ∧ (decode cX12_joins 65 = .ok (.bipush (-7), 2)) ∧ (decode cX12_joins 67 = .ok (.ireturn, 1)) ∧ (decode cX12_joins 68 = .ok (.iload_n 1, 1)) := by decide +kernel
theorem dX12_joins_56 : decode cX12_joins 56 = .ok (.iload_n 2, 1) := dcX12_joins_4.1
theorem dX12_joins_57 : decode cX12_joins 57 = .ok (.iconst 0, 1) := dcX12_joins_4.2.1
theorem dX12_joins_58 : decode cX12_joins 58 = .ok (.iconst 1, 1) := dcX12_joins_4.2.2.1
theorem dX12_joins_59 : decode cX12_joins 59 = .ok (.invokestatic 93, 3) := dcX12_joins_4.2.2.2.1
theorem dX12_joins_62 : decode cX12_joins 62 = .ok (.ifCond .ne 6, 3) := dcX12_joins_4.2.2.2.2.1
theorem dX12_joins_65 : decode cX12_joins 65 = .ok (.bipush (-7), 2) := dcX12_joins_4.2.2.2.2.2.1
theorem dX12_joins_67 : decode cX12_joins 67 = .ok (.ireturn, 1) := dcX12_joins_4.2.2.2.2.2.2.1
theorem dX12_joins_68 : decode cX12_joins 68 = .ok (.iload_n 1, 1) := dcX12_joins_4.2.2.2.2.2.2.2
theorem dcX12_joins_5 : (decode cX12_joins 69 = .ok (.bipush 10, 2)) ∧ (decode cX12_joins 71 = .ok (.idiv, 1)) ∧ (decode cX12_joins 72 = .ok (.istore 4, 2)) ∧ (decode cX12_joins 74 = .ok (.iload_n 1, 1)) ∧ (decode cX12_joins 75 = .ok (.bipush 10, 2)) ∧ (decode cX12_joins 77 = .ok (.irem, 1)) ∧ (decode cX12_joins 78 = .ok (.istore 5, 2)) ∧ (decode cX12_joins 80 = .ok (.aload_n 0, 1)) := by decide +kernel
theorem dX12_joins_69 : decode cX12_joins 69 = .ok (.bipush 10, 2) := dcX12_joins_5.1
theorem dX12_joins_71 : decode cX12_joins 71 = .ok (.idiv, 1) := dcX12_joins_5.2.1
theorem dX12_joins_72 : decode cX12_joins 72 = .ok (.istore 4, 2) := dcX12_joins_5.2.2.1
theorem dX12_joins_74 : decode cX12_joins 74 = .ok (.iload_n 1, 1) := dcX12_joins_5.2.2.2.1
theorem dX12_joins_75 : decode cX12_joins 75 = .ok (.bipush 10, 2) := dcX12_joins_5.2.2.2.2.1
theorem dX12_joins_77 : decode cX12_joins 77 = .ok (.irem, 1) := dcX12_joins_5.2.2.2.2.2.1
theorem dX12_joins_78 : decode cX12_joins 78 = .ok (.istore 5, 2) := dcX12_joins_5.2.2.2.2.2.2.1
theorem dX12_joins_80 : decode cX12_joins 80 = .ok (.aload_n 0, 1) := dcX12_joins_5.2.2.2.2.2.2.2
theorem dcX12_joins_6 : (decode cX12_joins 81 = .ok (.iload 4, 2)) ∧ (decode cX12_joins 83 = .ok (.invokevirtual 200, 3)) ∧ (decode cX12_joins 86 = .ok (.istore 6, 2)) ∧ (decode cX12_joins 88 = .ok (.aload_n 0, 1)) ∧ (decode cX12_joins 89 = .ok (.iload 5, 2)) ∧ (decode cX12_joins 91 = .ok (.invokevirtual 200, 3)) ∧ (decode cX12_joins 94 = .ok (.istore 7, 2)) ∧ (decode cX12_joins 96 = .ok (.iconst 0, 1)) := by decide +kernel
theorem dX12_joins_81 : decode cX12_joins 81 = .ok (.iload 4, 2) := dcX12_joins_6.1
theorem dX12_joins_83 : decode cX12_joins 83 = .ok (.invokevirtual 200, 3) := dcX12_joins_6.2.1
theorem dX12_joins_86 : decode cX12_joins 86 = .ok (.istore 6, 2) := dcX12_joins_6.2.2.1
theorem dX12_joins_88 : decode cX12_joins 88 = .ok (.aload_n 0, 1) := dcX12_joins_6.2.2.2.1
theorem dX12_joins_89 : decode cX12_joins 89 = .ok (.iload 5, 2) := dcX12_joins_6.2.2.2.2.1
theorem dX12_joins_91 : decode cX12_joins 91 = .ok (.invokevirtual 200, 3) := dcX12_joins_6.2.2.2.2.2.1
theorem dX12_joins_94 : decode cX12_joins 94 = .ok (.istore 7, 2) := dcX12_joins_6.2.2.2.2.2.2.1
theorem dX12_joins_96 : decode cX12_joins 96 = .ok (.iconst 0, 1) := dcX12_joins_6.2.2.2.2.2.2.2
theorem dcX12_joins_7 : (decode cX12_joins 97 = .ok (.istore 8, 2)) ∧ (decode cX12_joins 99 = .ok (.iconst (-1), 1)) ∧ (decode cX12_joins 100 = .ok (.istore 9, 2)) ∧ (decode cX12_joins 102 = .ok (.bipush (-3), 2)) ∧ (decode cX12_joins 104 = .ok (.istore 10, 2)) ∧ (decode cX12_joins 106 = .ok (.iload 10, 2)) ∧ (decode cX12_joins 108 = .ok (.iconst 3, 1)) ∧ (decode cX12_joins 109 = .ok (.if_icmp .gt 71, 3)) := by decide +kernel
theorem dX12_joins_97 : decode cX12_joins 97 = .ok (.istore 8, 2) := dcX12_joins_7.1
theorem dX12_joins_99 : decode cX12_joins 99 = .ok (.iconst (-1), 1) := dcX12_joins_7.2.1
theorem dX12_joins_100 : decode cX12_joins 100 = .ok (.istore 9, 2) := dcX12_joins_7.2.2.1
theorem dX12_joins_102 : decode cX12_joins 102 = .ok (.bipush (-3), 2) := dcX12_joins_7.2.2.2.1
theorem dX12_joins_104 : decode cX12_joins 104 = .ok (.istore 10, 2) := dcX12_joins_7.2.2.2.2.1
theorem dX12_joins_106 : decode cX12_joins 106 = .ok (.iload 10, 2) := dcX12_joins_7.2.2.2.2.2.1
theorem dX12_joins_108 : decode cX12_joins 108 = .ok (.iconst 3, 1) := dcX12_joins_7.2.2.2.2.2.2.1
theorem dX12_joins_109 : decode cX12_joins 109 = .ok (.if_icmp .gt 71, 3) := dcX12_joins_7.2.2.2.2.2.2.2
theorem dcX12_joins_8 : (decode cX12_joins 112 = .ok (.bipush (-3), 2)) ∧ (decode cX12_joins 114 = .ok (.istore 11, 2)) ∧ (decode cX12_joins 116 = .ok (.iload 11, 2)) ∧ (decode cX12_joins 118 = .ok (.iconst 3, 1)) ∧ (decode cX12_joins 119 = .ok (.if_icmp .gt 55, 3)) ∧ (decode cX12_joins 122 = .ok (.aload_n 0, 1)) ∧ (decode cX12_joins 123 = .ok (.iload 4, 2)) ∧ (decode cX12_joins 125 = .ok (.iload 5, 2)) := by decide +kernel
theorem dX12_joins_112 : decode cX12_joins 112 = .ok (.bipush (-3), 2) := dcX12_joins_8.1
theorem dX12_joins_114 : decode cX12_joins 114 = .ok (.istore 11, 2) := dcX12_joins_8.2.1
theorem dX12_joins_116 : decode cX12_joins 116 = .ok (.iload 11, 2) := dcX12_joins_8.2.2.1
theorem dX12_joins_118 : decode cX12_joins 118 = .ok (.iconst 3, 1) := dcX12_joins_8.2.2.2.1
theorem dX12_joins_119 : decode cX12_joins 119 = .ok (.if_icmp .gt 55, 3) := dcX12_joins_8.2.2.2.2.1
theorem dX12_joins_122 : decode cX12_joins 122 = .ok (.aload_n 0, 1) := dcX12_joins_8.2.2.2.2.2.1
theorem dX12_joins_123 : decode cX12_joins 123 = .ok (.iload 4, 2) := dcX12_joins_8.2.2.2.2.2.2.1
theorem dX12_joins_125 : decode cX12_joins 125 = .ok (.iload 5, 2) := dcX12_joins_8.2.2.2.2.2.2.2
theorem dcX12_joins_9 : (decode cX12_joins 127 = .ok (.iload 6, 2)) ∧ (decode cX12_joins 129 = .ok (.iload 7, 2)) ∧ (decode cX12_joins 131 = .ok (.iload 10, 2)) ∧ (decode cX12_joins 133 = .ok (.iload 11, 2)) ∧ (decode cX12_joins 135 = .ok (.invokevirtual 256, 3)) ∧ (decode cX12_joins 138 = .ok (.ifCond .eq 30, 3)) ∧ (decode cX12_joins 141 = .ok (.iload 8, 2)) ∧ (decode cX12_joins 143 = .ok (.ifCond .ne 18, 3)) := by decide +kernel
theorem dX12_joins_127 : decode cX12_joins 127 = .ok (.iload 6, 2) := dcX12_joins_9.1
theorem dX12_joins_129 : decode cX12_joins 129 = .ok (.iload 7, 2) := dcX12_joins_9.2.1
theorem dX12_joins_131 : decode cX12_joins 131 = .ok (.iload 10, 2) := dcX12_joins_9.2.2.1
theorem dX12_joins_133 : decode cX12_joins 133 = .ok (.iload 11, 2) := dcX12_joins_9.2.2.2.1
theorem dX12_joins_135 : decode cX12_joins 135 = .ok (.invokevirtual 256, 3) := dcX12_joins_9.2.2.2.2.1
theorem dX12_joins_138 : decode cX12_joins 138 = .ok (.ifCond .eq 30, 3) := dcX12_joins_9.2.2.2.2.2.1
theorem dX12_joins_141 : decode cX12_joins 141 = .ok (.iload 8, 2) := dcX12_joins_9.2.2.2.2.2.2.1
theorem dX12_joins_143 : decode cX12_joins 143 = .ok (.ifCond .ne 18, 3) := dcX12_joins_9.2.2.2.2.2.2.2
theorem dcX12_joins_10 : (decode cX12_joins 146 = .ok (.bipush 10, 2)) ∧ (decode cX12_joins 148 = .ok (.iload 10, 2)) ∧ (decode cX12_joins 150 = .ok (.iconst 3, 1)) ∧ (decode cX12_joins 151 = .ok (.iadd, 1)) ∧ (decode cX12_joins 152 = .ok (.imul, 1)) ∧ (decode cX12_joins 153 = .ok (.iload 11, 2)) ∧ (decode cX12_joins 155 = .ok (.iadd, 1)) ∧ (decode cX12_joins 156 = .ok (.iconst 3, 1)) := by decide +kernel
theorem dX12_joins_146 : decode cX12_joins 146 = .ok (.bipush 10, 2) := dcX12_joins_10.1
theorem dX12_joins_148 : decode cX12_joins 148 = .ok (.iload 10, 2) := dcX12_joins_10.2.1
theorem dX12_joins_150 : decode cX12_joins 150 = .ok (.iconst 3, 1) := dcX12_joins_10.2.2.1
theorem dX12_joins_151 : decode cX12_joins 151 = .ok (.iadd, 1) := dcX12_joins_10.2.2.2.1
theorem dX12_joins_152 : decode cX12_joins 152 = .ok (.imul, 1) := dcX12_joins_10.2.2.2.2.1
theorem dX12_joins_153 : decode cX12_joins 153 = .ok (.iload 11, 2) := dcX12_joins_10.2.2.2.2.2.1
theorem dX12_joins_155 : decode cX12_joins 155 = .ok (.iadd, 1) := dcX12_joins_10.2.2.2.2.2.2.1
theorem dX12_joins_156 : decode cX12_joins 156 = .ok (.iconst 3, 1) := dcX12_joins_10.2.2.2.2.2.2.2
theorem dcX12_joins_11 : (decode cX12_joins 157 = .ok (.iadd, 1)) ∧ (decode cX12_joins 158 = .ok (.goto 5, 3)) ∧ (decode cX12_joins 161 = .ok (.iload 9, 2)) ∧ (decode cX12_joins 163 = .ok (.istore 9, 2)) ∧ (decode cX12_joins 165 = .ok (.iinc 8 1, 3)) ∧ (decode cX12_joins 168 = .ok (.iinc 11 1, 3)) ∧ (decode cX12_joins 171 = .ok (.goto (-55), 3)) ∧ (decode cX12_joins 174 = .ok (.iinc 10 1, 3)) := by decide +kernel
theorem dX12_joins_157 : decode cX12_joins 157 = .ok (.iadd, 1) := dcX12_joins_11.1
theorem dX12_joins_158 : decode cX12_joins 158 = .ok (.goto 5, 3) := dcX12_joins_11.2.1
theorem dX12_joins_161 : decode cX12_joins 161 = .ok (.iload 9, 2) := dcX12_joins_11.2.2.1
theorem dX12_joins_163 : decode cX12_joins 163 = .ok (.istore 9, 2) := dcX12_joins_11.2.2.2.1
theorem dX12_joins_165 : decode cX12_joins 165 = .ok (.iinc 8 1, 3) := dcX12_joins_11.2.2.2.2.1
theorem dX12_joins_168 : decode cX12_joins 168 = .ok (.iinc 11 1, 3) := dcX12_joins_11.2.2.2.2.2.1
theorem dX12_joins_171 : decode cX12_joins 171 = .ok (.goto (-55), 3) := dcX12_joins_11.2.2.2.2.2.2.1
theorem dX12_joins_174 : decode cX12_joins 174 = .ok (.iinc 10 1, 3) := dcX12_joins_11.2.2.2.2.2.2.2
theorem dcX12_joins_12 : (decode cX12_joins 177 = .ok (.goto (-71), 3)) ∧ (decode cX12_joins 180 = .ok (.iload_n 2, 1)) ∧ (decode cX12_joins 181 = .ok (.ifCond .ne 8, 3)) ∧ (decode cX12_joins 184 = .ok (.iload 8, 2)) ∧ (decode cX12_joins 186 = .ok (.goto 5, 3)) ∧ (decode cX12_joins 189 = .ok (.iload 9, 2)) ∧ (decode cX12_joins 191 = .ok (.ireturn, 1)) := by decide +kernel
theorem dX12_joins_177 : decode cX12_joins 177 = .ok (.goto (-71), 3) := dcX12_joins_12.1
theorem dX12_joins_180 : decode cX12_joins 180 = .ok (.iload_n 2, 1) := dcX12_joins_12.2.1
theorem dX12_joins_181 : decode cX12_joins 181 = .ok (.ifCond .ne 8, 3) := dcX12_joins_12.2.2.1
theorem dX12_joins_184 : decode cX12_joins 184 = .ok (.iload 8, 2) := dcX12_joins_12.2.2.2.1
theorem dX12_joins_186 : decode cX12_joins 186 = .ok (.goto 5, 3) := dcX12_joins_12.2.2.2.2.1
theorem dX12_joins_189 : decode cX12_joins 189 = .ok (.iload 9, 2) := dcX12_joins_12.2.2.2.2.2.1
theorem dX12_joins_191 : decode cX12_joins 191 = .ok (.ireturn, 1) := dcX12_joins_12.2.2.2.2.2.2
theorem dcX12_toldWrong_0 : (decode cX12_toldWrong 0 = .ok (.iload_n 1, 1)) ∧ (decode cX12_toldWrong 1 = .ok (.iconst 0, 1)) ∧ (decode cX12_toldWrong 2 = .ok (.iconst 3, 1)) ∧ (decode cX12_toldWrong 3 = .ok (.invokestatic 93, 3)) ∧ (decode cX12_toldWrong 6 = .ok (.ifCond .ne 6, 3)) ∧ (decode cX12_toldWrong 9 = .ok (.bipush (-2), 2)) ∧ (decode cX12_toldWrong 11 = .ok (.ireturn, 1)) ∧ (decode cX12_toldWrong 12 = .ok (.aload_n 0, 1)) := by decide +kernel
theorem dX12_toldWrong_0 : decode cX12_toldWrong 0 = .ok (.iload_n 1, 1) := dcX12_toldWrong_0.1
theorem dX12_toldWrong_1 : decode cX12_toldWrong 1 = .ok (.iconst 0, 1) := dcX12_toldWrong_0.2.1
theorem dX12_toldWrong_2 : decode cX12_toldWrong 2 = .ok (.iconst 3, 1) := dcX12_toldWrong_0.2.2.1
theorem dX12_toldWrong_3 : decode cX12_toldWrong 3 = .ok (.invokestatic 93, 3) := dcX12_toldWrong_0.2.2.2.1
theorem dX12_toldWrong_6 : decode cX12_toldWrong 6 = .ok (.ifCond .ne 6, 3) := dcX12_toldWrong_0.2.2.2.2.1
theorem dX12_toldWrong_9 : decode cX12_toldWrong 9 = .ok (.bipush (-2), 2) := dcX12_toldWrong_0.2.2.2.2.2.1
theorem dX12_toldWrong_11 : decode cX12_toldWrong 11 = .ok (.ireturn, 1) := dcX12_toldWrong_0.2.2.2.2.2.2.1
theorem dX12_toldWrong_12 : decode cX12_toldWrong 12 = .ok (.aload_n 0, 1) := dcX12_toldWrong_0.2.2.2.2.2.2.2
theorem dcX12_toldWrong_1 : (decode cX12_toldWrong 13 = .ok (.getfield 44, 3)) ∧ (decode cX12_toldWrong 16 = .ok (.iload_n 1, 1)) ∧ (decode cX12_toldWrong 17 = .ok (.iaload, 1)) ∧ (decode cX12_toldWrong 18 = .ok (.iconst (-1), 1)) ∧ (decode cX12_toldWrong 19 = .ok (.if_icmp .ne 6, 3)) ∧ (decode cX12_toldWrong 22 = .ok (.bipush (-11), 2)) ∧ (decode cX12_toldWrong 24 = .ok (.ireturn, 1)) ∧ (decode cX12_toldWrong 25 = .ok (.aload_n 0, 1)) := by decide +kernel
theorem dX12_toldWrong_13 : decode cX12_toldWrong 13 = .ok (.getfield 44, 3) := dcX12_toldWrong_1.1
theorem dX12_toldWrong_16 : decode cX12_toldWrong 16 = .ok (.iload_n 1, 1) := dcX12_toldWrong_1.2.1
theorem dX12_toldWrong_17 : decode cX12_toldWrong 17 = .ok (.iaload, 1) := dcX12_toldWrong_1.2.2.1
theorem dX12_toldWrong_18 : decode cX12_toldWrong 18 = .ok (.iconst (-1), 1) := dcX12_toldWrong_1.2.2.2.1
theorem dX12_toldWrong_19 : decode cX12_toldWrong 19 = .ok (.if_icmp .ne 6, 3) := dcX12_toldWrong_1.2.2.2.2.1
theorem dX12_toldWrong_22 : decode cX12_toldWrong 22 = .ok (.bipush (-11), 2) := dcX12_toldWrong_1.2.2.2.2.2.1
theorem dX12_toldWrong_24 : decode cX12_toldWrong 24 = .ok (.ireturn, 1) := dcX12_toldWrong_1.2.2.2.2.2.2.1
theorem dX12_toldWrong_25 : decode cX12_toldWrong 25 = .ok (.aload_n 0, 1) := dcX12_toldWrong_1.2.2.2.2.2.2.2
theorem dcX12_toldWrong_2 : (decode cX12_toldWrong 26 = .ok (.getfield 47, 3)) ∧ (decode cX12_toldWrong 29 = .ok (.iload_n 1, 1)) ∧ (decode cX12_toldWrong 30 = .ok (.iaload, 1)) ∧ (decode cX12_toldWrong 31 = .ok (.bipush 20, 2)) ∧ (decode cX12_toldWrong 33 = .ok (.if_icmp .le 8, 3)) ∧ (decode cX12_toldWrong 36 = .ok (.bipush (-2), 2)) ∧ (decode cX12_toldWrong 38 = .ok (.goto 17, 3)) ∧ (decode cX12_toldWrong 41 = .ok (.aload_n 0, 1)) := by decide +kernel
theorem dX12_toldWrong_26 : decode cX12_toldWrong 26 = .ok (.getfield 47, 3) := dcX12_toldWrong_2.1
theorem dX12_toldWrong_29 : decode cX12_toldWrong 29 = .ok (.iload_n 1, 1) := dcX12_toldWrong_2.2.1
theorem dX12_toldWrong_30 : decode cX12_toldWrong 30 = .ok (.iaload, 1) := dcX12_toldWrong_2.2.2.1
theorem dX12_toldWrong_31 : decode cX12_toldWrong 31 = .ok (.bipush 20, 2) := dcX12_toldWrong_2.2.2.2.1
theorem dX12_toldWrong_33 : decode cX12_toldWrong 33 = .ok (.if_icmp .le 8, 3) := dcX12_toldWrong_2.2.2.2.2.1
theorem dX12_toldWrong_36 : decode cX12_toldWrong 36 = .ok (.bipush (-2), 2) := dcX12_toldWrong_2.2.2.2.2.2.1
theorem dX12_toldWrong_38 : decode cX12_toldWrong 38 = .ok (.goto 17, 3) := dcX12_toldWrong_2.2.2.2.2.2.2.1
theorem dX12_toldWrong_41 : decode cX12_toldWrong 41 = .ok (.aload_n 0, 1) := dcX12_toldWrong_2.2.2.2.2.2.2.2
theorem dcX12_toldWrong_3 : (decode cX12_toldWrong 42 = .ok (.iload_n 2, 1)) ∧ (decode cX12_toldWrong 43 = .ok (.invokevirtual 176, 3)) ∧ (decode cX12_toldWrong 46 = .ok (.ifCond .eq 7, 3)) ∧ (decode cX12_toldWrong 49 = .ok (.iconst 0, 1)) ∧ (decode cX12_toldWrong 50 = .ok (.goto 5, 3)) ∧ (decode cX12_toldWrong 53 = .ok (.bipush (-5), 2)) ∧ (decode cX12_toldWrong 55 = .ok (.ireturn, 1)) := by decide +kernel
theorem dX12_toldWrong_42 : decode cX12_toldWrong 42 = .ok (.iload_n 2, 1) := dcX12_toldWrong_3.1
theorem dX12_toldWrong_43 : decode cX12_toldWrong 43 = .ok (.invokevirtual 176, 3) := dcX12_toldWrong_3.2.1
theorem dX12_toldWrong_46 : decode cX12_toldWrong 46 = .ok (.ifCond .eq 7, 3) := dcX12_toldWrong_3.2.2.1
theorem dX12_toldWrong_49 : decode cX12_toldWrong 49 = .ok (.iconst 0, 1) := dcX12_toldWrong_3.2.2.2.1
theorem dX12_toldWrong_50 : decode cX12_toldWrong 50 = .ok (.goto 5, 3) := dcX12_toldWrong_3.2.2.2.2.1
theorem dX12_toldWrong_53 : decode cX12_toldWrong 53 = .ok (.bipush (-5), 2) := dcX12_toldWrong_3.2.2.2.2.2.1
theorem dX12_toldWrong_55 : decode cX12_toldWrong 55 = .ok (.ireturn, 1) := dcX12_toldWrong_3.2.2.2.2.2.2
theorem dcX12_unlike_0 : (decode cX12_unlike 0 = .ok (.aload_n 0, 1)) ∧ (decode cX12_unlike 1 = .ok (.iload_n 2, 1)) ∧ (decode cX12_unlike 2 = .ok (.invokevirtual 225, 3)) ∧ (decode cX12_unlike 5 = .ok (.iconst 0, 1)) ∧ (decode cX12_unlike 6 = .ok (.istore_n 3, 1)) ∧ (decode cX12_unlike 7 = .ok (.iload_n 3, 1)) ∧ (decode cX12_unlike 8 = .ok (.aload_n 0, 1)) ∧ (decode cX12_unlike 9 = .ok (.getfield 47, 3)) := by decide +kernel
theorem dX12_unlike_0 : decode cX12_unlike 0 = .ok (.aload_n 0, 1) := dcX12_unlike_0.1
theorem dX12_unlike_1 : decode cX12_unlike 1 = .ok (.iload_n 2, 1) := dcX12_unlike_0.2.1
theorem dX12_unlike_2 : decode cX12_unlike 2 = .ok (.invokevirtual 225, 3) := dcX12_unlike_0.2.2.1
theorem dX12_unlike_5 : decode cX12_unlike 5 = .ok (.iconst 0, 1) := dcX12_unlike_0.2.2.2.1
theorem dX12_unlike_6 : decode cX12_unlike 6 = .ok (.istore_n 3, 1) := dcX12_unlike_0.2.2.2.2.1
theorem dX12_unlike_7 : decode cX12_unlike 7 = .ok (.iload_n 3, 1) := dcX12_unlike_0.2.2.2.2.2.1
theorem dX12_unlike_8 : decode cX12_unlike 8 = .ok (.aload_n 0, 1) := dcX12_unlike_0.2.2.2.2.2.2.1
theorem dX12_unlike_9 : decode cX12_unlike 9 = .ok (.getfield 47, 3) := dcX12_unlike_0.2.2.2.2.2.2.2
theorem dcX12_unlike_1 : (decode cX12_unlike 12 = .ok (.iload_n 1, 1)) ∧ (decode cX12_unlike 13 = .ok (.iaload, 1)) ∧ (decode cX12_unlike 14 = .ok (.if_icmp .ge 42, 3)) ∧ (decode cX12_unlike 17 = .ok (.aload_n 0, 1)) ∧ (decode cX12_unlike 18 = .ok (.getfield 50, 3)) ∧ (decode cX12_unlike 21 = .ok (.bipush 40, 2)) ∧ (decode cX12_unlike 23 = .ok (.iload_n 1, 1)) ∧ (decode cX12_unlike 24 = .ok (.imul, 1)) := by decide +kernel
theorem dX12_unlike_12 : decode cX12_unlike 12 = .ok (.iload_n 1, 1) := dcX12_unlike_1.1
theorem dX12_unlike_13 : decode cX12_unlike 13 = .ok (.iaload, 1) := dcX12_unlike_1.2.1
theorem dX12_unlike_14 : decode cX12_unlike 14 = .ok (.if_icmp .ge 42, 3) := dcX12_unlike_1.2.2.1
theorem dX12_unlike_17 : decode cX12_unlike 17 = .ok (.aload_n 0, 1) := dcX12_unlike_1.2.2.2.1
theorem dX12_unlike_18 : decode cX12_unlike 18 = .ok (.getfield 50, 3) := dcX12_unlike_1.2.2.2.2.1
theorem dX12_unlike_21 : decode cX12_unlike 21 = .ok (.bipush 40, 2) := dcX12_unlike_1.2.2.2.2.2.1
theorem dX12_unlike_23 : decode cX12_unlike 23 = .ok (.iload_n 1, 1) := dcX12_unlike_1.2.2.2.2.2.2.1
theorem dX12_unlike_24 : decode cX12_unlike 24 = .ok (.imul, 1) := dcX12_unlike_1.2.2.2.2.2.2.2
theorem dcX12_unlike_2 : (decode cX12_unlike 25 = .ok (.iload_n 3, 1)) ∧ (decode cX12_unlike 26 = .ok (.iadd, 1)) ∧ (decode cX12_unlike 27 = .ok (.iaload, 1)) ∧ (decode cX12_unlike 28 = .ok (.aload_n 0, 1)) ∧ (decode cX12_unlike 29 = .ok (.iload_n 2, 1)) ∧ (decode cX12_unlike 30 = .ok (.invokevirtual 231, 3)) ∧ (decode cX12_unlike 33 = .ok (.aload_n 0, 1)) ∧ (decode cX12_unlike 34 = .ok (.getfield 19, 3)) := by decide +kernel
theorem dX12_unlike_25 : decode cX12_unlike 25 = .ok (.iload_n 3, 1) := dcX12_unlike_2.1
theorem dX12_unlike_26 : decode cX12_unlike 26 = .ok (.iadd, 1) := dcX12_unlike_2.2.1
theorem dX12_unlike_27 : decode cX12_unlike 27 = .ok (.iaload, 1) := dcX12_unlike_2.2.2.1
theorem dX12_unlike_28 : decode cX12_unlike 28 = .ok (.aload_n 0, 1) := dcX12_unlike_2.2.2.2.1
theorem dX12_unlike_29 : decode cX12_unlike 29 = .ok (.iload_n 2, 1) := dcX12_unlike_2.2.2.2.2.1
theorem dX12_unlike_30 : decode cX12_unlike 30 = .ok (.invokevirtual 231, 3) := dcX12_unlike_2.2.2.2.2.2.1
theorem dX12_unlike_33 : decode cX12_unlike 33 = .ok (.aload_n 0, 1) := dcX12_unlike_2.2.2.2.2.2.2.1
theorem dX12_unlike_34 : decode cX12_unlike 34 = .ok (.getfield 19, 3) := dcX12_unlike_2.2.2.2.2.2.2.2
theorem dcX12_unlike_3 : (decode cX12_unlike 37 = .ok (.iload_n 2, 1)) ∧ (decode cX12_unlike 38 = .ok (.iaload, 1)) ∧ (decode cX12_unlike 39 = .ok (.iand, 1)) ∧ (decode cX12_unlike 40 = .ok (.if_icmp .eq 5, 3)) ∧ (decode cX12_unlike 43 = .ok (.iload_n 3, 1)) ∧ (decode cX12_unlike 44 = .ok (.ireturn, 1)) ∧ (decode cX12_unlike 45 = .ok (.aload_n 0, 1)) ∧ (decode cX12_unlike 46 = .ok (.iload_n 2, 1)) := by decide +kernel
theorem dX12_unlike_37 : decode cX12_unlike 37 = .ok (.iload_n 2, 1) := dcX12_unlike_3.1
theorem dX12_unlike_38 : decode cX12_unlike 38 = .ok (.iaload, 1) := dcX12_unlike_3.2.1
theorem dX12_unlike_39 : decode cX12_unlike 39 = .ok (.iand, 1) := dcX12_unlike_3.2.2.1
