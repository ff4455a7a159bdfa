/-! The law: one call of each, compared -/
theorem lw_up : ∀ i, i ≤ 2560 → (nI i - 5).toInt = (i : Int) - 5 ∧ (nI i).toInt = (i : Int) := by decide +kernel
theorem lw_and (x : Int32) : ∃ j, j < 32 ∧ x &&& 31 = nI j := by
  obtain ⟨j, h1, h2⟩ := pk_andE x (m := 31) 5 (by decide)
  exact ⟨j, by omega, h2⟩
theorem lw_int : ∀ j, j < 32 → (nI j).toInt = (j : Int) := by decide +kernel
set_option maxHeartbeats 400000 in
set_option maxRecDepth 100000 in
theorem law_0 {n i : Nat} {xs : Nat → Int32} {Z : xZ} {c l st len : Nat} {kp : Nat → Nat} (ns : NS Z c l st len kp) (n26 : n ≤ 2560) (hi : i + 5 ≤ n) (KK : ∀ W, SIM W → XW (mL_law n xs) 10 0 0 871 [some (.retAddr 0), some (.ref 0), some (.ref 53), some (.int (nI i))] [] (HP W) (fun r _ => r = some (.int 1))) : XW (mL_law n xs) 10 0 0 152 [some (.retAddr 0), some (.ref 0), some (.ref 53), some (.int (nI i))] [] (HP Z) (fun r _ => r = some (.int 1)) := by
  refine XW.aload_n 153 dL_law_152 rfl rfl ?_
  refine XW.aload_s 154 dL_law_153 rfl rfl ?_
  refine XW.iload_n 155 dL_law_154 rfl rfl ?_
  refine XW.iconst 156 dL_law_155 (v := 1) (by decide) rfl ?_
  refine XW.iadd 157 dL_law_156 rfl ?_
  refine XW.sald 158 (i + 1) rfl dL_law_157 (na rfl rfl) (by omega) (by omega) rfl ?_
  refine XW.aload_s 159 dL_law_158 rfl rfl ?_
  refine XW.iload_n 160 dL_law_159 rfl rfl ?_
  refine XW.iconst 161 dL_law_160 (v := 2) (by decide) rfl ?_
  refine XW.iadd 162 dL_law_161 rfl ?_
  refine XW.sald 163 (i + 2) rfl dL_law_162 (na rfl rfl) (by omega) (by omega) rfl ?_
  refine XW.aload_s 164 dL_law_163 rfl rfl ?_
  refine XW.iload_n 165 dL_law_164 rfl rfl ?_
  refine XW.iconst 166 dL_law_165 (v := 3) (by decide) rfl ?_
  refine XW.iadd 167 dL_law_166 rfl ?_
  refine XW.sald 168 (i + 3) rfl dL_law_167 (na rfl rfl) (by omega) (by omega) rfl ?_
  refine XW.callV 171 (vs := [.int (xs (i + 1)), .int (xs (i + 2)), .int (xs (i + 3))]) (rest := []) (mcr := 0) (msr := 0) c5_13 dL_law_168 rfl rfl (by decide) (Nat.le_of_ble_eq_true rfl) rfl rfl (Nat.le_of_ble_eq_true rfl) rfl (pr_colour ns (xs (i + 1)) (xs (i + 2)) (xs (i + 3))) (fun r h1 hq => ?_)
  obtain ⟨x, Y, rfl, rfl, hk⟩ := hq
  refine XW.aload_n 172 dL_law_171 rfl rfl ?_
  refine XW.aload_s 173 dL_law_172 rfl rfl ?_
  refine XW.iload_n 174 dL_law_173 rfl rfl ?_
  refine XW.iconst 175 dL_law_174 (v := 1) (by decide) rfl ?_
  refine XW.iadd 176 dL_law_175 rfl ?_
  refine XW.sald 177 (i + 1) rfl dL_law_176 (na rfl rfl) (by omega) (by omega) rfl ?_
  refine XW.aload_s 178 dL_law_177 rfl rfl ?_
  refine XW.iload_n 179 dL_law_178 rfl rfl ?_
  refine XW.iconst 180 dL_law_179 (v := 2) (by decide) rfl ?_
  refine XW.iadd 181 dL_law_180 rfl ?_
  refine XW.sald 182 (i + 2) rfl dL_law_181 (na rfl rfl) (by omega) (by omega) rfl ?_
  refine XW.aload_s 183 dL_law_182 rfl rfl ?_
  refine XW.iload_n 184 dL_law_183 rfl rfl ?_
  refine XW.iconst 185 dL_law_184 (v := 3) (by decide) rfl ?_
  refine XW.iadd 186 dL_law_185 rfl ?_
  refine XW.sald 187 (i + 3) rfl dL_law_186 (na rfl rfl) (by omega) (by omega) rfl ?_
  refine XW.callV 190 (vs := [.int (xs (i + 1)), .int (xs (i + 2)), .int (xs (i + 3))]) (rest := [.int x]) (mcr := 0) (msr := 0) c5_17 dL_law_187 rfl rfl (by decide) (Nat.le_of_ble_eq_true rfl) rfl rfl (Nat.le_of_ble_eq_true rfl) rfl hk (fun r h1 hq => ?_)
  obtain ⟨rfl, W, sim, rfl⟩ := hq
  refine XW.icmp_eq 871 193 dL_law_190 (by decide) rfl (fun _ => KK W sim) (fun c => absurd rfl c)
set_option maxHeartbeats 400000 in
set_option maxRecDepth 100000 in
theorem law_1 {n i : Nat} {xs : Nat → Int32} {Z : xZ} {c l st len : Nat} {kp : Nat → Nat} (ns : NS Z c l st len kp) (n26 : n ≤ 2560) (hi : i + 5 ≤ n) (KK : ∀ W, SIM W → XW (mL_law n xs) 10 0 0 871 [some (.retAddr 0), some (.ref 0), some (.ref 53), some (.int (nI i))] [] (HP W) (fun r _ => r = some (.int 1))) : XW (mL_law n xs) 10 0 0 195 [some (.retAddr 0), some (.ref 0), some (.ref 53), some (.int (nI i))] [] (HP Z) (fun r _ => r = some (.int 1)) := by
  refine XW.aload_n 196 dL_law_195 rfl rfl ?_
  refine XW.aload_s 197 dL_law_196 rfl rfl ?_
  refine XW.iload_n 198 dL_law_197 rfl rfl ?_
  refine XW.iconst 199 dL_law_198 (v := 1) (by decide) rfl ?_
  refine XW.iadd 200 dL_law_199 rfl ?_
  refine XW.sald 201 (i + 1) rfl dL_law_200 (na rfl rfl) (by omega) (by omega) rfl ?_
  refine XW.aload_s 202 dL_law_201 rfl rfl ?_
  refine XW.iload_n 203 dL_law_202 rfl rfl ?_
  refine XW.iconst 204 dL_law_203 (v := 2) (by decide) rfl ?_
  refine XW.iadd 205 dL_law_204 rfl ?_
  refine XW.sald 206 (i + 2) rfl dL_law_205 (na rfl rfl) (by omega) (by omega) rfl ?_
  refine XW.aload_s 207 dL_law_206 rfl rfl ?_
  refine XW.iload_n 208 dL_law_207 rfl rfl ?_
  refine XW.iconst 209 dL_law_208 (v := 3) (by decide) rfl ?_
  refine XW.iadd 210 dL_law_209 rfl ?_
  refine XW.sald 211 (i + 3) rfl dL_law_210 (na rfl rfl) (by omega) (by omega) rfl ?_
  refine XW.aload_s 212 dL_law_211 rfl rfl ?_
  refine XW.iload_n 213 dL_law_212 rfl rfl ?_
  refine XW.iconst 214 dL_law_213 (v := 4) (by decide) rfl ?_
  refine XW.iadd 215 dL_law_214 rfl ?_
  refine XW.sald 216 (i + 4) rfl dL_law_215 (na rfl rfl) (by omega) (by omega) rfl ?_
  refine XW.callV 219 (vs := [.int (xs (i + 1)), .int (xs (i + 2)), .int (xs (i + 3)), .int (xs (i + 4))]) (rest := []) (mcr := 0) (msr := 0) c5_18 dL_law_216 rfl rfl (by decide) (Nat.le_of_ble_eq_true rfl) rfl rfl (Nat.le_of_ble_eq_true rfl) rfl (pr_paints ns (xs (i + 1)) (xs (i + 2)) (xs (i + 3)) (xs (i + 4))) (fun r h1 hq => ?_)
  obtain ⟨x, Y, rfl, rfl, hk⟩ := hq
  refine XW.aload_n 220 dL_law_219 rfl rfl ?_
  refine XW.aload_s 221 dL_law_220 rfl rfl ?_
  refine XW.iload_n 222 dL_law_221 rfl rfl ?_
  refine XW.iconst 223 dL_law_222 (v := 1) (by decide) rfl ?_
  refine XW.iadd 224 dL_law_223 rfl ?_
  refine XW.sald 225 (i + 1) rfl dL_law_224 (na rfl rfl) (by omega) (by omega) rfl ?_
  refine XW.aload_s 226 dL_law_225 rfl rfl ?_
  refine XW.iload_n 227 dL_law_226 rfl rfl ?_
  refine XW.iconst 228 dL_law_227 (v := 2) (by decide) rfl ?_
  refine XW.iadd 229 dL_law_228 rfl ?_
  refine XW.sald 230 (i + 2) rfl dL_law_229 (na rfl rfl) (by omega) (by omega) rfl ?_
  refine XW.aload_s 231 dL_law_230 rfl rfl ?_
  refine XW.iload_n 232 dL_law_231 rfl rfl ?_
  refine XW.iconst 233 dL_law_232 (v := 3) (by decide) rfl ?_
  refine XW.iadd 234 dL_law_233 rfl ?_
  refine XW.sald 235 (i + 3) rfl dL_law_234 (na rfl rfl) (by omega) (by omega) rfl ?_
  refine XW.aload_s 236 dL_law_235 rfl rfl ?_
  refine XW.iload_n 237 dL_law_236 rfl rfl ?_
  refine XW.iconst 238 dL_law_237 (v := 4) (by decide) rfl ?_
  refine XW.iadd 239 dL_law_238 rfl ?_
  refine XW.sald 240 (i + 4) rfl dL_law_239 (na rfl rfl) (by omega) (by omega) rfl ?_
  refine XW.callV 243 (vs := [.int (xs (i + 1)), .int (xs (i + 2)), .int (xs (i + 3)), .int (xs (i + 4))]) (rest := [.int x]) (mcr := 0) (msr := 0) c5_22 dL_law_240 rfl rfl (by decide) (Nat.le_of_ble_eq_true rfl) rfl rfl (Nat.le_of_ble_eq_true rfl) rfl hk (fun r h1 hq => ?_)
  obtain ⟨rfl, W, sim, rfl⟩ := hq
  refine XW.icmp_eq 871 246 dL_law_243 (by decide) rfl (fun _ => KK W sim) (fun c => absurd rfl c)
set_option maxHeartbeats 400000 in
set_option maxRecDepth 100000 in
theorem law_2 {n i : Nat} {xs : Nat → Int32} {Z : xZ} {c l st len : Nat} {kp : Nat → Nat} (ns : NS Z c l st len kp) (n26 : n ≤ 2560) (hi : i + 5 ≤ n) (KK : ∀ W, SIM W → XW (mL_law n xs) 10 0 0 871 [some (.retAddr 0), some (.ref 0), some (.ref 53), some (.int (nI i))] [] (HP W) (fun r _ => r = some (.int 1))) : XW (mL_law n xs) 10 0 0 248 [some (.retAddr 0), some (.ref 0), some (.ref 53), some (.int (nI i))] [] (HP Z) (fun r _ => r = some (.int 1)) := by
  refine XW.aload_n 249 dL_law_248 rfl rfl ?_
  refine XW.aload_s 250 dL_law_249 rfl rfl ?_
  refine XW.iload_n 251 dL_law_250 rfl rfl ?_
  refine XW.iconst 252 dL_law_251 (v := 1) (by decide) rfl ?_
  refine XW.iadd 253 dL_law_252 rfl ?_
  refine XW.sald 254 (i + 1) rfl dL_law_253 (na rfl rfl) (by omega) (by omega) rfl ?_
  refine XW.aload_s 255 dL_law_254 rfl rfl ?_
  refine XW.iload_n 256 dL_law_255 rfl rfl ?_
  refine XW.iconst 257 dL_law_256 (v := 2) (by decide) rfl ?_
  refine XW.iadd 258 dL_law_257 rfl ?_
  refine XW.sald 259 (i + 2) rfl dL_law_258 (na rfl rfl) (by omega) (by omega) rfl ?_
  refine XW.aload_s 260 dL_law_259 rfl rfl ?_
  refine XW.iload_n 261 dL_law_260 rfl rfl ?_
  refine XW.iconst 262 dL_law_261 (v := 3) (by decide) rfl ?_
  refine XW.iadd 263 dL_law_262 rfl ?_
  refine XW.sald 264 (i + 3) rfl dL_law_263 (na rfl rfl) (by omega) (by omega) rfl ?_
  refine XW.callV 267 (vs := [.int (xs (i + 1)), .int (xs (i + 2)), .int (xs (i + 3))]) (rest := []) (mcr := 0) (msr := 0) c5_23 dL_law_264 rfl rfl (by decide) (Nat.le_of_ble_eq_true rfl) rfl rfl (Nat.le_of_ble_eq_true rfl) rfl (pr_ground ns (xs (i + 1)) (xs (i + 2)) (xs (i + 3))) (fun r h1 hq => ?_)
  obtain ⟨x, Y, rfl, rfl, hk⟩ := hq
  refine XW.aload_n 268 dL_law_267 rfl rfl ?_
  refine XW.aload_s 269 dL_law_268 rfl rfl ?_
  refine XW.iload_n 270 dL_law_269 rfl rfl ?_
  refine XW.iconst 271 dL_law_270 (v := 1) (by decide) rfl ?_
  refine XW.iadd 272 dL_law_271 rfl ?_
  refine XW.sald 273 (i + 1) rfl dL_law_272 (na rfl rfl) (by omega) (by omega) rfl ?_
  refine XW.aload_s 274 dL_law_273 rfl rfl ?_
  refine XW.iload_n 275 dL_law_274 rfl rfl ?_
  refine XW.iconst 276 dL_law_275 (v := 2) (by decide) rfl ?_
  refine XW.iadd 277 dL_law_276 rfl ?_
  refine XW.sald 278 (i + 2) rfl dL_law_277 (na rfl rfl) (by omega) (by omega) rfl ?_
  refine XW.aload_s 279 dL_law_278 rfl rfl ?_
  refine XW.iload_n 280 dL_law_279 rfl rfl ?_
  refine XW.iconst 281 dL_law_280 (v := 3) (by decide) rfl ?_
  refine XW.iadd 282 dL_law_281 rfl ?_
  refine XW.sald 283 (i + 3) rfl dL_law_282 (na rfl rfl) (by omega) (by omega) rfl ?_
  refine XW.callV 286 (vs := [.int (xs (i + 1)), .int (xs (i + 2)), .int (xs (i + 3))]) (rest := [.int x]) (mcr := 0) (msr := 0) c5_26 dL_law_283 rfl rfl (by decide) (Nat.le_of_ble_eq_true rfl) rfl rfl (Nat.le_of_ble_eq_true rfl) rfl hk (fun r h1 hq => ?_)
  obtain ⟨rfl, W, sim, rfl⟩ := hq
  refine XW.icmp_eq 871 289 dL_law_286 (by decide) rfl (fun _ => KK W sim) (fun c => absurd rfl c)
set_option maxHeartbeats 400000 in
set_option maxRecDepth 100000 in
theorem law_3 {n i : Nat} {xs : Nat → Int32} {Z : xZ} {c l st len : Nat} {kp : Nat → Nat} (ns : NS Z c l st len kp) (n26 : n ≤ 2560) (hi : i + 5 ≤ n) (KK : ∀ W, SIM W → XW (mL_law n xs) 10 0 0 871 [some (.retAddr 0), some (.ref 0), some (.ref 53), some (.int (nI i))] [] (HP W) (fun r _ => r = some (.int 1))) : XW (mL_law n xs) 10 0 0 291 [some (.retAddr 0), some (.ref 0), some (.ref 53), some (.int (nI i))] [] (HP Z) (fun r _ => r = some (.int 1)) := by
  refine XW.aload_n 292 dL_law_291 rfl rfl ?_
  refine XW.aload_s 293 dL_law_292 rfl rfl ?_
  refine XW.iload_n 294 dL_law_293 rfl rfl ?_
  refine XW.iconst 295 dL_law_294 (v := 1) (by decide) rfl ?_
  refine XW.iadd 296 dL_law_295 rfl ?_
  refine XW.sald 297 (i + 1) rfl dL_law_296 (na rfl rfl) (by omega) (by omega) rfl ?_
  refine XW.aload_s 298 dL_law_297 rfl rfl ?_
  refine XW.iload_n 299 dL_law_298 rfl rfl ?_
  refine XW.iconst 300 dL_law_299 (v := 2) (by decide) rfl ?_
  refine XW.iadd 301 dL_law_300 rfl ?_
  refine XW.sald 302 (i + 2) rfl dL_law_301 (na rfl rfl) (by omega) (by omega) rfl ?_
  refine XW.aload_s 303 dL_law_302 rfl rfl ?_
  refine XW.iload_n 304 dL_law_303 rfl rfl ?_
  refine XW.iconst 305 dL_law_304 (v := 3) (by decide) rfl ?_
  refine XW.iadd 306 dL_law_305 rfl ?_
  refine XW.sald 307 (i + 3) rfl dL_law_306 (na rfl rfl) (by omega) (by omega) rfl ?_
  refine XW.callV 310 (vs := [.int (xs (i + 1)), .int (xs (i + 2)), .int (xs (i + 3))]) (rest := []) (mcr := 0) (msr := 0) c5_27 dL_law_307 rfl rfl (by decide) (Nat.le_of_ble_eq_true rfl) rfl rfl (Nat.le_of_ble_eq_true rfl) rfl (pr_eye ns (xs (i + 1)) (xs (i + 2)) (xs (i + 3))) (fun r h1 hq => ?_)
  obtain ⟨x, Y, rfl, rfl, hk⟩ := hq
  refine XW.aload_n 311 dL_law_310 rfl rfl ?_
  refine XW.aload_s 312 dL_law_311 rfl rfl ?_
  refine XW.iload_n 313 dL_law_312 rfl rfl ?_
  refine XW.iconst 314 dL_law_313 (v := 1) (by decide) rfl ?_
  refine XW.iadd 315 dL_law_314 rfl ?_
  refine XW.sald 316 (i + 1) rfl dL_law_315 (na rfl rfl) (by omega) (by omega) rfl ?_
  refine XW.aload_s 317 dL_law_316 rfl rfl ?_
  refine XW.iload_n 318 dL_law_317 rfl rfl ?_
  refine XW.iconst 319 dL_law_318 (v := 2) (by decide) rfl ?_
  refine XW.iadd 320 dL_law_319 rfl ?_
  refine XW.sald 321 (i + 2) rfl dL_law_320 (na rfl rfl) (by omega) (by omega) rfl ?_
  refine XW.aload_s 322 dL_law_321 rfl rfl ?_
  refine XW.iload_n 323 dL_law_322 rfl rfl ?_
  refine XW.iconst 324 dL_law_323 (v := 3) (by decide) rfl ?_
  refine XW.iadd 325 dL_law_324 rfl ?_
  refine XW.sald 326 (i + 3) rfl dL_law_325 (na rfl rfl) (by omega) (by omega) rfl ?_
  refine XW.callV 329 (vs := [.int (xs (i + 1)), .int (xs (i + 2)), .int (xs (i + 3))]) (rest := [.int x]) (mcr := 0) (msr := 0) c5_30 dL_law_326 rfl rfl (by decide) (Nat.le_of_ble_eq_true rfl) rfl rfl (Nat.le_of_ble_eq_true rfl) rfl hk (fun r h1 hq => ?_)
  obtain ⟨rfl, W, sim, rfl⟩ := hq
  refine XW.icmp_eq 871 332 dL_law_329 (by decide) rfl (fun _ => KK W sim) (fun c => absurd rfl c)
set_option maxHeartbeats 400000 in
set_option maxRecDepth 100000 in
theorem law_4 {n i : Nat} {xs : Nat → Int32} {Z : xZ} {c l st len : Nat} {kp : Nat → Nat} (ns : NS Z c l st len kp) (n26 : n ≤ 2560) (hi : i + 5 ≤ n) (KK : ∀ W, SIM W → XW (mL_law n xs) 10 0 0 871 [some (.retAddr 0), some (.ref 0), some (.ref 53), some (.int (nI i))] [] (HP W) (fun r _ => r = some (.int 1))) : XW (mL_law n xs) 10 0 0 334 [some (.retAddr 0), some (.ref 0), some (.ref 53), some (.int (nI i))] [] (HP Z) (fun r _ => r = some (.int 1)) := by
  refine XW.aload_n 335 dL_law_334 rfl rfl ?_
  refine XW.aload_s 336 dL_law_335 rfl rfl ?_
  refine XW.iload_n 337 dL_law_336 rfl rfl ?_
  refine XW.iconst 338 dL_law_337 (v := 1) (by decide) rfl ?_
  refine XW.iadd 339 dL_law_338 rfl ?_
  refine XW.sald 340 (i + 1) rfl dL_law_339 (na rfl rfl) (by omega) (by omega) rfl ?_
  refine XW.aload_s 341 dL_law_340 rfl rfl ?_
  refine XW.iload_n 342 dL_law_341 rfl rfl ?_
  refine XW.iconst 343 dL_law_342 (v := 2) (by decide) rfl ?_
  refine XW.iadd 344 dL_law_343 rfl ?_
  refine XW.sald 345 (i + 2) rfl dL_law_344 (na rfl rfl) (by omega) (by omega) rfl ?_
  refine XW.callV 348 (vs := [.int (xs (i + 1)), .int (xs (i + 2))]) (rest := []) (mcr := 0) (msr := 0) c5_31 dL_law_345 rfl rfl (by decide) (Nat.le_of_ble_eq_true rfl) rfl rfl (Nat.le_of_ble_eq_true rfl) rfl (pr_sets ns (xs (i + 1)) (xs (i + 2))) (fun r h1 hq => ?_)
  obtain ⟨x, Y, rfl, rfl, hk⟩ := hq
  refine XW.aload_n 349 dL_law_348 rfl rfl ?_
  refine XW.aload_s 350 dL_law_349 rfl rfl ?_
  refine XW.iload_n 351 dL_law_350 rfl rfl ?_
  refine XW.iconst 352 dL_law_351 (v := 1) (by decide) rfl ?_
  refine XW.iadd 353 dL_law_352 rfl ?_
  refine XW.sald 354 (i + 1) rfl dL_law_353 (na rfl rfl) (by omega) (by omega) rfl ?_
  refine XW.aload_s 355 dL_law_354 rfl rfl ?_
  refine XW.iload_n 356 dL_law_355 rfl rfl ?_
  refine XW.iconst 357 dL_law_356 (v := 2) (by decide) rfl ?_
  refine XW.iadd 358 dL_law_357 rfl ?_
  refine XW.sald 359 (i + 2) rfl dL_law_358 (na rfl rfl) (by omega) (by omega) rfl ?_
  refine XW.callV 362 (vs := [.int (xs (i + 1)), .int (xs (i + 2))]) (rest := [.int x]) (mcr := 0) (msr := 0) c5_35 dL_law_359 rfl rfl (by decide) (Nat.le_of_ble_eq_true rfl) rfl rfl (Nat.le_of_ble_eq_true rfl) rfl hk (fun r h1 hq => ?_)
  obtain ⟨rfl, W, sim, rfl⟩ := hq
  refine XW.icmp_eq 871 365 dL_law_362 (by decide) rfl (fun _ => KK W sim) (fun c => absurd rfl c)
set_option maxHeartbeats 400000 in
set_option maxRecDepth 100000 in
theorem law_5 {n i : Nat} {xs : Nat → Int32} {Z : xZ} {c l st len : Nat} {kp : Nat → Nat} (ns : NS Z c l st len kp) (n26 : n ≤ 2560) (hi : i + 5 ≤ n) (KK : ∀ W, SIM W → XW (mL_law n xs) 10 0 0 871 [some (.retAddr 0), some (.ref 0), some (.ref 53), some (.int (nI i))] [] (HP W) (fun r _ => r = some (.int 1))) : XW (mL_law n xs) 10 0 0 367 [some (.retAddr 0), some (.ref 0), some (.ref 53), some (.int (nI i))] [] (HP Z) (fun r _ => r = some (.int 1)) := by
  refine XW.aload_n 368 dL_law_367 rfl rfl ?_
  refine XW.aload_s 369 dL_law_368 rfl rfl ?_
  refine XW.iload_n 370 dL_law_369 rfl rfl ?_
  refine XW.iconst 371 dL_law_370 (v := 1) (by decide) rfl ?_
  refine XW.iadd 372 dL_law_371 rfl ?_
  refine XW.sald 373 (i + 1) rfl dL_law_372 (na rfl rfl) (by omega) (by omega) rfl ?_
  refine XW.aload_s 374 dL_law_373 rfl rfl ?_
  refine XW.iload_n 375 dL_law_374 rfl rfl ?_
  refine XW.iconst 376 dL_law_375 (v := 2) (by decide) rfl ?_
  refine XW.iadd 377 dL_law_376 rfl ?_
  refine XW.sald 378 (i + 2) rfl dL_law_377 (na rfl rfl) (by omega) (by omega) rfl ?_
  refine XW.callV 381 (vs := [.int (xs (i + 1)), .int (xs (i + 2))]) (rest := []) (mcr := 0) (msr := 0) c5_36 dL_law_378 rfl rfl (by decide) (Nat.le_of_ble_eq_true rfl) rfl rfl (Nat.le_of_ble_eq_true rfl) rfl (pr_fixes ns (xs (i + 1)) (xs (i + 2))) (fun r h1 hq => ?_)
  obtain ⟨x, Y, rfl, rfl, hk⟩ := hq
  refine XW.aload_n 382 dL_law_381 rfl rfl ?_
  refine XW.aload_s 383 dL_law_382 rfl rfl ?_
  refine XW.iload_n 384 dL_law_383 rfl rfl ?_
  refine XW.iconst 385 dL_law_384 (v := 1) (by decide) rfl ?_
  refine XW.iadd 386 dL_law_385 rfl ?_
  refine XW.sald 387 (i + 1) rfl dL_law_386 (na rfl rfl) (by omega) (by omega) rfl ?_
  refine XW.aload_s 388 dL_law_387 rfl rfl ?_
  refine XW.iload_n 389 dL_law_388 rfl rfl ?_
  refine XW.iconst 390 dL_law_389 (v := 2) (by decide) rfl ?_
  refine XW.iadd 391 dL_law_390 rfl ?_
  refine XW.sald 392 (i + 2) rfl dL_law_391 (na rfl rfl) (by omega) (by omega) rfl ?_
  refine XW.callV 395 (vs := [.int (xs (i + 1)), .int (xs (i + 2))]) (rest := [.int x]) (mcr := 0) (msr := 0) c5_39 dL_law_392 rfl rfl (by decide) (Nat.le_of_ble_eq_true rfl) rfl rfl (Nat.le_of_ble_eq_true rfl) rfl hk (fun r h1 hq => ?_)
  obtain ⟨rfl, W, sim, rfl⟩ := hq
  refine XW.icmp_eq 871 398 dL_law_395 (by decide) rfl (fun _ => KK W sim) (fun c => absurd rfl c)
set_option maxHeartbeats 400000 in
set_option maxRecDepth 100000 in
theorem law_6 {n i : Nat} {xs : Nat → Int32} {Z : xZ} {c l st len : Nat} {kp : Nat → Nat} (ns : NS Z c l st len kp) (n26 : n ≤ 2560) (hi : i + 5 ≤ n) (KK : ∀ W, SIM W → XW (mL_law n xs) 10 0 0 871 [some (.retAddr 0), some (.ref 0), some (.ref 53), some (.int (nI i))] [] (HP W) (fun r _ => r = some (.int 1))) : XW (mL_law n xs) 10 0 0 400 [some (.retAddr 0), some (.ref 0), some (.ref 53), some (.int (nI i))] [] (HP Z) (fun r _ => r = some (.int 1)) := by
  refine XW.aload_n 401 dL_law_400 rfl rfl ?_
  refine XW.aload_s 402 dL_law_401 rfl rfl ?_
  refine XW.iload_n 403 dL_law_402 rfl rfl ?_
  refine XW.iconst 404 dL_law_403 (v := 1) (by decide) rfl ?_
  refine XW.iadd 405 dL_law_404 rfl ?_
  refine XW.sald 406 (i + 1) rfl dL_law_405 (na rfl rfl) (by omega) (by omega) rfl ?_
  refine XW.aload_s 407 dL_law_406 rfl rfl ?_
  refine XW.iload_n 408 dL_law_407 rfl rfl ?_
  refine XW.iconst 409 dL_law_408 (v := 2) (by decide) rfl ?_
  refine XW.iadd 410 dL_law_409 rfl ?_
  refine XW.sald 411 (i + 2) rfl dL_law_410 (na rfl rfl) (by omega) (by omega) rfl ?_
  refine XW.callV 414 (vs := [.int (xs (i + 1)), .int (xs (i + 2))]) (rest := []) (mcr := 0) (msr := 0) c5_40 dL_law_411 rfl rfl (by decide) (Nat.le_of_ble_eq_true rfl) rfl rfl (Nat.le_of_ble_eq_true rfl) rfl (pr_of ns (xs (i + 1)) (xs (i + 2))) (fun r h1 hq => ?_)
  obtain ⟨x, Y, rfl, rfl, hk⟩ := hq
  refine XW.aload_n 415 dL_law_414 rfl rfl ?_
  refine XW.aload_s 416 dL_law_415 rfl rfl ?_
  refine XW.iload_n 417 dL_law_416 rfl rfl ?_
  refine XW.iconst 418 dL_law_417 (v := 1) (by decide) rfl ?_
  refine XW.iadd 419 dL_law_418 rfl ?_
  refine XW.sald 420 (i + 1) rfl dL_law_419 (na rfl rfl) (by omega) (by omega) rfl ?_
  refine XW.aload_s 421 dL_law_420 rfl rfl ?_
  refine XW.iload_n 422 dL_law_421 rfl rfl ?_
  refine XW.iconst 423 dL_law_422 (v := 2) (by decide) rfl ?_
  refine XW.iadd 424 dL_law_423 rfl ?_
  refine XW.sald 425 (i + 2) rfl dL_law_424 (na rfl rfl) (by omega) (by omega) rfl ?_
  refine XW.callV 428 (vs := [.int (xs (i + 1)), .int (xs (i + 2))]) (rest := [.int x]) (mcr := 0) (msr := 0) c5_43 dL_law_425 rfl rfl (by decide) (Nat.le_of_ble_eq_true rfl) rfl rfl (Nat.le_of_ble_eq_true rfl) rfl hk (fun r h1 hq => ?_)
  obtain ⟨rfl, W, sim, rfl⟩ := hq
  refine XW.icmp_eq 871 431 dL_law_428 (by decide) rfl (fun _ => KK W sim) (fun c => absurd rfl c)
set_option maxHeartbeats 400000 in
set_option maxRecDepth 100000 in
theorem law_7 {n i : Nat} {xs : Nat → Int32} {Z : xZ} {c l st len : Nat} {kp : Nat → Nat} (ns : NS Z c l st len kp) (n26 : n ≤ 2560) (hi : i + 5 ≤ n) (KK : ∀ W, SIM W → XW (mL_law n xs) 10 0 0 871 [some (.retAddr 0), some (.ref 0), some (.ref 53), some (.int (nI i))] [] (HP W) (fun r _ => r = some (.int 1))) : XW (mL_law n xs) 10 0 0 433 [some (.retAddr 0), some (.ref 0), some (.ref 53), some (.int (nI i))] [] (HP Z) (fun r _ => r = some (.int 1)) := by
  refine XW.aload_n 434 dL_law_433 rfl rfl ?_
  refine XW.aload_s 435 dL_law_434 rfl rfl ?_
  refine XW.iload_n 436 dL_law_435 rfl rfl ?_
  refine XW.iconst 437 dL_law_436 (v := 1) (by decide) rfl ?_
  refine XW.iadd 438 dL_law_437 rfl ?_
  refine XW.sald 439 (i + 1) rfl dL_law_438 (na rfl rfl) (by omega) (by omega) rfl ?_
  refine XW.aload_s 440 dL_law_439 rfl rfl ?_
  refine XW.iload_n 441 dL_law_440 rfl rfl ?_
  refine XW.iconst 442 dL_law_441 (v := 2) (by decide) rfl ?_
  refine XW.iadd 443 dL_law_442 rfl ?_
  refine XW.sald 444 (i + 2) rfl dL_law_443 (na rfl rfl) (by omega) (by omega) rfl ?_
  refine XW.callV 447 (vs := [.int (xs (i + 1)), .int (xs (i + 2))]) (rest := []) (mcr := 0) (msr := 0) c5_44 dL_law_444 rfl rfl (by decide) (Nat.le_of_ble_eq_true rfl) rfl rfl (Nat.le_of_ble_eq_true rfl) rfl (pr_look ns (xs (i + 1)) (xs (i + 2))) (fun r h1 hq => ?_)
  obtain ⟨x, Y, rfl, rfl, hk⟩ := hq
  refine XW.aload_n 448 dL_law_447 rfl rfl ?_
  refine XW.aload_s 449 dL_law_448 rfl rfl ?_
  refine XW.iload_n 450 dL_law_449 rfl rfl ?_
  refine XW.iconst 451 dL_law_450 (v := 1) (by decide) rfl ?_
  refine XW.iadd 452 dL_law_451 rfl ?_
  refine XW.sald 453 (i + 1) rfl dL_law_452 (na rfl rfl) (by omega) (by omega) rfl ?_
  refine XW.aload_s 454 dL_law_453 rfl rfl ?_
  refine XW.iload_n 455 dL_law_454 rfl rfl ?_
  refine XW.iconst 456 dL_law_455 (v := 2) (by decide) rfl ?_
  refine XW.iadd 457 dL_law_456 rfl ?_
  refine XW.sald 458 (i + 2) rfl dL_law_457 (na rfl rfl) (by omega) (by omega) rfl ?_
  refine XW.callV 461 (vs := [.int (xs (i + 1)), .int (xs (i + 2))]) (rest := [.int x]) (mcr := 0) (msr := 0) c5_47 dL_law_458 rfl rfl (by decide) (Nat.le_of_ble_eq_true rfl) rfl rfl (Nat.le_of_ble_eq_true rfl) rfl hk (fun r h1 hq => ?_)
  obtain ⟨rfl, W, sim, rfl⟩ := hq
  refine XW.icmp_eq 871 464 dL_law_461 (by decide) rfl (fun _ => KK W sim) (fun c => absurd rfl c)
set_option maxHeartbeats 400000 in
set_option maxRecDepth 100000 in
theorem law_8 {n i : Nat} {xs : Nat → Int32} {Z : xZ} {c l st len : Nat} {kp : Nat → Nat} (ns : NS Z c l st len kp) (n26 : n ≤ 2560) (hi : i + 5 ≤ n) (KK : ∀ W, SIM W → XW (mL_law n xs) 10 0 0 871 [some (.retAddr 0), some (.ref 0), some (.ref 53), some (.int (nI i))] [] (HP W) (fun r _ => r = some (.int 1))) : XW (mL_law n xs) 10 0 0 466 [some (.retAddr 0), some (.ref 0), some (.ref 53), some (.int (nI i))] [] (HP Z) (fun r _ => r = some (.int 1)) := by
  refine XW.aload_n 467 dL_law_466 rfl rfl ?_
  refine XW.aload_s 468 dL_law_467 rfl rfl ?_
  refine XW.iload_n 469 dL_law_468 rfl rfl ?_
  refine XW.iconst 470 dL_law_469 (v := 1) (by decide) rfl ?_
  refine XW.iadd 471 dL_law_470 rfl ?_
  refine XW.sald 472 (i + 1) rfl dL_law_471 (na rfl rfl) (by omega) (by omega) rfl ?_
  refine XW.callV 475 (vs := [.int (xs (i + 1))]) (rest := []) (mcr := 0) (msr := 0) c5_48 dL_law_472 rfl rfl (by decide) (Nat.le_of_ble_eq_true rfl) rfl rfl (Nat.le_of_ble_eq_true rfl) rfl (pr_light ns (xs (i + 1))) (fun r h1 hq => ?_)
  obtain ⟨x, Y, rfl, rfl, hk⟩ := hq
  refine XW.aload_n 476 dL_law_475 rfl rfl ?_
  refine XW.aload_s 477 dL_law_476 rfl rfl ?_
  refine XW.iload_n 478 dL_law_477 rfl rfl ?_
  refine XW.iconst 479 dL_law_478 (v := 1) (by decide) rfl ?_
  refine XW.iadd 480 dL_law_479 rfl ?_
  refine XW.sald 481 (i + 1) rfl dL_law_480 (na rfl rfl) (by omega) (by omega) rfl ?_
  refine XW.callV 484 (vs := [.int (xs (i + 1))]) (rest := [.int x]) (mcr := 0) (msr := 0) c5_52 dL_law_481 rfl rfl (by decide) (Nat.le_of_ble_eq_true rfl) rfl rfl (Nat.le_of_ble_eq_true rfl) rfl hk (fun r h1 hq => ?_)
  obtain ⟨rfl, W, sim, rfl⟩ := hq
  refine XW.icmp_eq 871 487 dL_law_484 (by decide) rfl (fun _ => KK W sim) (fun c => absurd rfl c)
set_option maxHeartbeats 400000 in
set_option maxRecDepth 100000 in
theorem law_9 {n i : Nat} {xs : Nat → Int32} {Z : xZ} {c l st len : Nat} {kp : Nat → Nat} (ns : NS Z c l st len kp) (n26 : n ≤ 2560) (hi : i + 5 ≤ n) (KK : ∀ W, SIM W → XW (mL_law n xs) 10 0 0 871 [some (.retAddr 0), some (.ref 0), some (.ref 53), some (.int (nI i))] [] (HP W) (fun r _ => r = some (.int 1))) : XW (mL_law n xs) 10 0 0 489 [some (.retAddr 0), some (.ref 0), some (.ref 53), some (.int (nI i))] [] (HP Z) (fun r _ => r = some (.int 1)) := by
  refine XW.aload_n 490 dL_law_489 rfl rfl ?_
  refine XW.aload_s 491 dL_law_490 rfl rfl ?_
  refine XW.iload_n 492 dL_law_491 rfl rfl ?_
  refine XW.iconst 493 dL_law_492 (v := 1) (by decide) rfl ?_
  refine XW.iadd 494 dL_law_493 rfl ?_
  refine XW.sald 495 (i + 1) rfl dL_law_494 (na rfl rfl) (by omega) (by omega) rfl ?_
  refine XW.aload_s 496 dL_law_495 rfl rfl ?_
  refine XW.iload_n 497 dL_law_496 rfl rfl ?_
  refine XW.iconst 498 dL_law_497 (v := 2) (by decide) rfl ?_
  refine XW.iadd 499 dL_law_498 rfl ?_
  refine XW.sald 500 (i + 2) rfl dL_law_499 (na rfl rfl) (by omega) (by omega) rfl ?_
  refine XW.aload_s 501 dL_law_500 rfl rfl ?_
  refine XW.iload_n 502 dL_law_501 rfl rfl ?_
  refine XW.iconst 503 dL_law_502 (v := 3) (by decide) rfl ?_
  refine XW.iadd 504 dL_law_503 rfl ?_
  refine XW.sald 505 (i + 3) rfl dL_law_504 (na rfl rfl) (by omega) (by omega) rfl ?_
  refine XW.callV 508 (vs := [.int (xs (i + 1)), .int (xs (i + 2)), .int (xs (i + 3))]) (rest := []) (mcr := 0) (msr := 0) c5_53 dL_law_505 rfl rfl (by decide) (Nat.le_of_ble_eq_true rfl) rfl rfl (Nat.le_of_ble_eq_true rfl) rfl (pr_seen ns (xs (i + 1)) (xs (i + 2)) (xs (i + 3))) (fun r h1 hq => ?_)
  obtain ⟨x, Y, rfl, rfl, hk⟩ := hq
  refine XW.aload_n 509 dL_law_508 rfl rfl ?_
  refine XW.aload_s 510 dL_law_509 rfl rfl ?_
  refine XW.iload_n 511 dL_law_510 rfl rfl ?_
  refine XW.iconst 512 dL_law_511 (v := 1) (by decide) rfl ?_
  refine XW.iadd 513 dL_law_512 rfl ?_
  refine XW.sald 514 (i + 1) rfl dL_law_513 (na rfl rfl) (by omega) (by omega) rfl ?_
  refine XW.aload_s 515 dL_law_514 rfl rfl ?_
  refine XW.iload_n 516 dL_law_515 rfl rfl ?_
  refine XW.iconst 517 dL_law_516 (v := 2) (by decide) rfl ?_
  refine XW.iadd 518 dL_law_517 rfl ?_
  refine XW.sald 519 (i + 2) rfl dL_law_518 (na rfl rfl) (by omega) (by omega) rfl ?_
  refine XW.aload_s 520 dL_law_519 rfl rfl ?_
  refine XW.iload_n 521 dL_law_520 rfl rfl ?_
  refine XW.iconst 522 dL_law_521 (v := 3) (by decide) rfl ?_
  refine XW.iadd 523 dL_law_522 rfl ?_
  refine XW.sald 524 (i + 3) rfl dL_law_523 (na rfl rfl) (by omega) (by omega) rfl ?_
  refine XW.callV 527 (vs := [.int (xs (i + 1)), .int (xs (i + 2)), .int (xs (i + 3))]) (rest := [.int x]) (mcr := 0) (msr := 0) c5_56 dL_law_524 rfl rfl (by decide) (Nat.le_of_ble_eq_true rfl) rfl rfl (Nat.le_of_ble_eq_true rfl) rfl hk (fun r h1 hq => ?_)
  obtain ⟨rfl, W, sim, rfl⟩ := hq
  refine XW.icmp_eq 871 530 dL_law_527 (by decide) rfl (fun _ => KK W sim) (fun c => absurd rfl c)
set_option maxHeartbeats 400000 in
set_option maxRecDepth 100000 in
theorem law_10 {n i : Nat} {xs : Nat → Int32} {Z : xZ} {c l st len : Nat} {kp : Nat → Nat} (ns : NS Z c l st len kp) (n26 : n ≤ 2560) (hi : i + 5 ≤ n) (KK : ∀ W, SIM W → XW (mL_law n xs) 10 0 0 871 [some (.retAddr 0), some (.ref 0), some (.ref 53), some (.int (nI i))] [] (HP W) (fun r _ => r = some (.int 1))) : XW (mL_law n xs) 10 0 0 532 [some (.retAddr 0), some (.ref 0), some (.ref 53), some (.int (nI i))] [] (HP Z) (fun r _ => r = some (.int 1)) := by
  refine XW.aload_n 533 dL_law_532 rfl rfl ?_
  refine XW.aload_s 534 dL_law_533 rfl rfl ?_
  refine XW.iload_n 535 dL_law_534 rfl rfl ?_
  refine XW.iconst 536 dL_law_535 (v := 1) (by decide) rfl ?_
  refine XW.iadd 537 dL_law_536 rfl ?_
  refine XW.sald 538 (i + 1) rfl dL_law_537 (na rfl rfl) (by omega) (by omega) rfl ?_
  refine XW.aload_s 539 dL_law_538 rfl rfl ?_
  refine XW.iload_n 540 dL_law_539 rfl rfl ?_
  refine XW.iconst 541 dL_law_540 (v := 2) (by decide) rfl ?_
  refine XW.iadd 542 dL_law_541 rfl ?_
  refine XW.sald 543 (i + 2) rfl dL_law_542 (na rfl rfl) (by omega) (by omega) rfl ?_
  refine XW.aload_s 544 dL_law_543 rfl rfl ?_
  refine XW.iload_n 545 dL_law_544 rfl rfl ?_
  refine XW.iconst 546 dL_law_545 (v := 3) (by decide) rfl ?_
  refine XW.iadd 547 dL_law_546 rfl ?_
  refine XW.sald 548 (i + 3) rfl dL_law_547 (na rfl rfl) (by omega) (by omega) rfl ?_
  refine XW.callV 551 (vs := [.int (xs (i + 1)), .int (xs (i + 2)), .int (xs (i + 3))]) (rest := []) (mcr := 0) (msr := 0) c5_57 dL_law_548 rfl rfl (by decide) (Nat.le_of_ble_eq_true rfl) rfl rfl (Nat.le_of_ble_eq_true rfl) rfl (pr_distance ns (xs (i + 1)) (xs (i + 2)) (xs (i + 3))) (fun r h1 hq => ?_)
  obtain ⟨x, Y, rfl, rfl, hk⟩ := hq
  refine XW.aload_n 552 dL_law_551 rfl rfl ?_
  refine XW.aload_s 553 dL_law_552 rfl rfl ?_
  refine XW.iload_n 554 dL_law_553 rfl rfl ?_
  refine XW.iconst 555 dL_law_554 (v := 1) (by decide) rfl ?_
  refine XW.iadd 556 dL_law_555 rfl ?_
  refine XW.sald 557 (i + 1) rfl dL_law_556 (na rfl rfl) (by omega) (by omega) rfl ?_
  refine XW.aload_s 558 dL_law_557 rfl rfl ?_
  refine XW.iload_n 559 dL_law_558 rfl rfl ?_
  refine XW.iconst 560 dL_law_559 (v := 2) (by decide) rfl ?_
  refine XW.iadd 561 dL_law_560 rfl ?_
  refine XW.sald 562 (i + 2) rfl dL_law_561 (na rfl rfl) (by omega) (by omega) rfl ?_
  refine XW.aload_s 563 dL_law_562 rfl rfl ?_
  refine XW.iload_n 564 dL_law_563 rfl rfl ?_
  refine XW.iconst 565 dL_law_564 (v := 3) (by decide) rfl ?_
  refine XW.iadd 566 dL_law_565 rfl ?_
  refine XW.sald 567 (i + 3) rfl dL_law_566 (na rfl rfl) (by omega) (by omega) rfl ?_
  refine XW.callV 570 (vs := [.int (xs (i + 1)), .int (xs (i + 2)), .int (xs (i + 3))]) (rest := [.int x]) (mcr := 0) (msr := 0) c5_60 dL_law_567 rfl rfl (by decide) (Nat.le_of_ble_eq_true rfl) rfl rfl (Nat.le_of_ble_eq_true rfl) rfl hk (fun r h1 hq => ?_)
  obtain ⟨rfl, W, sim, rfl⟩ := hq
  refine XW.icmp_eq 871 573 dL_law_570 (by decide) rfl (fun _ => KK W sim) (fun c => absurd rfl c)
set_option maxHeartbeats 400000 in
set_option maxRecDepth 100000 in
theorem law_11 {n i : Nat} {xs : Nat → Int32} {Z : xZ} {c l st len : Nat} {kp : Nat → Nat} (ns : NS Z c l st len kp) (n26 : n ≤ 2560) (hi : i + 5 ≤ n) (KK : ∀ W, SIM W → XW (mL_law n xs) 10 0 0 871 [some (.retAddr 0), some (.ref 0), some (.ref 53), some (.int (nI i))] [] (HP W) (fun r _ => r = some (.int 1))) : XW (mL_law n xs) 10 0 0 575 [some (.retAddr 0), some (.ref 0), some (.ref 53), some (.int (nI i))] [] (HP Z) (fun r _ => r = some (.int 1)) := by
  refine XW.aload_n 576 dL_law_575 rfl rfl ?_
  refine XW.aload_s 577 dL_law_576 rfl rfl ?_
  refine XW.iload_n 578 dL_law_577 rfl rfl ?_
  refine XW.iconst 579 dL_law_578 (v := 1) (by decide) rfl ?_
  refine XW.iadd 580 dL_law_579 rfl ?_
  refine XW.sald 581 (i + 1) rfl dL_law_580 (na rfl rfl) (by omega) (by omega) rfl ?_
  refine XW.aload_s 582 dL_law_581 rfl rfl ?_
  refine XW.iload_n 583 dL_law_582 rfl rfl ?_
  refine XW.iconst 584 dL_law_583 (v := 2) (by decide) rfl ?_
  refine XW.iadd 585 dL_law_584 rfl ?_
  refine XW.sald 586 (i + 2) rfl dL_law_585 (na rfl rfl) (by omega) (by omega) rfl ?_
  refine XW.callV 589 (vs := [.int (xs (i + 1)), .int (xs (i + 2))]) (rest := []) (mcr := 0) (msr := 0) c5_61 dL_law_586 rfl rfl (by decide) (Nat.le_of_ble_eq_true rfl) rfl rfl (Nat.le_of_ble_eq_true rfl) rfl (pr_apart ns (xs (i + 1)) (xs (i + 2))) (fun r h1 hq => ?_)
  obtain ⟨x, Y, rfl, rfl, hk⟩ := hq
  refine XW.aload_n 590 dL_law_589 rfl rfl ?_
  refine XW.aload_s 591 dL_law_590 rfl rfl ?_
  refine XW.iload_n 592 dL_law_591 rfl rfl ?_
  refine XW.iconst 593 dL_law_592 (v := 1) (by decide) rfl ?_
  refine XW.iadd 594 dL_law_593 rfl ?_
  refine XW.sald 595 (i + 1) rfl dL_law_594 (na rfl rfl) (by omega) (by omega) rfl ?_
  refine XW.aload_s 596 dL_law_595 rfl rfl ?_
  refine XW.iload_n 597 dL_law_596 rfl rfl ?_
  refine XW.iconst 598 dL_law_597 (v := 2) (by decide) rfl ?_
  refine XW.iadd 599 dL_law_598 rfl ?_
  refine XW.sald 600 (i + 2) rfl dL_law_599 (na rfl rfl) (by omega) (by omega) rfl ?_
  refine XW.callV 603 (vs := [.int (xs (i + 1)), .int (xs (i + 2))]) (rest := [.int x]) (mcr := 0) (msr := 0) c5_64 dL_law_600 rfl rfl (by decide) (Nat.le_of_ble_eq_true rfl) rfl rfl (Nat.le_of_ble_eq_true rfl) rfl hk (fun r h1 hq => ?_)
  obtain ⟨rfl, W, sim, rfl⟩ := hq
  refine XW.icmp_eq 871 606 dL_law_603 (by decide) rfl (fun _ => KK W sim) (fun c => absurd rfl c)
set_option maxHeartbeats 400000 in
set_option maxRecDepth 100000 in
theorem law_12 {n i : Nat} {xs : Nat → Int32} {Z : xZ} {c l st len : Nat} {kp : Nat → Nat} (ns : NS Z c l st len kp) (n26 : n ≤ 2560) (hi : i + 5 ≤ n) (KK : ∀ W, SIM W → XW (mL_law n xs) 10 0 0 871 [some (.retAddr 0), some (.ref 0), some (.ref 53), some (.int (nI i))] [] (HP W) (fun r _ => r = some (.int 1))) : XW (mL_law n xs) 10 0 0 608 [some (.retAddr 0), some (.ref 0), some (.ref 53), some (.int (nI i))] [] (HP Z) (fun r _ => r = some (.int 1)) := by
  refine XW.aload_n 609 dL_law_608 rfl rfl ?_
  refine XW.aload_s 610 dL_law_609 rfl rfl ?_
  refine XW.iload_n 611 dL_law_610 rfl rfl ?_
  refine XW.iconst 612 dL_law_611 (v := 1) (by decide) rfl ?_
  refine XW.iadd 613 dL_law_612 rfl ?_
  refine XW.sald 614 (i + 1) rfl dL_law_613 (na rfl rfl) (by omega) (by omega) rfl ?_
  refine XW.callV 617 (vs := [.int (xs (i + 1))]) (rest := []) (mcr := 0) (msr := 0) c5_65 dL_law_614 rfl rfl (by decide) (Nat.le_of_ble_eq_true rfl) rfl rfl (Nat.le_of_ble_eq_true rfl) rfl (pr_fills ns (xs (i + 1))) (fun r h1 hq => ?_)
  obtain ⟨x, Y, rfl, rfl, hk⟩ := hq
  refine XW.aload_n 618 dL_law_617 rfl rfl ?_
  refine XW.aload_s 619 dL_law_618 rfl rfl ?_
  refine XW.iload_n 620 dL_law_619 rfl rfl ?_
  refine XW.iconst 621 dL_law_620 (v := 1) (by decide) rfl ?_
  refine XW.iadd 622 dL_law_621 rfl ?_
  refine XW.sald 623 (i + 1) rfl dL_law_622 (na rfl rfl) (by omega) (by omega) rfl ?_
  refine XW.callV 626 (vs := [.int (xs (i + 1))]) (rest := [.int x]) (mcr := 0) (msr := 0) c5_68 dL_law_623 rfl rfl (by decide) (Nat.le_of_ble_eq_true rfl) rfl rfl (Nat.le_of_ble_eq_true rfl) rfl hk (fun r h1 hq => ?_)
  obtain ⟨rfl, W, sim, rfl⟩ := hq
  refine XW.icmp_eq 871 629 dL_law_626 (by decide) rfl (fun _ => KK W sim) (fun c => absurd rfl c)
set_option maxHeartbeats 400000 in
set_option maxRecDepth 100000 in
theorem law_13 {n i : Nat} {xs : Nat → Int32} {Z : xZ} {c l st len : Nat} {kp : Nat → Nat} (ns : NS Z c l st len kp) (n26 : n ≤ 2560) (hi : i + 5 ≤ n) (KK : ∀ W, SIM W → XW (mL_law n xs) 10 0 0 871 [some (.retAddr 0), some (.ref 0), some (.ref 53), some (.int (nI i))] [] (HP W) (fun r _ => r = some (.int 1))) : XW (mL_law n xs) 10 0 0 631 [some (.retAddr 0), some (.ref 0), some (.ref 53), some (.int (nI i))] [] (HP Z) (fun r _ => r = some (.int 1)) := by
  refine XW.aload_n 632 dL_law_631 rfl rfl ?_
  refine XW.callV 635 (vs := []) (rest := []) (mcr := 0) (msr := 0) c5_69 dL_law_632 rfl rfl (by decide) (Nat.le_of_ble_eq_true rfl) rfl rfl (Nat.le_of_ble_eq_true rfl) rfl (pr_swaps ns) (fun r h1 hq => ?_)
  obtain ⟨x, Y, rfl, rfl, hk⟩ := hq
  refine XW.aload_n 636 dL_law_635 rfl rfl ?_
  refine XW.callV 639 (vs := []) (rest := [.int x]) (mcr := 0) (msr := 0) c5_73 dL_law_636 rfl rfl (by decide) (Nat.le_of_ble_eq_true rfl) rfl rfl (Nat.le_of_ble_eq_true rfl) rfl hk (fun r h1 hq => ?_)
  obtain ⟨rfl, W, sim, rfl⟩ := hq
  refine XW.icmp_eq 871 642 dL_law_639 (by decide) rfl (fun _ => KK W sim) (fun c => absurd rfl c)
set_option maxHeartbeats 400000 in
set_option maxRecDepth 100000 in
theorem law_14 {n i : Nat} {xs : Nat → Int32} {Z : xZ} {c l st len : Nat} {kp : Nat → Nat} (ns : NS Z c l st len kp) (n26 : n ≤ 2560) (hi : i + 5 ≤ n) (KK : ∀ W, SIM W → XW (mL_law n xs) 10 0 0 871 [some (.retAddr 0), some (.ref 0), some (.ref 53), some (.int (nI i))] [] (HP W) (fun r _ => r = some (.int 1))) : XW (mL_law n xs) 10 0 0 644 [some (.retAddr 0), some (.ref 0), some (.ref 53), some (.int (nI i))] [] (HP Z) (fun r _ => r = some (.int 1)) := by
  refine XW.aload_n 645 dL_law_644 rfl rfl ?_
  refine XW.aload_s 646 dL_law_645 rfl rfl ?_
  refine XW.iload_n 647 dL_law_646 rfl rfl ?_
  refine XW.iconst 648 dL_law_647 (v := 1) (by decide) rfl ?_
  refine XW.iadd 649 dL_law_648 rfl ?_
  refine XW.sald 650 (i + 1) rfl dL_law_649 (na rfl rfl) (by omega) (by omega) rfl ?_
  refine XW.callV 653 (vs := [.int (xs (i + 1))]) (rest := []) (mcr := 0) (msr := 0) c5_74 dL_law_650 rfl rfl (by decide) (Nat.le_of_ble_eq_true rfl) rfl rfl (Nat.le_of_ble_eq_true rfl) rfl (pr_palette ns (xs (i + 1))) (fun r h1 hq => ?_)
  obtain ⟨x, Y, rfl, rfl, hk⟩ := hq
  refine XW.aload_n 654 dL_law_653 rfl rfl ?_
  refine XW.aload_s 655 dL_law_654 rfl rfl ?_
  refine XW.iload_n 656 dL_law_655 rfl rfl ?_
  refine XW.iconst 657 dL_law_656 (v := 1) (by decide) rfl ?_
  refine XW.iadd 658 dL_law_657 rfl ?_
  refine XW.sald 659 (i + 1) rfl dL_law_658 (na rfl rfl) (by omega) (by omega) rfl ?_
  refine XW.callV 662 (vs := [.int (xs (i + 1))]) (rest := [.int x]) (mcr := 0) (msr := 0) c5_77 dL_law_659 rfl rfl (by decide) (Nat.le_of_ble_eq_true rfl) rfl rfl (Nat.le_of_ble_eq_true rfl) rfl hk (fun r h1 hq => ?_)
  obtain ⟨rfl, W, sim, rfl⟩ := hq
  refine XW.icmp_eq 871 665 dL_law_662 (by decide) rfl (fun _ => KK W sim) (fun c => absurd rfl c)
set_option maxHeartbeats 400000 in
set_option maxRecDepth 100000 in
theorem law_15 {n i : Nat} {xs : Nat → Int32} {Z : xZ} {c l st len : Nat} {kp : Nat → Nat} (ns : NS Z c l st len kp) (n26 : n ≤ 2560) (hi : i + 5 ≤ n) (KK : ∀ W, SIM W → XW (mL_law n xs) 10 0 0 871 [some (.retAddr 0), some (.ref 0), some (.ref 53), some (.int (nI i))] [] (HP W) (fun r _ => r = some (.int 1))) : XW (mL_law n xs) 10 0 0 667 [some (.retAddr 0), some (.ref 0), some (.ref 53), some (.int (nI i))] [] (HP Z) (fun r _ => r = some (.int 1)) := by
  refine XW.aload_n 668 dL_law_667 rfl rfl ?_
  refine XW.callV 671 (vs := []) (rest := []) (mcr := 0) (msr := 0) c5_78 dL_law_668 rfl rfl (by decide) (Nat.le_of_ble_eq_true rfl) rfl rfl (Nat.le_of_ble_eq_true rfl) rfl (pr_least ns) (fun r h1 hq => ?_)
  obtain ⟨x, Y, rfl, rfl, hk⟩ := hq
  refine XW.aload_n 672 dL_law_671 rfl rfl ?_
  refine XW.callV 675 (vs := []) (rest := [.int x]) (mcr := 0) (msr := 0) c5_81 dL_law_672 rfl rfl (by decide) (Nat.le_of_ble_eq_true rfl) rfl rfl (Nat.le_of_ble_eq_true rfl) rfl hk (fun r h1 hq => ?_)
  obtain ⟨rfl, W, sim, rfl⟩ := hq
  refine XW.icmp_eq 871 678 dL_law_675 (by decide) rfl (fun _ => KK W sim) (fun c => absurd rfl c)
set_option maxHeartbeats 400000 in
set_option maxRecDepth 100000 in
theorem law_16 {n i : Nat} {xs : Nat → Int32} {Z : xZ} {c l st len : Nat} {kp : Nat → Nat} (ns : NS Z c l st len kp) (n26 : n ≤ 2560) (hi : i + 5 ≤ n) (KK : ∀ W, SIM W → XW (mL_law n xs) 10 0 0 871 [some (.retAddr 0), some (.ref 0), some (.ref 53), some (.int (nI i))] [] (HP W) (fun r _ => r = some (.int 1))) : XW (mL_law n xs) 10 0 0 680 [some (.retAddr 0), some (.ref 0), some (.ref 53), some (.int (nI i))] [] (HP Z) (fun r _ => r = some (.int 1)) := by
  refine XW.aload_n 681 dL_law_680 rfl rfl ?_
  refine XW.callV 684 (vs := []) (rest := []) (mcr := 0) (msr := 0) c5_82 dL_law_681 rfl rfl (by decide) (Nat.le_of_ble_eq_true rfl) rfl rfl (Nat.le_of_ble_eq_true rfl) rfl (pr_nearest ns) (fun r h1 hq => ?_)
  obtain ⟨x, Y, rfl, rfl, hk⟩ := hq
  refine XW.aload_n 685 dL_law_684 rfl rfl ?_
  refine XW.callV 688 (vs := []) (rest := [.int x]) (mcr := 0) (msr := 0) c5_85 dL_law_685 rfl rfl (by decide) (Nat.le_of_ble_eq_true rfl) rfl rfl (Nat.le_of_ble_eq_true rfl) rfl hk (fun r h1 hq => ?_)
  obtain ⟨rfl, W, sim, rfl⟩ := hq
  refine XW.icmp_eq 871 691 dL_law_688 (by decide) rfl (fun _ => KK W sim) (fun c => absurd rfl c)
set_option maxHeartbeats 400000 in
set_option maxRecDepth 100000 in
theorem law_17 {n i : Nat} {xs : Nat → Int32} {Z : xZ} {c l st len : Nat} {kp : Nat → Nat} (ns : NS Z c l st len kp) (n26 : n ≤ 2560) (hi : i + 5 ≤ n) (KK : ∀ W, SIM W → XW (mL_law n xs) 10 0 0 871 [some (.retAddr 0), some (.ref 0), some (.ref 53), some (.int (nI i))] [] (HP W) (fun r _ => r = some (.int 1))) : XW (mL_law n xs) 10 0 0 693 [some (.retAddr 0), some (.ref 0), some (.ref 53), some (.int (nI i))] [] (HP Z) (fun r _ => r = some (.int 1)) := by
  refine XW.aload_n 694 dL_law_693 rfl rfl ?_
  refine XW.aload_s 695 dL_law_694 rfl rfl ?_
  refine XW.iload_n 696 dL_law_695 rfl rfl ?_
  refine XW.iconst 697 dL_law_696 (v := 1) (by decide) rfl ?_
  refine XW.iadd 698 dL_law_697 rfl ?_
  refine XW.sald 699 (i + 1) rfl dL_law_698 (na rfl rfl) (by omega) (by omega) rfl ?_
  refine XW.callV 702 (vs := [.int (xs (i + 1))]) (rest := []) (mcr := 0) (msr := 0) c5_86 dL_law_699 rfl rfl (by decide) (Nat.le_of_ble_eq_true rfl) rfl rfl (Nat.le_of_ble_eq_true rfl) rfl (pr_best ns (xs (i + 1))) (fun r h1 hq => ?_)
  obtain ⟨x, Y, rfl, rfl, hk⟩ := hq
  refine XW.aload_n 703 dL_law_702 rfl rfl ?_
  refine XW.aload_s 704 dL_law_703 rfl rfl ?_
  refine XW.iload_n 705 dL_law_704 rfl rfl ?_
  refine XW.iconst 706 dL_law_705 (v := 1) (by decide) rfl ?_
  refine XW.iadd 707 dL_law_706 rfl ?_
  refine XW.sald 708 (i + 1) rfl dL_law_707 (na rfl rfl) (by omega) (by omega) rfl ?_
  refine XW.callV 711 (vs := [.int (xs (i + 1))]) (rest := [.int x]) (mcr := 0) (msr := 0) c5_89 dL_law_708 rfl rfl (by decide) (Nat.le_of_ble_eq_true rfl) rfl rfl (Nat.le_of_ble_eq_true rfl) rfl hk (fun r h1 hq => ?_)
  obtain ⟨rfl, W, sim, rfl⟩ := hq
  refine XW.icmp_eq 871 714 dL_law_711 (by decide) rfl (fun _ => KK W sim) (fun c => absurd rfl c)
set_option maxHeartbeats 400000 in
set_option maxRecDepth 100000 in
theorem law_18 {n i : Nat} {xs : Nat → Int32} {Z : xZ} {c l st len : Nat} {kp : Nat → Nat} (ns : NS Z c l st len kp) (n26 : n ≤ 2560) (hi : i + 5 ≤ n) (KK : ∀ W, SIM W → XW (mL_law n xs) 10 0 0 871 [some (.retAddr 0), some (.ref 0), some (.ref 53), some (.int (nI i))] [] (HP W) (fun r _ => r = some (.int 1))) : XW (mL_law n xs) 10 0 0 716 [some (.retAddr 0), some (.ref 0), some (.ref 53), some (.int (nI i))] [] (HP Z) (fun r _ => r = some (.int 1)) := by
  refine XW.aload_n 717 dL_law_716 rfl rfl ?_
  refine XW.aload_s 718 dL_law_717 rfl rfl ?_
  refine XW.iload_n 719 dL_law_718 rfl rfl ?_
  refine XW.iconst 720 dL_law_719 (v := 1) (by decide) rfl ?_
  refine XW.iadd 721 dL_law_720 rfl ?_
  refine XW.sald 722 (i + 1) rfl dL_law_721 (na rfl rfl) (by omega) (by omega) rfl ?_
  refine XW.aload_s 723 dL_law_722 rfl rfl ?_
  refine XW.iload_n 724 dL_law_723 rfl rfl ?_
  refine XW.iconst 725 dL_law_724 (v := 2) (by decide) rfl ?_
  refine XW.iadd 726 dL_law_725 rfl ?_
  refine XW.sald 727 (i + 2) rfl dL_law_726 (na rfl rfl) (by omega) (by omega) rfl ?_
  refine XW.callV 730 (vs := [.int (xs (i + 1)), .int (xs (i + 2))]) (rest := []) (mcr := 0) (msr := 0) c5_90 dL_law_727 rfl rfl (by decide) (Nat.le_of_ble_eq_true rfl) rfl rfl (Nat.le_of_ble_eq_true rfl) rfl (pr_mistaken ns (xs (i + 1)) (xs (i + 2))) (fun r h1 hq => ?_)
  obtain ⟨x, Y, rfl, rfl, hk⟩ := hq
  refine XW.aload_n 731 dL_law_730 rfl rfl ?_
  refine XW.aload_s 732 dL_law_731 rfl rfl ?_
  refine XW.iload_n 733 dL_law_732 rfl rfl ?_
  refine XW.iconst 734 dL_law_733 (v := 1) (by decide) rfl ?_
  refine XW.iadd 735 dL_law_734 rfl ?_
  refine XW.sald 736 (i + 1) rfl dL_law_735 (na rfl rfl) (by omega) (by omega) rfl ?_
  refine XW.aload_s 737 dL_law_736 rfl rfl ?_
  refine XW.iload_n 738 dL_law_737 rfl rfl ?_
  refine XW.iconst 739 dL_law_738 (v := 2) (by decide) rfl ?_
  refine XW.iadd 740 dL_law_739 rfl ?_
  refine XW.sald 741 (i + 2) rfl dL_law_740 (na rfl rfl) (by omega) (by omega) rfl ?_
  refine XW.callV 744 (vs := [.int (xs (i + 1)), .int (xs (i + 2))]) (rest := [.int x]) (mcr := 0) (msr := 0) c5_93 dL_law_741 rfl rfl (by decide) (Nat.le_of_ble_eq_true rfl) rfl rfl (Nat.le_of_ble_eq_true rfl) rfl hk (fun r h1 hq => ?_)
  obtain ⟨rfl, W, sim, rfl⟩ := hq
  refine XW.icmp_eq 871 747 dL_law_744 (by decide) rfl (fun _ => KK W sim) (fun c => absurd rfl c)
set_option maxHeartbeats 400000 in
set_option maxRecDepth 100000 in
theorem law_19 {n i : Nat} {xs : Nat → Int32} {Z : xZ} {c l st len : Nat} {kp : Nat → Nat} (ns : NS Z c l st len kp) (n26 : n ≤ 2560) (hi : i + 5 ≤ n) (KK : ∀ W, SIM W → XW (mL_law n xs) 10 0 0 871 [some (.retAddr 0), some (.ref 0), some (.ref 53), some (.int (nI i))] [] (HP W) (fun r _ => r = some (.int 1))) : XW (mL_law n xs) 10 0 0 749 [some (.retAddr 0), some (.ref 0), some (.ref 53), some (.int (nI i))] [] (HP Z) (fun r _ => r = some (.int 1)) := by
  refine XW.aload_n 750 dL_law_749 rfl rfl ?_
  refine XW.aload_s 751 dL_law_750 rfl rfl ?_
  refine XW.iload_n 752 dL_law_751 rfl rfl ?_
  refine XW.iconst 753 dL_law_752 (v := 1) (by decide) rfl ?_
  refine XW.iadd 754 dL_law_753 rfl ?_
  refine XW.sald 755 (i + 1) rfl dL_law_754 (na rfl rfl) (by omega) (by omega) rfl ?_
  refine XW.callV 758 (vs := [.int (xs (i + 1))]) (rest := []) (mcr := 0) (msr := 0) c5_94 dL_law_755 rfl rfl (by decide) (Nat.le_of_ble_eq_true rfl) rfl rfl (Nat.le_of_ble_eq_true rfl) rfl (pr_count ns (xs (i + 1))) (fun r h1 hq => ?_)
  obtain ⟨x, Y, rfl, rfl, hk⟩ := hq
  refine XW.aload_n 759 dL_law_758 rfl rfl ?_
  refine XW.aload_s 760 dL_law_759 rfl rfl ?_
  refine XW.iload_n 761 dL_law_760 rfl rfl ?_
  refine XW.iconst 762 dL_law_761 (v := 1) (by decide) rfl ?_
  refine XW.iadd 763 dL_law_762 rfl ?_
  refine XW.sald 764 (i + 1) rfl dL_law_763 (na rfl rfl) (by omega) (by omega) rfl ?_
  refine XW.callV 767 (vs := [.int (xs (i + 1))]) (rest := [.int x]) (mcr := 0) (msr := 0) c5_97 dL_law_764 rfl rfl (by decide) (Nat.le_of_ble_eq_true rfl) rfl rfl (Nat.le_of_ble_eq_true rfl) rfl hk (fun r h1 hq => ?_)
  obtain ⟨rfl, W, sim, rfl⟩ := hq
  refine XW.icmp_eq 871 770 dL_law_767 (by decide) rfl (fun _ => KK W sim) (fun c => absurd rfl c)
set_option maxHeartbeats 400000 in
set_option maxRecDepth 100000 in
theorem law_20 {n i : Nat} {xs : Nat → Int32} {Z : xZ} {c l st len : Nat} {kp : Nat → Nat} (ns : NS Z c l st len kp) (n26 : n ≤ 2560) (hi : i + 5 ≤ n) (KK : ∀ W, SIM W → XW (mL_law n xs) 10 0 0 871 [some (.retAddr 0), some (.ref 0), some (.ref 53), some (.int (nI i))] [] (HP W) (fun r _ => r = some (.int 1))) : XW (mL_law n xs) 10 0 0 772 [some (.retAddr 0), some (.ref 0), some (.ref 53), some (.int (nI i))] [] (HP Z) (fun r _ => r = some (.int 1)) := by
  refine XW.aload_n 773 dL_law_772 rfl rfl ?_
  refine XW.aload_s 774 dL_law_773 rfl rfl ?_
  refine XW.iload_n 775 dL_law_774 rfl rfl ?_
  refine XW.iconst 776 dL_law_775 (v := 1) (by decide) rfl ?_
  refine XW.iadd 777 dL_law_776 rfl ?_
  refine XW.sald 778 (i + 1) rfl dL_law_777 (na rfl rfl) (by omega) (by omega) rfl ?_
  refine XW.callV 781 (vs := [.int (xs (i + 1))]) (rest := []) (mcr := 0) (msr := 0) c5_98 dL_law_778 rfl rfl (by decide) (Nat.le_of_ble_eq_true rfl) rfl rfl (Nat.le_of_ble_eq_true rfl) rfl (pr_type ns (xs (i + 1))) (fun r h1 hq => ?_)
  obtain ⟨x, Y, rfl, rfl, hk⟩ := hq
  refine XW.aload_n 782 dL_law_781 rfl rfl ?_
  refine XW.aload_s 783 dL_law_782 rfl rfl ?_
  refine XW.iload_n 784 dL_law_783 rfl rfl ?_
  refine XW.iconst 785 dL_law_784 (v := 1) (by decide) rfl ?_
  refine XW.iadd 786 dL_law_785 rfl ?_
  refine XW.sald 787 (i + 1) rfl dL_law_786 (na rfl rfl) (by omega) (by omega) rfl ?_
  refine XW.callV 790 (vs := [.int (xs (i + 1))]) (rest := [.int x]) (mcr := 0) (msr := 0) c5_101 dL_law_787 rfl rfl (by decide) (Nat.le_of_ble_eq_true rfl) rfl rfl (Nat.le_of_ble_eq_true rfl) rfl hk (fun r h1 hq => ?_)
  obtain ⟨rfl, W, sim, rfl⟩ := hq
  refine XW.icmp_eq 871 793 dL_law_790 (by decide) rfl (fun _ => KK W sim) (fun c => absurd rfl c)
set_option maxHeartbeats 400000 in
set_option maxRecDepth 100000 in
theorem law_21 {n i : Nat} {xs : Nat → Int32} {Z : xZ} {c l st len : Nat} {kp : Nat → Nat} (ns : NS Z c l st len kp) (n26 : n ≤ 2560) (hi : i + 5 ≤ n) (KK : ∀ W, SIM W → XW (mL_law n xs) 10 0 0 871 [some (.retAddr 0), some (.ref 0), some (.ref 53), some (.int (nI i))] [] (HP W) (fun r _ => r = some (.int 1))) : XW (mL_law n xs) 10 0 0 795 [some (.retAddr 0), some (.ref 0), some (.ref 53), some (.int (nI i))] [] (HP Z) (fun r _ => r = some (.int 1)) := by
  refine XW.aload_n 796 dL_law_795 rfl rfl ?_
  refine XW.callV 799 (vs := []) (rest := []) (mcr := 0) (msr := 0) c5_102 dL_law_796 rfl rfl (by decide) (Nat.le_of_ble_eq_true rfl) rfl rfl (Nat.le_of_ble_eq_true rfl) rfl (pr_clear ns) (fun r h1 hq => ?_)
  obtain ⟨x, Y, rfl, rfl, hk⟩ := hq
  refine XW.aload_n 800 dL_law_799 rfl rfl ?_
  refine XW.callV 803 (vs := []) (rest := [.int x]) (mcr := 0) (msr := 0) c5_105 dL_law_800 rfl rfl (by decide) (Nat.le_of_ble_eq_true rfl) rfl rfl (Nat.le_of_ble_eq_true rfl) rfl hk (fun r h1 hq => ?_)
  obtain ⟨rfl, W, sim, rfl⟩ := hq
  refine XW.icmp_eq 871 806 dL_law_803 (by decide) rfl (fun _ => KK W sim) (fun c => absurd rfl c)
set_option maxHeartbeats 400000 in
set_option maxRecDepth 100000 in
theorem law_22 {n i : Nat} {xs : Nat → Int32} {Z : xZ} {c l st len : Nat} {kp : Nat → Nat} (ns : NS Z c l st len kp) (n26 : n ≤ 2560) (hi : i + 5 ≤ n) (KK : ∀ W, SIM W → XW (mL_law n xs) 10 0 0 871 [some (.retAddr 0), some (.ref 0), some (.ref 53), some (.int (nI i))] [] (HP W) (fun r _ => r = some (.int 1))) : XW (mL_law n xs) 10 0 0 808 [some (.retAddr 0), some (.ref 0), some (.ref 53), some (.int (nI i))] [] (HP Z) (fun r _ => r = some (.int 1)) := by
  refine XW.aload_n 809 dL_law_808 rfl rfl ?_
  refine XW.callV 812 (vs := []) (rest := []) (mcr := 0) (msr := 0) c5_106 dL_law_809 rfl rfl (by decide) (Nat.le_of_ble_eq_true rfl) rfl rfl (Nat.le_of_ble_eq_true rfl) rfl (pr_does ns) (fun r h1 hq => ?_)
  obtain ⟨x, Y, rfl, rfl, hk⟩ := hq
  refine XW.aload_n 813 dL_law_812 rfl rfl ?_
  refine XW.callV 816 (vs := []) (rest := [.int x]) (mcr := 0) (msr := 0) c5_109 dL_law_813 rfl rfl (by decide) (Nat.le_of_ble_eq_true rfl) rfl rfl (Nat.le_of_ble_eq_true rfl) rfl hk (fun r h1 hq => ?_)
  obtain ⟨rfl, W, sim, rfl⟩ := hq
  refine XW.icmp_eq 871 819 dL_law_816 (by decide) rfl (fun _ => KK W sim) (fun c => absurd rfl c)
set_option maxHeartbeats 400000 in
set_option maxRecDepth 100000 in
theorem law_23 {n i : Nat} {xs : Nat → Int32} {Z : xZ} {c l st len : Nat} {kp : Nat → Nat} (ns : NS Z c l st len kp) (n26 : n ≤ 2560) (hi : i + 5 ≤ n) (KK : ∀ W, SIM W → XW (mL_law n xs) 10 0 0 871 [some (.retAddr 0), some (.ref 0), some (.ref 53), some (.int (nI i))] [] (HP W) (fun r _ => r = some (.int 1))) : XW (mL_law n xs) 10 0 0 821 [some (.retAddr 0), some (.ref 0), some (.ref 53), some (.int (nI i))] [] (HP Z) (fun r _ => r = some (.int 1)) := by
  refine XW.aload_n 822 dL_law_821 rfl rfl ?_
  refine XW.callV 825 (vs := []) (rest := []) (mcr := 0) (msr := 0) c5_110 dL_law_822 rfl rfl (by decide) (Nat.le_of_ble_eq_true rfl) rfl rfl (Nat.le_of_ble_eq_true rfl) rfl (pr_back ns) (fun r h1 hq => ?_)
  obtain ⟨x, Y, rfl, rfl, hk⟩ := hq
  refine XW.aload_n 826 dL_law_825 rfl rfl ?_
  refine XW.callV 829 (vs := []) (rest := [.int x]) (mcr := 0) (msr := 0) c5_113 dL_law_826 rfl rfl (by decide) (Nat.le_of_ble_eq_true rfl) rfl rfl (Nat.le_of_ble_eq_true rfl) rfl hk (fun r h1 hq => ?_)
  obtain ⟨rfl, W, sim, rfl⟩ := hq
  refine XW.icmp_eq 871 832 dL_law_829 (by decide) rfl (fun _ => KK W sim) (fun c => absurd rfl c)
set_option maxHeartbeats 400000 in
set_option maxRecDepth 100000 in
theorem law_24 {n i : Nat} {xs : Nat → Int32} {Z : xZ} {c l st len : Nat} {kp : Nat → Nat} (ns : NS Z c l st len kp) (n26 : n ≤ 2560) (hi : i + 5 ≤ n) (KK : ∀ W, SIM W → XW (mL_law n xs) 10 0 0 871 [some (.retAddr 0), some (.ref 0), some (.ref 53), some (.int (nI i))] [] (HP W) (fun r _ => r = some (.int 1))) : XW (mL_law n xs) 10 0 0 834 [some (.retAddr 0), some (.ref 0), some (.ref 53), some (.int (nI i))] [] (HP Z) (fun r _ => r = some (.int 1)) := by
  refine XW.aload_n 835 dL_law_834 rfl rfl ?_
  refine XW.aload_s 836 dL_law_835 rfl rfl ?_
  refine XW.iload_n 837 dL_law_836 rfl rfl ?_
  refine XW.iconst 838 dL_law_837 (v := 1) (by decide) rfl ?_
  refine XW.iadd 839 dL_law_838 rfl ?_
  refine XW.sald 840 (i + 1) rfl dL_law_839 (na rfl rfl) (by omega) (by omega) rfl ?_
  refine XW.callV 843 (vs := [.int (xs (i + 1))]) (rest := []) (mcr := 0) (msr := 0) c5_114 dL_law_840 rfl rfl (by decide) (Nat.le_of_ble_eq_true rfl) rfl rfl (Nat.le_of_ble_eq_true rfl) rfl (pr_told ns (xs (i + 1))) (fun r h1 hq => ?_)
  obtain ⟨x, Y, rfl, rfl, hk⟩ := hq
  refine XW.aload_n 844 dL_law_843 rfl rfl ?_
  refine XW.aload_s 845 dL_law_844 rfl rfl ?_
  refine XW.iload_n 846 dL_law_845 rfl rfl ?_
  refine XW.iconst 847 dL_law_846 (v := 1) (by decide) rfl ?_
  refine XW.iadd 848 dL_law_847 rfl ?_
  refine XW.sald 849 (i + 1) rfl dL_law_848 (na rfl rfl) (by omega) (by omega) rfl ?_
  refine XW.callV 852 (vs := [.int (xs (i + 1))]) (rest := [.int x]) (mcr := 0) (msr := 0) c5_117 dL_law_849 rfl rfl (by decide) (Nat.le_of_ble_eq_true rfl) rfl rfl (Nat.le_of_ble_eq_true rfl) rfl hk (fun r h1 hq => ?_)
  obtain ⟨rfl, W, sim, rfl⟩ := hq
  refine XW.icmp_eq 871 855 dL_law_852 (by decide) rfl (fun _ => KK W sim) (fun c => absurd rfl c)
set_option maxHeartbeats 400000 in
set_option maxRecDepth 100000 in
theorem law_25 {n i : Nat} {xs : Nat → Int32} {Z : xZ} {c l st len : Nat} {kp : Nat → Nat} (ns : NS Z c l st len kp) (n26 : n ≤ 2560) (hi : i + 5 ≤ n) (KK : ∀ W, SIM W → XW (mL_law n xs) 10 0 0 871 [some (.retAddr 0), some (.ref 0), some (.ref 53), some (.int (nI i))] [] (HP W) (fun r _ => r = some (.int 1))) : XW (mL_law n xs) 10 0 0 857 [some (.retAddr 0), some (.ref 0), some (.ref 53), some (.int (nI i))] [] (HP Z) (fun r _ => r = some (.int 1)) := by
  refine XW.aload_n 858 dL_law_857 rfl rfl ?_
  refine XW.callV 861 (vs := []) (rest := []) (mcr := 0) (msr := 0) c5_118 dL_law_858 rfl rfl (by decide) (Nat.le_of_ble_eq_true rfl) rfl rfl (Nat.le_of_ble_eq_true rfl) rfl (pr_digest ns) (fun r h1 hq => ?_)
  obtain ⟨x, Y, rfl, rfl, hk⟩ := hq
  refine XW.aload_n 862 dL_law_861 rfl rfl ?_
  refine XW.callV 865 (vs := []) (rest := [.long x]) (mcr := 0) (msr := 0) c5_122 dL_law_862 rfl rfl (by decide) (Nat.le_of_ble_eq_true rfl) rfl rfl (Nat.le_of_ble_eq_true rfl) rfl hk (fun r h1 hq => ?_)
  obtain ⟨rfl, W, sim, rfl⟩ := hq
  refine XW.lcmp 866 dL_law_865 rfl ?_
  refine XW.if_eq 871 869 dL_law_866 (by decide) rfl (fun _ => KK W sim) (fun c => absurd ((lg_cmp_eq x x).mpr rfl) c)
set_option maxHeartbeats 400000 in
set_option maxRecDepth 100000 in
theorem law_loop {n : Nat} {xs : Nat → Int32} (n26 : n ≤ 2560) : ∀ (m i : Nat) (Z : xZ), i ≤ n → n < i + m → SIM Z → XW (mL_law n xs) 10 0 0 18 [some (.retAddr 0), some (.ref 0), some (.ref 53), some (.int (nI i))] [] (HP Z) (fun r _ => r = some (.int 1)) := by
  intro m
  induction m with
  | zero => intro i Z g0 g1; omega
  | succ m ih =>
    intro i Z g0 g1 g2
    obtain ⟨c, l, st, len, kp, s⟩ := g2
    refine XW.cut (nz_eq s) ?_
    have ns := NS_of s
    generalize nz Z = Z at ns ⊢
    refine XW.iload_n 19 dL_law_18 rfl rfl ?_
    refine XW.aload_s 20 dL_law_19 rfl rfl ?_
    refine XW.slen 21 rfl dL_law_20 rfl ?_
    refine XW.iconst 22 dL_law_21 (v := 5) (by decide) rfl ?_
    refine XW.isub 23 dL_law_22 rfl ?_
    refine XW.icmp_gt 877 26 dL_law_23 (by decide) rfl (fun c_23 => ?_) (fun c_23 => ?_)
    · refine XW.iconst 878 dL_law_877 (v := 1) (by decide) rfl ?_
      exact XW.iret dL_law_878 rfl rfl
    · have hi : i + 5 ≤ n := by
        rw [Int32.lt_iff_toInt_lt, (lw_up n n26).1, (lw_up i (by omega)).2] at c_23
        omega
      have KK : ∀ W, SIM W → XW (mL_law n xs) 10 0 0 871 [some (.retAddr 0), some (.ref 0), some (.ref 53), some (.int (nI i))] [] (HP W) (fun r _ => r = some (.int 1)) := fun W sim => by
        refine XW.iinc 874 (y := nI (i + 5)) (L' := [some (.retAddr 0), some (.ref 0), some (.ref 53), some (.int (nI (i + 5)))]) dL_law_871 rfl (na rfl rfl) (show 3 < 4 by decide) rfl rfl rfl ?_
        refine XW.goto 18 dL_law_874 (by decide) ?_
        exact ih (i + 5) W hi (by omega) sim
      refine XW.aload_s 27 dL_law_26 rfl rfl ?_
      refine XW.iload_n 28 dL_law_27 rfl rfl ?_
      refine XW.sald 29 i rfl dL_law_28 rfl (by omega) (by omega) rfl ?_
      refine XW.bipush 31 dL_law_29 (v := 31) (by decide) rfl ?_
      refine XW.iand 32 dL_law_31 rfl ?_
      obtain ⟨j, j32, hj⟩ := lw_and (xs i)
      rw [hj]
      have hji := lw_int j j32
      rcases Nat.lt_or_ge j 26 with q | q
      · rcases (show j = 0 ∨ j = 1 ∨ j = 2 ∨ j = 3 ∨ j = 4 ∨ j = 5 ∨ j = 6 ∨ j = 7 ∨ j = 8 ∨ j = 9 ∨ j = 10 ∨ j = 11 ∨ j = 12 ∨ j = 13 ∨ j = 14 ∨ j = 15 ∨ j = 16 ∨ j = 17 ∨ j = 18 ∨ j = 19 ∨ j = 20 ∨ j = 21 ∨ j = 22 ∨ j = 23 ∨ j = 24 ∨ j = 25 by omega) with rfl | rfl | rfl | rfl | rfl | rfl | rfl | rfl | rfl | rfl | rfl | rfl | rfl | rfl | rfl | rfl | rfl | rfl | rfl | rfl | rfl | rfl | rfl | rfl | rfl | rfl
        · exact XW.tableIn 152 dL_law_32 (by decide) (by decide) rfl (by decide) (law_0 ns n26 hi KK)
        · exact XW.tableIn 195 dL_law_32 (by decide) (by decide) rfl (by decide) (law_1 ns n26 hi KK)
        · exact XW.tableIn 248 dL_law_32 (by decide) (by decide) rfl (by decide) (law_2 ns n26 hi KK)
        · exact XW.tableIn 291 dL_law_32 (by decide) (by decide) rfl (by decide) (law_3 ns n26 hi KK)
        · exact XW.tableIn 334 dL_law_32 (by decide) (by decide) rfl (by decide) (law_4 ns n26 hi KK)
        · exact XW.tableIn 367 dL_law_32 (by decide) (by decide) rfl (by decide) (law_5 ns n26 hi KK)
        · exact XW.tableIn 400 dL_law_32 (by decide) (by decide) rfl (by decide) (law_6 ns n26 hi KK)
        · exact XW.tableIn 433 dL_law_32 (by decide) (by decide) rfl (by decide) (law_7 ns n26 hi KK)
        · exact XW.tableIn 466 dL_law_32 (by decide) (by decide) rfl (by decide) (law_8 ns n26 hi KK)
        · exact XW.tableIn 489 dL_law_32 (by decide) (by decide) rfl (by decide) (law_9 ns n26 hi KK)
        · exact XW.tableIn 532 dL_law_32 (by decide) (by decide) rfl (by decide) (law_10 ns n26 hi KK)
        · exact XW.tableIn 575 dL_law_32 (by decide) (by decide) rfl (by decide) (law_11 ns n26 hi KK)
        · exact XW.tableIn 608 dL_law_32 (by decide) (by decide) rfl (by decide) (law_12 ns n26 hi KK)
        · exact XW.tableIn 631 dL_law_32 (by decide) (by decide) rfl (by decide) (law_13 ns n26 hi KK)
        · exact XW.tableIn 644 dL_law_32 (by decide) (by decide) rfl (by decide) (law_14 ns n26 hi KK)
        · exact XW.tableIn 667 dL_law_32 (by decide) (by decide) rfl (by decide) (law_15 ns n26 hi KK)
        · exact XW.tableIn 680 dL_law_32 (by decide) (by decide) rfl (by decide) (law_16 ns n26 hi KK)
        · exact XW.tableIn 693 dL_law_32 (by decide) (by decide) rfl (by decide) (law_17 ns n26 hi KK)
        · exact XW.tableIn 716 dL_law_32 (by decide) (by decide) rfl (by decide) (law_18 ns n26 hi KK)
        · exact XW.tableIn 749 dL_law_32 (by decide) (by decide) rfl (by decide) (law_19 ns n26 hi KK)
        · exact XW.tableIn 772 dL_law_32 (by decide) (by decide) rfl (by decide) (law_20 ns n26 hi KK)
        · exact XW.tableIn 795 dL_law_32 (by decide) (by decide) rfl (by decide) (law_21 ns n26 hi KK)
        · exact XW.tableIn 808 dL_law_32 (by decide) (by decide) rfl (by decide) (law_22 ns n26 hi KK)
        · exact XW.tableIn 821 dL_law_32 (by decide) (by decide) rfl (by decide) (law_23 ns n26 hi KK)
        · exact XW.tableIn 834 dL_law_32 (by decide) (by decide) rfl (by decide) (law_24 ns n26 hi KK)
        · exact XW.tableIn 857 dL_law_32 (by decide) (by decide) rfl (by decide) (law_25 ns n26 hi KK)
      · exact XW.tableOut 871 dL_law_32 (Or.inr (by rw [hji]; omega)) (by decide) (KK Z ns.sim)
