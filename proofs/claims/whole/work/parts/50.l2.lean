set_option maxRecDepth 100000 in
set_option maxHeartbeats 8000000 in
theorem law_loop {F : Fx} {G : Cx} {b Ln : Nat} {xs : Nat → Int32} (hN : 88 ≤ gN G) (X : CX F G cL_law RL) (hX : SX F G b Ln xs) (hR : fR F = room_1) (hnL : fnL F = 4) (hLn : Ln ≤ 2048) (kx : ∀ (S : Sx) (L : List (Option Value)), V F G S 526 L [.int 1]) : ∀ (fu i n bg : Nat) (S : Sx), i ≤ Ln + 4 → Ln + 8 - i < fu → IV S n bg → V F G S 18 [some (.ref b), some (ra G 0), some (ra G 80), some (.int (nI i))] [] := by
  intro fu
  induction fu with
  | zero => intro i n bg S h1 h2; omega
  | succ fu ih =>
    intro i n bg S hi hfu hI
    have hN0 : 0 < gN G := by omega
    have hN8 : 80 < gN G := by omega
    refine V_iload_n X dL_law_18 rfl ?_
    refine V_aloadR X dL_law_19 rfl ?_
    refine V_slen X hX dL_law_20 ?_
    refine V_iconst X (nI 4) dL_law_21 (by decide) ?_
    refine V_isub X dL_law_22 ?_
    refine V_icmp_gt X 525 dL_law_23 (by decide) (fun _ => ?_) (fun h23 => ?_)
    · refine V_iconst X 1 dL_law_525 (by decide) ?_
      exact kx _ _
    · have hle : i + 4 ≤ Ln := by
        rw [i_lt, sub4 hLn, t_k i (by omega)] at h23
        omega
      have nx : ∀ (S' : Sx), (∃ n' b', IV S' n' b') → V F G S' 519 [some (.ref b), some (ra G 0), some (ra G 80), some (.int (nI i))] [] := by
        rintro S' ⟨n', b', hI'⟩
        refine V_iinc X (nI (i + 4)) dL_law_519 (by rw [hnL]; decide) rfl (nI_add i 4) ?_
        refine V_goto X 18 dL_law_522 (by decide) ?_
        exact ih (i + 4) n' b' S' (by omega) (by omega) hI'
      refine V_aloadR X dL_law_26 rfl ?_
      refine V_iload_n X dL_law_27 rfl ?_
      refine V_sld X hX (by omega) hLn dL_law_28 ?_
      refine V_bipush X (nI 15) dL_law_29 (by decide) ?_
      refine V_iand X dL_law_31 ?_
      rcases sw0_13 (xs i &&& nI 15) with h | h | h | h | h | h | h | h | h | h | h | h | h | h
      · refine V_tabIn X 68 100 dL_law_32 (by rw [h]; decide) (by rw [h]; decide) (by rw [h]; rfl) (by decide) ?_
        obtain ⟨r, S1, S2, n2, b2, -, hc1, hc2, hI2⟩ := op_sign (G := G) (xs (i + 1)) hN hI
        refine V_aload_n X dL_law_100 rfl ?_
        refine V_aloadR X dL_law_101 rfl ?_
        refine V_iload_n X dL_law_102 rfl ?_
        refine V_iconst X (nI 1) dL_law_103 (by decide) ?_
        refine V_addN X dL_law_104 ?_
        refine V_sld X hX (by omega) hLn dL_law_105 ?_
        refine V_cvi X hN0 rfl rfl rfl hc1 cwL_13 rfl (by rw [hR]; exact ⟨by decide, by decide⟩) (Nat.le_of_ble_eq_true rfl) dL_law_106 ?_
        refine V_aload_n X dL_law_109 rfl ?_
        refine V_aloadR X dL_law_110 rfl ?_
        refine V_iload_n X dL_law_111 rfl ?_
        refine V_iconst X (nI 1) dL_law_112 (by decide) ?_
        refine V_addN X dL_law_113 ?_
        refine V_sld X hX (by omega) hLn dL_law_114 ?_
        refine V_cvi X hN8 rfl rfl rfl hc2 cwL_17 rfl (by rw [hR]; exact ⟨by decide, by decide⟩) (Nat.le_of_ble_eq_true rfl) dL_law_115 ?_
        refine V_icmp_eq X 519 dL_law_118 (by decide) (fun _ => nx _ ⟨n2, b2, hI2⟩) (fun h9 => absurd rfl h9)
      · refine V_tabIn X 91 123 dL_law_32 (by rw [h]; decide) (by rw [h]; decide) (by rw [h]; rfl) (by decide) ?_
        obtain ⟨r, S1, S2, n2, b2, -, hc1, hc2, hI2⟩ := op_back (G := G)  hN hI
        refine V_aload_n X dL_law_123 rfl ?_
        refine V_cvi X hN0 rfl rfl rfl hc1 cwL_18 rfl (by rw [hR]; exact ⟨by decide, by decide⟩) (Nat.le_of_ble_eq_true rfl) dL_law_124 ?_
        refine V_aload_n X dL_law_127 rfl ?_
        refine V_cvi X hN8 rfl rfl rfl hc2 cwL_22 rfl (by rw [hR]; exact ⟨by decide, by decide⟩) (Nat.le_of_ble_eq_true rfl) dL_law_128 ?_
        refine V_icmp_eq X 519 dL_law_131 (by decide) (fun _ => nx _ ⟨n2, b2, hI2⟩) (fun h9 => absurd rfl h9)
      · refine V_tabIn X 104 136 dL_law_32 (by rw [h]; decide) (by rw [h]; decide) (by rw [h]; rfl) (by decide) ?_
        obtain ⟨r, S1, hc1, P, hc2, hc3⟩ := op_told (G := G) (xs (i + 1)) (xs (i + 2)) hN hI
        refine V_aload_n X dL_law_136 rfl ?_
        refine V_aloadR X dL_law_137 rfl ?_
        refine V_iload_n X dL_law_138 rfl ?_
        refine V_iconst X (nI 1) dL_law_139 (by decide) ?_
        refine V_addN X dL_law_140 ?_
        refine V_sld X hX (by omega) hLn dL_law_141 ?_
        refine V_aloadR X dL_law_142 rfl ?_
        refine V_iload_n X dL_law_143 rfl ?_
        refine V_iconst X (nI 2) dL_law_144 (by decide) ?_
        refine V_addN X dL_law_145 ?_
        refine V_sld X hX (by omega) hLn dL_law_146 ?_
        refine V_cvi X hN0 rfl rfl rfl hc1 cwL_23 rfl (by rw [hR]; exact ⟨by decide, by decide⟩) (Nat.le_of_ble_eq_true rfl) dL_law_147 ?_
        refine V_aload_n X dL_law_150 rfl ?_
        refine V_aloadR X dL_law_151 rfl ?_
        refine V_iload_n X dL_law_152 rfl ?_
        refine V_iconst X (nI 1) dL_law_153 (by decide) ?_
        refine V_addN X dL_law_154 ?_
        refine V_sld X hX (by omega) hLn dL_law_155 ?_
        refine V_aloadR X dL_law_156 rfl ?_
        refine V_iload_n X dL_law_157 rfl ?_
        refine V_iconst X (nI 2) dL_law_158 (by decide) ?_
        refine V_addN X dL_law_159 ?_
        refine V_sld X hX (by omega) hLn dL_law_160 ?_
        refine V_cvip X hN8 rfl rfl rfl hc2 cwL_27 rfl (by rw [hR]; exact ⟨by decide, by decide⟩) (Nat.le_of_ble_eq_true rfl) dL_law_161 (fun r2 S2 hp => ?_)
        obtain ⟨e9, hI2⟩ := hc3 r2 S2 hp
        refine V_icmp_eq X 519 dL_law_164 (by decide) (fun _ => nx _ hI2) (fun h9 => absurd e9.symm h9)
      · refine V_tabIn X 137 169 dL_law_32 (by rw [h]; decide) (by rw [h]; decide) (by rw [h]; rfl) (by decide) ?_
        obtain ⟨r, S1, hc1, P, hc2, hc3⟩ := op_readings (G := G) (xs (i + 1)) hN hI
        refine V_aload_n X dL_law_169 rfl ?_
        refine V_aloadR X dL_law_170 rfl ?_
        refine V_iload_n X dL_law_171 rfl ?_
        refine V_iconst X (nI 1) dL_law_172 (by decide) ?_
        refine V_addN X dL_law_173 ?_
        refine V_sld X hX (by omega) hLn dL_law_174 ?_
        refine V_cvi X hN0 rfl rfl rfl hc1 cwL_28 rfl (by rw [hR]; exact ⟨by decide, by decide⟩) (Nat.le_of_ble_eq_true rfl) dL_law_175 ?_
        refine V_aload_n X dL_law_178 rfl ?_
        refine V_aloadR X dL_law_179 rfl ?_
        refine V_iload_n X dL_law_180 rfl ?_
        refine V_iconst X (nI 1) dL_law_181 (by decide) ?_
        refine V_addN X dL_law_182 ?_
        refine V_sld X hX (by omega) hLn dL_law_183 ?_
        refine V_cvip X hN8 rfl rfl rfl hc2 cwL_32 rfl (by rw [hR]; exact ⟨by decide, by decide⟩) (Nat.le_of_ble_eq_true rfl) dL_law_184 (fun r2 S2 hp => ?_)
        obtain ⟨e9, hI2⟩ := hc3 r2 S2 hp
        refine V_icmp_eq X 519 dL_law_187 (by decide) (fun _ => nx _ hI2) (fun h9 => absurd e9.symm h9)
      · refine V_tabIn X 160 192 dL_law_32 (by rw [h]; decide) (by rw [h]; decide) (by rw [h]; rfl) (by decide) ?_
        obtain ⟨r, S1, hc1, P, hc2, hc3⟩ := op_means (G := G) (xs (i + 1)) (xs (i + 2)) (xs (i + 3)) hN hI
        refine V_aload_n X dL_law_192 rfl ?_
        refine V_aloadR X dL_law_193 rfl ?_
        refine V_iload_n X dL_law_194 rfl ?_
        refine V_iconst X (nI 1) dL_law_195 (by decide) ?_
        refine V_addN X dL_law_196 ?_
        refine V_sld X hX (by omega) hLn dL_law_197 ?_
        refine V_aloadR X dL_law_198 rfl ?_
        refine V_iload_n X dL_law_199 rfl ?_
        refine V_iconst X (nI 2) dL_law_200 (by decide) ?_
        refine V_addN X dL_law_201 ?_
        refine V_sld X hX (by omega) hLn dL_law_202 ?_
        refine V_aloadR X dL_law_203 rfl ?_
        refine V_iload_n X dL_law_204 rfl ?_
        refine V_iconst X (nI 3) dL_law_205 (by decide) ?_
        refine V_addN X dL_law_206 ?_
        refine V_sld X hX (by omega) hLn dL_law_207 ?_
        refine V_cvi X hN0 rfl rfl rfl hc1 cwL_33 rfl (by rw [hR]; exact ⟨by decide, by decide⟩) (Nat.le_of_ble_eq_true rfl) dL_law_208 ?_
        refine V_aload_n X dL_law_211 rfl ?_
        refine V_aloadR X dL_law_212 rfl ?_
        refine V_iload_n X dL_law_213 rfl ?_
        refine V_iconst X (nI 1) dL_law_214 (by decide) ?_
        refine V_addN X dL_law_215 ?_
        refine V_sld X hX (by omega) hLn dL_law_216 ?_
        refine V_aloadR X dL_law_217 rfl ?_
        refine V_iload_n X dL_law_218 rfl ?_
        refine V_iconst X (nI 2) dL_law_219 (by decide) ?_
        refine V_addN X dL_law_220 ?_
        refine V_sld X hX (by omega) hLn dL_law_221 ?_
        refine V_aloadR X dL_law_222 rfl ?_
        refine V_iload_n X dL_law_223 rfl ?_
        refine V_iconst X (nI 3) dL_law_224 (by decide) ?_
        refine V_addN X dL_law_225 ?_
        refine V_sld X hX (by omega) hLn dL_law_226 ?_
        refine V_cvip X hN8 rfl rfl rfl hc2 cwL_37 rfl (by rw [hR]; exact ⟨by decide, by decide⟩) (Nat.le_of_ble_eq_true rfl) dL_law_227 (fun r2 S2 hp => ?_)
        obtain ⟨e9, hI2⟩ := hc3 r2 S2 hp
        refine V_icmp_eq X 519 dL_law_230 (by decide) (fun _ => nx _ hI2) (fun h9 => absurd e9.symm h9)
      · refine V_tabIn X 203 235 dL_law_32 (by rw [h]; decide) (by rw [h]; decide) (by rw [h]; rfl) (by decide) ?_
        obtain ⟨r, S1, hc1, P, hc2, hc3⟩ := op_answer (G := G) (xs (i + 1)) (xs (i + 2)) (xs (i + 3)) hN hI
        refine V_aload_n X dL_law_235 rfl ?_
        refine V_aloadR X dL_law_236 rfl ?_
        refine V_iload_n X dL_law_237 rfl ?_
        refine V_iconst X (nI 1) dL_law_238 (by decide) ?_
        refine V_addN X dL_law_239 ?_
        refine V_sld X hX (by omega) hLn dL_law_240 ?_
        refine V_aloadR X dL_law_241 rfl ?_
        refine V_iload_n X dL_law_242 rfl ?_
        refine V_iconst X (nI 2) dL_law_243 (by decide) ?_
        refine V_addN X dL_law_244 ?_
        refine V_sld X hX (by omega) hLn dL_law_245 ?_
        refine V_aloadR X dL_law_246 rfl ?_
        refine V_iload_n X dL_law_247 rfl ?_
        refine V_iconst X (nI 3) dL_law_248 (by decide) ?_
        refine V_addN X dL_law_249 ?_
        refine V_sld X hX (by omega) hLn dL_law_250 ?_
        refine V_cvi X hN0 rfl rfl rfl hc1 cwL_38 rfl (by rw [hR]; exact ⟨by decide, by decide⟩) (Nat.le_of_ble_eq_true rfl) dL_law_251 ?_
        refine V_aload_n X dL_law_254 rfl ?_
        refine V_aloadR X dL_law_255 rfl ?_
        refine V_iload_n X dL_law_256 rfl ?_
        refine V_iconst X (nI 1) dL_law_257 (by decide) ?_
        refine V_addN X dL_law_258 ?_
        refine V_sld X hX (by omega) hLn dL_law_259 ?_
        refine V_aloadR X dL_law_260 rfl ?_
        refine V_iload_n X dL_law_261 rfl ?_
        refine V_iconst X (nI 2) dL_law_262 (by decide) ?_
        refine V_addN X dL_law_263 ?_
        refine V_sld X hX (by omega) hLn dL_law_264 ?_
        refine V_aloadR X dL_law_265 rfl ?_
        refine V_iload_n X dL_law_266 rfl ?_
        refine V_iconst X (nI 3) dL_law_267 (by decide) ?_
        refine V_addN X dL_law_268 ?_
        refine V_sld X hX (by omega) hLn dL_law_269 ?_
        refine V_cvip X hN8 rfl rfl rfl hc2 cwL_41 rfl (by rw [hR]; exact ⟨by decide, by decide⟩) (Nat.le_of_ble_eq_true rfl) dL_law_270 (fun r2 S2 hp => ?_)
        obtain ⟨e9, hI2⟩ := hc3 r2 S2 hp
        refine V_icmp_eq X 519 dL_law_273 (by decide) (fun _ => nx _ hI2) (fun h9 => absurd e9.symm h9)
      · refine V_tabIn X 246 278 dL_law_32 (by rw [h]; decide) (by rw [h]; decide) (by rw [h]; rfl) (by decide) ?_
        obtain ⟨r, S1, hc1, P, hc2, hc3⟩ := op_level (G := G) (xs (i + 1)) (xs (i + 2)) (xs (i + 3)) hN hI
        refine V_aload_n X dL_law_278 rfl ?_
        refine V_aloadR X dL_law_279 rfl ?_
        refine V_iload_n X dL_law_280 rfl ?_
        refine V_iconst X (nI 1) dL_law_281 (by decide) ?_
        refine V_addN X dL_law_282 ?_
        refine V_sld X hX (by omega) hLn dL_law_283 ?_
        refine V_aloadR X dL_law_284 rfl ?_
        refine V_iload_n X dL_law_285 rfl ?_
        refine V_iconst X (nI 2) dL_law_286 (by decide) ?_
        refine V_addN X dL_law_287 ?_
        refine V_sld X hX (by omega) hLn dL_law_288 ?_
        refine V_aloadR X dL_law_289 rfl ?_
        refine V_iload_n X dL_law_290 rfl ?_
        refine V_iconst X (nI 3) dL_law_291 (by decide) ?_
        refine V_addN X dL_law_292 ?_
        refine V_sld X hX (by omega) hLn dL_law_293 ?_
        refine V_cvi X hN0 rfl rfl rfl hc1 cwL_42 rfl (by rw [hR]; exact ⟨by decide, by decide⟩) (Nat.le_of_ble_eq_true rfl) dL_law_294 ?_
        refine V_aload_n X dL_law_297 rfl ?_
        refine V_aloadR X dL_law_298 rfl ?_
        refine V_iload_n X dL_law_299 rfl ?_
        refine V_iconst X (nI 1) dL_law_300 (by decide) ?_
        refine V_addN X dL_law_301 ?_
        refine V_sld X hX (by omega) hLn dL_law_302 ?_
        refine V_aloadR X dL_law_303 rfl ?_
        refine V_iload_n X dL_law_304 rfl ?_
        refine V_iconst X (nI 2) dL_law_305 (by decide) ?_
        refine V_addN X dL_law_306 ?_
        refine V_sld X hX (by omega) hLn dL_law_307 ?_
        refine V_aloadR X dL_law_308 rfl ?_
        refine V_iload_n X dL_law_309 rfl ?_
        refine V_iconst X (nI 3) dL_law_310 (by decide) ?_
        refine V_addN X dL_law_311 ?_
        refine V_sld X hX (by omega) hLn dL_law_312 ?_
        refine V_cvip X hN8 rfl rfl rfl hc2 cwL_45 rfl (by rw [hR]; exact ⟨by decide, by decide⟩) (Nat.le_of_ble_eq_true rfl) dL_law_313 (fun r2 S2 hp => ?_)
        obtain ⟨e9, hI2⟩ := hc3 r2 S2 hp
        refine V_icmp_eq X 519 dL_law_316 (by decide) (fun _ => nx _ hI2) (fun h9 => absurd e9.symm h9)
      · refine V_tabIn X 289 321 dL_law_32 (by rw [h]; decide) (by rw [h]; decide) (by rw [h]; rfl) (by decide) ?_
        obtain ⟨r, S1, hc1, P, hc2, hc3⟩ := op_grounds (G := G) (xs (i + 1)) (xs (i + 2)) (xs (i + 3)) hN hI
        refine V_aload_n X dL_law_321 rfl ?_
        refine V_aloadR X dL_law_322 rfl ?_
        refine V_iload_n X dL_law_323 rfl ?_
        refine V_iconst X (nI 1) dL_law_324 (by decide) ?_
        refine V_addN X dL_law_325 ?_
        refine V_sld X hX (by omega) hLn dL_law_326 ?_
        refine V_aloadR X dL_law_327 rfl ?_
        refine V_iload_n X dL_law_328 rfl ?_
        refine V_iconst X (nI 2) dL_law_329 (by decide) ?_
        refine V_addN X dL_law_330 ?_
        refine V_sld X hX (by omega) hLn dL_law_331 ?_
        refine V_aloadR X dL_law_332 rfl ?_
        refine V_iload_n X dL_law_333 rfl ?_
        refine V_iconst X (nI 3) dL_law_334 (by decide) ?_
        refine V_addN X dL_law_335 ?_
        refine V_sld X hX (by omega) hLn dL_law_336 ?_
        refine V_cvi X hN0 rfl rfl rfl hc1 cwL_46 rfl (by rw [hR]; exact ⟨by decide, by decide⟩) (Nat.le_of_ble_eq_true rfl) dL_law_337 ?_
        refine V_aload_n X dL_law_340 rfl ?_
        refine V_aloadR X dL_law_341 rfl ?_
        refine V_iload_n X dL_law_342 rfl ?_
        refine V_iconst X (nI 1) dL_law_343 (by decide) ?_
        refine V_addN X dL_law_344 ?_
        refine V_sld X hX (by omega) hLn dL_law_345 ?_
        refine V_aloadR X dL_law_346 rfl ?_
        refine V_iload_n X dL_law_347 rfl ?_
        refine V_iconst X (nI 2) dL_law_348 (by decide) ?_
        refine V_addN X dL_law_349 ?_
        refine V_sld X hX (by omega) hLn dL_law_350 ?_
        refine V_aloadR X dL_law_351 rfl ?_
        refine V_iload_n X dL_law_352 rfl ?_
        refine V_iconst X (nI 3) dL_law_353 (by decide) ?_
        refine V_addN X dL_law_354 ?_
        refine V_sld X hX (by omega) hLn dL_law_355 ?_
        refine V_cvip X hN8 rfl rfl rfl hc2 cwL_49 rfl (by rw [hR]; exact ⟨by decide, by decide⟩) (Nat.le_of_ble_eq_true rfl) dL_law_356 (fun r2 S2 hp => ?_)
        obtain ⟨e9, hI2⟩ := hc3 r2 S2 hp
        refine V_icmp_eq X 519 dL_law_359 (by decide) (fun _ => nx _ hI2) (fun h9 => absurd e9.symm h9)
      · refine V_tabIn X 332 364 dL_law_32 (by rw [h]; decide) (by rw [h]; decide) (by rw [h]; rfl) (by decide) ?_
        obtain ⟨r, S1, hc1, P, hc2, hc3⟩ := op_judge (G := G) (xs (i + 1)) (xs (i + 2)) (xs (i + 3)) hN hI
        refine V_aload_n X dL_law_364 rfl ?_
        refine V_aloadR X dL_law_365 rfl ?_
        refine V_iload_n X dL_law_366 rfl ?_
        refine V_iconst X (nI 1) dL_law_367 (by decide) ?_
        refine V_addN X dL_law_368 ?_
        refine V_sld X hX (by omega) hLn dL_law_369 ?_
        refine V_aloadR X dL_law_370 rfl ?_
        refine V_iload_n X dL_law_371 rfl ?_
        refine V_iconst X (nI 2) dL_law_372 (by decide) ?_
        refine V_addN X dL_law_373 ?_
        refine V_sld X hX (by omega) hLn dL_law_374 ?_
        refine V_aloadR X dL_law_375 rfl ?_
        refine V_iload_n X dL_law_376 rfl ?_
        refine V_iconst X (nI 3) dL_law_377 (by decide) ?_
        refine V_addN X dL_law_378 ?_
        refine V_sld X hX (by omega) hLn dL_law_379 ?_
        refine V_cvi X hN0 rfl rfl rfl hc1 cwL_50 rfl (by rw [hR]; exact ⟨by decide, by decide⟩) (Nat.le_of_ble_eq_true rfl) dL_law_380 ?_
        refine V_aload_n X dL_law_383 rfl ?_
        refine V_aloadR X dL_law_384 rfl ?_
        refine V_iload_n X dL_law_385 rfl ?_
        refine V_iconst X (nI 1) dL_law_386 (by decide) ?_
        refine V_addN X dL_law_387 ?_
        refine V_sld X hX (by omega) hLn dL_law_388 ?_
        refine V_aloadR X dL_law_389 rfl ?_
        refine V_iload_n X dL_law_390 rfl ?_
        refine V_iconst X (nI 2) dL_law_391 (by decide) ?_
        refine V_addN X dL_law_392 ?_
        refine V_sld X hX (by omega) hLn dL_law_393 ?_
        refine V_aloadR X dL_law_394 rfl ?_
        refine V_iload_n X dL_law_395 rfl ?_
        refine V_iconst X (nI 3) dL_law_396 (by decide) ?_
        refine V_addN X dL_law_397 ?_
        refine V_sld X hX (by omega) hLn dL_law_398 ?_
        refine V_cvip X hN8 rfl rfl rfl hc2 cwL_53 rfl (by rw [hR]; exact ⟨by decide, by decide⟩) (Nat.le_of_ble_eq_true rfl) dL_law_399 (fun r2 S2 hp => ?_)
        obtain ⟨e9, hI2⟩ := hc3 r2 S2 hp
        refine V_icmp_eq X 519 dL_law_402 (by decide) (fun _ => nx _ hI2) (fun h9 => absurd e9.symm h9)
      · refine V_tabIn X 375 407 dL_law_32 (by rw [h]; decide) (by rw [h]; decide) (by rw [h]; rfl) (by decide) ?_
        obtain ⟨r, S1, hc1, P, hc2, hc3⟩ := op_asks (G := G) (xs (i + 1)) (xs (i + 2)) hN hI
        refine V_aload_n X dL_law_407 rfl ?_
        refine V_aloadR X dL_law_408 rfl ?_
        refine V_iload_n X dL_law_409 rfl ?_
        refine V_iconst X (nI 1) dL_law_410 (by decide) ?_
        refine V_addN X dL_law_411 ?_
        refine V_sld X hX (by omega) hLn dL_law_412 ?_
        refine V_aloadR X dL_law_413 rfl ?_
        refine V_iload_n X dL_law_414 rfl ?_
        refine V_iconst X (nI 2) dL_law_415 (by decide) ?_
        refine V_addN X dL_law_416 ?_
        refine V_sld X hX (by omega) hLn dL_law_417 ?_
        refine V_cvi X hN0 rfl rfl rfl hc1 cwL_54 rfl (by rw [hR]; exact ⟨by decide, by decide⟩) (Nat.le_of_ble_eq_true rfl) dL_law_418 ?_
        refine V_aload_n X dL_law_421 rfl ?_
        refine V_aloadR X dL_law_422 rfl ?_
        refine V_iload_n X dL_law_423 rfl ?_
        refine V_iconst X (nI 1) dL_law_424 (by decide) ?_
        refine V_addN X dL_law_425 ?_
        refine V_sld X hX (by omega) hLn dL_law_426 ?_
        refine V_aloadR X dL_law_427 rfl ?_
        refine V_iload_n X dL_law_428 rfl ?_
        refine V_iconst X (nI 2) dL_law_429 (by decide) ?_
        refine V_addN X dL_law_430 ?_
        refine V_sld X hX (by omega) hLn dL_law_431 ?_
        refine V_cvip X hN8 rfl rfl rfl hc2 cwL_57 rfl (by rw [hR]; exact ⟨by decide, by decide⟩) (Nat.le_of_ble_eq_true rfl) dL_law_432 (fun r2 S2 hp => ?_)
        obtain ⟨e9, hI2⟩ := hc3 r2 S2 hp
        refine V_icmp_eq X 519 dL_law_435 (by decide) (fun _ => nx _ hI2) (fun h9 => absurd e9.symm h9)
      · refine V_tabIn X 408 440 dL_law_32 (by rw [h]; decide) (by rw [h]; decide) (by rw [h]; rfl) (by decide) ?_
        obtain ⟨r, S1, hc1, P, hc2, hc3⟩ := op_fewest (G := G)  hN hI
        refine V_aload_n X dL_law_440 rfl ?_
        refine V_cvi X hN0 rfl rfl rfl hc1 cwL_58 rfl (by rw [hR]; exact ⟨by decide, by decide⟩) (Nat.le_of_ble_eq_true rfl) dL_law_441 ?_
        refine V_aload_n X dL_law_444 rfl ?_
        refine V_cvip X hN8 rfl rfl rfl hc2 cwL_62 rfl (by rw [hR]; exact ⟨by decide, by decide⟩) (Nat.le_of_ble_eq_true rfl) dL_law_445 (fun r2 S2 hp => ?_)
        obtain ⟨e9, hI2⟩ := hc3 r2 S2 hp
        refine V_icmp_eq X 519 dL_law_448 (by decide) (fun _ => nx _ hI2) (fun h9 => absurd e9.symm h9)
      · refine V_tabIn X 421 453 dL_law_32 (by rw [h]; decide) (by rw [h]; decide) (by rw [h]; rfl) (by decide) ?_
        obtain ⟨r, S1, hc1, P, hc2, hc3⟩ := op_wrong (G := G) (xs (i + 1)) (xs (i + 2)) (xs (i + 3)) hN hI
        refine V_aload_n X dL_law_453 rfl ?_
        refine V_aloadR X dL_law_454 rfl ?_
        refine V_iload_n X dL_law_455 rfl ?_
        refine V_iconst X (nI 1) dL_law_456 (by decide) ?_
        refine V_addN X dL_law_457 ?_
        refine V_sld X hX (by omega) hLn dL_law_458 ?_
        refine V_aloadR X dL_law_459 rfl ?_
        refine V_iload_n X dL_law_460 rfl ?_
        refine V_iconst X (nI 2) dL_law_461 (by decide) ?_
        refine V_addN X dL_law_462 ?_
        refine V_sld X hX (by omega) hLn dL_law_463 ?_
        refine V_aloadR X dL_law_464 rfl ?_
        refine V_iload_n X dL_law_465 rfl ?_
        refine V_iconst X (nI 3) dL_law_466 (by decide) ?_
        refine V_addN X dL_law_467 ?_
        refine V_sld X hX (by omega) hLn dL_law_468 ?_
        refine V_cvi X hN0 rfl rfl rfl hc1 cwL_63 rfl (by rw [hR]; exact ⟨by decide, by decide⟩) (Nat.le_of_ble_eq_true rfl) dL_law_469 ?_
        refine V_aload_n X dL_law_472 rfl ?_
        refine V_aloadR X dL_law_473 rfl ?_
        refine V_iload_n X dL_law_474 rfl ?_
        refine V_iconst X (nI 1) dL_law_475 (by decide) ?_
        refine V_addN X dL_law_476 ?_
        refine V_sld X hX (by omega) hLn dL_law_477 ?_
        refine V_aloadR X dL_law_478 rfl ?_
        refine V_iload_n X dL_law_479 rfl ?_
        refine V_iconst X (nI 2) dL_law_480 (by decide) ?_
        refine V_addN X dL_law_481 ?_
        refine V_sld X hX (by omega) hLn dL_law_482 ?_
        refine V_aloadR X dL_law_483 rfl ?_
        refine V_iload_n X dL_law_484 rfl ?_
        refine V_iconst X (nI 3) dL_law_485 (by decide) ?_
        refine V_addN X dL_law_486 ?_
        refine V_sld X hX (by omega) hLn dL_law_487 ?_
        refine V_cvip X hN8 rfl rfl rfl hc2 cwL_66 rfl (by rw [hR]; exact ⟨by decide, by decide⟩) (Nat.le_of_ble_eq_true rfl) dL_law_488 (fun r2 S2 hp => ?_)
        obtain ⟨e9, hI2⟩ := hc3 r2 S2 hp
        refine V_icmp_eq X 519 dL_law_491 (by decide) (fun _ => nx _ hI2) (fun h9 => absurd e9.symm h9)
      · refine V_tabIn X 464 496 dL_law_32 (by rw [h]; decide) (by rw [h]; decide) (by rw [h]; rfl) (by decide) ?_
        obtain ⟨r, S1, hc1, P, hc2, hc3⟩ := op_count (G := G) (xs (i + 1)) hN hI
        refine V_aload_n X dL_law_496 rfl ?_
        refine V_aloadR X dL_law_497 rfl ?_
        refine V_iload_n X dL_law_498 rfl ?_
        refine V_iconst X (nI 1) dL_law_499 (by decide) ?_
        refine V_addN X dL_law_500 ?_
        refine V_sld X hX (by omega) hLn dL_law_501 ?_
        refine V_cvi X hN0 rfl rfl rfl hc1 cwL_67 rfl (by rw [hR]; exact ⟨by decide, by decide⟩) (Nat.le_of_ble_eq_true rfl) dL_law_502 ?_
        refine V_aload_n X dL_law_505 rfl ?_
        refine V_aloadR X dL_law_506 rfl ?_
        refine V_iload_n X dL_law_507 rfl ?_
        refine V_iconst X (nI 1) dL_law_508 (by decide) ?_
        refine V_addN X dL_law_509 ?_
        refine V_sld X hX (by omega) hLn dL_law_510 ?_
        refine V_cvip X hN8 rfl rfl rfl hc2 cwL_70 rfl (by rw [hR]; exact ⟨by decide, by decide⟩) (Nat.le_of_ble_eq_true rfl) dL_law_511 (fun r2 S2 hp => ?_)
        obtain ⟨e9, hI2⟩ := hc3 r2 S2 hp
        refine V_icmp_eq X 519 dL_law_514 (by decide) (fun _ => nx _ hI2) (fun h9 => absurd e9.symm h9)
      · refine V_tabOut X 519 dL_law_32 h (by decide) ?_
        exact nx S ⟨n, bg, hI⟩
