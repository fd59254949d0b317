/-! THE LAW, part 2: a round of its loop *-/
section LAW
variable {LS : Nat} {rm : Nat → Nat → Option Nat} {K : Nat} {im : Nat → Nat → Int32} {P : Option Value → (Nat → Nat → Int32) → Prop} {i : Nat}
theorem ai_1 (i : Nat) : nI i + 1 = nI (i + 1) := nI_add i 1
theorem ai_2 (i : Nat) : nI i + 2 = nI (i + 2) := nI_add i 2
theorem ai_3 (i : Nat) : nI i + 3 = nI (i + 3) := nI_add i 3
theorem ai_4 (i : Nat) : nI i + 4 = nI (i + 4) := nI_add i 4
set_option maxRecDepth 20000 in
set_option maxHeartbeats 4000000 in
theorem q_0 (hM : isLd LS rm) (hO : isMo LS rm) (hI : Inv K im) (hi : i + 4 ≤ LS) (hLS : LS ≤ 300000) (h : ∀ im', Inv (K + 1) im' → Gm LS rm 123 730 [.ref 0, .ref 1, .ref 371, .int (nI i)] [] im' P) : Gm LS rm 123 120 [.ref 0, .ref 1, .ref 371, .int (nI i)] [] im P := by
  refine g_aload_n k123_120 rfl ?_
  refine g_aload_n k123_121 rfl ?_
  refine g_iload_n k123_122 rfl ?_
  refine g_iconst (v := 1) k123_123 ic_1 ?_
  refine g_iadd k123_124 ?_
  refine g_top (y := nI (i + 1)) (ai_1 i) ?_
  refine g_sal (v := im 0 (i + 1)) k123_125 (by omega) (by omega) (rfl) ?_
  refine g_aload_n k123_126 rfl ?_
  refine g_iload_n k123_127 rfl ?_
  refine g_iconst (v := 2) k123_128 ic_2 ?_
  refine g_iadd k123_129 ?_
  refine g_top (y := nI (i + 2)) (ai_2 i) ?_
  refine g_sal (v := im 0 (i + 2)) k123_130 (by omega) (by omega) (rfl) ?_
  refine g_aload_n k123_131 rfl ?_
  refine g_iload_n k123_132 rfl ?_
  refine g_iconst (v := 3) k123_133 ic_3 ?_
  refine g_iadd k123_134 ?_
  refine g_top (y := nI (i + 3)) (ai_3 i) ?_
  refine g_sal (v := im 0 (i + 3)) k123_135 (by omega) (by omega) (rfl) ?_
  refine g_inv3 k123_136 (hM.1.1) rfl rfl rfl (by decide) (Nat.le_of_ble_eq_true rfl) (g_keep (g_mono (fun r im1 hk hkp => ?_) (p_1 hM hO hI)))
  obtain ⟨v, rfl, hk⟩ := hk
  refine g_aload_n k123_139 rfl ?_
  refine g_aload_n k123_140 rfl ?_
  refine g_iload_n k123_141 rfl ?_
  refine g_iconst (v := 1) k123_142 ic_1 ?_
  refine g_iadd k123_143 ?_
  refine g_top (y := nI (i + 1)) (ai_1 i) ?_
  refine g_sal (v := im 0 (i + 1)) k123_144 (by omega) (by omega) (hkp _ (by omega)) ?_
  refine g_aload_n k123_145 rfl ?_
  refine g_iload_n k123_146 rfl ?_
  refine g_iconst (v := 2) k123_147 ic_2 ?_
  refine g_iadd k123_148 ?_
  refine g_top (y := nI (i + 2)) (ai_2 i) ?_
  refine g_sal (v := im 0 (i + 2)) k123_149 (by omega) (by omega) (hkp _ (by omega)) ?_
  refine g_aload_n k123_150 rfl ?_
  refine g_iload_n k123_151 rfl ?_
  refine g_iconst (v := 3) k123_152 ic_3 ?_
  refine g_iadd k123_153 ?_
  refine g_top (y := nI (i + 3)) (ai_3 i) ?_
  refine g_sal (v := im 0 (i + 3)) k123_154 (by omega) (by omega) (hkp _ (by omega)) ?_
  refine g_inv3 k123_155 (sM371) rfl rfl rfl (by decide) (Nat.le_of_ble_eq_true rfl) (g_mono (fun r2 im2 hk2 => ?_) hk)
  obtain ⟨rfl, hI2⟩ := hk2
  exact g_icmp_eq k123_158 (fun _ => h im2 hI2) (fun z => absurd rfl z)
set_option maxRecDepth 20000 in
set_option maxHeartbeats 4000000 in
theorem q_1 (hM : isLd LS rm) (hO : isMo LS rm) (hI : Inv K im) (hi : i + 4 ≤ LS) (hLS : LS ≤ 300000) (h : ∀ im', Inv (K + 1) im' → Gm LS rm 123 730 [.ref 0, .ref 1, .ref 371, .int (nI i)] [] im' P) : Gm LS rm 123 163 [.ref 0, .ref 1, .ref 371, .int (nI i)] [] im P := by
  refine g_aload_n k123_163 rfl ?_
  refine g_aload_n k123_164 rfl ?_
  refine g_iload_n k123_165 rfl ?_
  refine g_iconst (v := 1) k123_166 ic_1 ?_
  refine g_iadd k123_167 ?_
  refine g_top (y := nI (i + 1)) (ai_1 i) ?_
  refine g_sal (v := im 0 (i + 1)) k123_168 (by omega) (by omega) (rfl) ?_
  refine g_aload_n k123_169 rfl ?_
  refine g_iload_n k123_170 rfl ?_
  refine g_iconst (v := 2) k123_171 ic_2 ?_
  refine g_iadd k123_172 ?_
  refine g_top (y := nI (i + 2)) (ai_2 i) ?_
  refine g_sal (v := im 0 (i + 2)) k123_173 (by omega) (by omega) (rfl) ?_
  refine g_aload_n k123_174 rfl ?_
  refine g_iload_n k123_175 rfl ?_
  refine g_iconst (v := 3) k123_176 ic_3 ?_
  refine g_iadd k123_177 ?_
  refine g_top (y := nI (i + 3)) (ai_3 i) ?_
  refine g_sal (v := im 0 (i + 3)) k123_178 (by omega) (by omega) (rfl) ?_
  refine g_inv3 k123_179 (hM.1.1) rfl rfl rfl (by decide) (Nat.le_of_ble_eq_true rfl) (g_keep (g_mono (fun r im1 hk hkp => ?_) (p_2 hM hO hI)))
  obtain ⟨v, rfl, hk⟩ := hk
  refine g_aload_n k123_182 rfl ?_
  refine g_aload_n k123_183 rfl ?_
  refine g_iload_n k123_184 rfl ?_
  refine g_iconst (v := 1) k123_185 ic_1 ?_
  refine g_iadd k123_186 ?_
  refine g_top (y := nI (i + 1)) (ai_1 i) ?_
  refine g_sal (v := im 0 (i + 1)) k123_187 (by omega) (by omega) (hkp _ (by omega)) ?_
  refine g_aload_n k123_188 rfl ?_
  refine g_iload_n k123_189 rfl ?_
  refine g_iconst (v := 2) k123_190 ic_2 ?_
  refine g_iadd k123_191 ?_
  refine g_top (y := nI (i + 2)) (ai_2 i) ?_
  refine g_sal (v := im 0 (i + 2)) k123_192 (by omega) (by omega) (hkp _ (by omega)) ?_
  refine g_aload_n k123_193 rfl ?_
  refine g_iload_n k123_194 rfl ?_
  refine g_iconst (v := 3) k123_195 ic_3 ?_
  refine g_iadd k123_196 ?_
  refine g_top (y := nI (i + 3)) (ai_3 i) ?_
  refine g_sal (v := im 0 (i + 3)) k123_197 (by omega) (by omega) (hkp _ (by omega)) ?_
  refine g_inv3 k123_198 (sM371) rfl rfl rfl (by decide) (Nat.le_of_ble_eq_true rfl) (g_mono (fun r2 im2 hk2 => ?_) hk)
  obtain ⟨rfl, hI2⟩ := hk2
  exact g_icmp_eq k123_201 (fun _ => h im2 hI2) (fun z => absurd rfl z)
set_option maxRecDepth 20000 in
set_option maxHeartbeats 4000000 in
theorem q_2 (hM : isLd LS rm) (hO : isMo LS rm) (hI : Inv K im) (hi : i + 4 ≤ LS) (hLS : LS ≤ 300000) (h : ∀ im', Inv (K + 1) im' → Gm LS rm 123 730 [.ref 0, .ref 1, .ref 371, .int (nI i)] [] im' P) : Gm LS rm 123 206 [.ref 0, .ref 1, .ref 371, .int (nI i)] [] im P := by
  refine g_aload_n k123_206 rfl ?_
  refine g_aload_n k123_207 rfl ?_
  refine g_iload_n k123_208 rfl ?_
  refine g_iconst (v := 1) k123_209 ic_1 ?_
  refine g_iadd k123_210 ?_
  refine g_top (y := nI (i + 1)) (ai_1 i) ?_
  refine g_sal (v := im 0 (i + 1)) k123_211 (by omega) (by omega) (rfl) ?_
  refine g_aload_n k123_212 rfl ?_
  refine g_iload_n k123_213 rfl ?_
  refine g_iconst (v := 2) k123_214 ic_2 ?_
  refine g_iadd k123_215 ?_
  refine g_top (y := nI (i + 2)) (ai_2 i) ?_
  refine g_sal (v := im 0 (i + 2)) k123_216 (by omega) (by omega) (rfl) ?_
  refine g_inv2 k123_217 (hM.1.1) rfl rfl (by decide) (Nat.le_of_ble_eq_true rfl) (g_keep (g_mono (fun r im1 hk hkp => ?_) (p_3 hM hO hI)))
  obtain ⟨v, rfl, hk⟩ := hk
  refine g_aload_n k123_220 rfl ?_
  refine g_aload_n k123_221 rfl ?_
  refine g_iload_n k123_222 rfl ?_
  refine g_iconst (v := 1) k123_223 ic_1 ?_
  refine g_iadd k123_224 ?_
  refine g_top (y := nI (i + 1)) (ai_1 i) ?_
  refine g_sal (v := im 0 (i + 1)) k123_225 (by omega) (by omega) (hkp _ (by omega)) ?_
  refine g_aload_n k123_226 rfl ?_
  refine g_iload_n k123_227 rfl ?_
  refine g_iconst (v := 2) k123_228 ic_2 ?_
  refine g_iadd k123_229 ?_
  refine g_top (y := nI (i + 2)) (ai_2 i) ?_
  refine g_sal (v := im 0 (i + 2)) k123_230 (by omega) (by omega) (hkp _ (by omega)) ?_
  refine g_inv2 k123_231 (sM371) rfl rfl (by decide) (Nat.le_of_ble_eq_true rfl) (g_mono (fun r2 im2 hk2 => ?_) hk)
  obtain ⟨rfl, hI2⟩ := hk2
  exact g_icmp_eq k123_234 (fun _ => h im2 hI2) (fun z => absurd rfl z)
set_option maxRecDepth 20000 in
set_option maxHeartbeats 4000000 in
theorem q_3 (hM : isLd LS rm) (hO : isMo LS rm) (hI : Inv K im) (hi : i + 4 ≤ LS) (hLS : LS ≤ 300000) (h : ∀ im', Inv (K + 1) im' → Gm LS rm 123 730 [.ref 0, .ref 1, .ref 371, .int (nI i)] [] im' P) : Gm LS rm 123 239 [.ref 0, .ref 1, .ref 371, .int (nI i)] [] im P := by
  refine g_aload_n k123_239 rfl ?_
  refine g_aload_n k123_240 rfl ?_
  refine g_iload_n k123_241 rfl ?_
  refine g_iconst (v := 1) k123_242 ic_1 ?_
  refine g_iadd k123_243 ?_
  refine g_top (y := nI (i + 1)) (ai_1 i) ?_
  refine g_sal (v := im 0 (i + 1)) k123_244 (by omega) (by omega) (rfl) ?_
  refine g_aload_n k123_245 rfl ?_
  refine g_iload_n k123_246 rfl ?_
  refine g_iconst (v := 2) k123_247 ic_2 ?_
  refine g_iadd k123_248 ?_
  refine g_top (y := nI (i + 2)) (ai_2 i) ?_
  refine g_sal (v := im 0 (i + 2)) k123_249 (by omega) (by omega) (rfl) ?_
  refine g_inv2 k123_250 (hM.1.1) rfl rfl (by decide) (Nat.le_of_ble_eq_true rfl) (g_keep (g_mono (fun r im1 hk hkp => ?_) (p_4 hM hO hI)))
  obtain ⟨v, rfl, hk⟩ := hk
  refine g_aload_n k123_253 rfl ?_
  refine g_aload_n k123_254 rfl ?_
  refine g_iload_n k123_255 rfl ?_
  refine g_iconst (v := 1) k123_256 ic_1 ?_
  refine g_iadd k123_257 ?_
  refine g_top (y := nI (i + 1)) (ai_1 i) ?_
  refine g_sal (v := im 0 (i + 1)) k123_258 (by omega) (by omega) (hkp _ (by omega)) ?_
  refine g_aload_n k123_259 rfl ?_
  refine g_iload_n k123_260 rfl ?_
  refine g_iconst (v := 2) k123_261 ic_2 ?_
  refine g_iadd k123_262 ?_
  refine g_top (y := nI (i + 2)) (ai_2 i) ?_
  refine g_sal (v := im 0 (i + 2)) k123_263 (by omega) (by omega) (hkp _ (by omega)) ?_
  refine g_inv2 k123_264 (sM371) rfl rfl (by decide) (Nat.le_of_ble_eq_true rfl) (g_mono (fun r2 im2 hk2 => ?_) hk)
  obtain ⟨rfl, hI2⟩ := hk2
  exact g_icmp_eq k123_267 (fun _ => h im2 hI2) (fun z => absurd rfl z)
set_option maxRecDepth 20000 in
set_option maxHeartbeats 4000000 in
theorem q_4 (hM : isLd LS rm) (hO : isMo LS rm) (hI : Inv K im) (hi : i + 4 ≤ LS) (hLS : LS ≤ 300000) (h : ∀ im', Inv (K + 1) im' → Gm LS rm 123 730 [.ref 0, .ref 1, .ref 371, .int (nI i)] [] im' P) : Gm LS rm 123 272 [.ref 0, .ref 1, .ref 371, .int (nI i)] [] im P := by
  refine g_aload_n k123_272 rfl ?_
  refine g_aload_n k123_273 rfl ?_
  refine g_iload_n k123_274 rfl ?_
  refine g_iconst (v := 1) k123_275 ic_1 ?_
  refine g_iadd k123_276 ?_
  refine g_top (y := nI (i + 1)) (ai_1 i) ?_
  refine g_sal (v := im 0 (i + 1)) k123_277 (by omega) (by omega) (rfl) ?_
  refine g_inv1 k123_278 (hM.1.1) rfl (by decide) (Nat.le_of_ble_eq_true rfl) (g_keep (g_mono (fun r im1 hk hkp => ?_) (p_5 hM hO hI)))
  obtain ⟨v, rfl, hk⟩ := hk
  refine g_aload_n k123_281 rfl ?_
  refine g_aload_n k123_282 rfl ?_
  refine g_iload_n k123_283 rfl ?_
  refine g_iconst (v := 1) k123_284 ic_1 ?_
  refine g_iadd k123_285 ?_
  refine g_top (y := nI (i + 1)) (ai_1 i) ?_
  refine g_sal (v := im 0 (i + 1)) k123_286 (by omega) (by omega) (hkp _ (by omega)) ?_
  refine g_inv1 k123_287 (sM371) rfl (by decide) (Nat.le_of_ble_eq_true rfl) (g_mono (fun r2 im2 hk2 => ?_) hk)
  obtain ⟨rfl, hI2⟩ := hk2
  exact g_icmp_eq k123_290 (fun _ => h im2 hI2) (fun z => absurd rfl z)
set_option maxRecDepth 20000 in
set_option maxHeartbeats 4000000 in
theorem q_5 (hK : K < 90000) (hM : isLd LS rm) (hO : isMo LS rm) (hI : Inv K im) (hi : i + 4 ≤ LS) (hLS : LS ≤ 300000) (h : ∀ im', Inv (K + 1) im' → Gm LS rm 123 730 [.ref 0, .ref 1, .ref 371, .int (nI i)] [] im' P) : Gm LS rm 123 295 [.ref 0, .ref 1, .ref 371, .int (nI i)] [] im P := by
  refine g_aload_n k123_295 rfl ?_
  refine g_aload_n k123_296 rfl ?_
  refine g_iload_n k123_297 rfl ?_
  refine g_iconst (v := 1) k123_298 ic_1 ?_
  refine g_iadd k123_299 ?_
  refine g_top (y := nI (i + 1)) (ai_1 i) ?_
  refine g_sal (v := im 0 (i + 1)) k123_300 (by omega) (by omega) (rfl) ?_
  refine g_inv1 k123_301 (hM.1.1) rfl (by decide) (Nat.le_of_ble_eq_true rfl) (g_keep (g_mono (fun r im1 hk hkp => ?_) (p_6 (by omega) hM hO hI)))
  obtain ⟨v, rfl, hk⟩ := hk
  refine g_aload_n k123_304 rfl ?_
  refine g_aload_n k123_305 rfl ?_
  refine g_iload_n k123_306 rfl ?_
  refine g_iconst (v := 1) k123_307 ic_1 ?_
  refine g_iadd k123_308 ?_
  refine g_top (y := nI (i + 1)) (ai_1 i) ?_
  refine g_sal (v := im 0 (i + 1)) k123_309 (by omega) (by omega) (hkp _ (by omega)) ?_
  refine g_inv1 k123_310 (sM371) rfl (by decide) (Nat.le_of_ble_eq_true rfl) (g_mono (fun r2 im2 hk2 => ?_) hk)
  obtain ⟨rfl, hI2⟩ := hk2
  exact g_icmp_eq k123_313 (fun _ => h im2 hI2) (fun z => absurd rfl z)
set_option maxRecDepth 20000 in
set_option maxHeartbeats 4000000 in
theorem q_6 (hM : isLd LS rm) (hO : isMo LS rm) (hI : Inv K im) (hi : i + 4 ≤ LS) (hLS : LS ≤ 300000) (h : ∀ im', Inv (K + 1) im' → Gm LS rm 123 730 [.ref 0, .ref 1, .ref 371, .int (nI i)] [] im' P) : Gm LS rm 123 318 [.ref 0, .ref 1, .ref 371, .int (nI i)] [] im P := by
  refine g_aload_n k123_318 rfl ?_
  refine g_aload_n k123_319 rfl ?_
  refine g_iload_n k123_320 rfl ?_
  refine g_iconst (v := 1) k123_321 ic_1 ?_
  refine g_iadd k123_322 ?_
  refine g_top (y := nI (i + 1)) (ai_1 i) ?_
  refine g_sal (v := im 0 (i + 1)) k123_323 (by omega) (by omega) (rfl) ?_
  refine g_inv1 k123_324 (hM.1.1) rfl (by decide) (Nat.le_of_ble_eq_true rfl) (g_keep (g_mono (fun r im1 hk hkp => ?_) (p_7 hM hO hI)))
  obtain ⟨v, rfl, hk⟩ := hk
  refine g_aload_n k123_327 rfl ?_
  refine g_aload_n k123_328 rfl ?_
  refine g_iload_n k123_329 rfl ?_
  refine g_iconst (v := 1) k123_330 ic_1 ?_
  refine g_iadd k123_331 ?_
  refine g_top (y := nI (i + 1)) (ai_1 i) ?_
  refine g_sal (v := im 0 (i + 1)) k123_332 (by omega) (by omega) (hkp _ (by omega)) ?_
  refine g_inv1 k123_333 (sM371) rfl (by decide) (Nat.le_of_ble_eq_true rfl) (g_mono (fun r2 im2 hk2 => ?_) hk)
  obtain ⟨rfl, hI2⟩ := hk2
  exact g_icmp_eq k123_336 (fun _ => h im2 hI2) (fun z => absurd rfl z)
set_option maxRecDepth 20000 in
set_option maxHeartbeats 4000000 in
theorem q_7 (hK : K < 90000) (hM : isLd LS rm) (hO : isMo LS rm) (hI : Inv K im) (hi : i + 4 ≤ LS) (hLS : LS ≤ 300000) (h : ∀ im', Inv (K + 1) im' → Gm LS rm 123 730 [.ref 0, .ref 1, .ref 371, .int (nI i)] [] im' P) : Gm LS rm 123 341 [.ref 0, .ref 1, .ref 371, .int (nI i)] [] im P := by
  refine g_aload_n k123_341 rfl ?_
  refine g_aload_n k123_342 rfl ?_
  refine g_iload_n k123_343 rfl ?_
  refine g_iconst (v := 1) k123_344 ic_1 ?_
  refine g_iadd k123_345 ?_
  refine g_top (y := nI (i + 1)) (ai_1 i) ?_
  refine g_sal (v := im 0 (i + 1)) k123_346 (by omega) (by omega) (rfl) ?_
  refine g_aload_n k123_347 rfl ?_
  refine g_iload_n k123_348 rfl ?_
  refine g_iconst (v := 2) k123_349 ic_2 ?_
  refine g_iadd k123_350 ?_
  refine g_top (y := nI (i + 2)) (ai_2 i) ?_
  refine g_sal (v := im 0 (i + 2)) k123_351 (by omega) (by omega) (rfl) ?_
  refine g_inv2 k123_352 (hM.1.1) rfl rfl (by decide) (Nat.le_of_ble_eq_true rfl) (g_keep (g_mono (fun r im1 hk hkp => ?_) (p_8 (by omega) hM hO hI)))
  obtain ⟨v, rfl, hk⟩ := hk
  refine g_aload_n k123_355 rfl ?_
  refine g_aload_n k123_356 rfl ?_
  refine g_iload_n k123_357 rfl ?_
  refine g_iconst (v := 1) k123_358 ic_1 ?_
  refine g_iadd k123_359 ?_
  refine g_top (y := nI (i + 1)) (ai_1 i) ?_
  refine g_sal (v := im 0 (i + 1)) k123_360 (by omega) (by omega) (hkp _ (by omega)) ?_
  refine g_aload_n k123_361 rfl ?_
  refine g_iload_n k123_362 rfl ?_
  refine g_iconst (v := 2) k123_363 ic_2 ?_
  refine g_iadd k123_364 ?_
  refine g_top (y := nI (i + 2)) (ai_2 i) ?_
  refine g_sal (v := im 0 (i + 2)) k123_365 (by omega) (by omega) (hkp _ (by omega)) ?_
  refine g_inv2 k123_366 (sM371) rfl rfl (by decide) (Nat.le_of_ble_eq_true rfl) (g_mono (fun r2 im2 hk2 => ?_) hk)
  obtain ⟨rfl, hI2⟩ := hk2
  exact g_icmp_eq k123_369 (fun _ => h im2 hI2) (fun z => absurd rfl z)
set_option maxRecDepth 20000 in
set_option maxHeartbeats 4000000 in
theorem q_8 (hM : isLd LS rm) (hO : isMo LS rm) (hI : Inv K im) (hi : i + 4 ≤ LS) (hLS : LS ≤ 300000) (h : ∀ im', Inv (K + 1) im' → Gm LS rm 123 730 [.ref 0, .ref 1, .ref 371, .int (nI i)] [] im' P) : Gm LS rm 123 374 [.ref 0, .ref 1, .ref 371, .int (nI i)] [] im P := by
  refine g_aload_n k123_374 rfl ?_
  refine g_aload_n k123_375 rfl ?_
  refine g_iload_n k123_376 rfl ?_
  refine g_iconst (v := 1) k123_377 ic_1 ?_
  refine g_iadd k123_378 ?_
  refine g_top (y := nI (i + 1)) (ai_1 i) ?_
  refine g_sal (v := im 0 (i + 1)) k123_379 (by omega) (by omega) (rfl) ?_
  refine g_aload_n k123_380 rfl ?_
  refine g_iload_n k123_381 rfl ?_
  refine g_iconst (v := 2) k123_382 ic_2 ?_
  refine g_iadd k123_383 ?_
  refine g_top (y := nI (i + 2)) (ai_2 i) ?_
  refine g_sal (v := im 0 (i + 2)) k123_384 (by omega) (by omega) (rfl) ?_
  refine g_if_eq k123_385 (fun hz => ?_) (fun hz => ?_)
  · refine g_iconst (v := 0) k123_392 ic_0 ?_
    refine g_inv2 k123_393 (hM.1.1) rfl rfl (by decide) (Nat.le_of_ble_eq_true rfl) (g_keep (g_mono (fun r im1 hk hkp => ?_) (p_9 (Or.inl rfl) hM hO hI)))
    obtain ⟨v, rfl, hk⟩ := hk
    refine g_aload_n k123_396 rfl ?_
    refine g_aload_n k123_397 rfl ?_
    refine g_iload_n k123_398 rfl ?_
    refine g_iconst (v := 1) k123_399 ic_1 ?_
    refine g_iadd k123_400 ?_
    refine g_top (y := nI (i + 1)) (ai_1 i) ?_
    refine g_sal (v := im 0 (i + 1)) k123_401 (by omega) (by omega) (hkp _ (by omega)) ?_
    refine g_aload_n k123_402 rfl ?_
    refine g_iload_n k123_403 rfl ?_
    refine g_iconst (v := 2) k123_404 ic_2 ?_
    refine g_iadd k123_405 ?_
    refine g_top (y := nI (i + 2)) (ai_2 i) ?_
    refine g_sal (v := im 0 (i + 2)) k123_406 (by omega) (by omega) (hkp _ (by omega)) ?_
    refine g_if_eq k123_407 (fun _ => ?_) (fun z => absurd hz z)
    refine g_iconst (v := 0) k123_414 ic_0 ?_
    refine g_inv2 k123_415 (sM371) rfl rfl (by decide) (Nat.le_of_ble_eq_true rfl) (g_mono (fun r2 im2 hk2 => ?_) hk)
    obtain ⟨rfl, hI2⟩ := hk2
    exact g_icmp_eq k123_418 (fun _ => h im2 hI2) (fun z => absurd rfl z)
  · refine g_iconst (v := 1) k123_388 ic_1 ?_
    refine g_goto k123_389 ?_
    refine g_inv2 k123_393 (hM.1.1) rfl rfl (by decide) (Nat.le_of_ble_eq_true rfl) (g_keep (g_mono (fun r im1 hk hkp => ?_) (p_9 (Or.inr rfl) hM hO hI)))
    obtain ⟨v, rfl, hk⟩ := hk
    refine g_aload_n k123_396 rfl ?_
    refine g_aload_n k123_397 rfl ?_
    refine g_iload_n k123_398 rfl ?_
    refine g_iconst (v := 1) k123_399 ic_1 ?_
    refine g_iadd k123_400 ?_
    refine g_top (y := nI (i + 1)) (ai_1 i) ?_
    refine g_sal (v := im 0 (i + 1)) k123_401 (by omega) (by omega) (hkp _ (by omega)) ?_
    refine g_aload_n k123_402 rfl ?_
    refine g_iload_n k123_403 rfl ?_
    refine g_iconst (v := 2) k123_404 ic_2 ?_
    refine g_iadd k123_405 ?_
    refine g_top (y := nI (i + 2)) (ai_2 i) ?_
    refine g_sal (v := im 0 (i + 2)) k123_406 (by omega) (by omega) (hkp _ (by omega)) ?_
    refine g_if_eq k123_407 (fun z => absurd z hz) (fun _ => ?_)
    refine g_iconst (v := 1) k123_410 ic_1 ?_
    refine g_goto k123_411 ?_
    refine g_inv2 k123_415 (sM371) rfl rfl (by decide) (Nat.le_of_ble_eq_true rfl) (g_mono (fun r2 im2 hk2 => ?_) hk)
    obtain ⟨rfl, hI2⟩ := hk2
    exact g_icmp_eq k123_418 (fun _ => h im2 hI2) (fun z => absurd rfl z)
set_option maxRecDepth 20000 in
set_option maxHeartbeats 4000000 in
theorem q_9 (hM : isLd LS rm) (hO : isMo LS rm) (hI : Inv K im) (hi : i + 4 ≤ LS) (hLS : LS ≤ 300000) (h : ∀ im', Inv (K + 1) im' → Gm LS rm 123 730 [.ref 0, .ref 1, .ref 371, .int (nI i)] [] im' P) : Gm LS rm 123 423 [.ref 0, .ref 1, .ref 371, .int (nI i)] [] im P := by
  refine g_aload_n k123_423 rfl ?_
  refine g_aload_n k123_424 rfl ?_
  refine g_iload_n k123_425 rfl ?_
  refine g_iconst (v := 1) k123_426 ic_1 ?_
  refine g_iadd k123_427 ?_
  refine g_top (y := nI (i + 1)) (ai_1 i) ?_
  refine g_sal (v := im 0 (i + 1)) k123_428 (by omega) (by omega) (rfl) ?_
  refine g_inv1 k123_429 (hM.1.1) rfl (by decide) (Nat.le_of_ble_eq_true rfl) (g_keep (g_mono (fun r im1 hk hkp => ?_) (p_10 hM hO hI)))
  obtain ⟨v, rfl, hk⟩ := hk
  refine g_aload_n k123_432 rfl ?_
  refine g_aload_n k123_433 rfl ?_
  refine g_iload_n k123_434 rfl ?_
  refine g_iconst (v := 1) k123_435 ic_1 ?_
  refine g_iadd k123_436 ?_
  refine g_top (y := nI (i + 1)) (ai_1 i) ?_
  refine g_sal (v := im 0 (i + 1)) k123_437 (by omega) (by omega) (hkp _ (by omega)) ?_
  refine g_inv1 k123_438 (sM371) rfl (by decide) (Nat.le_of_ble_eq_true rfl) (g_mono (fun r2 im2 hk2 => ?_) hk)
  obtain ⟨rfl, hI2⟩ := hk2
  exact g_icmp_eq k123_441 (fun _ => h im2 hI2) (fun z => absurd rfl z)
set_option maxRecDepth 20000 in
set_option maxHeartbeats 4000000 in
theorem q_10 (hM : isLd LS rm) (hO : isMo LS rm) (hI : Inv K im) (hi : i + 4 ≤ LS) (hLS : LS ≤ 300000) (h : ∀ im', Inv (K + 1) im' → Gm LS rm 123 730 [.ref 0, .ref 1, .ref 371, .int (nI i)] [] im' P) : Gm LS rm 123 446 [.ref 0, .ref 1, .ref 371, .int (nI i)] [] im P := by
  refine g_aload_n k123_446 rfl ?_
  refine g_aload_n k123_447 rfl ?_
  refine g_iload_n k123_448 rfl ?_
  refine g_iconst (v := 1) k123_449 ic_1 ?_
  refine g_iadd k123_450 ?_
  refine g_top (y := nI (i + 1)) (ai_1 i) ?_
  refine g_sal (v := im 0 (i + 1)) k123_451 (by omega) (by omega) (rfl) ?_
  refine g_inv1 k123_452 (hM.1.1) rfl (by decide) (Nat.le_of_ble_eq_true rfl) (g_keep (g_mono (fun r im1 hk hkp => ?_) (p_11 hM hO hI)))
  obtain ⟨v, rfl, hk⟩ := hk
  refine g_aload_n k123_455 rfl ?_
  refine g_aload_n k123_456 rfl ?_
  refine g_iload_n k123_457 rfl ?_
  refine g_iconst (v := 1) k123_458 ic_1 ?_
  refine g_iadd k123_459 ?_
  refine g_top (y := nI (i + 1)) (ai_1 i) ?_
  refine g_sal (v := im 0 (i + 1)) k123_460 (by omega) (by omega) (hkp _ (by omega)) ?_
  refine g_inv1 k123_461 (sM371) rfl (by decide) (Nat.le_of_ble_eq_true rfl) (g_mono (fun r2 im2 hk2 => ?_) hk)
  obtain ⟨rfl, hI2⟩ := hk2
  exact g_icmp_eq k123_464 (fun _ => h im2 hI2) (fun z => absurd rfl z)
set_option maxRecDepth 20000 in
set_option maxHeartbeats 4000000 in
theorem q_11 (hM : isLd LS rm) (hO : isMo LS rm) (hI : Inv K im) (hi : i + 4 ≤ LS) (hLS : LS ≤ 300000) (h : ∀ im', Inv (K + 1) im' → Gm LS rm 123 730 [.ref 0, .ref 1, .ref 371, .int (nI i)] [] im' P) : Gm LS rm 123 469 [.ref 0, .ref 1, .ref 371, .int (nI i)] [] im P := by
  refine g_aload_n k123_469 rfl ?_
  refine g_aload_n k123_470 rfl ?_
  refine g_iload_n k123_471 rfl ?_
  refine g_iconst (v := 1) k123_472 ic_1 ?_
  refine g_iadd k123_473 ?_
  refine g_top (y := nI (i + 1)) (ai_1 i) ?_
  refine g_sal (v := im 0 (i + 1)) k123_474 (by omega) (by omega) (rfl) ?_
  refine g_aload_n k123_475 rfl ?_
  refine g_iload_n k123_476 rfl ?_
  refine g_iconst (v := 2) k123_477 ic_2 ?_
  refine g_iadd k123_478 ?_
  refine g_top (y := nI (i + 2)) (ai_2 i) ?_
  refine g_sal (v := im 0 (i + 2)) k123_479 (by omega) (by omega) (rfl) ?_
  refine g_inv2 k123_480 (hM.1.1) rfl rfl (by decide) (Nat.le_of_ble_eq_true rfl) (g_keep (g_mono (fun r im1 hk hkp => ?_) (p_12 hM hO hI)))
  obtain ⟨v, rfl, hk⟩ := hk
  refine g_aload_n k123_483 rfl ?_
  refine g_aload_n k123_484 rfl ?_
  refine g_iload_n k123_485 rfl ?_
  refine g_iconst (v := 1) k123_486 ic_1 ?_
  refine g_iadd k123_487 ?_
  refine g_top (y := nI (i + 1)) (ai_1 i) ?_
  refine g_sal (v := im 0 (i + 1)) k123_488 (by omega) (by omega) (hkp _ (by omega)) ?_
  refine g_aload_n k123_489 rfl ?_
  refine g_iload_n k123_490 rfl ?_
  refine g_iconst (v := 2) k123_491 ic_2 ?_
  refine g_iadd k123_492 ?_
  refine g_top (y := nI (i + 2)) (ai_2 i) ?_
  refine g_sal (v := im 0 (i + 2)) k123_493 (by omega) (by omega) (hkp _ (by omega)) ?_
  refine g_inv2 k123_494 (sM371) rfl rfl (by decide) (Nat.le_of_ble_eq_true rfl) (g_mono (fun r2 im2 hk2 => ?_) hk)
  obtain ⟨rfl, hI2⟩ := hk2
  exact g_icmp_eq k123_497 (fun _ => h im2 hI2) (fun z => absurd rfl z)
set_option maxRecDepth 20000 in
set_option maxHeartbeats 4000000 in
theorem q_12 (hM : isLd LS rm) (hO : isMo LS rm) (hI : Inv K im) (hi : i + 4 ≤ LS) (hLS : LS ≤ 300000) (h : ∀ im', Inv (K + 1) im' → Gm LS rm 123 730 [.ref 0, .ref 1, .ref 371, .int (nI i)] [] im' P) : Gm LS rm 123 502 [.ref 0, .ref 1, .ref 371, .int (nI i)] [] im P := by
  refine g_aload_n k123_502 rfl ?_
  refine g_aload_n k123_503 rfl ?_
  refine g_iload_n k123_504 rfl ?_
  refine g_iconst (v := 1) k123_505 ic_1 ?_
  refine g_iadd k123_506 ?_
  refine g_top (y := nI (i + 1)) (ai_1 i) ?_
  refine g_sal (v := im 0 (i + 1)) k123_507 (by omega) (by omega) (rfl) ?_
  refine g_aload_n k123_508 rfl ?_
  refine g_iload_n k123_509 rfl ?_
  refine g_iconst (v := 2) k123_510 ic_2 ?_
  refine g_iadd k123_511 ?_
  refine g_top (y := nI (i + 2)) (ai_2 i) ?_
  refine g_sal (v := im 0 (i + 2)) k123_512 (by omega) (by omega) (rfl) ?_
  refine g_aload_n k123_513 rfl ?_
  refine g_iload_n k123_514 rfl ?_
  refine g_iconst (v := 3) k123_515 ic_3 ?_
  refine g_iadd k123_516 ?_
  refine g_top (y := nI (i + 3)) (ai_3 i) ?_
  refine g_sal (v := im 0 (i + 3)) k123_517 (by omega) (by omega) (rfl) ?_
  refine g_inv3 k123_518 (hM.1.1) rfl rfl rfl (by decide) (Nat.le_of_ble_eq_true rfl) (g_keep (g_mono (fun r im1 hk hkp => ?_) (p_13 hM hO hI)))
  obtain ⟨v, rfl, hk⟩ := hk
  refine g_aload_n k123_521 rfl ?_
  refine g_aload_n k123_522 rfl ?_
  refine g_iload_n k123_523 rfl ?_
  refine g_iconst (v := 1) k123_524 ic_1 ?_
  refine g_iadd k123_525 ?_
  refine g_top (y := nI (i + 1)) (ai_1 i) ?_
  refine g_sal (v := im 0 (i + 1)) k123_526 (by omega) (by omega) (hkp _ (by omega)) ?_
  refine g_aload_n k123_527 rfl ?_
  refine g_iload_n k123_528 rfl ?_
  refine g_iconst (v := 2) k123_529 ic_2 ?_
  refine g_iadd k123_530 ?_
  refine g_top (y := nI (i + 2)) (ai_2 i) ?_
  refine g_sal (v := im 0 (i + 2)) k123_531 (by omega) (by omega) (hkp _ (by omega)) ?_
  refine g_aload_n k123_532 rfl ?_
  refine g_iload_n k123_533 rfl ?_
  refine g_iconst (v := 3) k123_534 ic_3 ?_
  refine g_iadd k123_535 ?_
  refine g_top (y := nI (i + 3)) (ai_3 i) ?_
  refine g_sal (v := im 0 (i + 3)) k123_536 (by omega) (by omega) (hkp _ (by omega)) ?_
  refine g_inv3 k123_537 (sM371) rfl rfl rfl (by decide) (Nat.le_of_ble_eq_true rfl) (g_mono (fun r2 im2 hk2 => ?_) hk)
  obtain ⟨rfl, hI2⟩ := hk2
  exact g_icmp_eq k123_540 (fun _ => h im2 hI2) (fun z => absurd rfl z)
set_option maxRecDepth 20000 in
set_option maxHeartbeats 4000000 in
theorem q_13 (hM : isLd LS rm) (hO : isMo LS rm) (hI : Inv K im) (hi : i + 4 ≤ LS) (hLS : LS ≤ 300000) (h : ∀ im', Inv (K + 1) im' → Gm LS rm 123 730 [.ref 0, .ref 1, .ref 371, .int (nI i)] [] im' P) : Gm LS rm 123 545 [.ref 0, .ref 1, .ref 371, .int (nI i)] [] im P := by
  refine g_aload_n k123_545 rfl ?_
  refine g_aload_n k123_546 rfl ?_
  refine g_iload_n k123_547 rfl ?_
  refine g_iconst (v := 1) k123_548 ic_1 ?_
  refine g_iadd k123_549 ?_
  refine g_top (y := nI (i + 1)) (ai_1 i) ?_
  refine g_sal (v := im 0 (i + 1)) k123_550 (by omega) (by omega) (rfl) ?_
  refine g_aload_n k123_551 rfl ?_
  refine g_iload_n k123_552 rfl ?_
  refine g_iconst (v := 2) k123_553 ic_2 ?_
  refine g_iadd k123_554 ?_
  refine g_top (y := nI (i + 2)) (ai_2 i) ?_
  refine g_sal (v := im 0 (i + 2)) k123_555 (by omega) (by omega) (rfl) ?_
  refine g_aload_n k123_556 rfl ?_
  refine g_iload_n k123_557 rfl ?_
  refine g_iconst (v := 3) k123_558 ic_3 ?_
  refine g_iadd k123_559 ?_
  refine g_top (y := nI (i + 3)) (ai_3 i) ?_
  refine g_sal (v := im 0 (i + 3)) k123_560 (by omega) (by omega) (rfl) ?_
  refine g_inv3 k123_561 (hM.1.1) rfl rfl rfl (by decide) (Nat.le_of_ble_eq_true rfl) (g_keep (g_mono (fun r im1 hk hkp => ?_) (p_14 hM hO hI)))
  obtain ⟨v, rfl, hk⟩ := hk
  refine g_aload_n k123_564 rfl ?_
  refine g_aload_n k123_565 rfl ?_
  refine g_iload_n k123_566 rfl ?_
  refine g_iconst (v := 1) k123_567 ic_1 ?_
  refine g_iadd k123_568 ?_
  refine g_top (y := nI (i + 1)) (ai_1 i) ?_
  refine g_sal (v := im 0 (i + 1)) k123_569 (by omega) (by omega) (hkp _ (by omega)) ?_
  refine g_aload_n k123_570 rfl ?_
  refine g_iload_n k123_571 rfl ?_
  refine g_iconst (v := 2) k123_572 ic_2 ?_
  refine g_iadd k123_573 ?_
  refine g_top (y := nI (i + 2)) (ai_2 i) ?_
  refine g_sal (v := im 0 (i + 2)) k123_574 (by omega) (by omega) (hkp _ (by omega)) ?_
  refine g_aload_n k123_575 rfl ?_
  refine g_iload_n k123_576 rfl ?_
  refine g_iconst (v := 3) k123_577 ic_3 ?_
  refine g_iadd k123_578 ?_
  refine g_top (y := nI (i + 3)) (ai_3 i) ?_
  refine g_sal (v := im 0 (i + 3)) k123_579 (by omega) (by omega) (hkp _ (by omega)) ?_
  refine g_inv3 k123_580 (sM371) rfl rfl rfl (by decide) (Nat.le_of_ble_eq_true rfl) (g_mono (fun r2 im2 hk2 => ?_) hk)
  obtain ⟨rfl, hI2⟩ := hk2
  exact g_icmp_eq k123_583 (fun _ => h im2 hI2) (fun z => absurd rfl z)
set_option maxRecDepth 20000 in
set_option maxHeartbeats 4000000 in
theorem q_14 (hM : isLd LS rm) (hO : isMo LS rm) (hI : Inv K im) (hi : i + 4 ≤ LS) (hLS : LS ≤ 300000) (h : ∀ im', Inv (K + 1) im' → Gm LS rm 123 730 [.ref 0, .ref 1, .ref 371, .int (nI i)] [] im' P) : Gm LS rm 123 588 [.ref 0, .ref 1, .ref 371, .int (nI i)] [] im P := by
  refine g_aload_n k123_588 rfl ?_
  refine g_aload_n k123_589 rfl ?_
  refine g_iload_n k123_590 rfl ?_
  refine g_iconst (v := 1) k123_591 ic_1 ?_
  refine g_iadd k123_592 ?_
  refine g_top (y := nI (i + 1)) (ai_1 i) ?_
  refine g_sal (v := im 0 (i + 1)) k123_593 (by omega) (by omega) (rfl) ?_
  refine g_aload_n k123_594 rfl ?_
  refine g_iload_n k123_595 rfl ?_
  refine g_iconst (v := 2) k123_596 ic_2 ?_
  refine g_iadd k123_597 ?_
  refine g_top (y := nI (i + 2)) (ai_2 i) ?_
  refine g_sal (v := im 0 (i + 2)) k123_598 (by omega) (by omega) (rfl) ?_
  refine g_aload_n k123_599 rfl ?_
  refine g_iload_n k123_600 rfl ?_
  refine g_iconst (v := 3) k123_601 ic_3 ?_
  refine g_iadd k123_602 ?_
  refine g_top (y := nI (i + 3)) (ai_3 i) ?_
  refine g_sal (v := im 0 (i + 3)) k123_603 (by omega) (by omega) (rfl) ?_
  refine g_inv3 k123_604 (hM.1.1) rfl rfl rfl (by decide) (Nat.le_of_ble_eq_true rfl) (g_keep (g_mono (fun r im1 hk hkp => ?_) (p_15 hM hO hI)))
  obtain ⟨v, rfl, hk⟩ := hk
  refine g_aload_n k123_607 rfl ?_
  refine g_aload_n k123_608 rfl ?_
  refine g_iload_n k123_609 rfl ?_
  refine g_iconst (v := 1) k123_610 ic_1 ?_
  refine g_iadd k123_611 ?_
  refine g_top (y := nI (i + 1)) (ai_1 i) ?_
  refine g_sal (v := im 0 (i + 1)) k123_612 (by omega) (by omega) (hkp _ (by omega)) ?_
  refine g_aload_n k123_613 rfl ?_
  refine g_iload_n k123_614 rfl ?_
  refine g_iconst (v := 2) k123_615 ic_2 ?_
  refine g_iadd k123_616 ?_
  refine g_top (y := nI (i + 2)) (ai_2 i) ?_
  refine g_sal (v := im 0 (i + 2)) k123_617 (by omega) (by omega) (hkp _ (by omega)) ?_
  refine g_aload_n k123_618 rfl ?_
  refine g_iload_n k123_619 rfl ?_
  refine g_iconst (v := 3) k123_620 ic_3 ?_
  refine g_iadd k123_621 ?_
  refine g_top (y := nI (i + 3)) (ai_3 i) ?_
  refine g_sal (v := im 0 (i + 3)) k123_622 (by omega) (by omega) (hkp _ (by omega)) ?_
  refine g_inv3 k123_623 (sM371) rfl rfl rfl (by decide) (Nat.le_of_ble_eq_true rfl) (g_mono (fun r2 im2 hk2 => ?_) hk)
  obtain ⟨rfl, hI2⟩ := hk2
  exact g_icmp_eq k123_626 (fun _ => h im2 hI2) (fun z => absurd rfl z)
set_option maxRecDepth 20000 in
set_option maxHeartbeats 4000000 in
theorem q_15 (hM : isLd LS rm) (hO : isMo LS rm) (hI : Inv K im) (hi : i + 4 ≤ LS) (hLS : LS ≤ 300000) (h : ∀ im', Inv (K + 1) im' → Gm LS rm 123 730 [.ref 0, .ref 1, .ref 371, .int (nI i)] [] im' P) : Gm LS rm 123 631 [.ref 0, .ref 1, .ref 371, .int (nI i)] [] im P := by
  refine g_aload_n k123_631 rfl ?_
  refine g_aload_n k123_632 rfl ?_
  refine g_iload_n k123_633 rfl ?_
  refine g_iconst (v := 1) k123_634 ic_1 ?_
  refine g_iadd k123_635 ?_
  refine g_top (y := nI (i + 1)) (ai_1 i) ?_
  refine g_sal (v := im 0 (i + 1)) k123_636 (by omega) (by omega) (rfl) ?_
  refine g_aload_n k123_637 rfl ?_
  refine g_iload_n k123_638 rfl ?_
  refine g_iconst (v := 2) k123_639 ic_2 ?_
  refine g_iadd k123_640 ?_
  refine g_top (y := nI (i + 2)) (ai_2 i) ?_
  refine g_sal (v := im 0 (i + 2)) k123_641 (by omega) (by omega) (rfl) ?_
  refine g_inv2 k123_642 (hM.1.1) rfl rfl (by decide) (Nat.le_of_ble_eq_true rfl) (g_keep (g_mono (fun r im1 hk hkp => ?_) (p_16 hM hO hI)))
  obtain ⟨v, rfl, hk⟩ := hk
  refine g_aload_n k123_645 rfl ?_
  refine g_aload_n k123_646 rfl ?_
  refine g_iload_n k123_647 rfl ?_
  refine g_iconst (v := 1) k123_648 ic_1 ?_
  refine g_iadd k123_649 ?_
  refine g_top (y := nI (i + 1)) (ai_1 i) ?_
  refine g_sal (v := im 0 (i + 1)) k123_650 (by omega) (by omega) (hkp _ (by omega)) ?_
  refine g_aload_n k123_651 rfl ?_
  refine g_iload_n k123_652 rfl ?_
  refine g_iconst (v := 2) k123_653 ic_2 ?_
  refine g_iadd k123_654 ?_
  refine g_top (y := nI (i + 2)) (ai_2 i) ?_
  refine g_sal (v := im 0 (i + 2)) k123_655 (by omega) (by omega) (hkp _ (by omega)) ?_
  refine g_inv2 k123_656 (sM371) rfl rfl (by decide) (Nat.le_of_ble_eq_true rfl) (g_mono (fun r2 im2 hk2 => ?_) hk)
  obtain ⟨rfl, hI2⟩ := hk2
  exact g_icmp_eq k123_659 (fun _ => h im2 hI2) (fun z => absurd rfl z)
set_option maxRecDepth 20000 in
set_option maxHeartbeats 4000000 in
theorem q_16 (hM : isLd LS rm) (hO : isMo LS rm) (hI : Inv K im) (hi : i + 4 ≤ LS) (hLS : LS ≤ 300000) (h : ∀ im', Inv (K + 1) im' → Gm LS rm 123 730 [.ref 0, .ref 1, .ref 371, .int (nI i)] [] im' P) : Gm LS rm 123 664 [.ref 0, .ref 1, .ref 371, .int (nI i)] [] im P := by
  refine g_aload_n k123_664 rfl ?_
  refine g_aload_n k123_665 rfl ?_
  refine g_iload_n k123_666 rfl ?_
  refine g_iconst (v := 1) k123_667 ic_1 ?_
  refine g_iadd k123_668 ?_
  refine g_top (y := nI (i + 1)) (ai_1 i) ?_
  refine g_sal (v := im 0 (i + 1)) k123_669 (by omega) (by omega) (rfl) ?_
  refine g_aload_n k123_670 rfl ?_
  refine g_iload_n k123_671 rfl ?_
  refine g_iconst (v := 2) k123_672 ic_2 ?_
  refine g_iadd k123_673 ?_
  refine g_top (y := nI (i + 2)) (ai_2 i) ?_
  refine g_sal (v := im 0 (i + 2)) k123_674 (by omega) (by omega) (rfl) ?_
  refine g_aload_n k123_675 rfl ?_
  refine g_iload_n k123_676 rfl ?_
  refine g_iconst (v := 3) k123_677 ic_3 ?_
  refine g_iadd k123_678 ?_
  refine g_top (y := nI (i + 3)) (ai_3 i) ?_
  refine g_sal (v := im 0 (i + 3)) k123_679 (by omega) (by omega) (rfl) ?_
  refine g_inv3 k123_680 (hM.1.1) rfl rfl rfl (by decide) (Nat.le_of_ble_eq_true rfl) (g_keep (g_mono (fun r im1 hk hkp => ?_) (p_17 hM hO hI)))
  obtain ⟨v, rfl, hk⟩ := hk
  refine g_aload_n k123_683 rfl ?_
  refine g_aload_n k123_684 rfl ?_
  refine g_iload_n k123_685 rfl ?_
  refine g_iconst (v := 1) k123_686 ic_1 ?_
  refine g_iadd k123_687 ?_
  refine g_top (y := nI (i + 1)) (ai_1 i) ?_
  refine g_sal (v := im 0 (i + 1)) k123_688 (by omega) (by omega) (hkp _ (by omega)) ?_
  refine g_aload_n k123_689 rfl ?_
  refine g_iload_n k123_690 rfl ?_
  refine g_iconst (v := 2) k123_691 ic_2 ?_
  refine g_iadd k123_692 ?_
  refine g_top (y := nI (i + 2)) (ai_2 i) ?_
  refine g_sal (v := im 0 (i + 2)) k123_693 (by omega) (by omega) (hkp _ (by omega)) ?_
  refine g_aload_n k123_694 rfl ?_
  refine g_iload_n k123_695 rfl ?_
  refine g_iconst (v := 3) k123_696 ic_3 ?_
  refine g_iadd k123_697 ?_
  refine g_top (y := nI (i + 3)) (ai_3 i) ?_
  refine g_sal (v := im 0 (i + 3)) k123_698 (by omega) (by omega) (hkp _ (by omega)) ?_
  refine g_inv3 k123_699 (sM371) rfl rfl rfl (by decide) (Nat.le_of_ble_eq_true rfl) (g_mono (fun r2 im2 hk2 => ?_) hk)
  obtain ⟨rfl, hI2⟩ := hk2
  exact g_icmp_eq k123_702 (fun _ => h im2 hI2) (fun z => absurd rfl z)
set_option maxRecDepth 20000 in
set_option maxHeartbeats 4000000 in
theorem q_17 (hM : isLd LS rm) (hO : isMo LS rm) (hI : Inv K im) (hi : i + 4 ≤ LS) (hLS : LS ≤ 300000) (h : ∀ im', Inv (K + 1) im' → Gm LS rm 123 730 [.ref 0, .ref 1, .ref 371, .int (nI i)] [] im' P) : Gm LS rm 123 707 [.ref 0, .ref 1, .ref 371, .int (nI i)] [] im P := by
  refine g_aload_n k123_707 rfl ?_
  refine g_aload_n k123_708 rfl ?_
  refine g_iload_n k123_709 rfl ?_
  refine g_iconst (v := 1) k123_710 ic_1 ?_
  refine g_iadd k123_711 ?_
  refine g_top (y := nI (i + 1)) (ai_1 i) ?_
  refine g_sal (v := im 0 (i + 1)) k123_712 (by omega) (by omega) (rfl) ?_
  refine g_inv1 k123_713 (hM.1.1) rfl (by decide) (Nat.le_of_ble_eq_true rfl) (g_keep (g_mono (fun r im1 hk hkp => ?_) (p_18 hM hO hI)))
  obtain ⟨v, rfl, hk⟩ := hk
  refine g_aload_n k123_716 rfl ?_
  refine g_aload_n k123_717 rfl ?_
  refine g_iload_n k123_718 rfl ?_
  refine g_iconst (v := 1) k123_719 ic_1 ?_
  refine g_iadd k123_720 ?_
  refine g_top (y := nI (i + 1)) (ai_1 i) ?_
  refine g_sal (v := im 0 (i + 1)) k123_721 (by omega) (by omega) (hkp _ (by omega)) ?_
  refine g_inv1 k123_722 (sM371) rfl (by decide) (Nat.le_of_ble_eq_true rfl) (g_mono (fun r2 im2 hk2 => ?_) hk)
  obtain ⟨rfl, hI2⟩ := hk2
  exact g_icmp_eq k123_725 (fun _ => h im2 hI2) (fun z => absurd rfl z)
theorem li_le {LS i : Nat} (h1 : LS ≤ 300000) (h2 : i ≤ 300004) : (nI LS - 4 < nI i) ↔ LS < i + 4 := by
  rw [Int32.lt_iff_toInt_lt, show (4 : Int32) = nI 4 from rfl, pk_sub_toInt (by omega) (by omega), nI_toInt (by omega)]
  omega
set_option maxRecDepth 20000 in
set_option maxHeartbeats 4000000 in
theorem lw_loop (hM : isLd LS rm) (hO : isMo LS rm) (hLS : LS ≤ 300000) (hP : ∀ im', P (some (.int 1)) im') : ∀ (m K : Nat) (im : Nat → Nat → Int32), LS < 4 * K + 4 * m + 4 → 4 * K ≤ LS + 3 → Inv K im → Gm LS rm 123 18 [.ref 0, .ref 1, .ref 371, .int (nI (4 * K))] [] im P := by
  intro m
  induction m with
  | zero =>
    intro K im h1 h2 hI
    refine g_iload_n k123_18 rfl ?_
    refine g_aload_n k123_19 rfl ?_
    refine g_slen k123_20 ?_
    refine g_iconst (v := 4) k123_21 ic_4 ?_
    refine g_isub k123_22 ?_
    refine g_icmp_gt k123_23 (fun _ => ?_) (fun z => absurd ((li_le hLS (by omega)).mpr (by omega)) z)
    refine g_iconst (v := 1) k123_736 ic_1 ?_
    exact g_retz k123_737 rfl (by decide) (hP im)
  | succ m ih =>
    intro K im h1 h2 hI
    refine g_iload_n k123_18 rfl ?_
    refine g_aload_n k123_19 rfl ?_
    refine g_slen k123_20 ?_
    refine g_iconst (v := 4) k123_21 ic_4 ?_
    refine g_isub k123_22 ?_
    refine g_icmp_gt k123_23 (fun _ => ?_) (fun z => ?_)
    · refine g_iconst (v := 1) k123_736 ic_1 ?_
      exact g_retz k123_737 rfl (by decide) (hP im)
    · have hi : 4 * K + 4 ≤ LS := Nat.not_lt.mp (fun w => z ((li_le hLS (by omega)).mpr w))
      have go : ∀ im', Inv (K + 1) im' → Gm LS rm 123 730 [.ref 0, .ref 1, .ref 371, .int (nI (4 * K))] [] im' P := by
        intro im' hI'
        refine g_iincv (y := nI (4 * (K + 1))) k123_730 rfl (by decide) (ai_4 (4 * K)) rfl ?_
        refine g_goto k123_733 ?_
        exact ih (K + 1) im' (by omega) (by omega) hI'
      refine g_aload_n k123_26 rfl ?_
      refine g_iload_n k123_27 rfl ?_
      refine g_sal (v := im 0 (4 * K)) k123_28 (by omega) (by omega) rfl ?_
      refine g_bipush (v := 31) k123_29 bp_31 ?_
      refine g_iand k123_31 ?_
      obtain ⟨j, hj, e⟩ := pk_andE (im 0 (4 * K)) (m := 31) 5 (by decide)
      rw [e]
      by_cases h18 : j < 18
      · rcases (show j = 0 ∨ j = 1 ∨ j = 2 ∨ j = 3 ∨ j = 4 ∨ j = 5 ∨ j = 6 ∨ j = 7 ∨ j = 8 ∨ j = 9 ∨ j = 10 ∨ j = 11 ∨ j = 12 ∨ j = 13 ∨ j = 14 ∨ j = 15 ∨ j = 16 ∨ j = 17 by omega) with rfl | rfl | rfl | rfl | rfl | rfl | rfl | rfl | rfl | rfl | rfl | rfl | rfl | rfl | rfl | rfl | rfl | rfl
        · exact g_tabI (off := 88) k123_32 (by decide) (by decide) rfl (by decide) (q_0 hM hO hI hi hLS go)
        · exact g_tabI (off := 131) k123_32 (by decide) (by decide) rfl (by decide) (q_1 hM hO hI hi hLS go)
        · exact g_tabI (off := 174) k123_32 (by decide) (by decide) rfl (by decide) (q_2 hM hO hI hi hLS go)
        · exact g_tabI (off := 207) k123_32 (by decide) (by decide) rfl (by decide) (q_3 hM hO hI hi hLS go)
        · exact g_tabI (off := 240) k123_32 (by decide) (by decide) rfl (by decide) (q_4 hM hO hI hi hLS go)
        · exact g_tabI (off := 263) k123_32 (by decide) (by decide) rfl (by decide) (q_5 (by omega) hM hO hI hi hLS go)
        · exact g_tabI (off := 286) k123_32 (by decide) (by decide) rfl (by decide) (q_6 hM hO hI hi hLS go)
        · exact g_tabI (off := 309) k123_32 (by decide) (by decide) rfl (by decide) (q_7 (by omega) hM hO hI hi hLS go)
        · exact g_tabI (off := 342) k123_32 (by decide) (by decide) rfl (by decide) (q_8 hM hO hI hi hLS go)
        · exact g_tabI (off := 391) k123_32 (by decide) (by decide) rfl (by decide) (q_9 hM hO hI hi hLS go)
        · exact g_tabI (off := 414) k123_32 (by decide) (by decide) rfl (by decide) (q_10 hM hO hI hi hLS go)
        · exact g_tabI (off := 437) k123_32 (by decide) (by decide) rfl (by decide) (q_11 hM hO hI hi hLS go)
        · exact g_tabI (off := 470) k123_32 (by decide) (by decide) rfl (by decide) (q_12 hM hO hI hi hLS go)
        · exact g_tabI (off := 513) k123_32 (by decide) (by decide) rfl (by decide) (q_13 hM hO hI hi hLS go)
        · exact g_tabI (off := 556) k123_32 (by decide) (by decide) rfl (by decide) (q_14 hM hO hI hi hLS go)
        · exact g_tabI (off := 599) k123_32 (by decide) (by decide) rfl (by decide) (q_15 hM hO hI hi hLS go)
        · exact g_tabI (off := 632) k123_32 (by decide) (by decide) rfl (by decide) (q_16 hM hO hI hi hLS go)
        · exact g_tabI (off := 675) k123_32 (by decide) (by decide) rfl (by decide) (q_17 hM hO hI hi hLS go)
      · exact g_tabO k123_32 (Or.inr (by rw [nI_toInt (by omega)]; omega)) (by decide) (go im (Inv_k hI))
end LAW
