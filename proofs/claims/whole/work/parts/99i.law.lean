/-! the law's loop: its 33 cases -/
def QL : Option AV → Tp → Mem → Prop := fun v _ _ => v = some (vI 1)
def LI (h : Mem) (σ : ST) : Prop := CS h σ ∧ MS h σ ∧ WFst σ ∧ RO h ∧ DG h
def GF (h h1 : Mem) : Prop := ∀ c, 373 ≤ c → c ≤ 388 ∨ 1000000 ≤ c → h1 c = h c
def KL (L i N C S : Nat) : Prop := ∀ (e q n ck sk : Nat) (σ : ST) (h : Mem), LI h σ → 389 ≤ n → n % 2 = 1 → n ≤ N → ck ≤ C → sk ≤ S → AW M_L_law 1500 30000 QL 1070 [some (vR 1000000), some (vR 0), some (vR 373), some (vI i)] [] (TT e q n L) h ck sk
theorem MS.fr {h h' : Mem} {σ : ST} (f : ∀ c, 373 ≤ c → c ≤ 388 → h' c = h c) (hM : MS h σ) : MS h' σ := by
  obtain ⟨a1, a2, a3, a4, a5, a6, a7, a8⟩ := hM
  have em : ∀ a o, 373 ≤ a → a ≤ 388 → mV h' a o = mV h a o := fun a o x y => by unfold mV mS; rw [f a x y]
  refine ⟨fun i i0 i1 => ?_, by rw [f 373 (by decide) (by decide)]; exact a2, ⟨by rw [f 373 (by decide) (by decide)]; exact a3.1, fun j j0 j1 => by rw [f 378 (by decide) (by decide)]; exact a3.2 j j0 j1⟩, by rw [f 373 (by decide) (by decide)]; exact a4, by rw [em 379 _ (by decide) (by decide)]; exact a5, ⟨by rw [f 373 (by decide) (by decide)]; exact a6.1, a6.2.1, fun j hj => by rw [em 382 _ (by decide) (by decide)]; exact a6.2.2 j hj⟩, fun k k0 k1 => ⟨by rw [f 384 (by decide) (by decide)]; exact (a7 k k0 k1).1, by rw [em 383 _ (by decide) (by decide)]; exact (a7 k k0 k1).2⟩, ⟨by rw [f 373 (by decide) (by decide)]; exact a8.1, fun j j0 j1 => by rw [f 388 (by decide) (by decide)]; exact a8.2 j j0 j1⟩⟩
  rw [f 374 (by decide) (by decide), f 375 (by decide) (by decide), f 376 (by decide) (by decide)]
  exact a1 i i0 i1
theorem LI.ms {h h1 : Mem} {σ : ST} (hI : LI h σ) (g : GF h h1) : MS h1 σ := hI.2.1.fr (fun c c0 c1 => g c c0 (Or.inl c1))
theorem LI.nx {h h1 h2 : Mem} {σ σ' : ST} (hI : LI h σ) (hC1 : CS h1 σ') (g : GF h h1) (hM2 : MS h2 σ') (f2 : ∀ c, c < 373 ∨ 388 < c → h2 c = h1 c) (hW : WFst σ') : LI h2 σ' := by
  have e : ∀ c, 1000000 ≤ c → h2 c = h c := fun c hc => (f2 c (Or.inr (by omega))).trans (g c (by omega) (Or.inr hc))
  refine ⟨hC1.fr (fun c hc => f2 c (by unfold KC at hc; omega)), hM2, hW, fun i i0 i1 => by rw [e 1000001 (by decide)]; exact hI.2.2.2.1 i i0 i1, fun j j0 j1 => ?_⟩
  rw [e 1000002 (by decide), e 1000003 (by decide)]
  exact hI.2.2.2.2 j j0 j1
section LAW
variable {L i n e q ck sk : Nat} {h : Mem} {σ : ST}
theorem lw_row (hk : KL L i (n + 2) (ck + 2) (sk + 20)) (hI : LI h σ) (hL : L ≤ 3072) (hi : i + 6 ≤ L) (n1 : 389 ≤ n) (n2 : n % 2 = 1) (n3 : n + 2 ≤ 1000000) (hc : ck + 2 ≤ 1500) (hs : sk + 20 ≤ 30000) : AW M_L_law 1500 30000 QL 180 [some (vR 1000000), some (vR 0), some (vR 373), some (vI i)] [] (TT e q n L) h ck sk := by
  refine aw_aload_n dL_law_180 rfl ?_
  refine aw_aload_n dL_law_181 rfl ?_
  refine aw_iload_n dL_law_182 rfl ?_
  refine aw_iconst dL_law_183 (by decide) (by decide) ?_
  refine aw_iadd dL_law_184 (by omega) (by omega) ?_
  refine aw_iaload dL_law_185 (by first | rfl | assumption) (by omega) (by omega) ?_
  refine aw_aload_n dL_law_186 rfl ?_
  refine aw_iload_n dL_law_187 rfl ?_
  refine aw_iconst dL_law_188 (by decide) (by decide) ?_
  refine aw_iadd dL_law_189 (by omega) (by omega) ?_
  refine aw_iaload dL_law_190 (by first | rfl | assumption) (by omega) (by omega) ?_
  refine aw_aload_n dL_law_191 rfl ?_
  refine aw_iload_n dL_law_192 rfl ?_
  refine aw_iconst dL_law_193 (by decide) (by decide) ?_
  refine aw_iadd dL_law_194 (by omega) (by omega) ?_
  refine aw_iaload dL_law_195 (by first | rfl | assumption) (by omega) (by omega) ?_
  refine aw_v3q dL_law_196 vl_RL_13 (by first | rfl | assumption) (Nat.le_of_ble_eq_true rfl) (Nat.le_of_ble_eq_true rfl) (Nat.le_of_ble_eq_true rfl) (by omega) (by omega) (c_X8_row hI.1 hI.2.2.1) ?_
  intro v t' h1 hq
  obtain ⟨rfl, rfl, hC1, f1⟩ := hq
  have g1 : GF h h1 := fun c c0 _ => f1 c c0
  have hM1 := hI.ms g1
  refine aw_aload_n dL_law_199 rfl ?_
  refine aw_aload_n dL_law_200 rfl ?_
  refine aw_iload_n dL_law_201 rfl ?_
  refine aw_iconst dL_law_202 (by decide) (by decide) ?_
  refine aw_iadd dL_law_203 (by omega) (by omega) ?_
  refine aw_iaload dL_law_204 (by first | rfl | assumption) (by omega) (by omega) ?_
  refine aw_aload_n dL_law_205 rfl ?_
  refine aw_iload_n dL_law_206 rfl ?_
  refine aw_iconst dL_law_207 (by decide) (by decide) ?_
  refine aw_iadd dL_law_208 (by omega) (by omega) ?_
  refine aw_iaload dL_law_209 (by first | rfl | assumption) (by omega) (by omega) ?_
  refine aw_aload_n dL_law_210 rfl ?_
  refine aw_iload_n dL_law_211 rfl ?_
  refine aw_iconst dL_law_212 (by decide) (by decide) ?_
  refine aw_iadd dL_law_213 (by omega) (by omega) ?_
  refine aw_iaload dL_law_214 (by first | rfl | assumption) (by omega) (by omega) ?_
  refine aw_v3q dL_law_215 vl_RL_17 (by first | rfl | assumption) (Nat.le_of_ble_eq_true rfl) (Nat.le_of_ble_eq_true rfl) (Nat.le_of_ble_eq_true rfl) (by omega) (by omega) (c_X9_row hM1) ?_
  intro v t' h2 hq
  obtain ⟨rfl, rfl, hM2, f2⟩ := hq
  rw [g1 1000000 (by decide) (Or.inr (Nat.le_refl _))] at hM2 ⊢
  refine aw_icmp_eq 1070 dL_law_218 rfl (fun c218 => ?_) (fun c218 => ?_)
  · exact hk _ _ _ _ _ _ _ (hI.nx hC1 g1 hM2 f2 (k_row hI.2.2.1)) (by omega) (by omega) (by omega) (by omega) (by omega)
  · exact absurd rfl c218
theorem lw_set (hk : KL L i (n + 2) (ck + 2) (sk + 20)) (hI : LI h σ) (hL : L ≤ 3072) (hi : i + 6 ≤ L) (n1 : 389 ≤ n) (n2 : n % 2 = 1) (n3 : n + 2 ≤ 1000000) (hc : ck + 2 ≤ 1500) (hs : sk + 20 ≤ 30000) : AW M_L_law 1500 30000 QL 223 [some (vR 1000000), some (vR 0), some (vR 373), some (vI i)] [] (TT e q n L) h ck sk := by
  refine aw_aload_n dL_law_223 rfl ?_
  refine aw_aload_n dL_law_224 rfl ?_
  refine aw_iload_n dL_law_225 rfl ?_
  refine aw_iconst dL_law_226 (by decide) (by decide) ?_
  refine aw_iadd dL_law_227 (by omega) (by omega) ?_
  refine aw_iaload dL_law_228 (by first | rfl | assumption) (by omega) (by omega) ?_
  refine aw_aload_n dL_law_229 rfl ?_
  refine aw_iload_n dL_law_230 rfl ?_
  refine aw_iconst dL_law_231 (by decide) (by decide) ?_
  refine aw_iadd dL_law_232 (by omega) (by omega) ?_
  refine aw_iaload dL_law_233 (by first | rfl | assumption) (by omega) (by omega) ?_
  refine aw_aload_n dL_law_234 rfl ?_
  refine aw_iload_n dL_law_235 rfl ?_
  refine aw_iconst dL_law_236 (by decide) (by decide) ?_
  refine aw_iadd dL_law_237 (by omega) (by omega) ?_
  refine aw_iaload dL_law_238 (by first | rfl | assumption) (by omega) (by omega) ?_
  refine aw_v3q dL_law_239 vl_RL_18 (by first | rfl | assumption) (Nat.le_of_ble_eq_true rfl) (Nat.le_of_ble_eq_true rfl) (Nat.le_of_ble_eq_true rfl) (by omega) (by omega) (c_X8_set hI.1 hI.2.2.1) ?_
  intro v t' h1 hq
  obtain ⟨rfl, rfl, hC1, f1⟩ := hq
  have g1 : GF h h1 := fun c c0 _ => f1 c c0
  have hM1 := hI.ms g1
  refine aw_aload_n dL_law_242 rfl ?_
  refine aw_aload_n dL_law_243 rfl ?_
  refine aw_iload_n dL_law_244 rfl ?_
  refine aw_iconst dL_law_245 (by decide) (by decide) ?_
  refine aw_iadd dL_law_246 (by omega) (by omega) ?_
  refine aw_iaload dL_law_247 (by first | rfl | assumption) (by omega) (by omega) ?_
  refine aw_aload_n dL_law_248 rfl ?_
  refine aw_iload_n dL_law_249 rfl ?_
  refine aw_iconst dL_law_250 (by decide) (by decide) ?_
  refine aw_iadd dL_law_251 (by omega) (by omega) ?_
  refine aw_iaload dL_law_252 (by first | rfl | assumption) (by omega) (by omega) ?_
  refine aw_aload_n dL_law_253 rfl ?_
  refine aw_iload_n dL_law_254 rfl ?_
  refine aw_iconst dL_law_255 (by decide) (by decide) ?_
  refine aw_iadd dL_law_256 (by omega) (by omega) ?_
  refine aw_iaload dL_law_257 (by first | rfl | assumption) (by omega) (by omega) ?_
  refine aw_v3q dL_law_258 vl_RL_21 (by first | rfl | assumption) (Nat.le_of_ble_eq_true rfl) (Nat.le_of_ble_eq_true rfl) (Nat.le_of_ble_eq_true rfl) (by omega) (by omega) (c_X9_set hM1 hI.2.2.1) ?_
  intro v t' h2 hq
  obtain ⟨rfl, rfl, hM2, f2⟩ := hq
  rw [g1 1000000 (by decide) (Or.inr (Nat.le_refl _))] at hM2 ⊢
  refine aw_icmp_eq 1070 dL_law_261 rfl (fun c261 => ?_) (fun c261 => ?_)
  · exact hk _ _ _ _ _ _ _ (hI.nx hC1 g1 hM2 f2 (k_set hI.2.2.1)) (by omega) (by omega) (by omega) (by omega) (by omega)
  · exact absurd rfl c261
theorem lw_copy (hk : KL L i (n + 2) (ck + 2) (sk + 20)) (hI : LI h σ) (hL : L ≤ 3072) (hi : i + 6 ≤ L) (n1 : 389 ≤ n) (n2 : n % 2 = 1) (n3 : n + 2 ≤ 1000000) (hc : ck + 2 ≤ 1500) (hs : sk + 20 ≤ 30000) : AW M_L_law 1500 30000 QL 266 [some (vR 1000000), some (vR 0), some (vR 373), some (vI i)] [] (TT e q n L) h ck sk := by
  refine aw_aload_n dL_law_266 rfl ?_
  refine aw_aload_n dL_law_267 rfl ?_
  refine aw_iload_n dL_law_268 rfl ?_
  refine aw_iconst dL_law_269 (by decide) (by decide) ?_
  refine aw_iadd dL_law_270 (by omega) (by omega) ?_
  refine aw_iaload dL_law_271 (by first | rfl | assumption) (by omega) (by omega) ?_
  refine aw_aload_n dL_law_272 rfl ?_
  refine aw_iload_n dL_law_273 rfl ?_
  refine aw_iconst dL_law_274 (by decide) (by decide) ?_
  refine aw_iadd dL_law_275 (by omega) (by omega) ?_
  refine aw_iaload dL_law_276 (by first | rfl | assumption) (by omega) (by omega) ?_
  refine aw_aload_n dL_law_277 rfl ?_
  refine aw_iload_n dL_law_278 rfl ?_
  refine aw_iconst dL_law_279 (by decide) (by decide) ?_
  refine aw_iadd dL_law_280 (by omega) (by omega) ?_
  refine aw_iaload dL_law_281 (by first | rfl | assumption) (by omega) (by omega) ?_
  refine aw_aload_n dL_law_282 rfl ?_
  refine aw_iload_n dL_law_283 rfl ?_
  refine aw_iconst dL_law_284 (by decide) (by decide) ?_
  refine aw_iadd dL_law_285 (by omega) (by omega) ?_
  refine aw_iaload dL_law_286 (by first | rfl | assumption) (by omega) (by omega) ?_
  refine aw_aload_n dL_law_287 rfl ?_
  refine aw_iload_n dL_law_288 rfl ?_
  refine aw_iconst dL_law_289 (by decide) (by decide) ?_
  refine aw_iadd dL_law_290 (by omega) (by omega) ?_
  refine aw_iaload dL_law_291 (by first | rfl | assumption) (by omega) (by omega) ?_
  refine aw_v5q dL_law_292 vl_RL_22 (by first | rfl | assumption) (Nat.le_of_ble_eq_true rfl) (Nat.le_of_ble_eq_true rfl) (Nat.le_of_ble_eq_true rfl) (by omega) (by omega) (c_X8_copy hI.1 hI.2.2.1) ?_
  intro v t' h1 hq
  obtain ⟨rfl, rfl, hC1, f1⟩ := hq
  have g1 : GF h h1 := fun c c0 _ => f1 c c0
  have hM1 := hI.ms g1
  refine aw_aload_n dL_law_295 rfl ?_
  refine aw_aload_n dL_law_296 rfl ?_
  refine aw_iload_n dL_law_297 rfl ?_
  refine aw_iconst dL_law_298 (by decide) (by decide) ?_
  refine aw_iadd dL_law_299 (by omega) (by omega) ?_
  refine aw_iaload dL_law_300 (by first | rfl | assumption) (by omega) (by omega) ?_
  refine aw_aload_n dL_law_301 rfl ?_
  refine aw_iload_n dL_law_302 rfl ?_
  refine aw_iconst dL_law_303 (by decide) (by decide) ?_
  refine aw_iadd dL_law_304 (by omega) (by omega) ?_
  refine aw_iaload dL_law_305 (by first | rfl | assumption) (by omega) (by omega) ?_
  refine aw_aload_n dL_law_306 rfl ?_
  refine aw_iload_n dL_law_307 rfl ?_
  refine aw_iconst dL_law_308 (by decide) (by decide) ?_
  refine aw_iadd dL_law_309 (by omega) (by omega) ?_
  refine aw_iaload dL_law_310 (by first | rfl | assumption) (by omega) (by omega) ?_
  refine aw_aload_n dL_law_311 rfl ?_
  refine aw_iload_n dL_law_312 rfl ?_
  refine aw_iconst dL_law_313 (by decide) (by decide) ?_
  refine aw_iadd dL_law_314 (by omega) (by omega) ?_
  refine aw_iaload dL_law_315 (by first | rfl | assumption) (by omega) (by omega) ?_
  refine aw_aload_n dL_law_316 rfl ?_
  refine aw_iload_n dL_law_317 rfl ?_
  refine aw_iconst dL_law_318 (by decide) (by decide) ?_
  refine aw_iadd dL_law_319 (by omega) (by omega) ?_
  refine aw_iaload dL_law_320 (by first | rfl | assumption) (by omega) (by omega) ?_
  refine aw_v5q dL_law_321 vl_RL_26 (by first | rfl | assumption) (Nat.le_of_ble_eq_true rfl) (Nat.le_of_ble_eq_true rfl) (Nat.le_of_ble_eq_true rfl) (by omega) (by omega) (c_X9_copy hM1 hI.2.2.1) ?_
  intro v t' h2 hq
  obtain ⟨rfl, rfl, hM2, f2⟩ := hq
  rw [g1 1000000 (by decide) (Or.inr (Nat.le_refl _))] at hM2 ⊢
  refine aw_icmp_eq 1070 dL_law_324 rfl (fun c324 => ?_) (fun c324 => ?_)
  · exact hk _ _ _ _ _ _ _ (hI.nx hC1 g1 hM2 f2 (k_copy hI.2.2.1)) (by omega) (by omega) (by omega) (by omega) (by omega)
  · exact absurd rfl c324
theorem lw_drop (hk : KL L i (n + 2) (ck + 2) (sk + 20)) (hI : LI h σ) (hL : L ≤ 3072) (hi : i + 6 ≤ L) (n1 : 389 ≤ n) (n2 : n % 2 = 1) (n3 : n + 2 ≤ 1000000) (hc : ck + 2 ≤ 1500) (hs : sk + 20 ≤ 30000) : AW M_L_law 1500 30000 QL 329 [some (vR 1000000), some (vR 0), some (vR 373), some (vI i)] [] (TT e q n L) h ck sk := by
  refine aw_aload_n dL_law_329 rfl ?_
  refine aw_aload_n dL_law_330 rfl ?_
  refine aw_iload_n dL_law_331 rfl ?_
  refine aw_iconst dL_law_332 (by decide) (by decide) ?_
  refine aw_iadd dL_law_333 (by omega) (by omega) ?_
  refine aw_iaload dL_law_334 (by first | rfl | assumption) (by omega) (by omega) ?_
  refine aw_v1q dL_law_335 vl_RL_27 (by first | rfl | assumption) (Nat.le_of_ble_eq_true rfl) (Nat.le_of_ble_eq_true rfl) (Nat.le_of_ble_eq_true rfl) (by omega) (by omega) (c_X8_drop hI.1 hI.2.2.1) ?_
  intro v t' h1 hq
  obtain ⟨rfl, rfl, hC1, f1⟩ := hq
  have g1 : GF h h1 := fun c c0 _ => f1 c c0
  have hM1 := hI.ms g1
  refine aw_aload_n dL_law_338 rfl ?_
  refine aw_aload_n dL_law_339 rfl ?_
  refine aw_iload_n dL_law_340 rfl ?_
  refine aw_iconst dL_law_341 (by decide) (by decide) ?_
  refine aw_iadd dL_law_342 (by omega) (by omega) ?_
  refine aw_iaload dL_law_343 (by first | rfl | assumption) (by omega) (by omega) ?_
  refine aw_v1q dL_law_344 vl_RL_31 (by first | rfl | assumption) (Nat.le_of_ble_eq_true rfl) (Nat.le_of_ble_eq_true rfl) (Nat.le_of_ble_eq_true rfl) (by omega) (by omega) (c_X9_drop hM1 hI.2.2.1) ?_
  intro v t' h2 hq
  obtain ⟨rfl, rfl, hM2, f2⟩ := hq
  rw [g1 1000000 (by decide) (Or.inr (Nat.le_refl _))] at hM2 ⊢
  refine aw_icmp_eq 1070 dL_law_347 rfl (fun c347 => ?_) (fun c347 => ?_)
  · exact hk _ _ _ _ _ _ _ (hI.nx hC1 g1 hM2 f2 (k_drop hI.2.2.1)) (by omega) (by omega) (by omega) (by omega) (by omega)
  · exact absurd rfl c347
theorem lw_feed (hk : KL L i (n + 2) (ck + 2) (sk + 20)) (hI : LI h σ) (hL : L ≤ 3072) (hi : i + 6 ≤ L) (n1 : 389 ≤ n) (n2 : n % 2 = 1) (n3 : n + 2 ≤ 1000000) (hc : ck + 2 ≤ 1500) (hs : sk + 20 ≤ 30000) : AW M_L_law 1500 30000 QL 352 [some (vR 1000000), some (vR 0), some (vR 373), some (vI i)] [] (TT e q n L) h ck sk := by
  refine aw_aload_n dL_law_352 rfl ?_
  refine aw_aload_n dL_law_353 rfl ?_
  refine aw_iload_n dL_law_354 rfl ?_
  refine aw_iconst dL_law_355 (by decide) (by decide) ?_
  refine aw_iadd dL_law_356 (by omega) (by omega) ?_
  refine aw_iaload dL_law_357 (by first | rfl | assumption) (by omega) (by omega) ?_
  refine aw_v1q dL_law_358 vl_RL_32 (by first | rfl | assumption) (Nat.le_of_ble_eq_true rfl) (Nat.le_of_ble_eq_true rfl) (Nat.le_of_ble_eq_true rfl) (by omega) (by omega) (c_X8_feed hI.1 hI.2.2.1) ?_
  intro v t' h1 hq
  obtain ⟨rfl, rfl, hC1, f1⟩ := hq
  have g1 : GF h h1 := fun c c0 _ => f1 c c0
  have hM1 := hI.ms g1
  refine aw_aload_n dL_law_361 rfl ?_
  refine aw_aload_n dL_law_362 rfl ?_
  refine aw_iload_n dL_law_363 rfl ?_
  refine aw_iconst dL_law_364 (by decide) (by decide) ?_
  refine aw_iadd dL_law_365 (by omega) (by omega) ?_
  refine aw_iaload dL_law_366 (by first | rfl | assumption) (by omega) (by omega) ?_
  refine aw_v1q dL_law_367 vl_RL_35 (by first | rfl | assumption) (Nat.le_of_ble_eq_true rfl) (Nat.le_of_ble_eq_true rfl) (Nat.le_of_ble_eq_true rfl) (by omega) (by omega) (c_X9_feed hM1 hI.2.2.1) ?_
  intro v t' h2 hq
  obtain ⟨rfl, rfl, hM2, f2⟩ := hq
  rw [g1 1000000 (by decide) (Or.inr (Nat.le_refl _))] at hM2 ⊢
  refine aw_icmp_eq 1070 dL_law_370 rfl (fun c370 => ?_) (fun c370 => ?_)
  · exact hk _ _ _ _ _ _ _ (hI.nx hC1 g1 hM2 f2 (k_feed hI.2.2.1)) (by omega) (by omega) (by omega) (by omega) (by omega)
  · exact absurd rfl c370
theorem lw_sheet (hk : KL L i (n + 2) (ck + 2) (sk + 20)) (hI : LI h σ) (hL : L ≤ 3072) (hi : i + 6 ≤ L) (n1 : 389 ≤ n) (n2 : n % 2 = 1) (n3 : n + 2 ≤ 1000000) (hc : ck + 2 ≤ 1500) (hs : sk + 20 ≤ 30000) : AW M_L_law 1500 30000 QL 375 [some (vR 1000000), some (vR 0), some (vR 373), some (vI i)] [] (TT e q n L) h ck sk := by
  refine aw_aload_n dL_law_375 rfl ?_
  refine aw_v0q dL_law_376 vl_RL_36 (by first | rfl | assumption) (Nat.le_of_ble_eq_true rfl) (Nat.le_of_ble_eq_true rfl) (Nat.le_of_ble_eq_true rfl) (by omega) (by omega) (c_X8_sheet hI.1 hI.2.2.1) ?_
  intro v t' h1 hq
  obtain ⟨rfl, rfl, hC1, f1⟩ := hq
  have g1 : GF h h1 := fun c c0 _ => f1 c c0
  have hM1 := hI.ms g1
  refine aw_aload_n dL_law_379 rfl ?_
  refine aw_v0q dL_law_380 vl_RL_40 (by first | rfl | assumption) (Nat.le_of_ble_eq_true rfl) (Nat.le_of_ble_eq_true rfl) (Nat.le_of_ble_eq_true rfl) (by omega) (by omega) (c_X9_sheet hM1 hI.2.2.1) ?_
  intro v t' h2 hq
  obtain ⟨rfl, rfl, hM2, f2⟩ := hq
  refine aw_icmp_eq 1070 dL_law_383 rfl (fun c383 => ?_) (fun c383 => ?_)
  · exact hk _ _ _ _ _ _ _ (hI.nx hC1 g1 hM2 f2 (k_sheet hI.2.2.1)) (by omega) (by omega) (by omega) (by omega) (by omega)
  · exact absurd rfl c383
theorem lw_fault (hk : KL L i (n + 2) (ck + 2) (sk + 20)) (hI : LI h σ) (hL : L ≤ 3072) (hi : i + 6 ≤ L) (n1 : 389 ≤ n) (n2 : n % 2 = 1) (n3 : n + 2 ≤ 1000000) (hc : ck + 2 ≤ 1500) (hs : sk + 20 ≤ 30000) : AW M_L_law 1500 30000 QL 388 [some (vR 1000000), some (vR 0), some (vR 373), some (vI i)] [] (TT e q n L) h ck sk := by
  refine aw_aload_n dL_law_388 rfl ?_
  refine aw_v0q dL_law_389 vl_RL_41 (by first | rfl | assumption) (Nat.le_of_ble_eq_true rfl) (Nat.le_of_ble_eq_true rfl) (Nat.le_of_ble_eq_true rfl) (by omega) (by omega) (c_X8_fault hI.1) ?_
  intro v t' h1 hq
  obtain ⟨rfl, rfl, hC1, f1⟩ := hq
  have g1 : GF h h1 := fun c c0 _ => f1 c c0
  have hM1 := hI.ms g1
  refine aw_aload_n dL_law_392 rfl ?_
  refine aw_v0q dL_law_393 vl_RL_44 (by first | rfl | assumption) (Nat.le_of_ble_eq_true rfl) (Nat.le_of_ble_eq_true rfl) (Nat.le_of_ble_eq_true rfl) (by omega) (by omega) (c_X9_fault hM1) ?_
  intro v t' h2 hq
  obtain ⟨rfl, rfl, hM2, f2⟩ := hq
  refine aw_icmp_eq 1070 dL_law_396 rfl (fun c396 => ?_) (fun c396 => ?_)
  · exact hk _ _ _ _ _ _ _ (hI.nx hC1 g1 hM2 f2 hI.2.2.1) (by omega) (by omega) (by omega) (by omega) (by omega)
  · exact absurd rfl c396
theorem lw_round (hk : KL L i (n + 2) (ck + 2) (sk + 20)) (hI : LI h σ) (hL : L ≤ 3072) (hi : i + 6 ≤ L) (n1 : 389 ≤ n) (n2 : n % 2 = 1) (n3 : n + 2 ≤ 1000000) (hc : ck + 2 ≤ 1500) (hs : sk + 20 ≤ 30000) : AW M_L_law 1500 30000 QL 401 [some (vR 1000000), some (vR 0), some (vR 373), some (vI i)] [] (TT e q n L) h ck sk := by
  refine aw_aload_n dL_law_401 rfl ?_
  refine aw_v0q dL_law_402 vl_RL_45 (by first | rfl | assumption) (Nat.le_of_ble_eq_true rfl) (Nat.le_of_ble_eq_true rfl) (Nat.le_of_ble_eq_true rfl) (by omega) (by omega) (c_X8_round hI.1 hI.2.2.1 hI.2.2.2.1) ?_
  intro v t' h1 hq
  obtain ⟨rfl, rfl, hC1, f1⟩ := hq
  have g1 : GF h h1 := fun c c0 _ => f1 c c0
  have hM1 := hI.ms g1
  refine aw_aload_n dL_law_405 rfl ?_
  refine aw_v0q dL_law_406 vl_RL_48 (by first | rfl | assumption) (Nat.le_of_ble_eq_true rfl) (Nat.le_of_ble_eq_true rfl) (Nat.le_of_ble_eq_true rfl) (by omega) (by omega) (c_X9_round hM1 hI.2.2.1) ?_
  intro v t' h2 hq
  obtain ⟨rfl, rfl, hM2, f2⟩ := hq
  refine aw_icmp_eq 1070 dL_law_409 rfl (fun c409 => ?_) (fun c409 => ?_)
  · exact hk _ _ _ _ _ _ _ (hI.nx hC1 g1 hM2 f2 (k_round hI.2.2.1)) (by omega) (by omega) (by omega) (by omega) (by omega)
  · exact absurd rfl c409
theorem lw_settle (hk : KL L i (n + 2) (ck + 2) (sk + 20)) (hI : LI h σ) (hL : L ≤ 3072) (hi : i + 6 ≤ L) (n1 : 389 ≤ n) (n2 : n % 2 = 1) (n3 : n + 2 ≤ 1000000) (hc : ck + 2 ≤ 1500) (hs : sk + 20 ≤ 30000) : AW M_L_law 1500 30000 QL 414 [some (vR 1000000), some (vR 0), some (vR 373), some (vI i)] [] (TT e q n L) h ck sk := by
  refine aw_aload_n dL_law_414 rfl ?_
  refine aw_v0q dL_law_415 vl_RL_49 (by first | rfl | assumption) (Nat.le_of_ble_eq_true rfl) (Nat.le_of_ble_eq_true rfl) (Nat.le_of_ble_eq_true rfl) (by omega) (by omega) (c_X8_settle hI.1 hI.2.2.1 hI.2.2.2.1) ?_
  intro v t' h1 hq
  obtain ⟨rfl, rfl, hC1, f1⟩ := hq
  have g1 : GF h h1 := fun c c0 _ => f1 c c0
  have hM1 := hI.ms g1
  refine aw_aload_n dL_law_418 rfl ?_
  refine aw_v0q dL_law_419 vl_RL_52 (by first | rfl | assumption) (Nat.le_of_ble_eq_true rfl) (Nat.le_of_ble_eq_true rfl) (Nat.le_of_ble_eq_true rfl) (by omega) (by omega) (c_X9_settle hM1 hI.2.2.1) ?_
  intro v t' h2 hq
  obtain ⟨rfl, rfl, hM2, f2⟩ := hq
  refine aw_icmp_eq 1070 dL_law_422 rfl (fun c422 => ?_) (fun c422 => ?_)
  · exact hk _ _ _ _ _ _ _ (hI.nx hC1 g1 hM2 f2 (k_settle hI.2.2.1)) (by omega) (by omega) (by omega) (by omega) (by omega)
  · exact absurd rfl c422
theorem lw_number (hk : KL L i (n + 2) (ck + 2) (sk + 20)) (hI : LI h σ) (hL : L ≤ 3072) (hi : i + 6 ≤ L) (n1 : 389 ≤ n) (n2 : n % 2 = 1) (n3 : n + 2 ≤ 1000000) (hc : ck + 2 ≤ 1500) (hs : sk + 20 ≤ 30000) : AW M_L_law 1500 30000 QL 427 [some (vR 1000000), some (vR 0), some (vR 373), some (vI i)] [] (TT e q n L) h ck sk := by
  refine aw_aload_n dL_law_427 rfl ?_
  refine aw_aload_n dL_law_428 rfl ?_
  refine aw_iload_n dL_law_429 rfl ?_
  refine aw_iconst dL_law_430 (by decide) (by decide) ?_
  refine aw_iadd dL_law_431 (by omega) (by omega) ?_
  refine aw_iaload dL_law_432 (by first | rfl | assumption) (by omega) (by omega) ?_
  refine aw_aload_n dL_law_433 rfl ?_
  refine aw_iload_n dL_law_434 rfl ?_
  refine aw_iconst dL_law_435 (by decide) (by decide) ?_
  refine aw_iadd dL_law_436 (by omega) (by omega) ?_
  refine aw_iaload dL_law_437 (by first | rfl | assumption) (by omega) (by omega) ?_
  refine aw_v2q dL_law_438 vl_RL_53 (by first | rfl | assumption) (Nat.le_of_ble_eq_true rfl) (Nat.le_of_ble_eq_true rfl) (Nat.le_of_ble_eq_true rfl) (by omega) (by omega) (c_X8_number hI.1 hI.2.2.1) ?_
  intro v t' h1 hq
  obtain ⟨rfl, rfl, hC1, f1⟩ := hq
  have g1 : GF h h1 := fun c c0 _ => f1 c c0
  have hM1 := hI.ms g1
  refine aw_aload_n dL_law_441 rfl ?_
  refine aw_aload_n dL_law_442 rfl ?_
  refine aw_iload_n dL_law_443 rfl ?_
  refine aw_iconst dL_law_444 (by decide) (by decide) ?_
  refine aw_iadd dL_law_445 (by omega) (by omega) ?_
  refine aw_iaload dL_law_446 (by first | rfl | assumption) (by omega) (by omega) ?_
  refine aw_aload_n dL_law_447 rfl ?_
  refine aw_iload_n dL_law_448 rfl ?_
  refine aw_iconst dL_law_449 (by decide) (by decide) ?_
  refine aw_iadd dL_law_450 (by omega) (by omega) ?_
  refine aw_iaload dL_law_451 (by first | rfl | assumption) (by omega) (by omega) ?_
  refine aw_v2q dL_law_452 vl_RL_57 (by first | rfl | assumption) (Nat.le_of_ble_eq_true rfl) (Nat.le_of_ble_eq_true rfl) (Nat.le_of_ble_eq_true rfl) (by omega) (by omega) (c_X9_number hM1 hI.2.2.1) ?_
  intro v t' h2 hq
  obtain ⟨rfl, rfl, hM2, f2⟩ := hq
  rw [g1 1000000 (by decide) (Or.inr (Nat.le_refl _))] at hM2 ⊢
  refine aw_icmp_eq 1070 dL_law_455 rfl (fun c455 => ?_) (fun c455 => ?_)
  · exact hk _ _ _ _ _ _ _ (hI.nx hC1 g1 hM2 f2 (k_number hI.2.2.1)) (by omega) (by omega) (by omega) (by omega) (by omega)
  · exact absurd rfl c455
theorem lw_rule (hk : KL L i (n + 2) (ck + 2) (sk + 20)) (hI : LI h σ) (hL : L ≤ 3072) (hi : i + 6 ≤ L) (n1 : 389 ≤ n) (n2 : n % 2 = 1) (n3 : n + 2 ≤ 1000000) (hc : ck + 2 ≤ 1500) (hs : sk + 20 ≤ 30000) : AW M_L_law 1500 30000 QL 460 [some (vR 1000000), some (vR 0), some (vR 373), some (vI i)] [] (TT e q n L) h ck sk := by
  refine aw_aload_n dL_law_460 rfl ?_
  refine aw_aload_n dL_law_461 rfl ?_
  refine aw_iload_n dL_law_462 rfl ?_
  refine aw_iconst dL_law_463 (by decide) (by decide) ?_
  refine aw_iadd dL_law_464 (by omega) (by omega) ?_
  refine aw_iaload dL_law_465 (by first | rfl | assumption) (by omega) (by omega) ?_
  refine aw_aload_n dL_law_466 rfl ?_
  refine aw_iload_n dL_law_467 rfl ?_
  refine aw_iconst dL_law_468 (by decide) (by decide) ?_
  refine aw_iadd dL_law_469 (by omega) (by omega) ?_
  refine aw_iaload dL_law_470 (by first | rfl | assumption) (by omega) (by omega) ?_
  refine aw_v2q dL_law_471 vl_RL_58 (by first | rfl | assumption) (Nat.le_of_ble_eq_true rfl) (Nat.le_of_ble_eq_true rfl) (Nat.le_of_ble_eq_true rfl) (by omega) (by omega) (c_X8_rule hI.1 hI.2.2.1) ?_
  intro v t' h1 hq
  obtain ⟨rfl, rfl, hC1, f1⟩ := hq
  have g1 : GF h h1 := fun c c0 _ => f1 c c0
  have hM1 := hI.ms g1
  refine aw_aload_n dL_law_474 rfl ?_
  refine aw_aload_n dL_law_475 rfl ?_
  refine aw_iload_n dL_law_476 rfl ?_
  refine aw_iconst dL_law_477 (by decide) (by decide) ?_
  refine aw_iadd dL_law_478 (by omega) (by omega) ?_
  refine aw_iaload dL_law_479 (by first | rfl | assumption) (by omega) (by omega) ?_
  refine aw_aload_n dL_law_480 rfl ?_
  refine aw_iload_n dL_law_481 rfl ?_
  refine aw_iconst dL_law_482 (by decide) (by decide) ?_
  refine aw_iadd dL_law_483 (by omega) (by omega) ?_
  refine aw_iaload dL_law_484 (by first | rfl | assumption) (by omega) (by omega) ?_
  refine aw_v2q dL_law_485 vl_RL_61 (by first | rfl | assumption) (Nat.le_of_ble_eq_true rfl) (Nat.le_of_ble_eq_true rfl) (Nat.le_of_ble_eq_true rfl) (by omega) (by omega) (c_X9_rule hM1 hI.2.2.1) ?_
  intro v t' h2 hq
  obtain ⟨rfl, rfl, hM2, f2⟩ := hq
  rw [g1 1000000 (by decide) (Or.inr (Nat.le_refl _))] at hM2 ⊢
  refine aw_icmp_eq 1070 dL_law_488 rfl (fun c488 => ?_) (fun c488 => ?_)
  · exact hk _ _ _ _ _ _ _ (hI.nx hC1 g1 hM2 f2 (k_rule hI.2.2.1)) (by omega) (by omega) (by omega) (by omega) (by omega)
  · exact absurd rfl c488
theorem lw_anew (hk : KL L i (n + 2) (ck + 2) (sk + 20)) (hI : LI h σ) (hL : L ≤ 3072) (hi : i + 6 ≤ L) (n1 : 389 ≤ n) (n2 : n % 2 = 1) (n3 : n + 2 ≤ 1000000) (hc : ck + 2 ≤ 1500) (hs : sk + 20 ≤ 30000) : AW M_L_law 1500 30000 QL 493 [some (vR 1000000), some (vR 0), some (vR 373), some (vI i)] [] (TT e q n L) h ck sk := by
  refine aw_aload_n dL_law_493 rfl ?_
  refine aw_v0q dL_law_494 vl_RL_62 (by first | rfl | assumption) (Nat.le_of_ble_eq_true rfl) (Nat.le_of_ble_eq_true rfl) (Nat.le_of_ble_eq_true rfl) (by omega) (by omega) (c_X8_anew hI.1 hI.2.2.1) ?_
  intro v t' h1 hq
  obtain ⟨rfl, rfl, hC1, f1⟩ := hq
  have g1 : GF h h1 := fun c c0 _ => f1 c c0
  have hM1 := hI.ms g1
  refine aw_aload_n dL_law_497 rfl ?_
  refine aw_v0q dL_law_498 vl_RL_65 (by first | rfl | assumption) (Nat.le_of_ble_eq_true rfl) (Nat.le_of_ble_eq_true rfl) (Nat.le_of_ble_eq_true rfl) (by omega) (by omega) (c_X9_anew hM1 hI.2.2.1) ?_
  intro v t' h2 hq
  obtain ⟨rfl, rfl, hM2, f2⟩ := hq
  refine aw_icmp_eq 1070 dL_law_501 rfl (fun c501 => ?_) (fun c501 => ?_)
  · exact hk _ _ _ _ _ _ _ (hI.nx hC1 g1 hM2 f2 (k_anew hI.2.2.1)) (by omega) (by omega) (by omega) (by omega) (by omega)
  · exact absurd rfl c501
theorem lw_undo (hk : KL L i (n + 2) (ck + 2) (sk + 20)) (hI : LI h σ) (hL : L ≤ 3072) (hi : i + 6 ≤ L) (n1 : 389 ≤ n) (n2 : n % 2 = 1) (n3 : n + 2 ≤ 1000000) (hc : ck + 2 ≤ 1500) (hs : sk + 20 ≤ 30000) : AW M_L_law 1500 30000 QL 506 [some (vR 1000000), some (vR 0), some (vR 373), some (vI i)] [] (TT e q n L) h ck sk := by
  refine aw_aload_n dL_law_506 rfl ?_
  refine aw_v0q dL_law_507 vl_RL_66 (by first | rfl | assumption) (Nat.le_of_ble_eq_true rfl) (Nat.le_of_ble_eq_true rfl) (Nat.le_of_ble_eq_true rfl) (by omega) (by omega) (c_X8_undo hI.1 hI.2.2.1) ?_
  intro v t' h1 hq
  obtain ⟨rfl, rfl, hC1, f1⟩ := hq
  have g1 : GF h h1 := fun c c0 _ => f1 c c0
  have hM1 := hI.ms g1
  refine aw_aload_n dL_law_510 rfl ?_
  refine aw_v0q dL_law_511 vl_RL_69 (by first | rfl | assumption) (Nat.le_of_ble_eq_true rfl) (Nat.le_of_ble_eq_true rfl) (Nat.le_of_ble_eq_true rfl) (by omega) (by omega) (c_X9_undo hM1 hI.2.2.1) ?_
  intro v t' h2 hq
  obtain ⟨rfl, rfl, hM2, f2⟩ := hq
  refine aw_icmp_eq 1070 dL_law_514 rfl (fun c514 => ?_) (fun c514 => ?_)
  · exact hk _ _ _ _ _ _ _ (hI.nx hC1 g1 hM2 f2 (k_undo hI.2.2.1)) (by omega) (by omega) (by omega) (by omega) (by omega)
  · exact absurd rfl c514
theorem lw_item (hk : KL L i (n + 2) (ck + 2) (sk + 20)) (hI : LI h σ) (hL : L ≤ 3072) (hi : i + 6 ≤ L) (n1 : 389 ≤ n) (n2 : n % 2 = 1) (n3 : n + 2 ≤ 1000000) (hc : ck + 2 ≤ 1500) (hs : sk + 20 ≤ 30000) : AW M_L_law 1500 30000 QL 519 [some (vR 1000000), some (vR 0), some (vR 373), some (vI i)] [] (TT e q n L) h ck sk := by
  refine aw_aload_n dL_law_519 rfl ?_
  refine aw_aload_n dL_law_520 rfl ?_
  refine aw_iload_n dL_law_521 rfl ?_
  refine aw_iconst dL_law_522 (by decide) (by decide) ?_
  refine aw_iadd dL_law_523 (by omega) (by omega) ?_
  refine aw_iaload dL_law_524 (by first | rfl | assumption) (by omega) (by omega) ?_
  refine aw_aload_n dL_law_525 rfl ?_
  refine aw_iload_n dL_law_526 rfl ?_
  refine aw_iconst dL_law_527 (by decide) (by decide) ?_
  refine aw_iadd dL_law_528 (by omega) (by omega) ?_
  refine aw_iaload dL_law_529 (by first | rfl | assumption) (by omega) (by omega) ?_
  refine aw_v2q dL_law_530 vl_RL_70 (by first | rfl | assumption) (Nat.le_of_ble_eq_true rfl) (Nat.le_of_ble_eq_true rfl) (Nat.le_of_ble_eq_true rfl) (by omega) (by omega) (c_X8_item hI.1 hI.2.2.1 hI.2.2.2.1) ?_
  intro v t' h1 hq
  obtain ⟨rfl, rfl, hC1, f1⟩ := hq
  have g1 : GF h h1 := fun c c0 _ => f1 c c0
  have hM1 := hI.ms g1
  refine aw_aload_n dL_law_533 rfl ?_
  refine aw_aload_n dL_law_534 rfl ?_
  refine aw_iload_n dL_law_535 rfl ?_
  refine aw_iconst dL_law_536 (by decide) (by decide) ?_
  refine aw_iadd dL_law_537 (by omega) (by omega) ?_
  refine aw_iaload dL_law_538 (by first | rfl | assumption) (by omega) (by omega) ?_
  refine aw_aload_n dL_law_539 rfl ?_
  refine aw_iload_n dL_law_540 rfl ?_
  refine aw_iconst dL_law_541 (by decide) (by decide) ?_
  refine aw_iadd dL_law_542 (by omega) (by omega) ?_
  refine aw_iaload dL_law_543 (by first | rfl | assumption) (by omega) (by omega) ?_
  refine aw_v2q dL_law_544 vl_RL_73 (by first | rfl | assumption) (Nat.le_of_ble_eq_true rfl) (Nat.le_of_ble_eq_true rfl) (Nat.le_of_ble_eq_true rfl) (by omega) (by omega) (c_X9_item hM1 hI.2.2.1) ?_
  intro v t' h2 hq
  obtain ⟨rfl, rfl, hM2, f2⟩ := hq
  rw [g1 1000000 (by decide) (Or.inr (Nat.le_refl _))] at hM2 ⊢
  refine aw_icmp_eq 1070 dL_law_547 rfl (fun c547 => ?_) (fun c547 => ?_)
  · exact hk _ _ _ _ _ _ _ (hI.nx hC1 g1 hM2 f2 (by rw [s_item]; exact hI.2.2.1)) (by omega) (by omega) (by omega) (by omega) (by omega)
  · exact absurd rfl c547
theorem lw_print (hk : KL L i (n + 2) (ck + 2) (sk + 20)) (hI : LI h σ) (hL : L ≤ 3072) (hi : i + 6 ≤ L) (n1 : 389 ≤ n) (n2 : n % 2 = 1) (n3 : n + 2 ≤ 1000000) (hc : ck + 2 ≤ 1500) (hs : sk + 20 ≤ 30000) : AW M_L_law 1500 30000 QL 552 [some (vR 1000000), some (vR 0), some (vR 373), some (vI i)] [] (TT e q n L) h ck sk := by
  refine aw_aload_n dL_law_552 rfl ?_
  refine aw_aload_n dL_law_553 rfl ?_
  refine aw_iload_n dL_law_554 rfl ?_
  refine aw_iconst dL_law_555 (by decide) (by decide) ?_
  refine aw_iadd dL_law_556 (by omega) (by omega) ?_
  refine aw_iaload dL_law_557 (by first | rfl | assumption) (by omega) (by omega) ?_
  refine aw_aload_n dL_law_558 rfl ?_
  refine aw_iload_n dL_law_559 rfl ?_
  refine aw_iconst dL_law_560 (by decide) (by decide) ?_
  refine aw_iadd dL_law_561 (by omega) (by omega) ?_
  refine aw_iaload dL_law_562 (by first | rfl | assumption) (by omega) (by omega) ?_
  refine aw_v2q dL_law_563 vl_RL_74 (by first | rfl | assumption) (Nat.le_of_ble_eq_true rfl) (Nat.le_of_ble_eq_true rfl) (Nat.le_of_ble_eq_true rfl) (by omega) (by omega) (c_X8_print n1 n2 n3 hI.2.2.2.2 hI.1 hI.2.2.1) ?_
  intro v t' h1 hq
  obtain ⟨rfl, ⟨n9, m1, rfl⟩, hC1, f1⟩ := hq
  have g1 : GF h h1 := fun c c0 c2 => f1 c c0 (by omega)
  have hM1 := hI.ms g1
  refine aw_aload_n dL_law_566 rfl ?_
  refine aw_aload_n dL_law_567 rfl ?_
  refine aw_iload_n dL_law_568 rfl ?_
  refine aw_iconst dL_law_569 (by decide) (by decide) ?_
  refine aw_iadd dL_law_570 (by omega) (by omega) ?_
  refine aw_iaload dL_law_571 (by first | rfl | assumption) (by omega) (by omega) ?_
  refine aw_aload_n dL_law_572 rfl ?_
  refine aw_iload_n dL_law_573 rfl ?_
  refine aw_iconst dL_law_574 (by decide) (by decide) ?_
  refine aw_iadd dL_law_575 (by omega) (by omega) ?_
  refine aw_iaload dL_law_576 (by first | rfl | assumption) (by omega) (by omega) ?_
  refine aw_v2q dL_law_577 vl_RL_77 (by first | rfl | assumption) (Nat.le_of_ble_eq_true rfl) (Nat.le_of_ble_eq_true rfl) (Nat.le_of_ble_eq_true rfl) (by omega) (by omega) (c_X9_print hM1 hI.2.2.1) ?_
  intro v t' h2 hq
  obtain ⟨rfl, rfl, hM2, f2⟩ := hq
  rw [g1 1000000 (by decide) (Or.inr (Nat.le_refl _))] at hM2 ⊢
  refine aw_icmp_eq 1070 dL_law_580 rfl (fun c580 => ?_) (fun c580 => ?_)
  · exact hk _ _ _ _ _ _ _ (hI.nx hC1 g1 hM2 f2 (by rw [s_print]; exact hI.2.2.1)) (by omega) (by omega) (by omega) (by omega) (by omega)
  · exact absurd rfl c580
theorem lw_behind (hk : KL L i (n + 2) (ck + 2) (sk + 20)) (hI : LI h σ) (hL : L ≤ 3072) (hi : i + 6 ≤ L) (n1 : 389 ≤ n) (n2 : n % 2 = 1) (n3 : n + 2 ≤ 1000000) (hc : ck + 2 ≤ 1500) (hs : sk + 20 ≤ 30000) : AW M_L_law 1500 30000 QL 585 [some (vR 1000000), some (vR 0), some (vR 373), some (vI i)] [] (TT e q n L) h ck sk := by
  refine aw_aload_n dL_law_585 rfl ?_
  refine aw_aload_n dL_law_586 rfl ?_
  refine aw_iload_n dL_law_587 rfl ?_
  refine aw_iconst dL_law_588 (by decide) (by decide) ?_
  refine aw_iadd dL_law_589 (by omega) (by omega) ?_
  refine aw_iaload dL_law_590 (by first | rfl | assumption) (by omega) (by omega) ?_
  refine aw_aload_n dL_law_591 rfl ?_
  refine aw_iload_n dL_law_592 rfl ?_
  refine aw_iconst dL_law_593 (by decide) (by decide) ?_
  refine aw_iadd dL_law_594 (by omega) (by omega) ?_
  refine aw_iaload dL_law_595 (by first | rfl | assumption) (by omega) (by omega) ?_
  refine aw_v2q dL_law_596 vl_RL_78 (by first | rfl | assumption) (Nat.le_of_ble_eq_true rfl) (Nat.le_of_ble_eq_true rfl) (Nat.le_of_ble_eq_true rfl) (by omega) (by omega) (c_X8_behind hI.1 hI.2.2.1 hI.2.2.2.1) ?_
  intro v t' h1 hq
  obtain ⟨rfl, rfl, hC1, f1⟩ := hq
  have g1 : GF h h1 := fun c c0 _ => f1 c c0
  have hM1 := hI.ms g1
  refine aw_aload_n dL_law_599 rfl ?_
  refine aw_aload_n dL_law_600 rfl ?_
  refine aw_iload_n dL_law_601 rfl ?_
  refine aw_iconst dL_law_602 (by decide) (by decide) ?_
  refine aw_iadd dL_law_603 (by omega) (by omega) ?_
  refine aw_iaload dL_law_604 (by first | rfl | assumption) (by omega) (by omega) ?_
  refine aw_aload_n dL_law_605 rfl ?_
  refine aw_iload_n dL_law_606 rfl ?_
  refine aw_iconst dL_law_607 (by decide) (by decide) ?_
  refine aw_iadd dL_law_608 (by omega) (by omega) ?_
  refine aw_iaload dL_law_609 (by first | rfl | assumption) (by omega) (by omega) ?_
  refine aw_v2q dL_law_610 vl_RL_81 (by first | rfl | assumption) (Nat.le_of_ble_eq_true rfl) (Nat.le_of_ble_eq_true rfl) (Nat.le_of_ble_eq_true rfl) (by omega) (by omega) (c_X9_behind hM1 hI.2.2.1) ?_
  intro v t' h2 hq
  obtain ⟨rfl, rfl, hM2, f2⟩ := hq
  rw [g1 1000000 (by decide) (Or.inr (Nat.le_refl _))] at hM2 ⊢
  refine aw_icmp_eq 1070 dL_law_613 rfl (fun c613 => ?_) (fun c613 => ?_)
  · exact hk _ _ _ _ _ _ _ (hI.nx hC1 g1 hM2 f2 (by rw [s_behind]; exact hI.2.2.1)) (by omega) (by omega) (by omega) (by omega) (by omega)
  · exact absurd rfl c613
theorem lw_lies (hk : KL L i (n + 2) (ck + 2) (sk + 20)) (hI : LI h σ) (hL : L ≤ 3072) (hi : i + 6 ≤ L) (n1 : 389 ≤ n) (n2 : n % 2 = 1) (n3 : n + 2 ≤ 1000000) (hc : ck + 2 ≤ 1500) (hs : sk + 20 ≤ 30000) : AW M_L_law 1500 30000 QL 618 [some (vR 1000000), some (vR 0), some (vR 373), some (vI i)] [] (TT e q n L) h ck sk := by
  refine aw_aload_n dL_law_618 rfl ?_
  refine aw_v0q dL_law_619 vl_RL_82 (by first | rfl | assumption) (Nat.le_of_ble_eq_true rfl) (Nat.le_of_ble_eq_true rfl) (Nat.le_of_ble_eq_true rfl) (by omega) (by omega) (c_X8_lies hI.1 hI.2.2.1 hI.2.2.2.1) ?_
  intro v t' h1 hq
  obtain ⟨rfl, rfl, hC1, f1⟩ := hq
  have g1 : GF h h1 := fun c c0 _ => f1 c c0
  have hM1 := hI.ms g1
  refine aw_aload_n dL_law_622 rfl ?_
  refine aw_v0q dL_law_623 vl_RL_85 (by first | rfl | assumption) (Nat.le_of_ble_eq_true rfl) (Nat.le_of_ble_eq_true rfl) (Nat.le_of_ble_eq_true rfl) (by omega) (by omega) (c_X9_lies hM1 hI.2.2.1) ?_
  intro v t' h2 hq
  obtain ⟨rfl, rfl, hM2, f2⟩ := hq
  refine aw_icmp_eq 1070 dL_law_626 rfl (fun c626 => ?_) (fun c626 => ?_)
  · exact hk _ _ _ _ _ _ _ (hI.nx hC1 g1 hM2 f2 (by rw [s_lies]; exact hI.2.2.1)) (by omega) (by omega) (by omega) (by omega) (by omega)
  · exact absurd rfl c626
theorem lw_settled (hk : KL L i (n + 2) (ck + 2) (sk + 20)) (hI : LI h σ) (hL : L ≤ 3072) (hi : i + 6 ≤ L) (n1 : 389 ≤ n) (n2 : n % 2 = 1) (n3 : n + 2 ≤ 1000000) (hc : ck + 2 ≤ 1500) (hs : sk + 20 ≤ 30000) : AW M_L_law 1500 30000 QL 631 [some (vR 1000000), some (vR 0), some (vR 373), some (vI i)] [] (TT e q n L) h ck sk := by
  refine aw_aload_n dL_law_631 rfl ?_
  refine aw_aload_n dL_law_632 rfl ?_
  refine aw_iload_n dL_law_633 rfl ?_
  refine aw_iconst dL_law_634 (by decide) (by decide) ?_
  refine aw_iadd dL_law_635 (by omega) (by omega) ?_
  refine aw_iaload dL_law_636 (by first | rfl | assumption) (by omega) (by omega) ?_
  refine aw_v1q dL_law_637 vl_RL_86 (by first | rfl | assumption) (Nat.le_of_ble_eq_true rfl) (Nat.le_of_ble_eq_true rfl) (Nat.le_of_ble_eq_true rfl) (by omega) (by omega) (c_X8_settled hI.1 hI.2.2.1 hI.2.2.2.1) ?_
  intro v t' h1 hq
  obtain ⟨rfl, rfl, hC1, f1⟩ := hq
  have g1 : GF h h1 := fun c c0 _ => f1 c c0
  have hM1 := hI.ms g1
  refine aw_aload_n dL_law_640 rfl ?_
  refine aw_aload_n dL_law_641 rfl ?_
  refine aw_iload_n dL_law_642 rfl ?_
  refine aw_iconst dL_law_643 (by decide) (by decide) ?_
  refine aw_iadd dL_law_644 (by omega) (by omega) ?_
  refine aw_iaload dL_law_645 (by first | rfl | assumption) (by omega) (by omega) ?_
  refine aw_v1q dL_law_646 vl_RL_89 (by first | rfl | assumption) (Nat.le_of_ble_eq_true rfl) (Nat.le_of_ble_eq_true rfl) (Nat.le_of_ble_eq_true rfl) (by omega) (by omega) (c_X9_settled hM1 hI.2.2.1) ?_
  intro v t' h2 hq
  obtain ⟨rfl, rfl, hM2, f2⟩ := hq
  rw [g1 1000000 (by decide) (Or.inr (Nat.le_refl _))] at hM2 ⊢
  refine aw_icmp_eq 1070 dL_law_649 rfl (fun c649 => ?_) (fun c649 => ?_)
  · exact hk _ _ _ _ _ _ _ (hI.nx hC1 g1 hM2 f2 (by rw [s_settled]; exact hI.2.2.1)) (by omega) (by omega) (by omega) (by omega) (by omega)
  · exact absurd rfl c649
theorem lw_ends (hk : KL L i (n + 2) (ck + 2) (sk + 20)) (hI : LI h σ) (hL : L ≤ 3072) (hi : i + 6 ≤ L) (n1 : 389 ≤ n) (n2 : n % 2 = 1) (n3 : n + 2 ≤ 1000000) (hc : ck + 2 ≤ 1500) (hs : sk + 20 ≤ 30000) : AW M_L_law 1500 30000 QL 654 [some (vR 1000000), some (vR 0), some (vR 373), some (vI i)] [] (TT e q n L) h ck sk := by
  refine aw_aload_n dL_law_654 rfl ?_
  refine aw_aload_n dL_law_655 rfl ?_
  refine aw_iload_n dL_law_656 rfl ?_
  refine aw_iconst dL_law_657 (by decide) (by decide) ?_
  refine aw_iadd dL_law_658 (by omega) (by omega) ?_
  refine aw_iaload dL_law_659 (by first | rfl | assumption) (by omega) (by omega) ?_
  refine aw_v1q dL_law_660 vl_RL_90 (by first | rfl | assumption) (Nat.le_of_ble_eq_true rfl) (Nat.le_of_ble_eq_true rfl) (Nat.le_of_ble_eq_true rfl) (by omega) (by omega) (c_X8_ends hI.1 hI.2.2.1 hI.2.2.2.1) ?_
  intro v t' h1 hq
  obtain ⟨rfl, rfl, hC1, f1⟩ := hq
  have g1 : GF h h1 := fun c c0 _ => f1 c c0
  have hM1 := hI.ms g1
  refine aw_aload_n dL_law_663 rfl ?_
  refine aw_aload_n dL_law_664 rfl ?_
  refine aw_iload_n dL_law_665 rfl ?_
  refine aw_iconst dL_law_666 (by decide) (by decide) ?_
  refine aw_iadd dL_law_667 (by omega) (by omega) ?_
  refine aw_iaload dL_law_668 (by first | rfl | assumption) (by omega) (by omega) ?_
  refine aw_v1q dL_law_669 vl_RL_93 (by first | rfl | assumption) (Nat.le_of_ble_eq_true rfl) (Nat.le_of_ble_eq_true rfl) (Nat.le_of_ble_eq_true rfl) (by omega) (by omega) (c_X9_ends hM1 hI.2.2.1) ?_
  intro v t' h2 hq
  obtain ⟨rfl, rfl, hM2, f2⟩ := hq
  rw [g1 1000000 (by decide) (Or.inr (Nat.le_refl _))] at hM2 ⊢
  refine aw_icmp_eq 1070 dL_law_672 rfl (fun c672 => ?_) (fun c672 => ?_)
  · exact hk _ _ _ _ _ _ _ (hI.nx hC1 g1 hM2 f2 (by rw [s_ends]; exact hI.2.2.1)) (by omega) (by omega) (by omega) (by omega) (by omega)
  · exact absurd rfl c672
theorem lw_moves (hk : KL L i (n + 2) (ck + 2) (sk + 20)) (hI : LI h σ) (hL : L ≤ 3072) (hi : i + 6 ≤ L) (n1 : 389 ≤ n) (n2 : n % 2 = 1) (n3 : n + 2 ≤ 1000000) (hc : ck + 2 ≤ 1500) (hs : sk + 20 ≤ 30000) : AW M_L_law 1500 30000 QL 677 [some (vR 1000000), some (vR 0), some (vR 373), some (vI i)] [] (TT e q n L) h ck sk := by
  refine aw_aload_n dL_law_677 rfl ?_
  refine aw_aload_n dL_law_678 rfl ?_
  refine aw_iload_n dL_law_679 rfl ?_
  refine aw_iconst dL_law_680 (by decide) (by decide) ?_
  refine aw_iadd dL_law_681 (by omega) (by omega) ?_
  refine aw_iaload dL_law_682 (by first | rfl | assumption) (by omega) (by omega) ?_
  refine aw_v1q dL_law_683 vl_RL_94 (by first | rfl | assumption) (Nat.le_of_ble_eq_true rfl) (Nat.le_of_ble_eq_true rfl) (Nat.le_of_ble_eq_true rfl) (by omega) (by omega) (c_X8_moves hI.1 hI.2.2.1 hI.2.2.2.1) ?_
  intro v t' h1 hq
  obtain ⟨rfl, rfl, hC1, f1⟩ := hq
  have g1 : GF h h1 := fun c c0 _ => f1 c c0
  have hM1 := hI.ms g1
  refine aw_aload_n dL_law_686 rfl ?_
  refine aw_aload_n dL_law_687 rfl ?_
  refine aw_iload_n dL_law_688 rfl ?_
  refine aw_iconst dL_law_689 (by decide) (by decide) ?_
  refine aw_iadd dL_law_690 (by omega) (by omega) ?_
  refine aw_iaload dL_law_691 (by first | rfl | assumption) (by omega) (by omega) ?_
  refine aw_v1q dL_law_692 vl_RL_97 (by first | rfl | assumption) (Nat.le_of_ble_eq_true rfl) (Nat.le_of_ble_eq_true rfl) (Nat.le_of_ble_eq_true rfl) (by omega) (by omega) (c_X9_moves hM1 hI.2.2.1) ?_
  intro v t' h2 hq
  obtain ⟨rfl, rfl, hM2, f2⟩ := hq
  rw [g1 1000000 (by decide) (Or.inr (Nat.le_refl _))] at hM2 ⊢
  refine aw_icmp_eq 1070 dL_law_695 rfl (fun c695 => ?_) (fun c695 => ?_)
  · exact hk _ _ _ _ _ _ _ (hI.nx hC1 g1 hM2 f2 (by rw [s_moves]; exact hI.2.2.1)) (by omega) (by omega) (by omega) (by omega) (by omega)
  · exact absurd rfl c695
theorem lw_room (hk : KL L i (n + 2) (ck + 2) (sk + 20)) (hI : LI h σ) (hL : L ≤ 3072) (hi : i + 6 ≤ L) (n1 : 389 ≤ n) (n2 : n % 2 = 1) (n3 : n + 2 ≤ 1000000) (hc : ck + 2 ≤ 1500) (hs : sk + 20 ≤ 30000) : AW M_L_law 1500 30000 QL 700 [some (vR 1000000), some (vR 0), some (vR 373), some (vI i)] [] (TT e q n L) h ck sk := by
  refine aw_aload_n dL_law_700 rfl ?_
  refine aw_aload_n dL_law_701 rfl ?_
  refine aw_iload_n dL_law_702 rfl ?_
  refine aw_iconst dL_law_703 (by decide) (by decide) ?_
  refine aw_iadd dL_law_704 (by omega) (by omega) ?_
  refine aw_iaload dL_law_705 (by first | rfl | assumption) (by omega) (by omega) ?_
  refine aw_v1q dL_law_706 vl_RL_98 (by first | rfl | assumption) (Nat.le_of_ble_eq_true rfl) (Nat.le_of_ble_eq_true rfl) (Nat.le_of_ble_eq_true rfl) (by omega) (by omega) (c_X8_room hI.1 hI.2.2.1 hI.2.2.2.1) ?_
  intro v t' h1 hq
  obtain ⟨rfl, rfl, hC1, f1⟩ := hq
  have g1 : GF h h1 := fun c c0 _ => f1 c c0
  have hM1 := hI.ms g1
  refine aw_aload_n dL_law_709 rfl ?_
  refine aw_aload_n dL_law_710 rfl ?_
  refine aw_iload_n dL_law_711 rfl ?_
  refine aw_iconst dL_law_712 (by decide) (by decide) ?_
  refine aw_iadd dL_law_713 (by omega) (by omega) ?_
  refine aw_iaload dL_law_714 (by first | rfl | assumption) (by omega) (by omega) ?_
  refine aw_v1q dL_law_715 vl_RL_101 (by first | rfl | assumption) (Nat.le_of_ble_eq_true rfl) (Nat.le_of_ble_eq_true rfl) (Nat.le_of_ble_eq_true rfl) (by omega) (by omega) (c_X9_room hM1 hI.2.2.1) ?_
  intro v t' h2 hq
  obtain ⟨rfl, rfl, hM2, f2⟩ := hq
  rw [g1 1000000 (by decide) (Or.inr (Nat.le_refl _))] at hM2 ⊢
  refine aw_icmp_eq 1070 dL_law_718 rfl (fun c718 => ?_) (fun c718 => ?_)
  · exact hk _ _ _ _ _ _ _ (hI.nx hC1 g1 hM2 f2 (by rw [s_room]; exact hI.2.2.1)) (by omega) (by omega) (by omega) (by omega) (by omega)
  · exact absurd rfl c718
theorem lw_restless (hk : KL L i (n + 2) (ck + 2) (sk + 20)) (hI : LI h σ) (hL : L ≤ 3072) (hi : i + 6 ≤ L) (n1 : 389 ≤ n) (n2 : n % 2 = 1) (n3 : n + 2 ≤ 1000000) (hc : ck + 2 ≤ 1500) (hs : sk + 20 ≤ 30000) : AW M_L_law 1500 30000 QL 723 [some (vR 1000000), some (vR 0), some (vR 373), some (vI i)] [] (TT e q n L) h ck sk := by
  refine aw_aload_n dL_law_723 rfl ?_
  refine aw_v0q dL_law_724 vl_RL_102 (by first | rfl | assumption) (Nat.le_of_ble_eq_true rfl) (Nat.le_of_ble_eq_true rfl) (Nat.le_of_ble_eq_true rfl) (by omega) (by omega) (c_X8_restless hI.1 hI.2.2.1 hI.2.2.2.1) ?_
  intro v t' h1 hq
  obtain ⟨rfl, rfl, hC1, f1⟩ := hq
  have g1 : GF h h1 := fun c c0 _ => f1 c c0
  have hM1 := hI.ms g1
  refine aw_aload_n dL_law_727 rfl ?_
  refine aw_v0q dL_law_728 vl_RL_105 (by first | rfl | assumption) (Nat.le_of_ble_eq_true rfl) (Nat.le_of_ble_eq_true rfl) (Nat.le_of_ble_eq_true rfl) (by omega) (by omega) (c_X9_restless hM1 hI.2.2.1) ?_
  intro v t' h2 hq
  obtain ⟨rfl, rfl, hM2, f2⟩ := hq
  refine aw_icmp_eq 1070 dL_law_731 rfl (fun c731 => ?_) (fun c731 => ?_)
  · exact hk _ _ _ _ _ _ _ (hI.nx hC1 g1 hM2 f2 (by rw [s_restless]; exact hI.2.2.1)) (by omega) (by omega) (by omega) (by omega) (by omega)
  · exact absurd rfl c731
theorem lw_fits (hk : KL L i (n + 2) (ck + 2) (sk + 20)) (hI : LI h σ) (hL : L ≤ 3072) (hi : i + 6 ≤ L) (n1 : 389 ≤ n) (n2 : n % 2 = 1) (n3 : n + 2 ≤ 1000000) (hc : ck + 2 ≤ 1500) (hs : sk + 20 ≤ 30000) : AW M_L_law 1500 30000 QL 736 [some (vR 1000000), some (vR 0), some (vR 373), some (vI i)] [] (TT e q n L) h ck sk := by
  refine aw_aload_n dL_law_736 rfl ?_
  refine aw_aload_n dL_law_737 rfl ?_
  refine aw_iload_n dL_law_738 rfl ?_
  refine aw_iconst dL_law_739 (by decide) (by decide) ?_
  refine aw_iadd dL_law_740 (by omega) (by omega) ?_
  refine aw_iaload dL_law_741 (by first | rfl | assumption) (by omega) (by omega) ?_
  refine aw_aload_n dL_law_742 rfl ?_
  refine aw_iload_n dL_law_743 rfl ?_
  refine aw_iconst dL_law_744 (by decide) (by decide) ?_
  refine aw_iadd dL_law_745 (by omega) (by omega) ?_
  refine aw_iaload dL_law_746 (by first | rfl | assumption) (by omega) (by omega) ?_
  refine aw_aload_n dL_law_747 rfl ?_
  refine aw_iload_n dL_law_748 rfl ?_
  refine aw_iconst dL_law_749 (by decide) (by decide) ?_
  refine aw_iadd dL_law_750 (by omega) (by omega) ?_
  refine aw_iaload dL_law_751 (by first | rfl | assumption) (by omega) (by omega) ?_
  refine aw_aload_n dL_law_752 rfl ?_
  refine aw_iload_n dL_law_753 rfl ?_
  refine aw_iconst dL_law_754 (by decide) (by decide) ?_
  refine aw_iadd dL_law_755 (by omega) (by omega) ?_
  refine aw_iaload dL_law_756 (by first | rfl | assumption) (by omega) (by omega) ?_
  refine aw_aload_n dL_law_757 rfl ?_
  refine aw_iload_n dL_law_758 rfl ?_
  refine aw_iconst dL_law_759 (by decide) (by decide) ?_
  refine aw_iadd dL_law_760 (by omega) (by omega) ?_
  refine aw_iaload dL_law_761 (by first | rfl | assumption) (by omega) (by omega) ?_
  refine aw_v5q dL_law_762 vl_RL_106 (by first | rfl | assumption) (Nat.le_of_ble_eq_true rfl) (Nat.le_of_ble_eq_true rfl) (Nat.le_of_ble_eq_true rfl) (by omega) (by omega) (c_X8_fits hI.1 hI.2.2.1 hI.2.2.2.1) ?_
  intro v t' h1 hq
  obtain ⟨rfl, ⟨e1, rfl⟩, hC1, f1⟩ := hq
  have g1 : GF h h1 := fun c c0 _ => f1 c c0
  have hM1 := hI.ms g1
  refine aw_aload_n dL_law_765 rfl ?_
  refine aw_aload_n dL_law_766 rfl ?_
  refine aw_iload_n dL_law_767 rfl ?_
  refine aw_iconst dL_law_768 (by decide) (by decide) ?_
  refine aw_iadd dL_law_769 (by omega) (by omega) ?_
  refine aw_iaload dL_law_770 (by first | rfl | assumption) (by omega) (by omega) ?_
  refine aw_aload_n dL_law_771 rfl ?_
  refine aw_iload_n dL_law_772 rfl ?_
  refine aw_iconst dL_law_773 (by decide) (by decide) ?_
  refine aw_iadd dL_law_774 (by omega) (by omega) ?_
  refine aw_iaload dL_law_775 (by first | rfl | assumption) (by omega) (by omega) ?_
  refine aw_aload_n dL_law_776 rfl ?_
  refine aw_iload_n dL_law_777 rfl ?_
  refine aw_iconst dL_law_778 (by decide) (by decide) ?_
  refine aw_iadd dL_law_779 (by omega) (by omega) ?_
  refine aw_iaload dL_law_780 (by first | rfl | assumption) (by omega) (by omega) ?_
  refine aw_aload_n dL_law_781 rfl ?_
  refine aw_iload_n dL_law_782 rfl ?_
  refine aw_iconst dL_law_783 (by decide) (by decide) ?_
  refine aw_iadd dL_law_784 (by omega) (by omega) ?_
  refine aw_iaload dL_law_785 (by first | rfl | assumption) (by omega) (by omega) ?_
  refine aw_aload_n dL_law_786 rfl ?_
  refine aw_iload_n dL_law_787 rfl ?_
  refine aw_iconst dL_law_788 (by decide) (by decide) ?_
  refine aw_iadd dL_law_789 (by omega) (by omega) ?_
  refine aw_iaload dL_law_790 (by first | rfl | assumption) (by omega) (by omega) ?_
  refine aw_v5q dL_law_791 vl_RL_109 (by first | rfl | assumption) (Nat.le_of_ble_eq_true rfl) (Nat.le_of_ble_eq_true rfl) (Nat.le_of_ble_eq_true rfl) (by omega) (by omega) (c_X9_fits hM1 hI.2.2.1) ?_
  intro v t' h2 hq
  obtain ⟨rfl, rfl, hM2, f2⟩ := hq
  rw [g1 1000000 (by decide) (Or.inr (Nat.le_refl _))] at hM2 ⊢
  refine aw_icmp_eq 1070 dL_law_794 rfl (fun c794 => ?_) (fun c794 => ?_)
  · exact hk _ _ _ _ _ _ _ (hI.nx hC1 g1 hM2 f2 (k_fits hI.2.2.1)) (by omega) (by omega) (by omega) (by omega) (by omega)
  · exact absurd rfl c794
theorem lw_chance (hk : KL L i (n + 2) (ck + 2) (sk + 20)) (hI : LI h σ) (hL : L ≤ 3072) (hi : i + 6 ≤ L) (n1 : 389 ≤ n) (n2 : n % 2 = 1) (n3 : n + 2 ≤ 1000000) (hc : ck + 2 ≤ 1500) (hs : sk + 20 ≤ 30000) : AW M_L_law 1500 30000 QL 799 [some (vR 1000000), some (vR 0), some (vR 373), some (vI i)] [] (TT e q n L) h ck sk := by
  refine aw_aload_n dL_law_799 rfl ?_
  refine aw_aload_n dL_law_800 rfl ?_
  refine aw_iload_n dL_law_801 rfl ?_
  refine aw_iconst dL_law_802 (by decide) (by decide) ?_
  refine aw_iadd dL_law_803 (by omega) (by omega) ?_
  refine aw_iaload dL_law_804 (by first | rfl | assumption) (by omega) (by omega) ?_
  refine aw_aload_n dL_law_805 rfl ?_
  refine aw_iload_n dL_law_806 rfl ?_
  refine aw_iconst dL_law_807 (by decide) (by decide) ?_
  refine aw_iadd dL_law_808 (by omega) (by omega) ?_
  refine aw_iaload dL_law_809 (by first | rfl | assumption) (by omega) (by omega) ?_
  refine aw_v2q dL_law_810 vl_RL_110 (by first | rfl | assumption) (Nat.le_of_ble_eq_true rfl) (Nat.le_of_ble_eq_true rfl) (Nat.le_of_ble_eq_true rfl) (by omega) (by omega) (c_X8_chance hI.1 hI.2.2.1 hI.2.2.2.1) ?_
  intro v t' h1 hq
  obtain ⟨rfl, rfl, hC1, f1⟩ := hq
  have g1 : GF h h1 := fun c c0 _ => f1 c c0
  have hM1 := hI.ms g1
  refine aw_aload_n dL_law_813 rfl ?_
  refine aw_aload_n dL_law_814 rfl ?_
  refine aw_iload_n dL_law_815 rfl ?_
  refine aw_iconst dL_law_816 (by decide) (by decide) ?_
  refine aw_iadd dL_law_817 (by omega) (by omega) ?_
  refine aw_iaload dL_law_818 (by first | rfl | assumption) (by omega) (by omega) ?_
  refine aw_aload_n dL_law_819 rfl ?_
  refine aw_iload_n dL_law_820 rfl ?_
  refine aw_iconst dL_law_821 (by decide) (by decide) ?_
  refine aw_iadd dL_law_822 (by omega) (by omega) ?_
  refine aw_iaload dL_law_823 (by first | rfl | assumption) (by omega) (by omega) ?_
  refine aw_v2q dL_law_824 vl_RL_114 (by first | rfl | assumption) (Nat.le_of_ble_eq_true rfl) (Nat.le_of_ble_eq_true rfl) (Nat.le_of_ble_eq_true rfl) (by omega) (by omega) (c_X9_chance hM1 hI.2.2.1) ?_
  intro v t' h2 hq
  obtain ⟨rfl, rfl, hM2, f2⟩ := hq
  rw [g1 1000000 (by decide) (Or.inr (Nat.le_refl _))] at hM2 ⊢
  refine aw_lcmp dL_law_827 ?_
  refine aw_if_eq 1070 dL_law_828 rfl (fun c828 => ?_) (fun c828 => ?_)
  · exact hk _ _ _ _ _ _ _ (hI.nx hC1 g1 hM2 f2 (by rw [s_chance]; exact hI.2.2.1)) (by omega) (by omega) (by omega) (by omega) (by omega)
  · exfalso; apply c828; rw [if_neg (by omega), if_pos rfl]
theorem lw_drawn (hk : KL L i (n + 2) (ck + 2) (sk + 20)) (hI : LI h σ) (hL : L ≤ 3072) (hi : i + 6 ≤ L) (n1 : 389 ≤ n) (n2 : n % 2 = 1) (n3 : n + 2 ≤ 1000000) (hc : ck + 2 ≤ 1500) (hs : sk + 20 ≤ 30000) : AW M_L_law 1500 30000 QL 833 [some (vR 1000000), some (vR 0), some (vR 373), some (vI i)] [] (TT e q n L) h ck sk := by
  refine aw_aload_n dL_law_833 rfl ?_
  refine aw_aload_n dL_law_834 rfl ?_
  refine aw_iload_n dL_law_835 rfl ?_
  refine aw_iconst dL_law_836 (by decide) (by decide) ?_
  refine aw_iadd dL_law_837 (by omega) (by omega) ?_
  refine aw_iaload dL_law_838 (by first | rfl | assumption) (by omega) (by omega) ?_
  refine aw_aload_n dL_law_839 rfl ?_
  refine aw_iload_n dL_law_840 rfl ?_
  refine aw_iconst dL_law_841 (by decide) (by decide) ?_
  refine aw_iadd dL_law_842 (by omega) (by omega) ?_
  refine aw_iaload dL_law_843 (by first | rfl | assumption) (by omega) (by omega) ?_
  refine aw_aload_n dL_law_844 rfl ?_
  refine aw_iload_n dL_law_845 rfl ?_
  refine aw_iconst dL_law_846 (by decide) (by decide) ?_
  refine aw_iadd dL_law_847 (by omega) (by omega) ?_
  refine aw_iaload dL_law_848 (by first | rfl | assumption) (by omega) (by omega) ?_
  refine aw_v3q dL_law_849 vl_RL_115 (by first | rfl | assumption) (Nat.le_of_ble_eq_true rfl) (Nat.le_of_ble_eq_true rfl) (Nat.le_of_ble_eq_true rfl) (by omega) (by omega) (c_X8_drawn hI.1 hI.2.2.1 hI.2.2.2.1) ?_
  intro v t' h1 hq
  obtain ⟨rfl, rfl, hC1, f1⟩ := hq
  have g1 : GF h h1 := fun c c0 _ => f1 c c0
  have hM1 := hI.ms g1
  refine aw_aload_n dL_law_852 rfl ?_
  refine aw_aload_n dL_law_853 rfl ?_
  refine aw_iload_n dL_law_854 rfl ?_
  refine aw_iconst dL_law_855 (by decide) (by decide) ?_
  refine aw_iadd dL_law_856 (by omega) (by omega) ?_
  refine aw_iaload dL_law_857 (by first | rfl | assumption) (by omega) (by omega) ?_
  refine aw_aload_n dL_law_858 rfl ?_
  refine aw_iload_n dL_law_859 rfl ?_
  refine aw_iconst dL_law_860 (by decide) (by decide) ?_
  refine aw_iadd dL_law_861 (by omega) (by omega) ?_
  refine aw_iaload dL_law_862 (by first | rfl | assumption) (by omega) (by omega) ?_
  refine aw_aload_n dL_law_863 rfl ?_
  refine aw_iload_n dL_law_864 rfl ?_
  refine aw_iconst dL_law_865 (by decide) (by decide) ?_
  refine aw_iadd dL_law_866 (by omega) (by omega) ?_
  refine aw_iaload dL_law_867 (by first | rfl | assumption) (by omega) (by omega) ?_
  refine aw_v3q dL_law_868 vl_RL_118 (by first | rfl | assumption) (Nat.le_of_ble_eq_true rfl) (Nat.le_of_ble_eq_true rfl) (Nat.le_of_ble_eq_true rfl) (by omega) (by omega) (c_X9_drawn hM1 hI.2.2.1) ?_
  intro v t' h2 hq
  obtain ⟨rfl, rfl, hM2, f2⟩ := hq
  rw [g1 1000000 (by decide) (Or.inr (Nat.le_refl _))] at hM2 ⊢
  refine aw_icmp_eq 1070 dL_law_871 rfl (fun c871 => ?_) (fun c871 => ?_)
  · exact hk _ _ _ _ _ _ _ (hI.nx hC1 g1 hM2 f2 (by rw [s_drawn]; exact hI.2.2.1)) (by omega) (by omega) (by omega) (by omega) (by omega)
  · exact absurd rfl c871
theorem lw_image (hk : KL L i (n + 2) (ck + 2) (sk + 20)) (hI : LI h σ) (hL : L ≤ 3072) (hi : i + 6 ≤ L) (n1 : 389 ≤ n) (n2 : n % 2 = 1) (n3 : n + 2 ≤ 1000000) (hc : ck + 2 ≤ 1500) (hs : sk + 20 ≤ 30000) : AW M_L_law 1500 30000 QL 876 [some (vR 1000000), some (vR 0), some (vR 373), some (vI i)] [] (TT e q n L) h ck sk := by
  refine aw_aload_n dL_law_876 rfl ?_
  refine aw_aload_n dL_law_877 rfl ?_
  refine aw_iload_n dL_law_878 rfl ?_
  refine aw_iconst dL_law_879 (by decide) (by decide) ?_
  refine aw_iadd dL_law_880 (by omega) (by omega) ?_
  refine aw_iaload dL_law_881 (by first | rfl | assumption) (by omega) (by omega) ?_
  refine aw_v1q dL_law_882 vl_RL_119 (by first | rfl | assumption) (Nat.le_of_ble_eq_true rfl) (Nat.le_of_ble_eq_true rfl) (Nat.le_of_ble_eq_true rfl) (by omega) (by omega) (c_X8_image hI.1 hI.2.2.1) ?_
  intro v t' h1 hq
  obtain ⟨rfl, rfl, hC1, f1⟩ := hq
  have g1 : GF h h1 := fun c c0 _ => f1 c c0
  have hM1 := hI.ms g1
  refine aw_aload_n dL_law_885 rfl ?_
  refine aw_aload_n dL_law_886 rfl ?_
  refine aw_iload_n dL_law_887 rfl ?_
  refine aw_iconst dL_law_888 (by decide) (by decide) ?_
  refine aw_iadd dL_law_889 (by omega) (by omega) ?_
  refine aw_iaload dL_law_890 (by first | rfl | assumption) (by omega) (by omega) ?_
  refine aw_v1q dL_law_891 vl_RL_122 (by first | rfl | assumption) (Nat.le_of_ble_eq_true rfl) (Nat.le_of_ble_eq_true rfl) (Nat.le_of_ble_eq_true rfl) (by omega) (by omega) (c_X9_image hM1 hI.2.2.1) ?_
  intro v t' h2 hq
  obtain ⟨rfl, rfl, hM2, f2⟩ := hq
  rw [g1 1000000 (by decide) (Or.inr (Nat.le_refl _))] at hM2 ⊢
  refine aw_icmp_eq 1070 dL_law_894 rfl (fun c894 => ?_) (fun c894 => ?_)
  · exact hk _ _ _ _ _ _ _ (hI.nx hC1 g1 hM2 f2 (k_image hI.2.2.1)) (by omega) (by omega) (by omega) (by omega) (by omega)
  · exact absurd rfl c894
theorem lw_restore (hk : KL L i (n + 2) (ck + 2) (sk + 20)) (hI : LI h σ) (hL : L ≤ 3072) (hi : i + 6 ≤ L) (n1 : 389 ≤ n) (n2 : n % 2 = 1) (n3 : n + 2 ≤ 1000000) (hc : ck + 2 ≤ 1500) (hs : sk + 20 ≤ 30000) : AW M_L_law 1500 30000 QL 899 [some (vR 1000000), some (vR 0), some (vR 373), some (vI i)] [] (TT e q n L) h ck sk := by
  refine aw_aload_n dL_law_899 rfl ?_
  refine aw_aload_n dL_law_900 rfl ?_
  refine aw_iload_n dL_law_901 rfl ?_
  refine aw_iconst dL_law_902 (by decide) (by decide) ?_
  refine aw_iadd dL_law_903 (by omega) (by omega) ?_
  refine aw_iaload dL_law_904 (by first | rfl | assumption) (by omega) (by omega) ?_
  refine aw_v1q dL_law_905 vl_RL_123 (by first | rfl | assumption) (Nat.le_of_ble_eq_true rfl) (Nat.le_of_ble_eq_true rfl) (Nat.le_of_ble_eq_true rfl) (by omega) (by omega) (c_X8_restore hI.1 hI.2.2.1) ?_
  intro v t' h1 hq
  obtain ⟨rfl, rfl, hC1, f1⟩ := hq
  have g1 : GF h h1 := fun c c0 _ => f1 c c0
  have hM1 := hI.ms g1
  refine aw_aload_n dL_law_908 rfl ?_
  refine aw_aload_n dL_law_909 rfl ?_
  refine aw_iload_n dL_law_910 rfl ?_
  refine aw_iconst dL_law_911 (by decide) (by decide) ?_
  refine aw_iadd dL_law_912 (by omega) (by omega) ?_
  refine aw_iaload dL_law_913 (by first | rfl | assumption) (by omega) (by omega) ?_
  refine aw_v1q dL_law_914 vl_RL_126 (by first | rfl | assumption) (Nat.le_of_ble_eq_true rfl) (Nat.le_of_ble_eq_true rfl) (Nat.le_of_ble_eq_true rfl) (by omega) (by omega) (c_X9_restore hM1 hI.2.2.1) ?_
  intro v t' h2 hq
  obtain ⟨rfl, rfl, hM2, f2⟩ := hq
  rw [g1 1000000 (by decide) (Or.inr (Nat.le_refl _))] at hM2 ⊢
  refine aw_icmp_eq 1070 dL_law_917 rfl (fun c917 => ?_) (fun c917 => ?_)
  · exact hk _ _ _ _ _ _ _ (hI.nx hC1 g1 hM2 f2 (k_restore hI.2.2.1)) (by omega) (by omega) (by omega) (by omega) (by omega)
  · exact absurd rfl c917
theorem lw_kind (hk : KL L i (n + 2) (ck + 2) (sk + 20)) (hI : LI h σ) (hL : L ≤ 3072) (hi : i + 6 ≤ L) (n1 : 389 ≤ n) (n2 : n % 2 = 1) (n3 : n + 2 ≤ 1000000) (hc : ck + 2 ≤ 1500) (hs : sk + 20 ≤ 30000) : AW M_L_law 1500 30000 QL 922 [some (vR 1000000), some (vR 0), some (vR 373), some (vI i)] [] (TT e q n L) h ck sk := by
  refine aw_aload_n dL_law_922 rfl ?_
  refine aw_aload_n dL_law_923 rfl ?_
  refine aw_iload_n dL_law_924 rfl ?_
  refine aw_iconst dL_law_925 (by decide) (by decide) ?_
  refine aw_iadd dL_law_926 (by omega) (by omega) ?_
  refine aw_iaload dL_law_927 (by first | rfl | assumption) (by omega) (by omega) ?_
  refine aw_v1q dL_law_928 vl_RL_127 (by first | rfl | assumption) (Nat.le_of_ble_eq_true rfl) (Nat.le_of_ble_eq_true rfl) (Nat.le_of_ble_eq_true rfl) (by omega) (by omega) (c_X8_kind hI.1 hI.2.2.1) ?_
  intro v t' h1 hq
  obtain ⟨rfl, rfl, hC1, f1⟩ := hq
  have g1 : GF h h1 := fun c c0 _ => f1 c c0
  have hM1 := hI.ms g1
  refine aw_aload_n dL_law_931 rfl ?_
  refine aw_aload_n dL_law_932 rfl ?_
  refine aw_iload_n dL_law_933 rfl ?_
  refine aw_iconst dL_law_934 (by decide) (by decide) ?_
  refine aw_iadd dL_law_935 (by omega) (by omega) ?_
  refine aw_iaload dL_law_936 (by first | rfl | assumption) (by omega) (by omega) ?_
  refine aw_v1q dL_law_937 vl_RL_130 (by first | rfl | assumption) (Nat.le_of_ble_eq_true rfl) (Nat.le_of_ble_eq_true rfl) (Nat.le_of_ble_eq_true rfl) (by omega) (by omega) (c_X9_kind hM1 hI.2.2.1) ?_
  intro v t' h2 hq
  obtain ⟨rfl, rfl, hM2, f2⟩ := hq
  rw [g1 1000000 (by decide) (Or.inr (Nat.le_refl _))] at hM2 ⊢
  refine aw_icmp_eq 1070 dL_law_940 rfl (fun c940 => ?_) (fun c940 => ?_)
  · exact hk _ _ _ _ _ _ _ (hI.nx hC1 g1 hM2 f2 (by rw [s_kind]; exact hI.2.2.1)) (by omega) (by omega) (by omega) (by omega) (by omega)
  · exact absurd rfl c940
theorem lw_as (hk : KL L i (n + 2) (ck + 2) (sk + 20)) (hI : LI h σ) (hL : L ≤ 3072) (hi : i + 6 ≤ L) (n1 : 389 ≤ n) (n2 : n % 2 = 1) (n3 : n + 2 ≤ 1000000) (hc : ck + 2 ≤ 1500) (hs : sk + 20 ≤ 30000) : AW M_L_law 1500 30000 QL 945 [some (vR 1000000), some (vR 0), some (vR 373), some (vI i)] [] (TT e q n L) h ck sk := by
  refine aw_aload_n dL_law_945 rfl ?_
  refine aw_aload_n dL_law_946 rfl ?_
  refine aw_iload_n dL_law_947 rfl ?_
  refine aw_iconst dL_law_948 (by decide) (by decide) ?_
  refine aw_iadd dL_law_949 (by omega) (by omega) ?_
  refine aw_iaload dL_law_950 (by first | rfl | assumption) (by omega) (by omega) ?_
  refine aw_aload_n dL_law_951 rfl ?_
  refine aw_iload_n dL_law_952 rfl ?_
  refine aw_iconst dL_law_953 (by decide) (by decide) ?_
  refine aw_iadd dL_law_954 (by omega) (by omega) ?_
  refine aw_iaload dL_law_955 (by first | rfl | assumption) (by omega) (by omega) ?_
  refine aw_v2q dL_law_956 vl_RL_131 (by first | rfl | assumption) (Nat.le_of_ble_eq_true rfl) (Nat.le_of_ble_eq_true rfl) (Nat.le_of_ble_eq_true rfl) (by omega) (by omega) (c_X8_as hI.1 hI.2.2.1) ?_
  intro v t' h1 hq
  obtain ⟨rfl, rfl, hC1, f1⟩ := hq
  have g1 : GF h h1 := fun c c0 _ => f1 c c0
  have hM1 := hI.ms g1
  refine aw_aload_n dL_law_959 rfl ?_
  refine aw_aload_n dL_law_960 rfl ?_
  refine aw_iload_n dL_law_961 rfl ?_
  refine aw_iconst dL_law_962 (by decide) (by decide) ?_
  refine aw_iadd dL_law_963 (by omega) (by omega) ?_
  refine aw_iaload dL_law_964 (by first | rfl | assumption) (by omega) (by omega) ?_
  refine aw_aload_n dL_law_965 rfl ?_
  refine aw_iload_n dL_law_966 rfl ?_
  refine aw_iconst dL_law_967 (by decide) (by decide) ?_
  refine aw_iadd dL_law_968 (by omega) (by omega) ?_
  refine aw_iaload dL_law_969 (by first | rfl | assumption) (by omega) (by omega) ?_
  refine aw_v2q dL_law_970 vl_RL_134 (by first | rfl | assumption) (Nat.le_of_ble_eq_true rfl) (Nat.le_of_ble_eq_true rfl) (Nat.le_of_ble_eq_true rfl) (by omega) (by omega) (c_X9_as hM1 hI.2.2.1) ?_
  intro v t' h2 hq
  obtain ⟨rfl, rfl, hM2, f2⟩ := hq
  rw [g1 1000000 (by decide) (Or.inr (Nat.le_refl _))] at hM2 ⊢
  refine aw_icmp_eq 1070 dL_law_973 rfl (fun c973 => ?_) (fun c973 => ?_)
  · exact hk _ _ _ _ _ _ _ (hI.nx hC1 g1 hM2 f2 (k_as hI.2.2.1)) (by omega) (by omega) (by omega) (by omega) (by omega)
  · exact absurd rfl c973
theorem lw_ask (hk : KL L i (n + 2) (ck + 2) (sk + 20)) (hI : LI h σ) (hL : L ≤ 3072) (hi : i + 6 ≤ L) (n1 : 389 ≤ n) (n2 : n % 2 = 1) (n3 : n + 2 ≤ 1000000) (hc : ck + 2 ≤ 1500) (hs : sk + 20 ≤ 30000) : AW M_L_law 1500 30000 QL 978 [some (vR 1000000), some (vR 0), some (vR 373), some (vI i)] [] (TT e q n L) h ck sk := by
  refine aw_aload_n dL_law_978 rfl ?_
  refine aw_aload_n dL_law_979 rfl ?_
  refine aw_iload_n dL_law_980 rfl ?_
  refine aw_iconst dL_law_981 (by decide) (by decide) ?_
  refine aw_iadd dL_law_982 (by omega) (by omega) ?_
  refine aw_iaload dL_law_983 (by first | rfl | assumption) (by omega) (by omega) ?_
  refine aw_aload_n dL_law_984 rfl ?_
  refine aw_iload_n dL_law_985 rfl ?_
  refine aw_iconst dL_law_986 (by decide) (by decide) ?_
  refine aw_iadd dL_law_987 (by omega) (by omega) ?_
  refine aw_iaload dL_law_988 (by first | rfl | assumption) (by omega) (by omega) ?_
  refine aw_v2q dL_law_989 vl_RL_135 (by first | rfl | assumption) (Nat.le_of_ble_eq_true rfl) (Nat.le_of_ble_eq_true rfl) (Nat.le_of_ble_eq_true rfl) (by omega) (by omega) (c_X8_ask hI.1 hI.2.2.1 hI.2.2.2.1) ?_
  intro v t' h1 hq
  obtain ⟨rfl, rfl, hC1, f1⟩ := hq
  have g1 : GF h h1 := fun c c0 _ => f1 c c0
  have hM1 := hI.ms g1
  refine aw_aload_n dL_law_992 rfl ?_
  refine aw_aload_n dL_law_993 rfl ?_
  refine aw_iload_n dL_law_994 rfl ?_
  refine aw_iconst dL_law_995 (by decide) (by decide) ?_
  refine aw_iadd dL_law_996 (by omega) (by omega) ?_
  refine aw_iaload dL_law_997 (by first | rfl | assumption) (by omega) (by omega) ?_
  refine aw_aload_n dL_law_998 rfl ?_
  refine aw_iload_n dL_law_999 rfl ?_
  refine aw_iconst dL_law_1000 (by decide) (by decide) ?_
  refine aw_iadd dL_law_1001 (by omega) (by omega) ?_
  refine aw_iaload dL_law_1002 (by first | rfl | assumption) (by omega) (by omega) ?_
  refine aw_v2q dL_law_1003 vl_RL_138 (by first | rfl | assumption) (Nat.le_of_ble_eq_true rfl) (Nat.le_of_ble_eq_true rfl) (Nat.le_of_ble_eq_true rfl) (by omega) (by omega) (c_X9_ask hM1 hI.2.2.1) ?_
  intro v t' h2 hq
  obtain ⟨rfl, rfl, hM2, f2⟩ := hq
  rw [g1 1000000 (by decide) (Or.inr (Nat.le_refl _))] at hM2 ⊢
  refine aw_icmp_eq 1070 dL_law_1006 rfl (fun c1006 => ?_) (fun c1006 => ?_)
  · exact hk _ _ _ _ _ _ _ (hI.nx hC1 g1 hM2 f2 (k_ask hI.2.2.1)) (by omega) (by omega) (by omega) (by omega) (by omega)
  · exact absurd rfl c1006
theorem lw_trace (hk : KL L i (n + 2) (ck + 2) (sk + 20)) (hI : LI h σ) (hL : L ≤ 3072) (hi : i + 6 ≤ L) (n1 : 389 ≤ n) (n2 : n % 2 = 1) (n3 : n + 2 ≤ 1000000) (hc : ck + 2 ≤ 1500) (hs : sk + 20 ≤ 30000) : AW M_L_law 1500 30000 QL 1011 [some (vR 1000000), some (vR 0), some (vR 373), some (vI i)] [] (TT e q n L) h ck sk := by
  refine aw_aload_n dL_law_1011 rfl ?_
  refine aw_aload_n dL_law_1012 rfl ?_
  refine aw_iload_n dL_law_1013 rfl ?_
  refine aw_iconst dL_law_1014 (by decide) (by decide) ?_
  refine aw_iadd dL_law_1015 (by omega) (by omega) ?_
  refine aw_iaload dL_law_1016 (by first | rfl | assumption) (by omega) (by omega) ?_
  refine aw_v1q dL_law_1017 vl_RL_139 (by first | rfl | assumption) (Nat.le_of_ble_eq_true rfl) (Nat.le_of_ble_eq_true rfl) (Nat.le_of_ble_eq_true rfl) (by omega) (by omega) (c_X8_trace hI.1 hI.2.2.1) ?_
  intro v t' h1 hq
  obtain ⟨rfl, rfl, hC1, f1⟩ := hq
  have g1 : GF h h1 := fun c c0 _ => f1 c c0
  have hM1 := hI.ms g1
  refine aw_aload_n dL_law_1020 rfl ?_
  refine aw_aload_n dL_law_1021 rfl ?_
  refine aw_iload_n dL_law_1022 rfl ?_
  refine aw_iconst dL_law_1023 (by decide) (by decide) ?_
  refine aw_iadd dL_law_1024 (by omega) (by omega) ?_
  refine aw_iaload dL_law_1025 (by first | rfl | assumption) (by omega) (by omega) ?_
  refine aw_v1q dL_law_1026 vl_RL_142 (by first | rfl | assumption) (Nat.le_of_ble_eq_true rfl) (Nat.le_of_ble_eq_true rfl) (Nat.le_of_ble_eq_true rfl) (by omega) (by omega) (c_X9_trace hM1 hI.2.2.1) ?_
  intro v t' h2 hq
  obtain ⟨rfl, rfl, hM2, f2⟩ := hq
  rw [g1 1000000 (by decide) (Or.inr (Nat.le_refl _))] at hM2 ⊢
  refine aw_icmp_eq 1070 dL_law_1029 rfl (fun c1029 => ?_) (fun c1029 => ?_)
  · exact hk _ _ _ _ _ _ _ (hI.nx hC1 g1 hM2 f2 (by rw [s_trace]; exact hI.2.2.1)) (by omega) (by omega) (by omega) (by omega) (by omega)
  · exact absurd rfl c1029
theorem lw_count (hk : KL L i (n + 2) (ck + 2) (sk + 20)) (hI : LI h σ) (hL : L ≤ 3072) (hi : i + 6 ≤ L) (n1 : 389 ≤ n) (n2 : n % 2 = 1) (n3 : n + 2 ≤ 1000000) (hc : ck + 2 ≤ 1500) (hs : sk + 20 ≤ 30000) : AW M_L_law 1500 30000 QL 1034 [some (vR 1000000), some (vR 0), some (vR 373), some (vI i)] [] (TT e q n L) h ck sk := by
  refine aw_aload_n dL_law_1034 rfl ?_
  refine aw_aload_n dL_law_1035 rfl ?_
  refine aw_iload_n dL_law_1036 rfl ?_
  refine aw_iconst dL_law_1037 (by decide) (by decide) ?_
  refine aw_iadd dL_law_1038 (by omega) (by omega) ?_
  refine aw_iaload dL_law_1039 (by first | rfl | assumption) (by omega) (by omega) ?_
  refine aw_v1q dL_law_1040 vl_RL_143 (by first | rfl | assumption) (Nat.le_of_ble_eq_true rfl) (Nat.le_of_ble_eq_true rfl) (Nat.le_of_ble_eq_true rfl) (by omega) (by omega) (c_X8_count hI.1 hI.2.2.1) ?_
  intro v t' h1 hq
  obtain ⟨rfl, rfl, hC1, f1⟩ := hq
  have g1 : GF h h1 := fun c c0 _ => f1 c c0
  have hM1 := hI.ms g1
  refine aw_aload_n dL_law_1043 rfl ?_
  refine aw_aload_n dL_law_1044 rfl ?_
  refine aw_iload_n dL_law_1045 rfl ?_
  refine aw_iconst dL_law_1046 (by decide) (by decide) ?_
  refine aw_iadd dL_law_1047 (by omega) (by omega) ?_
  refine aw_iaload dL_law_1048 (by first | rfl | assumption) (by omega) (by omega) ?_
  refine aw_v1q dL_law_1049 vl_RL_146 (by first | rfl | assumption) (Nat.le_of_ble_eq_true rfl) (Nat.le_of_ble_eq_true rfl) (Nat.le_of_ble_eq_true rfl) (by omega) (by omega) (c_X9_count hM1 hI.2.2.1) ?_
  intro v t' h2 hq
  obtain ⟨rfl, rfl, hM2, f2⟩ := hq
  rw [g1 1000000 (by decide) (Or.inr (Nat.le_refl _))] at hM2 ⊢
  refine aw_icmp_eq 1070 dL_law_1052 rfl (fun c1052 => ?_) (fun c1052 => ?_)
  · exact hk _ _ _ _ _ _ _ (hI.nx hC1 g1 hM2 f2 (by rw [s_count]; exact hI.2.2.1)) (by omega) (by omega) (by omega) (by omega) (by omega)
  · exact absurd rfl c1052
theorem lw_status (hk : KL L i (n + 2) (ck + 2) (sk + 20)) (hI : LI h σ) (hL : L ≤ 3072) (hi : i + 6 ≤ L) (n1 : 389 ≤ n) (n2 : n % 2 = 1) (n3 : n + 2 ≤ 1000000) (hc : ck + 2 ≤ 1500) (hs : sk + 20 ≤ 30000) : AW M_L_law 1500 30000 QL 1057 [some (vR 1000000), some (vR 0), some (vR 373), some (vI i)] [] (TT e q n L) h ck sk := by
  refine aw_aload_n dL_law_1057 rfl ?_
  refine aw_v0q dL_law_1058 vl_RL_147 (by first | rfl | assumption) (Nat.le_of_ble_eq_true rfl) (Nat.le_of_ble_eq_true rfl) (Nat.le_of_ble_eq_true rfl) (by omega) (by omega) (c_X8_status hI.1) ?_
  intro v t' h1 hq
  obtain ⟨rfl, rfl, hC1, f1⟩ := hq
  have g1 : GF h h1 := fun c c0 _ => f1 c c0
  have hM1 := hI.ms g1
  refine aw_aload_n dL_law_1061 rfl ?_
  refine aw_v0q dL_law_1062 vl_RL_150 (by first | rfl | assumption) (Nat.le_of_ble_eq_true rfl) (Nat.le_of_ble_eq_true rfl) (Nat.le_of_ble_eq_true rfl) (by omega) (by omega) (c_X9_status hM1) ?_
  intro v t' h2 hq
  obtain ⟨rfl, rfl, hM2, f2⟩ := hq
  refine aw_icmp_eq 1070 dL_law_1065 rfl (fun c1065 => ?_) (fun c1065 => ?_)
  · exact hk _ _ _ _ _ _ _ (hI.nx hC1 g1 hM2 f2 hI.2.2.1) (by omega) (by omega) (by omega) (by omega) (by omega)
  · exact absurd rfl c1065
end LAW
