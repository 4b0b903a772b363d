/-! the law: its cases, its loop -/
theorem lo_set {K : KQT} {g : Hp} {n t ln i : Nat} {bt : Nat → Nat} {B : Nat} {fd : Int32} {sh : Nat → Option Sht} (hC : CR g n t ln bt B fd sh) (hM : MR g n t ln bt B fd sh) (x : ∀ k, k ≤ 5 → vp_in (nI i + nI k) (g.1 69 0).toNatClampNeg) (nxt : ∀ g2 n t ln bt B fd sh, CR g2 n t ln bt B fd sh → MR g2 n t ln bt B fd sh → (∀ q j, 48 ≤ q → g2.1 q j = g.1 q j) → Aw 14 ML_law K 1073 [some (.ref 68), some (.ref 0), some (.ref 31), some (.int (nI i))] [] g2) : Aw 14 ML_law K 180 [some (.ref 68), some (.ref 0), some (.ref 31), some (.int (nI i))] [] g := by
  obtain ⟨v, d, d', g1, g2, n', t', ln', bt', B', fd', sh', hd, hd', r1, r2, e1, c2, m2, e2⟩ := s_set (g.1 68 (nI i + 1).toNatClampNeg) (g.1 68 (nI i + 2).toNatClampNeg) hC hM
  have e68 : g1.1 68 = g.1 68 := funext fun j => e1 68 j (by decide)
  have x1 : ∀ k, k ≤ 5 → vp_in (nI i + nI k) (g1.1 69 0).toNatClampNeg := fun k hk => by rw [e1 69 0 (by decide)]; exact x k hk
  refine r_aload1 dL_law_180 ?_
  refine r_aload0 dL_law_181 ?_
  refine r_iload3 dL_law_182 ?_
  refine r_iconst_1 dL_law_183 ?_
  refine r_iadd dL_law_184 ?_
  refine r_ildX dL_law_185 (x 1 (by decide)) ?_
  refine r_aload0 dL_law_186 ?_
  refine r_iload3 dL_law_187 ?_
  refine r_iconst_2 dL_law_188 ?_
  refine r_iadd dL_law_189 ?_
  refine r_ildX dL_law_190 (x 2 (by decide)) ?_
  refine r_cV2I dL_law_191 mm_X8_set im_X8_set se_X8_set ml_L_13 rfl rfl rfl (r1) (by omega) (Nat.le_of_ble_eq_true rfl) ?_
  refine r_aload2 dL_law_194 ?_
  refine r_aload0 dL_law_195 ?_
  refine r_iload3 dL_law_196 ?_
  refine r_iconst_1 dL_law_197 ?_
  refine r_iadd dL_law_198 ?_
  refine r_ildX dL_law_199 (x1 1 (by decide)) ?_
  refine r_aload0 dL_law_200 ?_
  refine r_iload3 dL_law_201 ?_
  refine r_iconst_2 dL_law_202 ?_
  refine r_iadd dL_law_203 ?_
  refine r_ildX dL_law_204 (x1 2 (by decide)) ?_
  rw [e68]
  refine r_cV2I dL_law_205 mm_X9_set im_X9_set se_X9_set ml_L_17 rfl rfl rfl (r2) (by omega) (Nat.le_of_ble_eq_true rfl) ?_
  refine r_icmpeq (tgt := 1073) dL_law_208 (by decide) (fun _ => ?_) (fun c9 => absurd (rfl) c9)
  exact nxt g2 n' t' ln' bt' B' fd' sh' c2 m2 e2
theorem lo_type {K : KQT} {g : Hp} {n t ln i : Nat} {bt : Nat → Nat} {B : Nat} {fd : Int32} {sh : Nat → Option Sht} (hC : CR g n t ln bt B fd sh) (hM : MR g n t ln bt B fd sh) (x : ∀ k, k ≤ 5 → vp_in (nI i + nI k) (g.1 69 0).toNatClampNeg) (nxt : ∀ g2 n t ln bt B fd sh, CR g2 n t ln bt B fd sh → MR g2 n t ln bt B fd sh → (∀ q j, 48 ≤ q → g2.1 q j = g.1 q j) → Aw 14 ML_law K 1073 [some (.ref 68), some (.ref 0), some (.ref 31), some (.int (nI i))] [] g2) : Aw 14 ML_law K 213 [some (.ref 68), some (.ref 0), some (.ref 31), some (.int (nI i))] [] g := by
  obtain ⟨v, d, d', g1, g2, n', t', ln', bt', B', fd', sh', hd, hd', r1, r2, e1, c2, m2, e2⟩ := s_type (g.1 68 (nI i + 1).toNatClampNeg) hC hM
  have e68 : g1.1 68 = g.1 68 := funext fun j => e1 68 j (by decide)
  have x1 : ∀ k, k ≤ 5 → vp_in (nI i + nI k) (g1.1 69 0).toNatClampNeg := fun k hk => by rw [e1 69 0 (by decide)]; exact x k hk
  refine r_aload1 dL_law_213 ?_
  refine r_aload0 dL_law_214 ?_
  refine r_iload3 dL_law_215 ?_
  refine r_iconst_1 dL_law_216 ?_
  refine r_iadd dL_law_217 ?_
  refine r_ildX dL_law_218 (x 1 (by decide)) ?_
  refine r_cV1I dL_law_219 mm_X8_type im_X8_type se_X8_type ml_L_18 rfl rfl rfl (r1) (by omega) (Nat.le_of_ble_eq_true rfl) ?_
  refine r_aload2 dL_law_222 ?_
  refine r_aload0 dL_law_223 ?_
  refine r_iload3 dL_law_224 ?_
  refine r_iconst_1 dL_law_225 ?_
  refine r_iadd dL_law_226 ?_
  refine r_ildX dL_law_227 (x1 1 (by decide)) ?_
  rw [e68]
  refine r_cV1I dL_law_228 mm_X9_type im_X9_type se_X9_type ml_L_22 rfl rfl rfl (r2) (by omega) (Nat.le_of_ble_eq_true rfl) ?_
  refine r_icmpeq (tgt := 1073) dL_law_231 (by decide) (fun _ => ?_) (fun c9 => absurd (rfl) c9)
  exact nxt g2 n' t' ln' bt' B' fd' sh' c2 m2 e2
theorem lo_wipe {K : KQT} {g : Hp} {n t ln i : Nat} {bt : Nat → Nat} {B : Nat} {fd : Int32} {sh : Nat → Option Sht} (hC : CR g n t ln bt B fd sh) (hM : MR g n t ln bt B fd sh) (x : ∀ k, k ≤ 5 → vp_in (nI i + nI k) (g.1 69 0).toNatClampNeg) (nxt : ∀ g2 n t ln bt B fd sh, CR g2 n t ln bt B fd sh → MR g2 n t ln bt B fd sh → (∀ q j, 48 ≤ q → g2.1 q j = g.1 q j) → Aw 14 ML_law K 1073 [some (.ref 68), some (.ref 0), some (.ref 31), some (.int (nI i))] [] g2) : Aw 14 ML_law K 236 [some (.ref 68), some (.ref 0), some (.ref 31), some (.int (nI i))] [] g := by
  obtain ⟨v, d, d', g1, g2, n', t', ln', bt', B', fd', sh', hd, hd', r1, r2, e1, c2, m2, e2⟩ := s_wipe hC hM
  refine r_aload1 dL_law_236 ?_
  refine r_cV0I dL_law_237 mm_X8_wipe im_X8_wipe se_X8_wipe ml_L_23 rfl rfl rfl (r1) (by omega) (Nat.le_of_ble_eq_true rfl) ?_
  refine r_aload2 dL_law_240 ?_
  refine r_cV0I dL_law_241 mm_X9_wipe im_X9_wipe se_X9_wipe ml_L_27 rfl rfl rfl (r2) (by omega) (Nat.le_of_ble_eq_true rfl) ?_
  refine r_icmpeq (tgt := 1073) dL_law_244 (by decide) (fun _ => ?_) (fun c9 => absurd (rfl) c9)
  exact nxt g2 n' t' ln' bt' B' fd' sh' c2 m2 e2
theorem lo_fault {K : KQT} {g : Hp} {n t ln i : Nat} {bt : Nat → Nat} {B : Nat} {fd : Int32} {sh : Nat → Option Sht} (hC : CR g n t ln bt B fd sh) (hM : MR g n t ln bt B fd sh) (x : ∀ k, k ≤ 5 → vp_in (nI i + nI k) (g.1 69 0).toNatClampNeg) (nxt : ∀ g2 n t ln bt B fd sh, CR g2 n t ln bt B fd sh → MR g2 n t ln bt B fd sh → (∀ q j, 48 ≤ q → g2.1 q j = g.1 q j) → Aw 14 ML_law K 1073 [some (.ref 68), some (.ref 0), some (.ref 31), some (.int (nI i))] [] g2) : Aw 14 ML_law K 249 [some (.ref 68), some (.ref 0), some (.ref 31), some (.int (nI i))] [] g := by
  obtain ⟨v, d, d', g1, g2, n', t', ln', bt', B', fd', sh', hd, hd', r1, r2, e1, c2, m2, e2⟩ := s_fault hC hM
  refine r_aload1 dL_law_249 ?_
  refine r_cV0I dL_law_250 mm_X8_fault im_X8_fault se_X8_fault ml_L_28 rfl rfl rfl (r1) (by omega) (Nat.le_of_ble_eq_true rfl) ?_
  refine r_aload2 dL_law_253 ?_
  refine r_cV0I dL_law_254 mm_X9_fault im_X9_fault se_X9_fault ml_L_31 rfl rfl rfl (r2) (by omega) (Nat.le_of_ble_eq_true rfl) ?_
  refine r_icmpeq (tgt := 1073) dL_law_257 (by decide) (fun _ => ?_) (fun c9 => absurd (rfl) c9)
  exact nxt g2 n' t' ln' bt' B' fd' sh' c2 m2 e2
theorem lo_claims {K : KQT} {g : Hp} {n t ln i : Nat} {bt : Nat → Nat} {B : Nat} {fd : Int32} {sh : Nat → Option Sht} (hC : CR g n t ln bt B fd sh) (hM : MR g n t ln bt B fd sh) (x : ∀ k, k ≤ 5 → vp_in (nI i + nI k) (g.1 69 0).toNatClampNeg) (nxt : ∀ g2 n t ln bt B fd sh, CR g2 n t ln bt B fd sh → MR g2 n t ln bt B fd sh → (∀ q j, 48 ≤ q → g2.1 q j = g.1 q j) → Aw 14 ML_law K 1073 [some (.ref 68), some (.ref 0), some (.ref 31), some (.int (nI i))] [] g2) : Aw 14 ML_law K 262 [some (.ref 68), some (.ref 0), some (.ref 31), some (.int (nI i))] [] g := by
  obtain ⟨v, d, d', g1, g2, n', t', ln', bt', B', fd', sh', hd, hd', r1, r2, e1, c2, m2, e2⟩ := s_claims hC hM
  refine r_aload1 dL_law_262 ?_
  refine r_cV0I dL_law_263 mm_X8_claims im_X8_claims se_X8_claims ml_L_32 rfl rfl rfl (r1) (by omega) (Nat.le_of_ble_eq_true rfl) ?_
  refine r_aload2 dL_law_266 ?_
  refine r_cV0I dL_law_267 mm_X9_claims im_X9_claims se_X9_claims ml_L_35 rfl rfl rfl (r2) (by omega) (Nat.le_of_ble_eq_true rfl) ?_
  refine r_icmpeq (tgt := 1073) dL_law_270 (by decide) (fun _ => ?_) (fun c9 => absurd (rfl) c9)
  exact nxt g2 n' t' ln' bt' B' fd' sh' c2 m2 e2
theorem lo_claim {K : KQT} {g : Hp} {n t ln i : Nat} {bt : Nat → Nat} {B : Nat} {fd : Int32} {sh : Nat → Option Sht} (hC : CR g n t ln bt B fd sh) (hM : MR g n t ln bt B fd sh) (x : ∀ k, k ≤ 5 → vp_in (nI i + nI k) (g.1 69 0).toNatClampNeg) (nxt : ∀ g2 n t ln bt B fd sh, CR g2 n t ln bt B fd sh → MR g2 n t ln bt B fd sh → (∀ q j, 48 ≤ q → g2.1 q j = g.1 q j) → Aw 14 ML_law K 1073 [some (.ref 68), some (.ref 0), some (.ref 31), some (.int (nI i))] [] g2) : Aw 14 ML_law K 275 [some (.ref 68), some (.ref 0), some (.ref 31), some (.int (nI i))] [] g := by
  obtain ⟨v, d, d', g1, g2, n', t', ln', bt', B', fd', sh', hd, hd', r1, r2, e1, c2, m2, e2⟩ := s_claim (g.1 68 (nI i + 1).toNatClampNeg) (g.1 68 (nI i + 2).toNatClampNeg) hC hM
  have e68 : g1.1 68 = g.1 68 := funext fun j => e1 68 j (by decide)
  have x1 : ∀ k, k ≤ 5 → vp_in (nI i + nI k) (g1.1 69 0).toNatClampNeg := fun k hk => by rw [e1 69 0 (by decide)]; exact x k hk
  refine r_aload1 dL_law_275 ?_
  refine r_aload0 dL_law_276 ?_
  refine r_iload3 dL_law_277 ?_
  refine r_iconst_1 dL_law_278 ?_
  refine r_iadd dL_law_279 ?_
  refine r_ildX dL_law_280 (x 1 (by decide)) ?_
  refine r_aload0 dL_law_281 ?_
  refine r_iload3 dL_law_282 ?_
  refine r_iconst_2 dL_law_283 ?_
  refine r_iadd dL_law_284 ?_
  refine r_ildX dL_law_285 (x 2 (by decide)) ?_
  refine r_cV2I dL_law_286 mm_X8_claim im_X8_claim se_X8_claim ml_L_36 rfl rfl rfl (r1) (by omega) (Nat.le_of_ble_eq_true rfl) ?_
  refine r_aload2 dL_law_289 ?_
  refine r_aload0 dL_law_290 ?_
  refine r_iload3 dL_law_291 ?_
  refine r_iconst_1 dL_law_292 ?_
  refine r_iadd dL_law_293 ?_
  refine r_ildX dL_law_294 (x1 1 (by decide)) ?_
  refine r_aload0 dL_law_295 ?_
  refine r_iload3 dL_law_296 ?_
  refine r_iconst_2 dL_law_297 ?_
  refine r_iadd dL_law_298 ?_
  refine r_ildX dL_law_299 (x1 2 (by decide)) ?_
  rw [e68]
  refine r_cV2I dL_law_300 mm_X9_claim im_X9_claim se_X9_claim ml_L_39 rfl rfl rfl (r2) (by omega) (Nat.le_of_ble_eq_true rfl) ?_
  refine r_icmpeq (tgt := 1073) dL_law_303 (by decide) (fun _ => ?_) (fun c9 => absurd (rfl) c9)
  exact nxt g2 n' t' ln' bt' B' fd' sh' c2 m2 e2
theorem lo_believe {K : KQT} {g : Hp} {n t ln i : Nat} {bt : Nat → Nat} {B : Nat} {fd : Int32} {sh : Nat → Option Sht} (hC : CR g n t ln bt B fd sh) (hM : MR g n t ln bt B fd sh) (x : ∀ k, k ≤ 5 → vp_in (nI i + nI k) (g.1 69 0).toNatClampNeg) (nxt : ∀ g2 n t ln bt B fd sh, CR g2 n t ln bt B fd sh → MR g2 n t ln bt B fd sh → (∀ q j, 48 ≤ q → g2.1 q j = g.1 q j) → Aw 14 ML_law K 1073 [some (.ref 68), some (.ref 0), some (.ref 31), some (.int (nI i))] [] g2) : Aw 14 ML_law K 308 [some (.ref 68), some (.ref 0), some (.ref 31), some (.int (nI i))] [] g := by
  obtain ⟨v, d, d', g1, g2, n', t', ln', bt', B', fd', sh', hd, hd', r1, r2, e1, c2, m2, e2⟩ := s_believe (g.1 68 (nI i + 1).toNatClampNeg) hC hM
  have e68 : g1.1 68 = g.1 68 := funext fun j => e1 68 j (by decide)
  have x1 : ∀ k, k ≤ 5 → vp_in (nI i + nI k) (g1.1 69 0).toNatClampNeg := fun k hk => by rw [e1 69 0 (by decide)]; exact x k hk
  refine r_aload1 dL_law_308 ?_
  refine r_aload0 dL_law_309 ?_
  refine r_iload3 dL_law_310 ?_
  refine r_iconst_1 dL_law_311 ?_
  refine r_iadd dL_law_312 ?_
  refine r_ildX dL_law_313 (x 1 (by decide)) ?_
  refine r_cV1I dL_law_314 mm_X8_believe im_X8_believe se_X8_believe ml_L_40 rfl rfl rfl (r1) (by omega) (Nat.le_of_ble_eq_true rfl) ?_
  refine r_aload2 dL_law_317 ?_
  refine r_aload0 dL_law_318 ?_
  refine r_iload3 dL_law_319 ?_
  refine r_iconst_1 dL_law_320 ?_
  refine r_iadd dL_law_321 ?_
  refine r_ildX dL_law_322 (x1 1 (by decide)) ?_
  rw [e68]
  refine r_cV1I dL_law_323 mm_X9_believe im_X9_believe se_X9_believe ml_L_43 rfl rfl rfl (r2) (by omega) (Nat.le_of_ble_eq_true rfl) ?_
  refine r_icmpeq (tgt := 1073) dL_law_326 (by decide) (fun _ => ?_) (fun c9 => absurd (rfl) c9)
  exact nxt g2 n' t' ln' bt' B' fd' sh' c2 m2 e2
theorem lo_put {K : KQT} {g : Hp} {n t ln i : Nat} {bt : Nat → Nat} {B : Nat} {fd : Int32} {sh : Nat → Option Sht} (hC : CR g n t ln bt B fd sh) (hM : MR g n t ln bt B fd sh) (x : ∀ k, k ≤ 5 → vp_in (nI i + nI k) (g.1 69 0).toNatClampNeg) (nxt : ∀ g2 n t ln bt B fd sh, CR g2 n t ln bt B fd sh → MR g2 n t ln bt B fd sh → (∀ q j, 48 ≤ q → g2.1 q j = g.1 q j) → Aw 14 ML_law K 1073 [some (.ref 68), some (.ref 0), some (.ref 31), some (.int (nI i))] [] g2) : Aw 14 ML_law K 331 [some (.ref 68), some (.ref 0), some (.ref 31), some (.int (nI i))] [] g := by
  obtain ⟨v, d, d', g1, g2, n', t', ln', bt', B', fd', sh', hd, hd', r1, r2, e1, c2, m2, e2⟩ := s_put (g.1 68 (nI i + 1).toNatClampNeg) hC hM
  have e68 : g1.1 68 = g.1 68 := funext fun j => e1 68 j (by decide)
  have x1 : ∀ k, k ≤ 5 → vp_in (nI i + nI k) (g1.1 69 0).toNatClampNeg := fun k hk => by rw [e1 69 0 (by decide)]; exact x k hk
  refine r_aload1 dL_law_331 ?_
  refine r_aload0 dL_law_332 ?_
  refine r_iload3 dL_law_333 ?_
  refine r_iconst_1 dL_law_334 ?_
  refine r_iadd dL_law_335 ?_
  refine r_ildX dL_law_336 (x 1 (by decide)) ?_
  refine r_cV1I dL_law_337 mm_X8_put im_X8_put se_X8_put ml_L_44 rfl rfl rfl (r1) (by omega) (Nat.le_of_ble_eq_true rfl) ?_
  refine r_aload2 dL_law_340 ?_
  refine r_aload0 dL_law_341 ?_
  refine r_iload3 dL_law_342 ?_
  refine r_iconst_1 dL_law_343 ?_
  refine r_iadd dL_law_344 ?_
  refine r_ildX dL_law_345 (x1 1 (by decide)) ?_
  rw [e68]
  refine r_cV1I dL_law_346 mm_X9_put im_X9_put se_X9_put ml_L_47 rfl rfl rfl (r2) (by omega) (Nat.le_of_ble_eq_true rfl) ?_
  refine r_icmpeq (tgt := 1073) dL_law_349 (by decide) (fun _ => ?_) (fun c9 => absurd (rfl) c9)
  exact nxt g2 n' t' ln' bt' B' fd' sh' c2 m2 e2
theorem lo_rows {K : KQT} {g : Hp} {n t ln i : Nat} {bt : Nat → Nat} {B : Nat} {fd : Int32} {sh : Nat → Option Sht} (hC : CR g n t ln bt B fd sh) (hM : MR g n t ln bt B fd sh) (x : ∀ k, k ≤ 5 → vp_in (nI i + nI k) (g.1 69 0).toNatClampNeg) (nxt : ∀ g2 n t ln bt B fd sh, CR g2 n t ln bt B fd sh → MR g2 n t ln bt B fd sh → (∀ q j, 48 ≤ q → g2.1 q j = g.1 q j) → Aw 14 ML_law K 1073 [some (.ref 68), some (.ref 0), some (.ref 31), some (.int (nI i))] [] g2) : Aw 14 ML_law K 354 [some (.ref 68), some (.ref 0), some (.ref 31), some (.int (nI i))] [] g := by
  obtain ⟨v, d, d', g1, g2, n', t', ln', bt', B', fd', sh', hd, hd', r1, r2, e1, c2, m2, e2⟩ := s_rows hC hM
  refine r_aload1 dL_law_354 ?_
  refine r_cV0I dL_law_355 mm_X8_rows im_X8_rows se_X8_rows ml_L_48 rfl rfl rfl (r1) (by omega) (Nat.le_of_ble_eq_true rfl) ?_
  refine r_aload2 dL_law_358 ?_
  refine r_cV0I dL_law_359 mm_X9_rows im_X9_rows se_X9_rows ml_L_51 rfl rfl rfl (r2) (by omega) (Nat.le_of_ble_eq_true rfl) ?_
  refine r_icmpeq (tgt := 1073) dL_law_362 (by decide) (fun _ => ?_) (fun c9 => absurd (rfl) c9)
  exact nxt g2 n' t' ln' bt' B' fd' sh' c2 m2 e2
theorem lo_can {K : KQT} {g : Hp} {n t ln i : Nat} {bt : Nat → Nat} {B : Nat} {fd : Int32} {sh : Nat → Option Sht} (hC : CR g n t ln bt B fd sh) (hM : MR g n t ln bt B fd sh) (x : ∀ k, k ≤ 5 → vp_in (nI i + nI k) (g.1 69 0).toNatClampNeg) (nxt : ∀ g2 n t ln bt B fd sh, CR g2 n t ln bt B fd sh → MR g2 n t ln bt B fd sh → (∀ q j, 48 ≤ q → g2.1 q j = g.1 q j) → Aw 14 ML_law K 1073 [some (.ref 68), some (.ref 0), some (.ref 31), some (.int (nI i))] [] g2) : Aw 14 ML_law K 367 [some (.ref 68), some (.ref 0), some (.ref 31), some (.int (nI i))] [] g := by
  obtain ⟨v, d, d', g1, g2, n', t', ln', bt', B', fd', sh', hd, hd', r1, r2, e1, c2, m2, e2⟩ := s_can hC hM
  refine r_aload1 dL_law_367 ?_
  refine r_cV0I dL_law_368 mm_X8_can im_X8_can se_X8_can ml_L_52 rfl rfl rfl (r1) (by omega) (Nat.le_of_ble_eq_true rfl) ?_
  refine r_aload2 dL_law_371 ?_
  refine r_cV0I dL_law_372 mm_X9_can im_X9_can se_X9_can ml_L_55 rfl rfl rfl (r2) (by omega) (Nat.le_of_ble_eq_true rfl) ?_
  refine r_icmpeq (tgt := 1073) dL_law_375 (by decide) (fun _ => ?_) (fun c9 => absurd (rfl) c9)
  exact nxt g2 n' t' ln' bt' B' fd' sh' c2 m2 e2
theorem lo_ranked {K : KQT} {g : Hp} {n t ln i : Nat} {bt : Nat → Nat} {B : Nat} {fd : Int32} {sh : Nat → Option Sht} (hC : CR g n t ln bt B fd sh) (hM : MR g n t ln bt B fd sh) (x : ∀ k, k ≤ 5 → vp_in (nI i + nI k) (g.1 69 0).toNatClampNeg) (nxt : ∀ g2 n t ln bt B fd sh, CR g2 n t ln bt B fd sh → MR g2 n t ln bt B fd sh → (∀ q j, 48 ≤ q → g2.1 q j = g.1 q j) → Aw 14 ML_law K 1073 [some (.ref 68), some (.ref 0), some (.ref 31), some (.int (nI i))] [] g2) : Aw 14 ML_law K 380 [some (.ref 68), some (.ref 0), some (.ref 31), some (.int (nI i))] [] g := by
  obtain ⟨v, d, d', g1, g2, n', t', ln', bt', B', fd', sh', hd, hd', r1, r2, e1, c2, m2, e2⟩ := s_ranked (g.1 68 (nI i + 1).toNatClampNeg) hC hM
  have e68 : g1.1 68 = g.1 68 := funext fun j => e1 68 j (by decide)
  have x1 : ∀ k, k ≤ 5 → vp_in (nI i + nI k) (g1.1 69 0).toNatClampNeg := fun k hk => by rw [e1 69 0 (by decide)]; exact x k hk
  refine r_aload1 dL_law_380 ?_
  refine r_aload0 dL_law_381 ?_
  refine r_iload3 dL_law_382 ?_
  refine r_iconst_1 dL_law_383 ?_
  refine r_iadd dL_law_384 ?_
  refine r_ildX dL_law_385 (x 1 (by decide)) ?_
  refine r_cV1I dL_law_386 mm_X8_ranked im_X8_ranked se_X8_ranked ml_L_56 rfl rfl rfl (r1) (by omega) (Nat.le_of_ble_eq_true rfl) ?_
  refine r_aload2 dL_law_389 ?_
  refine r_aload0 dL_law_390 ?_
  refine r_iload3 dL_law_391 ?_
  refine r_iconst_1 dL_law_392 ?_
  refine r_iadd dL_law_393 ?_
  refine r_ildX dL_law_394 (x1 1 (by decide)) ?_
  rw [e68]
  refine r_cV1I dL_law_395 mm_X9_ranked im_X9_ranked se_X9_ranked ml_L_59 rfl rfl rfl (r2) (by omega) (Nat.le_of_ble_eq_true rfl) ?_
  refine r_icmpeq (tgt := 1073) dL_law_398 (by decide) (fun _ => ?_) (fun c9 => absurd (rfl) c9)
  exact nxt g2 n' t' ln' bt' B' fd' sh' c2 m2 e2
theorem lo_ways {K : KQT} {g : Hp} {n t ln i : Nat} {bt : Nat → Nat} {B : Nat} {fd : Int32} {sh : Nat → Option Sht} (hC : CR g n t ln bt B fd sh) (hM : MR g n t ln bt B fd sh) (x : ∀ k, k ≤ 5 → vp_in (nI i + nI k) (g.1 69 0).toNatClampNeg) (nxt : ∀ g2 n t ln bt B fd sh, CR g2 n t ln bt B fd sh → MR g2 n t ln bt B fd sh → (∀ q j, 48 ≤ q → g2.1 q j = g.1 q j) → Aw 14 ML_law K 1073 [some (.ref 68), some (.ref 0), some (.ref 31), some (.int (nI i))] [] g2) : Aw 14 ML_law K 403 [some (.ref 68), some (.ref 0), some (.ref 31), some (.int (nI i))] [] g := by
  obtain ⟨v, d, d', g1, g2, n', t', ln', bt', B', fd', sh', hd, hd', r1, r2, e1, c2, m2, e2⟩ := s_ways hC hM
  refine r_aload1 dL_law_403 ?_
  refine r_cV0L dL_law_404 mm_X8_ways im_X8_ways se_X8_ways ml_L_60 rfl rfl rfl (r1) (by omega) (Nat.le_of_ble_eq_true rfl) ?_
  refine r_aload2 dL_law_407 ?_
  refine r_cV0L dL_law_408 mm_X9_ways im_X9_ways se_X9_ways ml_L_64 rfl rfl rfl (r2) (by omega) (Nat.le_of_ble_eq_true rfl) ?_
  refine r_leq (tgt := 1073) dL_law_411 dL_law_412 (by decide) (fun _ => ?_) (fun c9 => absurd (rfl) c9)
  exact nxt g2 n' t' ln' bt' B' fd' sh' c2 m2 e2
theorem lo_bound {K : KQT} {g : Hp} {n t ln i : Nat} {bt : Nat → Nat} {B : Nat} {fd : Int32} {sh : Nat → Option Sht} (hC : CR g n t ln bt B fd sh) (hM : MR g n t ln bt B fd sh) (x : ∀ k, k ≤ 5 → vp_in (nI i + nI k) (g.1 69 0).toNatClampNeg) (nxt : ∀ g2 n t ln bt B fd sh, CR g2 n t ln bt B fd sh → MR g2 n t ln bt B fd sh → (∀ q j, 48 ≤ q → g2.1 q j = g.1 q j) → Aw 14 ML_law K 1073 [some (.ref 68), some (.ref 0), some (.ref 31), some (.int (nI i))] [] g2) : Aw 14 ML_law K 417 [some (.ref 68), some (.ref 0), some (.ref 31), some (.int (nI i))] [] g := by
  obtain ⟨v, d, d', g1, g2, n', t', ln', bt', B', fd', sh', hd, hd', r1, r2, e1, c2, m2, e2⟩ := s_bound (g.1 68 (nI i + 1).toNatClampNeg) (g.1 68 (nI i + 2).toNatClampNeg) hC hM
  have e68 : g1.1 68 = g.1 68 := funext fun j => e1 68 j (by decide)
  have x1 : ∀ k, k ≤ 5 → vp_in (nI i + nI k) (g1.1 69 0).toNatClampNeg := fun k hk => by rw [e1 69 0 (by decide)]; exact x k hk
  refine r_aload1 dL_law_417 ?_
  refine r_aload0 dL_law_418 ?_
  refine r_iload3 dL_law_419 ?_
  refine r_iconst_1 dL_law_420 ?_
  refine r_iadd dL_law_421 ?_
  refine r_ildX dL_law_422 (x 1 (by decide)) ?_
  refine r_aload0 dL_law_423 ?_
  refine r_iload3 dL_law_424 ?_
  refine r_iconst_2 dL_law_425 ?_
  refine r_iadd dL_law_426 ?_
  refine r_ildX dL_law_427 (x 2 (by decide)) ?_
  refine r_cV2I dL_law_428 mm_X8_bound im_X8_bound se_X8_bound ml_L_65 rfl rfl rfl (r1) (by omega) (Nat.le_of_ble_eq_true rfl) ?_
  refine r_aload2 dL_law_431 ?_
  refine r_aload0 dL_law_432 ?_
  refine r_iload3 dL_law_433 ?_
  refine r_iconst_1 dL_law_434 ?_
  refine r_iadd dL_law_435 ?_
  refine r_ildX dL_law_436 (x1 1 (by decide)) ?_
  refine r_aload0 dL_law_437 ?_
  refine r_iload3 dL_law_438 ?_
  refine r_iconst_2 dL_law_439 ?_
  refine r_iadd dL_law_440 ?_
  refine r_ildX dL_law_441 (x1 2 (by decide)) ?_
  rw [e68]
  refine r_cV2I dL_law_442 mm_X9_bound im_X9_bound se_X9_bound ml_L_68 rfl rfl rfl (r2) (by omega) (Nat.le_of_ble_eq_true rfl) ?_
  refine r_icmpeq (tgt := 1073) dL_law_445 (by decide) (fun _ => ?_) (fun c9 => absurd (rfl) c9)
  exact nxt g2 n' t' ln' bt' B' fd' sh' c2 m2 e2
theorem lo_alone {K : KQT} {g : Hp} {n t ln i : Nat} {bt : Nat → Nat} {B : Nat} {fd : Int32} {sh : Nat → Option Sht} (hC : CR g n t ln bt B fd sh) (hM : MR g n t ln bt B fd sh) (x : ∀ k, k ≤ 5 → vp_in (nI i + nI k) (g.1 69 0).toNatClampNeg) (nxt : ∀ g2 n t ln bt B fd sh, CR g2 n t ln bt B fd sh → MR g2 n t ln bt B fd sh → (∀ q j, 48 ≤ q → g2.1 q j = g.1 q j) → Aw 14 ML_law K 1073 [some (.ref 68), some (.ref 0), some (.ref 31), some (.int (nI i))] [] g2) : Aw 14 ML_law K 450 [some (.ref 68), some (.ref 0), some (.ref 31), some (.int (nI i))] [] g := by
  obtain ⟨v, d, d', g1, g2, n', t', ln', bt', B', fd', sh', hd, hd', r1, r2, e1, c2, m2, e2⟩ := s_alone hC hM
  refine r_aload1 dL_law_450 ?_
  refine r_cV0I dL_law_451 mm_X8_alone im_X8_alone se_X8_alone ml_L_69 rfl rfl rfl (r1) (by omega) (Nat.le_of_ble_eq_true rfl) ?_
  refine r_aload2 dL_law_454 ?_
  refine r_cV0I dL_law_455 mm_X9_alone im_X9_alone se_X9_alone ml_L_72 rfl rfl rfl (r2) (by omega) (Nat.le_of_ble_eq_true rfl) ?_
  refine r_icmpeq (tgt := 1073) dL_law_458 (by decide) (fun _ => ?_) (fun c9 => absurd (rfl) c9)
  exact nxt g2 n' t' ln' bt' B' fd' sh' c2 m2 e2
theorem lo_fewest {K : KQT} {g : Hp} {n t ln i : Nat} {bt : Nat → Nat} {B : Nat} {fd : Int32} {sh : Nat → Option Sht} (hC : CR g n t ln bt B fd sh) (hM : MR g n t ln bt B fd sh) (x : ∀ k, k ≤ 5 → vp_in (nI i + nI k) (g.1 69 0).toNatClampNeg) (nxt : ∀ g2 n t ln bt B fd sh, CR g2 n t ln bt B fd sh → MR g2 n t ln bt B fd sh → (∀ q j, 48 ≤ q → g2.1 q j = g.1 q j) → Aw 14 ML_law K 1073 [some (.ref 68), some (.ref 0), some (.ref 31), some (.int (nI i))] [] g2) : Aw 14 ML_law K 463 [some (.ref 68), some (.ref 0), some (.ref 31), some (.int (nI i))] [] g := by
  obtain ⟨v, d, d', g1, g2, n', t', ln', bt', B', fd', sh', hd, hd', r1, r2, e1, c2, m2, e2⟩ := s_fewest hC hM
  refine r_aload1 dL_law_463 ?_
  refine r_cV0I dL_law_464 mm_X8_fewest im_X8_fewest se_X8_fewest ml_L_73 rfl rfl rfl (r1) (by omega) (Nat.le_of_ble_eq_true rfl) ?_
  refine r_aload2 dL_law_467 ?_
  refine r_cV0I dL_law_468 mm_X9_fewest im_X9_fewest se_X9_fewest ml_L_76 rfl rfl rfl (r2) (by omega) (Nat.le_of_ble_eq_true rfl) ?_
  refine r_icmpeq (tgt := 1073) dL_law_471 (by decide) (fun _ => ?_) (fun c9 => absurd (rfl) c9)
  exact nxt g2 n' t' ln' bt' B' fd' sh' c2 m2 e2
theorem lo_quarrel {K : KQT} {g : Hp} {n t ln i : Nat} {bt : Nat → Nat} {B : Nat} {fd : Int32} {sh : Nat → Option Sht} (hC : CR g n t ln bt B fd sh) (hM : MR g n t ln bt B fd sh) (x : ∀ k, k ≤ 5 → vp_in (nI i + nI k) (g.1 69 0).toNatClampNeg) (nxt : ∀ g2 n t ln bt B fd sh, CR g2 n t ln bt B fd sh → MR g2 n t ln bt B fd sh → (∀ q j, 48 ≤ q → g2.1 q j = g.1 q j) → Aw 14 ML_law K 1073 [some (.ref 68), some (.ref 0), some (.ref 31), some (.int (nI i))] [] g2) : Aw 14 ML_law K 476 [some (.ref 68), some (.ref 0), some (.ref 31), some (.int (nI i))] [] g := by
  obtain ⟨v, d, d', g1, g2, n', t', ln', bt', B', fd', sh', hd, hd', r1, r2, e1, c2, m2, e2⟩ := s_quarrel hC hM
  refine r_aload1 dL_law_476 ?_
  refine r_cV0I dL_law_477 mm_X8_quarrel im_X8_quarrel se_X8_quarrel ml_L_77 rfl rfl rfl (r1) (by omega) (Nat.le_of_ble_eq_true rfl) ?_
  refine r_aload2 dL_law_480 ?_
  refine r_cV0I dL_law_481 mm_X9_quarrel im_X9_quarrel se_X9_quarrel ml_L_80 rfl rfl rfl (r2) (by omega) (Nat.le_of_ble_eq_true rfl) ?_
  refine r_icmpeq (tgt := 1073) dL_law_484 (by decide) (fun _ => ?_) (fun c9 => absurd (rfl) c9)
  exact nxt g2 n' t' ln' bt' B' fd' sh' c2 m2 e2
theorem lo_ask {K : KQT} {g : Hp} {n t ln i : Nat} {bt : Nat → Nat} {B : Nat} {fd : Int32} {sh : Nat → Option Sht} (hC : CR g n t ln bt B fd sh) (hM : MR g n t ln bt B fd sh) (x : ∀ k, k ≤ 5 → vp_in (nI i + nI k) (g.1 69 0).toNatClampNeg) (nxt : ∀ g2 n t ln bt B fd sh, CR g2 n t ln bt B fd sh → MR g2 n t ln bt B fd sh → (∀ q j, 48 ≤ q → g2.1 q j = g.1 q j) → Aw 14 ML_law K 1073 [some (.ref 68), some (.ref 0), some (.ref 31), some (.int (nI i))] [] g2) : Aw 14 ML_law K 489 [some (.ref 68), some (.ref 0), some (.ref 31), some (.int (nI i))] [] g := by
  obtain ⟨v, d, d', g1, g2, n', t', ln', bt', B', fd', sh', hd, hd', r1, r2, e1, c2, m2, e2⟩ := s_ask hC hM
  refine r_aload1 dL_law_489 ?_
  refine r_cV0I dL_law_490 mm_X8_ask im_X8_ask se_X8_ask ml_L_81 rfl rfl rfl (r1) (by omega) (Nat.le_of_ble_eq_true rfl) ?_
  refine r_aload2 dL_law_493 ?_
  refine r_cV0I dL_law_494 mm_X9_ask im_X9_ask se_X9_ask ml_L_84 rfl rfl rfl (r2) (by omega) (Nat.le_of_ble_eq_true rfl) ?_
  refine r_icmpeq (tgt := 1073) dL_law_497 (by decide) (fun _ => ?_) (fun c9 => absurd (rfl) c9)
  exact nxt g2 n' t' ln' bt' B' fd' sh' c2 m2 e2
theorem lo_shares {K : KQT} {g : Hp} {n t ln i : Nat} {bt : Nat → Nat} {B : Nat} {fd : Int32} {sh : Nat → Option Sht} (hC : CR g n t ln bt B fd sh) (hM : MR g n t ln bt B fd sh) (x : ∀ k, k ≤ 5 → vp_in (nI i + nI k) (g.1 69 0).toNatClampNeg) (nxt : ∀ g2 n t ln bt B fd sh, CR g2 n t ln bt B fd sh → MR g2 n t ln bt B fd sh → (∀ q j, 48 ≤ q → g2.1 q j = g.1 q j) → Aw 14 ML_law K 1073 [some (.ref 68), some (.ref 0), some (.ref 31), some (.int (nI i))] [] g2) : Aw 14 ML_law K 502 [some (.ref 68), some (.ref 0), some (.ref 31), some (.int (nI i))] [] g := by
  obtain ⟨v, d, d', g1, g2, n', t', ln', bt', B', fd', sh', hd, hd', r1, r2, e1, c2, m2, e2⟩ := s_shares (g.1 68 (nI i + 1).toNatClampNeg) (g.1 68 (nI i + 2).toNatClampNeg) (g.1 68 (nI i + 3).toNatClampNeg) hC hM
  have e68 : g1.1 68 = g.1 68 := funext fun j => e1 68 j (by decide)
  have x1 : ∀ k, k ≤ 5 → vp_in (nI i + nI k) (g1.1 69 0).toNatClampNeg := fun k hk => by rw [e1 69 0 (by decide)]; exact x k hk
  refine r_aload1 dL_law_502 ?_
  refine r_aload0 dL_law_503 ?_
  refine r_iload3 dL_law_504 ?_
  refine r_iconst_1 dL_law_505 ?_
  refine r_iadd dL_law_506 ?_
  refine r_ildX dL_law_507 (x 1 (by decide)) ?_
  refine r_aload0 dL_law_508 ?_
  refine r_iload3 dL_law_509 ?_
  refine r_iconst_2 dL_law_510 ?_
  refine r_iadd dL_law_511 ?_
  refine r_ildX dL_law_512 (x 2 (by decide)) ?_
  refine r_aload0 dL_law_513 ?_
  refine r_iload3 dL_law_514 ?_
  refine r_iconst_3 dL_law_515 ?_
  refine r_iadd dL_law_516 ?_
  refine r_ildX dL_law_517 (x 3 (by decide)) ?_
  refine r_cV3I dL_law_518 mm_X8_shares im_X8_shares se_X8_shares ml_L_85 rfl rfl rfl (r1) (by omega) (Nat.le_of_ble_eq_true rfl) ?_
  refine r_aload2 dL_law_521 ?_
  refine r_aload0 dL_law_522 ?_
  refine r_iload3 dL_law_523 ?_
  refine r_iconst_1 dL_law_524 ?_
  refine r_iadd dL_law_525 ?_
  refine r_ildX dL_law_526 (x1 1 (by decide)) ?_
  refine r_aload0 dL_law_527 ?_
  refine r_iload3 dL_law_528 ?_
  refine r_iconst_2 dL_law_529 ?_
  refine r_iadd dL_law_530 ?_
  refine r_ildX dL_law_531 (x1 2 (by decide)) ?_
  refine r_aload0 dL_law_532 ?_
  refine r_iload3 dL_law_533 ?_
  refine r_iconst_3 dL_law_534 ?_
  refine r_iadd dL_law_535 ?_
  refine r_ildX dL_law_536 (x1 3 (by decide)) ?_
  rw [e68]
  refine r_cV3I dL_law_537 mm_X9_shares im_X9_shares se_X9_shares ml_L_89 rfl rfl rfl (r2) (by omega) (Nat.le_of_ble_eq_true rfl) ?_
  refine r_icmpeq (tgt := 1073) dL_law_540 (by decide) (fun _ => ?_) (fun c9 => absurd (rfl) c9)
  exact nxt g2 n' t' ln' bt' B' fd' sh' c2 m2 e2
theorem lo_share {K : KQT} {g : Hp} {n t ln i : Nat} {bt : Nat → Nat} {B : Nat} {fd : Int32} {sh : Nat → Option Sht} (hC : CR g n t ln bt B fd sh) (hM : MR g n t ln bt B fd sh) (x : ∀ k, k ≤ 5 → vp_in (nI i + nI k) (g.1 69 0).toNatClampNeg) (nxt : ∀ g2 n t ln bt B fd sh, CR g2 n t ln bt B fd sh → MR g2 n t ln bt B fd sh → (∀ q j, 48 ≤ q → g2.1 q j = g.1 q j) → Aw 14 ML_law K 1073 [some (.ref 68), some (.ref 0), some (.ref 31), some (.int (nI i))] [] g2) : Aw 14 ML_law K 545 [some (.ref 68), some (.ref 0), some (.ref 31), some (.int (nI i))] [] g := by
  obtain ⟨v, d, d', g1, g2, n', t', ln', bt', B', fd', sh', hd, hd', r1, r2, e1, c2, m2, e2⟩ := s_share (g.1 68 (nI i + 1).toNatClampNeg) (g.1 68 (nI i + 2).toNatClampNeg) (g.1 68 (nI i + 3).toNatClampNeg) hC hM
  have e68 : g1.1 68 = g.1 68 := funext fun j => e1 68 j (by decide)
  have x1 : ∀ k, k ≤ 5 → vp_in (nI i + nI k) (g1.1 69 0).toNatClampNeg := fun k hk => by rw [e1 69 0 (by decide)]; exact x k hk
  refine r_aload1 dL_law_545 ?_
  refine r_aload0 dL_law_546 ?_
  refine r_iload3 dL_law_547 ?_
  refine r_iconst_1 dL_law_548 ?_
  refine r_iadd dL_law_549 ?_
  refine r_ildX dL_law_550 (x 1 (by decide)) ?_
  refine r_aload0 dL_law_551 ?_
  refine r_iload3 dL_law_552 ?_
  refine r_iconst_2 dL_law_553 ?_
  refine r_iadd dL_law_554 ?_
  refine r_ildX dL_law_555 (x 2 (by decide)) ?_
  refine r_aload0 dL_law_556 ?_
  refine r_iload3 dL_law_557 ?_
  refine r_iconst_3 dL_law_558 ?_
  refine r_iadd dL_law_559 ?_
  refine r_ildX dL_law_560 (x 3 (by decide)) ?_
  refine r_cV3I dL_law_561 mm_X8_share im_X8_share se_X8_share ml_L_90 rfl rfl rfl (r1) (by omega) (Nat.le_of_ble_eq_true rfl) ?_
  refine r_aload2 dL_law_564 ?_
  refine r_aload0 dL_law_565 ?_
  refine r_iload3 dL_law_566 ?_
  refine r_iconst_1 dL_law_567 ?_
  refine r_iadd dL_law_568 ?_
  refine r_ildX dL_law_569 (x1 1 (by decide)) ?_
  refine r_aload0 dL_law_570 ?_
  refine r_iload3 dL_law_571 ?_
  refine r_iconst_2 dL_law_572 ?_
  refine r_iadd dL_law_573 ?_
  refine r_ildX dL_law_574 (x1 2 (by decide)) ?_
  refine r_aload0 dL_law_575 ?_
  refine r_iload3 dL_law_576 ?_
  refine r_iconst_3 dL_law_577 ?_
  refine r_iadd dL_law_578 ?_
  refine r_ildX dL_law_579 (x1 3 (by decide)) ?_
  rw [e68]
  refine r_cV3I dL_law_580 mm_X9_share im_X9_share se_X9_share ml_L_93 rfl rfl rfl (r2) (by omega) (Nat.le_of_ble_eq_true rfl) ?_
  refine r_icmpeq (tgt := 1073) dL_law_583 (by decide) (fun _ => ?_) (fun c9 => absurd (rfl) c9)
  exact nxt g2 n' t' ln' bt' B' fd' sh' c2 m2 e2
theorem lo_last {K : KQT} {g : Hp} {n t ln i : Nat} {bt : Nat → Nat} {B : Nat} {fd : Int32} {sh : Nat → Option Sht} (hC : CR g n t ln bt B fd sh) (hM : MR g n t ln bt B fd sh) (x : ∀ k, k ≤ 5 → vp_in (nI i + nI k) (g.1 69 0).toNatClampNeg) (nxt : ∀ g2 n t ln bt B fd sh, CR g2 n t ln bt B fd sh → MR g2 n t ln bt B fd sh → (∀ q j, 48 ≤ q → g2.1 q j = g.1 q j) → Aw 14 ML_law K 1073 [some (.ref 68), some (.ref 0), some (.ref 31), some (.int (nI i))] [] g2) : Aw 14 ML_law K 588 [some (.ref 68), some (.ref 0), some (.ref 31), some (.int (nI i))] [] g := by
  obtain ⟨v, d, d', g1, g2, n', t', ln', bt', B', fd', sh', hd, hd', r1, r2, e1, c2, m2, e2⟩ := s_last (g.1 68 (nI i + 1).toNatClampNeg) (g.1 68 (nI i + 2).toNatClampNeg) hC hM
  have e68 : g1.1 68 = g.1 68 := funext fun j => e1 68 j (by decide)
  have x1 : ∀ k, k ≤ 5 → vp_in (nI i + nI k) (g1.1 69 0).toNatClampNeg := fun k hk => by rw [e1 69 0 (by decide)]; exact x k hk
  refine r_aload1 dL_law_588 ?_
  refine r_aload0 dL_law_589 ?_
  refine r_iload3 dL_law_590 ?_
  refine r_iconst_1 dL_law_591 ?_
  refine r_iadd dL_law_592 ?_
  refine r_ildX dL_law_593 (x 1 (by decide)) ?_
  refine r_aload0 dL_law_594 ?_
  refine r_iload3 dL_law_595 ?_
  refine r_iconst_2 dL_law_596 ?_
  refine r_iadd dL_law_597 ?_
  refine r_ildX dL_law_598 (x 2 (by decide)) ?_
  refine r_cV2I dL_law_599 mm_X8_last im_X8_last se_X8_last ml_L_94 rfl rfl rfl (r1) (by omega) (Nat.le_of_ble_eq_true rfl) ?_
  refine r_aload2 dL_law_602 ?_
  refine r_aload0 dL_law_603 ?_
  refine r_iload3 dL_law_604 ?_
  refine r_iconst_1 dL_law_605 ?_
  refine r_iadd dL_law_606 ?_
  refine r_ildX dL_law_607 (x1 1 (by decide)) ?_
  refine r_aload0 dL_law_608 ?_
  refine r_iload3 dL_law_609 ?_
  refine r_iconst_2 dL_law_610 ?_
  refine r_iadd dL_law_611 ?_
  refine r_ildX dL_law_612 (x1 2 (by decide)) ?_
  rw [e68]
  refine r_cV2I dL_law_613 mm_X9_last im_X9_last se_X9_last ml_L_97 rfl rfl rfl (r2) (by omega) (Nat.le_of_ble_eq_true rfl) ?_
  refine r_icmpeq (tgt := 1073) dL_law_616 (by decide) (fun _ => ?_) (fun c9 => absurd (rfl) c9)
  exact nxt g2 n' t' ln' bt' B' fd' sh' c2 m2 e2
theorem lo_lastChance {K : KQT} {g : Hp} {n t ln i : Nat} {bt : Nat → Nat} {B : Nat} {fd : Int32} {sh : Nat → Option Sht} (hC : CR g n t ln bt B fd sh) (hM : MR g n t ln bt B fd sh) (x : ∀ k, k ≤ 5 → vp_in (nI i + nI k) (g.1 69 0).toNatClampNeg) (nxt : ∀ g2 n t ln bt B fd sh, CR g2 n t ln bt B fd sh → MR g2 n t ln bt B fd sh → (∀ q j, 48 ≤ q → g2.1 q j = g.1 q j) → Aw 14 ML_law K 1073 [some (.ref 68), some (.ref 0), some (.ref 31), some (.int (nI i))] [] g2) : Aw 14 ML_law K 621 [some (.ref 68), some (.ref 0), some (.ref 31), some (.int (nI i))] [] g := by
  obtain ⟨v, d, d', g1, g2, n', t', ln', bt', B', fd', sh', hd, hd', r1, r2, e1, c2, m2, e2⟩ := s_lastChance (g.1 68 (nI i + 1).toNatClampNeg) hC hM
  have e68 : g1.1 68 = g.1 68 := funext fun j => e1 68 j (by decide)
  have x1 : ∀ k, k ≤ 5 → vp_in (nI i + nI k) (g1.1 69 0).toNatClampNeg := fun k hk => by rw [e1 69 0 (by decide)]; exact x k hk
  refine r_aload1 dL_law_621 ?_
  refine r_aload0 dL_law_622 ?_
  refine r_iload3 dL_law_623 ?_
  refine r_iconst_1 dL_law_624 ?_
  refine r_iadd dL_law_625 ?_
  refine r_ildX dL_law_626 (x 1 (by decide)) ?_
  refine r_cV1I dL_law_627 mm_X8_lastChance im_X8_lastChance se_X8_lastChance ml_L_98 rfl rfl rfl (r1) (by omega) (Nat.le_of_ble_eq_true rfl) ?_
  refine r_aload2 dL_law_630 ?_
  refine r_aload0 dL_law_631 ?_
  refine r_iload3 dL_law_632 ?_
  refine r_iconst_1 dL_law_633 ?_
  refine r_iadd dL_law_634 ?_
  refine r_ildX dL_law_635 (x1 1 (by decide)) ?_
  rw [e68]
  refine r_cV1I dL_law_636 mm_X9_lastChance im_X9_lastChance se_X9_lastChance ml_L_101 rfl rfl rfl (r2) (by omega) (Nat.le_of_ble_eq_true rfl) ?_
  refine r_icmpeq (tgt := 1073) dL_law_639 (by decide) (fun _ => ?_) (fun c9 => absurd (rfl) c9)
  exact nxt g2 n' t' ln' bt' B' fd' sh' c2 m2 e2
theorem lo_first {K : KQT} {g : Hp} {n t ln i : Nat} {bt : Nat → Nat} {B : Nat} {fd : Int32} {sh : Nat → Option Sht} (hC : CR g n t ln bt B fd sh) (hM : MR g n t ln bt B fd sh) (x : ∀ k, k ≤ 5 → vp_in (nI i + nI k) (g.1 69 0).toNatClampNeg) (nxt : ∀ g2 n t ln bt B fd sh, CR g2 n t ln bt B fd sh → MR g2 n t ln bt B fd sh → (∀ q j, 48 ≤ q → g2.1 q j = g.1 q j) → Aw 14 ML_law K 1073 [some (.ref 68), some (.ref 0), some (.ref 31), some (.int (nI i))] [] g2) : Aw 14 ML_law K 644 [some (.ref 68), some (.ref 0), some (.ref 31), some (.int (nI i))] [] g := by
  obtain ⟨v, d, d', g1, g2, n', t', ln', bt', B', fd', sh', hd, hd', r1, r2, e1, c2, m2, e2⟩ := s_first (g.1 68 (nI i + 1).toNatClampNeg) (g.1 68 (nI i + 2).toNatClampNeg) hC hM
  have e68 : g1.1 68 = g.1 68 := funext fun j => e1 68 j (by decide)
  have x1 : ∀ k, k ≤ 5 → vp_in (nI i + nI k) (g1.1 69 0).toNatClampNeg := fun k hk => by rw [e1 69 0 (by decide)]; exact x k hk
  refine r_aload1 dL_law_644 ?_
  refine r_aload0 dL_law_645 ?_
  refine r_iload3 dL_law_646 ?_
  refine r_iconst_1 dL_law_647 ?_
  refine r_iadd dL_law_648 ?_
  refine r_ildX dL_law_649 (x 1 (by decide)) ?_
  refine r_aload0 dL_law_650 ?_
  refine r_iload3 dL_law_651 ?_
  refine r_iconst_2 dL_law_652 ?_
  refine r_iadd dL_law_653 ?_
  refine r_ildX dL_law_654 (x 2 (by decide)) ?_
  refine r_cV2I dL_law_655 mm_X8_first im_X8_first se_X8_first ml_L_102 rfl rfl rfl (r1) (by omega) (Nat.le_of_ble_eq_true rfl) ?_
  refine r_aload2 dL_law_658 ?_
  refine r_aload0 dL_law_659 ?_
  refine r_iload3 dL_law_660 ?_
  refine r_iconst_1 dL_law_661 ?_
  refine r_iadd dL_law_662 ?_
  refine r_ildX dL_law_663 (x1 1 (by decide)) ?_
  refine r_aload0 dL_law_664 ?_
  refine r_iload3 dL_law_665 ?_
  refine r_iconst_2 dL_law_666 ?_
  refine r_iadd dL_law_667 ?_
  refine r_ildX dL_law_668 (x1 2 (by decide)) ?_
  rw [e68]
  refine r_cV2I dL_law_669 mm_X9_first im_X9_first se_X9_first ml_L_105 rfl rfl rfl (r2) (by omega) (Nat.le_of_ble_eq_true rfl) ?_
  refine r_icmpeq (tgt := 1073) dL_law_672 (by decide) (fun _ => ?_) (fun c9 => absurd (rfl) c9)
  exact nxt g2 n' t' ln' bt' B' fd' sh' c2 m2 e2
theorem lo_firstChance {K : KQT} {g : Hp} {n t ln i : Nat} {bt : Nat → Nat} {B : Nat} {fd : Int32} {sh : Nat → Option Sht} (hC : CR g n t ln bt B fd sh) (hM : MR g n t ln bt B fd sh) (x : ∀ k, k ≤ 5 → vp_in (nI i + nI k) (g.1 69 0).toNatClampNeg) (nxt : ∀ g2 n t ln bt B fd sh, CR g2 n t ln bt B fd sh → MR g2 n t ln bt B fd sh → (∀ q j, 48 ≤ q → g2.1 q j = g.1 q j) → Aw 14 ML_law K 1073 [some (.ref 68), some (.ref 0), some (.ref 31), some (.int (nI i))] [] g2) : Aw 14 ML_law K 677 [some (.ref 68), some (.ref 0), some (.ref 31), some (.int (nI i))] [] g := by
  obtain ⟨v, d, d', g1, g2, n', t', ln', bt', B', fd', sh', hd, hd', r1, r2, e1, c2, m2, e2⟩ := s_firstChance (g.1 68 (nI i + 1).toNatClampNeg) (g.1 68 (nI i + 2).toNatClampNeg) hC hM
  have e68 : g1.1 68 = g.1 68 := funext fun j => e1 68 j (by decide)
  have x1 : ∀ k, k ≤ 5 → vp_in (nI i + nI k) (g1.1 69 0).toNatClampNeg := fun k hk => by rw [e1 69 0 (by decide)]; exact x k hk
  refine r_aload1 dL_law_677 ?_
  refine r_aload0 dL_law_678 ?_
  refine r_iload3 dL_law_679 ?_
  refine r_iconst_1 dL_law_680 ?_
  refine r_iadd dL_law_681 ?_
  refine r_ildX dL_law_682 (x 1 (by decide)) ?_
  refine r_aload0 dL_law_683 ?_
  refine r_iload3 dL_law_684 ?_
  refine r_iconst_2 dL_law_685 ?_
  refine r_iadd dL_law_686 ?_
  refine r_ildX dL_law_687 (x 2 (by decide)) ?_
  refine r_cV2I dL_law_688 mm_X8_firstChance im_X8_firstChance se_X8_firstChance ml_L_106 rfl rfl rfl (r1) (by omega) (Nat.le_of_ble_eq_true rfl) ?_
  refine r_aload2 dL_law_691 ?_
  refine r_aload0 dL_law_692 ?_
  refine r_iload3 dL_law_693 ?_
  refine r_iconst_1 dL_law_694 ?_
  refine r_iadd dL_law_695 ?_
  refine r_ildX dL_law_696 (x1 1 (by decide)) ?_
  refine r_aload0 dL_law_697 ?_
  refine r_iload3 dL_law_698 ?_
  refine r_iconst_2 dL_law_699 ?_
  refine r_iadd dL_law_700 ?_
  refine r_ildX dL_law_701 (x1 2 (by decide)) ?_
  rw [e68]
  refine r_cV2I dL_law_702 mm_X9_firstChance im_X9_firstChance se_X9_firstChance ml_L_109 rfl rfl rfl (r2) (by omega) (Nat.le_of_ble_eq_true rfl) ?_
  refine r_icmpeq (tgt := 1073) dL_law_705 (by decide) (fun _ => ?_) (fun c9 => absurd (rfl) c9)
  exact nxt g2 n' t' ln' bt' B' fd' sh' c2 m2 e2
theorem lo_copies {K : KQT} {g : Hp} {n t ln i : Nat} {bt : Nat → Nat} {B : Nat} {fd : Int32} {sh : Nat → Option Sht} (hC : CR g n t ln bt B fd sh) (hM : MR g n t ln bt B fd sh) (x : ∀ k, k ≤ 5 → vp_in (nI i + nI k) (g.1 69 0).toNatClampNeg) (nxt : ∀ g2 n t ln bt B fd sh, CR g2 n t ln bt B fd sh → MR g2 n t ln bt B fd sh → (∀ q j, 48 ≤ q → g2.1 q j = g.1 q j) → Aw 14 ML_law K 1073 [some (.ref 68), some (.ref 0), some (.ref 31), some (.int (nI i))] [] g2) : Aw 14 ML_law K 710 [some (.ref 68), some (.ref 0), some (.ref 31), some (.int (nI i))] [] g := by
  obtain ⟨v, d, d', g1, g2, n', t', ln', bt', B', fd', sh', hd, hd', r1, r2, e1, c2, m2, e2⟩ := s_copies (g.1 68 (nI i + 1).toNatClampNeg) (g.1 68 (nI i + 2).toNatClampNeg) (g.1 68 (nI i + 3).toNatClampNeg) hC hM
  have e68 : g1.1 68 = g.1 68 := funext fun j => e1 68 j (by decide)
  have x1 : ∀ k, k ≤ 5 → vp_in (nI i + nI k) (g1.1 69 0).toNatClampNeg := fun k hk => by rw [e1 69 0 (by decide)]; exact x k hk
  refine r_aload1 dL_law_710 ?_
  refine r_aload0 dL_law_711 ?_
  refine r_iload3 dL_law_712 ?_
  refine r_iconst_1 dL_law_713 ?_
  refine r_iadd dL_law_714 ?_
  refine r_ildX dL_law_715 (x 1 (by decide)) ?_
  refine r_aload0 dL_law_716 ?_
  refine r_iload3 dL_law_717 ?_
  refine r_iconst_2 dL_law_718 ?_
  refine r_iadd dL_law_719 ?_
  refine r_ildX dL_law_720 (x 2 (by decide)) ?_
  refine r_aload0 dL_law_721 ?_
  refine r_iload3 dL_law_722 ?_
  refine r_iconst_3 dL_law_723 ?_
  refine r_iadd dL_law_724 ?_
  refine r_ildX dL_law_725 (x 3 (by decide)) ?_
  refine r_cV3L dL_law_726 mm_X8_copies im_X8_copies se_X8_copies ml_L_110 rfl rfl rfl (r1) (by omega) (Nat.le_of_ble_eq_true rfl) ?_
  refine r_aload2 dL_law_729 ?_
  refine r_aload0 dL_law_730 ?_
  refine r_iload3 dL_law_731 ?_
  refine r_iconst_1 dL_law_732 ?_
  refine r_iadd dL_law_733 ?_
  refine r_ildX dL_law_734 (x1 1 (by decide)) ?_
  refine r_aload0 dL_law_735 ?_
  refine r_iload3 dL_law_736 ?_
  refine r_iconst_2 dL_law_737 ?_
  refine r_iadd dL_law_738 ?_
  refine r_ildX dL_law_739 (x1 2 (by decide)) ?_
  refine r_aload0 dL_law_740 ?_
  refine r_iload3 dL_law_741 ?_
  refine r_iconst_3 dL_law_742 ?_
  refine r_iadd dL_law_743 ?_
  refine r_ildX dL_law_744 (x1 3 (by decide)) ?_
  rw [e68]
  refine r_cV3L dL_law_745 mm_X9_copies im_X9_copies se_X9_copies ml_L_114 rfl rfl rfl (r2) (by omega) (Nat.le_of_ble_eq_true rfl) ?_
  refine r_leq (tgt := 1073) dL_law_748 dL_law_749 (by decide) (fun _ => ?_) (fun c9 => absurd (rfl) c9)
  exact nxt g2 n' t' ln' bt' B' fd' sh' c2 m2 e2
theorem lo_twice {K : KQT} {g : Hp} {n t ln i : Nat} {bt : Nat → Nat} {B : Nat} {fd : Int32} {sh : Nat → Option Sht} (hC : CR g n t ln bt B fd sh) (hM : MR g n t ln bt B fd sh) (x : ∀ k, k ≤ 5 → vp_in (nI i + nI k) (g.1 69 0).toNatClampNeg) (nxt : ∀ g2 n t ln bt B fd sh, CR g2 n t ln bt B fd sh → MR g2 n t ln bt B fd sh → (∀ q j, 48 ≤ q → g2.1 q j = g.1 q j) → Aw 14 ML_law K 1073 [some (.ref 68), some (.ref 0), some (.ref 31), some (.int (nI i))] [] g2) : Aw 14 ML_law K 754 [some (.ref 68), some (.ref 0), some (.ref 31), some (.int (nI i))] [] g := by
  obtain ⟨v, d, d', g1, g2, n', t', ln', bt', B', fd', sh', hd, hd', r1, r2, e1, c2, m2, e2⟩ := s_twice (g.1 68 (nI i + 1).toNatClampNeg) (g.1 68 (nI i + 2).toNatClampNeg) hC hM
  have e68 : g1.1 68 = g.1 68 := funext fun j => e1 68 j (by decide)
  have x1 : ∀ k, k ≤ 5 → vp_in (nI i + nI k) (g1.1 69 0).toNatClampNeg := fun k hk => by rw [e1 69 0 (by decide)]; exact x k hk
  refine r_aload1 dL_law_754 ?_
  refine r_aload0 dL_law_755 ?_
  refine r_iload3 dL_law_756 ?_
  refine r_iconst_1 dL_law_757 ?_
  refine r_iadd dL_law_758 ?_
  refine r_ildX dL_law_759 (x 1 (by decide)) ?_
  refine r_aload0 dL_law_760 ?_
  refine r_iload3 dL_law_761 ?_
  refine r_iconst_2 dL_law_762 ?_
  refine r_iadd dL_law_763 ?_
  refine r_ildX dL_law_764 (x 2 (by decide)) ?_
  refine r_cV2L dL_law_765 mm_X8_twice im_X8_twice se_X8_twice ml_L_115 rfl rfl rfl (r1) (by omega) (Nat.le_of_ble_eq_true rfl) ?_
  refine r_aload2 dL_law_768 ?_
  refine r_aload0 dL_law_769 ?_
  refine r_iload3 dL_law_770 ?_
  refine r_iconst_1 dL_law_771 ?_
  refine r_iadd dL_law_772 ?_
  refine r_ildX dL_law_773 (x1 1 (by decide)) ?_
  refine r_aload0 dL_law_774 ?_
  refine r_iload3 dL_law_775 ?_
  refine r_iconst_2 dL_law_776 ?_
  refine r_iadd dL_law_777 ?_
  refine r_ildX dL_law_778 (x1 2 (by decide)) ?_
  rw [e68]
  refine r_cV2L dL_law_779 mm_X9_twice im_X9_twice se_X9_twice ml_L_119 rfl rfl rfl (r2) (by omega) (Nat.le_of_ble_eq_true rfl) ?_
  refine r_leq (tgt := 1073) dL_law_782 dL_law_783 (by decide) (fun _ => ?_) (fun c9 => absurd (rfl) c9)
  exact nxt g2 n' t' ln' bt' B' fd' sh' c2 m2 e2
theorem lo_sheet {K : KQT} {g : Hp} {n t ln i : Nat} {bt : Nat → Nat} {B : Nat} {fd : Int32} {sh : Nat → Option Sht} (hC : CR g n t ln bt B fd sh) (hM : MR g n t ln bt B fd sh) (x : ∀ k, k ≤ 5 → vp_in (nI i + nI k) (g.1 69 0).toNatClampNeg) (nxt : ∀ g2 n t ln bt B fd sh, CR g2 n t ln bt B fd sh → MR g2 n t ln bt B fd sh → (∀ q j, 48 ≤ q → g2.1 q j = g.1 q j) → Aw 14 ML_law K 1073 [some (.ref 68), some (.ref 0), some (.ref 31), some (.int (nI i))] [] g2) : Aw 14 ML_law K 788 [some (.ref 68), some (.ref 0), some (.ref 31), some (.int (nI i))] [] g := by
  obtain ⟨v, d, d', g1, g2, n', t', ln', bt', B', fd', sh', hd, hd', r1, r2, e1, c2, m2, e2⟩ := s_sheet (g.1 68 (nI i + 1).toNatClampNeg) (g.1 68 (nI i + 2).toNatClampNeg) (g.1 68 (nI i + 3).toNatClampNeg) hC hM
  have e68 : g1.1 68 = g.1 68 := funext fun j => e1 68 j (by decide)
  have x1 : ∀ k, k ≤ 5 → vp_in (nI i + nI k) (g1.1 69 0).toNatClampNeg := fun k hk => by rw [e1 69 0 (by decide)]; exact x k hk
  refine r_aload1 dL_law_788 ?_
  refine r_aload0 dL_law_789 ?_
  refine r_iload3 dL_law_790 ?_
  refine r_iconst_1 dL_law_791 ?_
  refine r_iadd dL_law_792 ?_
  refine r_ildX dL_law_793 (x 1 (by decide)) ?_
  refine r_aload0 dL_law_794 ?_
  refine r_iload3 dL_law_795 ?_
  refine r_iconst_2 dL_law_796 ?_
  refine r_iadd dL_law_797 ?_
  refine r_ildX dL_law_798 (x 2 (by decide)) ?_
  refine r_aload0 dL_law_799 ?_
  refine r_iload3 dL_law_800 ?_
  refine r_iconst_3 dL_law_801 ?_
  refine r_iadd dL_law_802 ?_
  refine r_ildX dL_law_803 (x 3 (by decide)) ?_
  refine r_cV3I dL_law_804 mm_X8_sheet im_X8_sheet se_X8_sheet ml_L_120 rfl rfl rfl (r1) (by omega) (Nat.le_of_ble_eq_true rfl) ?_
  refine r_aload2 dL_law_807 ?_
  refine r_aload0 dL_law_808 ?_
  refine r_iload3 dL_law_809 ?_
  refine r_iconst_1 dL_law_810 ?_
  refine r_iadd dL_law_811 ?_
  refine r_ildX dL_law_812 (x1 1 (by decide)) ?_
  refine r_aload0 dL_law_813 ?_
  refine r_iload3 dL_law_814 ?_
  refine r_iconst_2 dL_law_815 ?_
  refine r_iadd dL_law_816 ?_
  refine r_ildX dL_law_817 (x1 2 (by decide)) ?_
  refine r_aload0 dL_law_818 ?_
  refine r_iload3 dL_law_819 ?_
  refine r_iconst_3 dL_law_820 ?_
  refine r_iadd dL_law_821 ?_
  refine r_ildX dL_law_822 (x1 3 (by decide)) ?_
  rw [e68]
  refine r_cV3I dL_law_823 mm_X9_sheet im_X9_sheet se_X9_sheet ml_L_123 rfl rfl rfl (r2) (by omega) (Nat.le_of_ble_eq_true rfl) ?_
  refine r_icmpeq (tgt := 1073) dL_law_826 (by decide) (fun _ => ?_) (fun c9 => absurd (rfl) c9)
  exact nxt g2 n' t' ln' bt' B' fd' sh' c2 m2 e2
theorem lo_lose {K : KQT} {g : Hp} {n t ln i : Nat} {bt : Nat → Nat} {B : Nat} {fd : Int32} {sh : Nat → Option Sht} (hC : CR g n t ln bt B fd sh) (hM : MR g n t ln bt B fd sh) (x : ∀ k, k ≤ 5 → vp_in (nI i + nI k) (g.1 69 0).toNatClampNeg) (nxt : ∀ g2 n t ln bt B fd sh, CR g2 n t ln bt B fd sh → MR g2 n t ln bt B fd sh → (∀ q j, 48 ≤ q → g2.1 q j = g.1 q j) → Aw 14 ML_law K 1073 [some (.ref 68), some (.ref 0), some (.ref 31), some (.int (nI i))] [] g2) : Aw 14 ML_law K 831 [some (.ref 68), some (.ref 0), some (.ref 31), some (.int (nI i))] [] g := by
  obtain ⟨v, d, d', g1, g2, n', t', ln', bt', B', fd', sh', hd, hd', r1, r2, e1, c2, m2, e2⟩ := s_lose (g.1 68 (nI i + 1).toNatClampNeg) hC hM
  have e68 : g1.1 68 = g.1 68 := funext fun j => e1 68 j (by decide)
  have x1 : ∀ k, k ≤ 5 → vp_in (nI i + nI k) (g1.1 69 0).toNatClampNeg := fun k hk => by rw [e1 69 0 (by decide)]; exact x k hk
  refine r_aload1 dL_law_831 ?_
  refine r_aload0 dL_law_832 ?_
  refine r_iload3 dL_law_833 ?_
  refine r_iconst_1 dL_law_834 ?_
  refine r_iadd dL_law_835 ?_
  refine r_ildX dL_law_836 (x 1 (by decide)) ?_
  refine r_cV1I dL_law_837 mm_X8_lose im_X8_lose se_X8_lose ml_L_124 rfl rfl rfl (r1) (by omega) (Nat.le_of_ble_eq_true rfl) ?_
  refine r_aload2 dL_law_840 ?_
  refine r_aload0 dL_law_841 ?_
  refine r_iload3 dL_law_842 ?_
  refine r_iconst_1 dL_law_843 ?_
  refine r_iadd dL_law_844 ?_
  refine r_ildX dL_law_845 (x1 1 (by decide)) ?_
  rw [e68]
  refine r_cV1I dL_law_846 mm_X9_lose im_X9_lose se_X9_lose ml_L_127 rfl rfl rfl (r2) (by omega) (Nat.le_of_ble_eq_true rfl) ?_
  refine r_icmpeq (tgt := 1073) dL_law_849 (by decide) (fun _ => ?_) (fun c9 => absurd (rfl) c9)
  exact nxt g2 n' t' ln' bt' B' fd' sh' c2 m2 e2
theorem lo_lay {K : KQT} {g : Hp} {n t ln i : Nat} {bt : Nat → Nat} {B : Nat} {fd : Int32} {sh : Nat → Option Sht} (hC : CR g n t ln bt B fd sh) (hM : MR g n t ln bt B fd sh) (x : ∀ k, k ≤ 5 → vp_in (nI i + nI k) (g.1 69 0).toNatClampNeg) (nxt : ∀ g2 n t ln bt B fd sh, CR g2 n t ln bt B fd sh → MR g2 n t ln bt B fd sh → (∀ q j, 48 ≤ q → g2.1 q j = g.1 q j) → Aw 14 ML_law K 1073 [some (.ref 68), some (.ref 0), some (.ref 31), some (.int (nI i))] [] g2) : Aw 14 ML_law K 854 [some (.ref 68), some (.ref 0), some (.ref 31), some (.int (nI i))] [] g := by
  obtain ⟨v, d, d', g1, g2, n', t', ln', bt', B', fd', sh', hd, hd', r1, r2, e1, c2, m2, e2⟩ := s_lay (g.1 68 (nI i + 1).toNatClampNeg) (g.1 68 (nI i + 2).toNatClampNeg) (g.1 68 (nI i + 3).toNatClampNeg) (g.1 68 (nI i + 4).toNatClampNeg) hC hM
  have e68 : g1.1 68 = g.1 68 := funext fun j => e1 68 j (by decide)
  have x1 : ∀ k, k ≤ 5 → vp_in (nI i + nI k) (g1.1 69 0).toNatClampNeg := fun k hk => by rw [e1 69 0 (by decide)]; exact x k hk
  refine r_aload1 dL_law_854 ?_
  refine r_aload0 dL_law_855 ?_
  refine r_iload3 dL_law_856 ?_
  refine r_iconst_1 dL_law_857 ?_
  refine r_iadd dL_law_858 ?_
  refine r_ildX dL_law_859 (x 1 (by decide)) ?_
  refine r_aload0 dL_law_860 ?_
  refine r_iload3 dL_law_861 ?_
  refine r_iconst_2 dL_law_862 ?_
  refine r_iadd dL_law_863 ?_
  refine r_ildX dL_law_864 (x 2 (by decide)) ?_
  refine r_aload0 dL_law_865 ?_
  refine r_iload3 dL_law_866 ?_
  refine r_iconst_3 dL_law_867 ?_
  refine r_iadd dL_law_868 ?_
  refine r_ildX dL_law_869 (x 3 (by decide)) ?_
  refine r_aload0 dL_law_870 ?_
  refine r_iload3 dL_law_871 ?_
  refine r_iconst_4 dL_law_872 ?_
  refine r_iadd dL_law_873 ?_
  refine r_ildX dL_law_874 (x 4 (by decide)) ?_
  refine r_cV4I dL_law_875 mm_X8_lay im_X8_lay se_X8_lay ml_L_128 rfl rfl rfl (r1) (by omega) (Nat.le_of_ble_eq_true rfl) ?_
  refine r_aload2 dL_law_878 ?_
  refine r_aload0 dL_law_879 ?_
  refine r_iload3 dL_law_880 ?_
  refine r_iconst_1 dL_law_881 ?_
  refine r_iadd dL_law_882 ?_
  refine r_ildX dL_law_883 (x1 1 (by decide)) ?_
  refine r_aload0 dL_law_884 ?_
  refine r_iload3 dL_law_885 ?_
  refine r_iconst_2 dL_law_886 ?_
  refine r_iadd dL_law_887 ?_
  refine r_ildX dL_law_888 (x1 2 (by decide)) ?_
  refine r_aload0 dL_law_889 ?_
  refine r_iload3 dL_law_890 ?_
  refine r_iconst_3 dL_law_891 ?_
  refine r_iadd dL_law_892 ?_
  refine r_ildX dL_law_893 (x1 3 (by decide)) ?_
  refine r_aload0 dL_law_894 ?_
  refine r_iload3 dL_law_895 ?_
  refine r_iconst_4 dL_law_896 ?_
  refine r_iadd dL_law_897 ?_
  refine r_ildX dL_law_898 (x1 4 (by decide)) ?_
  rw [e68]
  refine r_cV4I dL_law_899 mm_X9_lay im_X9_lay se_X9_lay ml_L_132 rfl rfl rfl (r2) (by omega) (Nat.le_of_ble_eq_true rfl) ?_
  refine r_icmpeq (tgt := 1073) dL_law_902 (by decide) (fun _ => ?_) (fun c9 => absurd (rfl) c9)
  exact nxt g2 n' t' ln' bt' B' fd' sh' c2 m2 e2
theorem lo_get {K : KQT} {g : Hp} {n t ln i : Nat} {bt : Nat → Nat} {B : Nat} {fd : Int32} {sh : Nat → Option Sht} (hC : CR g n t ln bt B fd sh) (hM : MR g n t ln bt B fd sh) (x : ∀ k, k ≤ 5 → vp_in (nI i + nI k) (g.1 69 0).toNatClampNeg) (nxt : ∀ g2 n t ln bt B fd sh, CR g2 n t ln bt B fd sh → MR g2 n t ln bt B fd sh → (∀ q j, 48 ≤ q → g2.1 q j = g.1 q j) → Aw 14 ML_law K 1073 [some (.ref 68), some (.ref 0), some (.ref 31), some (.int (nI i))] [] g2) : Aw 14 ML_law K 907 [some (.ref 68), some (.ref 0), some (.ref 31), some (.int (nI i))] [] g := by
  obtain ⟨v, d, d', g1, g2, n', t', ln', bt', B', fd', sh', hd, hd', r1, r2, e1, c2, m2, e2⟩ := s_get (g.1 68 (nI i + 1).toNatClampNeg) (g.1 68 (nI i + 2).toNatClampNeg) (g.1 68 (nI i + 3).toNatClampNeg) hC hM
  have e68 : g1.1 68 = g.1 68 := funext fun j => e1 68 j (by decide)
  have x1 : ∀ k, k ≤ 5 → vp_in (nI i + nI k) (g1.1 69 0).toNatClampNeg := fun k hk => by rw [e1 69 0 (by decide)]; exact x k hk
  refine r_aload1 dL_law_907 ?_
  refine r_aload0 dL_law_908 ?_
  refine r_iload3 dL_law_909 ?_
  refine r_iconst_1 dL_law_910 ?_
  refine r_iadd dL_law_911 ?_
  refine r_ildX dL_law_912 (x 1 (by decide)) ?_
  refine r_aload0 dL_law_913 ?_
  refine r_iload3 dL_law_914 ?_
  refine r_iconst_2 dL_law_915 ?_
  refine r_iadd dL_law_916 ?_
  refine r_ildX dL_law_917 (x 2 (by decide)) ?_
  refine r_aload0 dL_law_918 ?_
  refine r_iload3 dL_law_919 ?_
  refine r_iconst_3 dL_law_920 ?_
  refine r_iadd dL_law_921 ?_
  refine r_ildX dL_law_922 (x 3 (by decide)) ?_
  refine r_cV3I dL_law_923 mm_X8_get im_X8_get se_X8_get ml_L_133 rfl rfl rfl (r1) (by omega) (Nat.le_of_ble_eq_true rfl) ?_
  refine r_aload2 dL_law_926 ?_
  refine r_aload0 dL_law_927 ?_
  refine r_iload3 dL_law_928 ?_
  refine r_iconst_1 dL_law_929 ?_
  refine r_iadd dL_law_930 ?_
  refine r_ildX dL_law_931 (x1 1 (by decide)) ?_
  refine r_aload0 dL_law_932 ?_
  refine r_iload3 dL_law_933 ?_
  refine r_iconst_2 dL_law_934 ?_
  refine r_iadd dL_law_935 ?_
  refine r_ildX dL_law_936 (x1 2 (by decide)) ?_
  refine r_aload0 dL_law_937 ?_
  refine r_iload3 dL_law_938 ?_
  refine r_iconst_3 dL_law_939 ?_
  refine r_iadd dL_law_940 ?_
  refine r_ildX dL_law_941 (x1 3 (by decide)) ?_
  rw [e68]
  refine r_cV3I dL_law_942 mm_X9_get im_X9_get se_X9_get ml_L_136 rfl rfl rfl (r2) (by omega) (Nat.le_of_ble_eq_true rfl) ?_
  refine r_icmpeq (tgt := 1073) dL_law_945 (by decide) (fun _ => ?_) (fun c9 => absurd (rfl) c9)
  exact nxt g2 n' t' ln' bt' B' fd' sh' c2 m2 e2
theorem lo_copy {K : KQT} {g : Hp} {n t ln i : Nat} {bt : Nat → Nat} {B : Nat} {fd : Int32} {sh : Nat → Option Sht} (hC : CR g n t ln bt B fd sh) (hM : MR g n t ln bt B fd sh) (x : ∀ k, k ≤ 5 → vp_in (nI i + nI k) (g.1 69 0).toNatClampNeg) (nxt : ∀ g2 n t ln bt B fd sh, CR g2 n t ln bt B fd sh → MR g2 n t ln bt B fd sh → (∀ q j, 48 ≤ q → g2.1 q j = g.1 q j) → Aw 14 ML_law K 1073 [some (.ref 68), some (.ref 0), some (.ref 31), some (.int (nI i))] [] g2) : Aw 14 ML_law K 950 [some (.ref 68), some (.ref 0), some (.ref 31), some (.int (nI i))] [] g := by
  obtain ⟨v, d, d', g1, g2, n', t', ln', bt', B', fd', sh', hd, hd', r1, r2, e1, c2, m2, e2⟩ := s_copy (g.1 68 (nI i + 1).toNatClampNeg) (g.1 68 (nI i + 2).toNatClampNeg) (g.1 68 (nI i + 3).toNatClampNeg) (g.1 68 (nI i + 4).toNatClampNeg) (g.1 68 (nI i + 5).toNatClampNeg) hC hM
  have e68 : g1.1 68 = g.1 68 := funext fun j => e1 68 j (by decide)
  have x1 : ∀ k, k ≤ 5 → vp_in (nI i + nI k) (g1.1 69 0).toNatClampNeg := fun k hk => by rw [e1 69 0 (by decide)]; exact x k hk
  refine r_aload1 dL_law_950 ?_
  refine r_aload0 dL_law_951 ?_
  refine r_iload3 dL_law_952 ?_
  refine r_iconst_1 dL_law_953 ?_
  refine r_iadd dL_law_954 ?_
  refine r_ildX dL_law_955 (x 1 (by decide)) ?_
  refine r_aload0 dL_law_956 ?_
  refine r_iload3 dL_law_957 ?_
  refine r_iconst_2 dL_law_958 ?_
  refine r_iadd dL_law_959 ?_
  refine r_ildX dL_law_960 (x 2 (by decide)) ?_
  refine r_aload0 dL_law_961 ?_
  refine r_iload3 dL_law_962 ?_
  refine r_iconst_3 dL_law_963 ?_
  refine r_iadd dL_law_964 ?_
  refine r_ildX dL_law_965 (x 3 (by decide)) ?_
  refine r_aload0 dL_law_966 ?_
  refine r_iload3 dL_law_967 ?_
  refine r_iconst_4 dL_law_968 ?_
  refine r_iadd dL_law_969 ?_
  refine r_ildX dL_law_970 (x 4 (by decide)) ?_
  refine r_aload0 dL_law_971 ?_
  refine r_iload3 dL_law_972 ?_
  refine r_iconst_5 dL_law_973 ?_
  refine r_iadd dL_law_974 ?_
  refine r_ildX dL_law_975 (x 5 (by decide)) ?_
  refine r_cV5I dL_law_976 mm_X8_copy im_X8_copy se_X8_copy ml_L_137 rfl rfl rfl (r1) (by omega) (Nat.le_of_ble_eq_true rfl) ?_
  refine r_aload2 dL_law_979 ?_
  refine r_aload0 dL_law_980 ?_
  refine r_iload3 dL_law_981 ?_
  refine r_iconst_1 dL_law_982 ?_
  refine r_iadd dL_law_983 ?_
  refine r_ildX dL_law_984 (x1 1 (by decide)) ?_
  refine r_aload0 dL_law_985 ?_
  refine r_iload3 dL_law_986 ?_
  refine r_iconst_2 dL_law_987 ?_
  refine r_iadd dL_law_988 ?_
  refine r_ildX dL_law_989 (x1 2 (by decide)) ?_
  refine r_aload0 dL_law_990 ?_
  refine r_iload3 dL_law_991 ?_
  refine r_iconst_3 dL_law_992 ?_
  refine r_iadd dL_law_993 ?_
  refine r_ildX dL_law_994 (x1 3 (by decide)) ?_
  refine r_aload0 dL_law_995 ?_
  refine r_iload3 dL_law_996 ?_
  refine r_iconst_4 dL_law_997 ?_
  refine r_iadd dL_law_998 ?_
  refine r_ildX dL_law_999 (x1 4 (by decide)) ?_
  refine r_aload0 dL_law_1000 ?_
  refine r_iload3 dL_law_1001 ?_
  refine r_iconst_5 dL_law_1002 ?_
  refine r_iadd dL_law_1003 ?_
  refine r_ildX dL_law_1004 (x1 5 (by decide)) ?_
  rw [e68]
  refine r_cV5I dL_law_1005 mm_X9_copy im_X9_copy se_X9_copy ml_L_141 rfl rfl rfl (r2) (by omega) (Nat.le_of_ble_eq_true rfl) ?_
  refine r_icmpeq (tgt := 1073) dL_law_1008 (by decide) (fun _ => ?_) (fun c9 => absurd (rfl) c9)
  exact nxt g2 n' t' ln' bt' B' fd' sh' c2 m2 e2
theorem lo_write {K : KQT} {g : Hp} {n t ln i : Nat} {bt : Nat → Nat} {B : Nat} {fd : Int32} {sh : Nat → Option Sht} (hC : CR g n t ln bt B fd sh) (hM : MR g n t ln bt B fd sh) (x : ∀ k, k ≤ 5 → vp_in (nI i + nI k) (g.1 69 0).toNatClampNeg) (nxt : ∀ g2 n t ln bt B fd sh, CR g2 n t ln bt B fd sh → MR g2 n t ln bt B fd sh → (∀ q j, 48 ≤ q → g2.1 q j = g.1 q j) → Aw 14 ML_law K 1073 [some (.ref 68), some (.ref 0), some (.ref 31), some (.int (nI i))] [] g2) : Aw 14 ML_law K 1013 [some (.ref 68), some (.ref 0), some (.ref 31), some (.int (nI i))] [] g := by
  obtain ⟨v, d, d', g1, g2, n', t', ln', bt', B', fd', sh', hd, hd', r1, r2, e1, c2, m2, e2⟩ := s_write (g.1 68 (nI i + 1).toNatClampNeg) hC hM
  have e68 : g1.1 68 = g.1 68 := funext fun j => e1 68 j (by decide)
  have x1 : ∀ k, k ≤ 5 → vp_in (nI i + nI k) (g1.1 69 0).toNatClampNeg := fun k hk => by rw [e1 69 0 (by decide)]; exact x k hk
  refine r_aload1 dL_law_1013 ?_
  refine r_aload0 dL_law_1014 ?_
  refine r_iload3 dL_law_1015 ?_
  refine r_iconst_1 dL_law_1016 ?_
  refine r_iadd dL_law_1017 ?_
  refine r_ildX dL_law_1018 (x 1 (by decide)) ?_
  refine r_cV1I dL_law_1019 mm_X8_write im_X8_write se_X8_write ml_L_142 rfl rfl rfl (r1) (by omega) (Nat.le_of_ble_eq_true rfl) ?_
  refine r_aload2 dL_law_1022 ?_
  refine r_aload0 dL_law_1023 ?_
  refine r_iload3 dL_law_1024 ?_
  refine r_iconst_1 dL_law_1025 ?_
  refine r_iadd dL_law_1026 ?_
  refine r_ildX dL_law_1027 (x1 1 (by decide)) ?_
  rw [e68]
  refine r_cV1I dL_law_1028 mm_X9_write im_X9_write se_X9_write ml_L_145 rfl rfl rfl (r2) (by omega) (Nat.le_of_ble_eq_true rfl) ?_
  refine r_icmpeq (tgt := 1073) dL_law_1031 (by decide) (fun _ => ?_) (fun c9 => absurd (rfl) c9)
  exact nxt g2 n' t' ln' bt' B' fd' sh' c2 m2 e2
theorem lo_count {K : KQT} {g : Hp} {n t ln i : Nat} {bt : Nat → Nat} {B : Nat} {fd : Int32} {sh : Nat → Option Sht} (hC : CR g n t ln bt B fd sh) (hM : MR g n t ln bt B fd sh) (x : ∀ k, k ≤ 5 → vp_in (nI i + nI k) (g.1 69 0).toNatClampNeg) (nxt : ∀ g2 n t ln bt B fd sh, CR g2 n t ln bt B fd sh → MR g2 n t ln bt B fd sh → (∀ q j, 48 ≤ q → g2.1 q j = g.1 q j) → Aw 14 ML_law K 1073 [some (.ref 68), some (.ref 0), some (.ref 31), some (.int (nI i))] [] g2) : Aw 14 ML_law K 1036 [some (.ref 68), some (.ref 0), some (.ref 31), some (.int (nI i))] [] g := by
  obtain ⟨v, d, d', g1, g2, n', t', ln', bt', B', fd', sh', hd, hd', r1, r2, e1, c2, m2, e2⟩ := s_count (g.1 68 (nI i + 1).toNatClampNeg) hC hM
  have e68 : g1.1 68 = g.1 68 := funext fun j => e1 68 j (by decide)
  have x1 : ∀ k, k ≤ 5 → vp_in (nI i + nI k) (g1.1 69 0).toNatClampNeg := fun k hk => by rw [e1 69 0 (by decide)]; exact x k hk
  refine r_aload1 dL_law_1036 ?_
  refine r_aload0 dL_law_1037 ?_
  refine r_iload3 dL_law_1038 ?_
  refine r_iconst_1 dL_law_1039 ?_
  refine r_iadd dL_law_1040 ?_
  refine r_ildX dL_law_1041 (x 1 (by decide)) ?_
  refine r_cV1I dL_law_1042 mm_X8_count im_X8_count se_X8_count ml_L_146 rfl rfl rfl (r1) (by omega) (Nat.le_of_ble_eq_true rfl) ?_
  refine r_aload2 dL_law_1045 ?_
  refine r_aload0 dL_law_1046 ?_
  refine r_iload3 dL_law_1047 ?_
  refine r_iconst_1 dL_law_1048 ?_
  refine r_iadd dL_law_1049 ?_
  refine r_ildX dL_law_1050 (x1 1 (by decide)) ?_
  rw [e68]
  refine r_cV1I dL_law_1051 mm_X9_count im_X9_count se_X9_count ml_L_149 rfl rfl rfl (r2) (by omega) (Nat.le_of_ble_eq_true rfl) ?_
  refine r_icmpeq (tgt := 1073) dL_law_1054 (by decide) (fun _ => ?_) (fun c9 => absurd (rfl) c9)
  exact nxt g2 n' t' ln' bt' B' fd' sh' c2 m2 e2
theorem lo_digest {K : KQT} {g : Hp} {n t ln i : Nat} {bt : Nat → Nat} {B : Nat} {fd : Int32} {sh : Nat → Option Sht} (hC : CR g n t ln bt B fd sh) (hM : MR g n t ln bt B fd sh) (x : ∀ k, k ≤ 5 → vp_in (nI i + nI k) (g.1 69 0).toNatClampNeg) (nxt : ∀ g2 n t ln bt B fd sh, CR g2 n t ln bt B fd sh → MR g2 n t ln bt B fd sh → (∀ q j, 48 ≤ q → g2.1 q j = g.1 q j) → Aw 14 ML_law K 1073 [some (.ref 68), some (.ref 0), some (.ref 31), some (.int (nI i))] [] g2) : Aw 14 ML_law K 1059 [some (.ref 68), some (.ref 0), some (.ref 31), some (.int (nI i))] [] g := by
  obtain ⟨v, d, d', g1, g2, n', t', ln', bt', B', fd', sh', hd, hd', r1, r2, e1, c2, m2, e2⟩ := s_digest hC hM
  refine r_aload1 dL_law_1059 ?_
  refine r_cV0L dL_law_1060 mm_X8_digest im_X8_digest se_X8_digest ml_L_150 rfl rfl rfl (r1) (by omega) (Nat.le_of_ble_eq_true rfl) ?_
  refine r_aload2 dL_law_1063 ?_
  refine r_cV0L dL_law_1064 mm_X9_digest im_X9_digest se_X9_digest ml_L_153 rfl rfl rfl (r2) (by omega) (Nat.le_of_ble_eq_true rfl) ?_
  refine r_leq (tgt := 1073) dL_law_1067 dL_law_1068 (by decide) (fun _ => ?_) (fun c9 => absurd (rfl) c9)
  exact nxt g2 n' t' ln' bt' B' fd' sh' c2 m2 e2
theorem law_18 {K : KQT} (hE : ∀ L h, Aw 14 ML_law K 1080 L [.int 1] h) {n0 : Nat} (hn0 : n0 ≤ 3072) : ∀ f i (g : Hp) (n t ln : Nat) (bt : Nat → Nat) (B : Nat) (fd : Int32) (sh : Nat → Option Sht), CR g n t ln bt B fd sh → MR g n t ln bt B fd sh → (g.1 69 0).toNatClampNeg = n0 → i ≤ n0 → n0 < i + 6 * f + 6 → Aw 14 ML_law K 18 [some (.ref 68), some (.ref 0), some (.ref 31), some (.int (nI i))] [] g := by
  have ex : ∀ i (g : Hp), (g.1 69 0).toNatClampNeg = n0 → i ≤ n0 → ¬ i + 6 ≤ n0 → Aw 14 ML_law K 18 [some (.ref 68), some (.ref 0), some (.ref 31), some (.int (nI i))] [] g := by
    intro i g hL hi c
    refine r_iload3 dL_law_18 ?_
    refine r_aload0 dL_law_19 ?_
    refine r_alenX dL_law_20 (show Int32.ofNat (g.1 69 0).toNatClampNeg = nI n0 by rw [hL]; rfl) ?_
    refine r_bipush bv_6 dL_law_21 ?_
    refine r_isub dL_law_23 ?_
    refine r_icmpgt (tgt := 1079) dL_law_24 (by decide) (fun _ => ?_) (fun c9 => absurd (by rw [fa_lt, show (6 : Int32) = nI 6 from rfl, pk_sub_toInt (by omega) (by omega), nI_toInt (by omega)]; omega) c9)
    refine r_iconst_1 dL_law_1079 ?_
    exact hE _ _
  intro f
  induction f with
  | zero => intro i g n t ln bt B fd sh hC hM hL hi hf; exact ex i g hL hi (by omega)
  | succ f ih =>
    intro i g n t ln bt B fd sh hC hM hL hi hf
    by_cases c : i + 6 ≤ n0
    · have x : ∀ k, k ≤ 5 → vp_in (nI i + nI k) (g.1 69 0).toNatClampNeg := fun k hk => by
        rw [nI_add, hL]; exact vp_in_nI (by omega) (by omega)
      have nxt : ∀ g2 n t ln bt B fd sh, CR g2 n t ln bt B fd sh → MR g2 n t ln bt B fd sh → (∀ q j, 48 ≤ q → g2.1 q j = g.1 q j) → Aw 14 ML_law K 1073 [some (.ref 68), some (.ref 0), some (.ref 31), some (.int (nI i))] [] g2 := by
        intro g2 n' t' ln' bt' B' fd' sh' c2 m2 e2
        refine r_iinc3_6 dL_law_1073 rfl (by decide) ?_
        refine r_goto (tgt := 18) dL_law_1076 (by decide) ?_
        rw [show nI i + 6 = nI (i + 6) from nI_add i 6]
        exact ih (i + 6) g2 n' t' ln' bt' B' fd' sh' c2 m2 (by rw [e2 69 0 (by decide)]; exact hL) c (by omega)
      have e6 : nI n0 - 6 = nI (n0 - 6) := pk_sub (b := 6) (by omega)
      refine r_iload3 dL_law_18 ?_
      refine r_aload0 dL_law_19 ?_
      refine r_alenX dL_law_20 (show Int32.ofNat (g.1 69 0).toNatClampNeg = nI n0 by rw [hL]; rfl) ?_
      refine r_bipush bv_6 dL_law_21 ?_
      refine r_isub dL_law_23 ?_
      refine r_icmpgt (tgt := 1079) dL_law_24 (by decide) (fun c9 => absurd c9 (by rw [e6]; exact nI_nlt (by omega) (by omega))) (fun _ => ?_)
      refine r_aload0 dL_law_27 ?_
      refine r_iload3 dL_law_28 ?_
      refine r_ildX dL_law_29 (by have := x 0 (by decide); rw [nI_add, Nat.add_zero] at this; exact this) ?_
      refine r_bipush bv_63 dL_law_30 ?_
      refine r_iand dL_law_32 ?_
      obtain ⟨j, hj, ej⟩ := pk_andE (g.1 68 (nI i).toNatClampNeg) (m := 63) 6 (by decide)
      rw [ej]
      have hj : j < 64 := hj
      have : j = 0 ∨ j = 1 ∨ j = 2 ∨ j = 3 ∨ j = 4 ∨ j = 5 ∨ j = 6 ∨ j = 7 ∨ j = 8 ∨ j = 9 ∨ j = 10 ∨ j = 11 ∨ j = 12 ∨ j = 13 ∨ j = 14 ∨ j = 15 ∨ j = 16 ∨ j = 17 ∨ j = 18 ∨ j = 19 ∨ j = 20 ∨ j = 21 ∨ j = 22 ∨ j = 23 ∨ j = 24 ∨ j = 25 ∨ j = 26 ∨ j = 27 ∨ j = 28 ∨ j = 29 ∨ j = 30 ∨ j = 31 ∨ j = 32 ∨ 33 ≤ j := by omega
      rcases this with rfl | rfl | rfl | rfl | rfl | rfl | rfl | rfl | rfl | rfl | rfl | rfl | rfl | rfl | rfl | rfl | rfl | rfl | rfl | rfl | rfl | rfl | rfl | rfl | rfl | rfl | rfl | rfl | rfl | rfl | rfl | rfl | rfl | hj2
      · refine r_tabIn (tgt := 180) dL_law_33 (by decide) (by decide) (by rfl) (by decide) ?_
        exact lo_set hC hM x nxt
      · refine r_tabIn (tgt := 213) dL_law_33 (by decide) (by decide) (by rfl) (by decide) ?_
        exact lo_type hC hM x nxt
      · refine r_tabIn (tgt := 236) dL_law_33 (by decide) (by decide) (by rfl) (by decide) ?_
        exact lo_wipe hC hM x nxt
      · refine r_tabIn (tgt := 249) dL_law_33 (by decide) (by decide) (by rfl) (by decide) ?_
        exact lo_fault hC hM x nxt
      · refine r_tabIn (tgt := 262) dL_law_33 (by decide) (by decide) (by rfl) (by decide) ?_
        exact lo_claims hC hM x nxt
      · refine r_tabIn (tgt := 275) dL_law_33 (by decide) (by decide) (by rfl) (by decide) ?_
        exact lo_claim hC hM x nxt
      · refine r_tabIn (tgt := 308) dL_law_33 (by decide) (by decide) (by rfl) (by decide) ?_
        exact lo_believe hC hM x nxt
      · refine r_tabIn (tgt := 331) dL_law_33 (by decide) (by decide) (by rfl) (by decide) ?_
        exact lo_put hC hM x nxt
      · refine r_tabIn (tgt := 354) dL_law_33 (by decide) (by decide) (by rfl) (by decide) ?_
        exact lo_rows hC hM x nxt
      · refine r_tabIn (tgt := 367) dL_law_33 (by decide) (by decide) (by rfl) (by decide) ?_
        exact lo_can hC hM x nxt
      · refine r_tabIn (tgt := 380) dL_law_33 (by decide) (by decide) (by rfl) (by decide) ?_
        exact lo_ranked hC hM x nxt
      · refine r_tabIn (tgt := 403) dL_law_33 (by decide) (by decide) (by rfl) (by decide) ?_
        exact lo_ways hC hM x nxt
      · refine r_tabIn (tgt := 417) dL_law_33 (by decide) (by decide) (by rfl) (by decide) ?_
        exact lo_bound hC hM x nxt
      · refine r_tabIn (tgt := 450) dL_law_33 (by decide) (by decide) (by rfl) (by decide) ?_
        exact lo_alone hC hM x nxt
      · refine r_tabIn (tgt := 463) dL_law_33 (by decide) (by decide) (by rfl) (by decide) ?_
        exact lo_fewest hC hM x nxt
      · refine r_tabIn (tgt := 476) dL_law_33 (by decide) (by decide) (by rfl) (by decide) ?_
        exact lo_quarrel hC hM x nxt
      · refine r_tabIn (tgt := 489) dL_law_33 (by decide) (by decide) (by rfl) (by decide) ?_
        exact lo_ask hC hM x nxt
      · refine r_tabIn (tgt := 502) dL_law_33 (by decide) (by decide) (by rfl) (by decide) ?_
        exact lo_shares hC hM x nxt
      · refine r_tabIn (tgt := 545) dL_law_33 (by decide) (by decide) (by rfl) (by decide) ?_
        exact lo_share hC hM x nxt
      · refine r_tabIn (tgt := 588) dL_law_33 (by decide) (by decide) (by rfl) (by decide) ?_
        exact lo_last hC hM x nxt
      · refine r_tabIn (tgt := 621) dL_law_33 (by decide) (by decide) (by rfl) (by decide) ?_
        exact lo_lastChance hC hM x nxt
      · refine r_tabIn (tgt := 644) dL_law_33 (by decide) (by decide) (by rfl) (by decide) ?_
        exact lo_first hC hM x nxt
      · refine r_tabIn (tgt := 677) dL_law_33 (by decide) (by decide) (by rfl) (by decide) ?_
        exact lo_firstChance hC hM x nxt
      · refine r_tabIn (tgt := 710) dL_law_33 (by decide) (by decide) (by rfl) (by decide) ?_
        exact lo_copies hC hM x nxt
      · refine r_tabIn (tgt := 754) dL_law_33 (by decide) (by decide) (by rfl) (by decide) ?_
        exact lo_twice hC hM x nxt
      · refine r_tabIn (tgt := 788) dL_law_33 (by decide) (by decide) (by rfl) (by decide) ?_
        exact lo_sheet hC hM x nxt
      · refine r_tabIn (tgt := 831) dL_law_33 (by decide) (by decide) (by rfl) (by decide) ?_
        exact lo_lose hC hM x nxt
      · refine r_tabIn (tgt := 854) dL_law_33 (by decide) (by decide) (by rfl) (by decide) ?_
        exact lo_lay hC hM x nxt
      · refine r_tabIn (tgt := 907) dL_law_33 (by decide) (by decide) (by rfl) (by decide) ?_
        exact lo_get hC hM x nxt
      · refine r_tabIn (tgt := 950) dL_law_33 (by decide) (by decide) (by rfl) (by decide) ?_
        exact lo_copy hC hM x nxt
      · refine r_tabIn (tgt := 1013) dL_law_33 (by decide) (by decide) (by rfl) (by decide) ?_
        exact lo_write hC hM x nxt
      · refine r_tabIn (tgt := 1036) dL_law_33 (by decide) (by decide) (by rfl) (by decide) ?_
        exact lo_count hC hM x nxt
      · refine r_tabIn (tgt := 1059) dL_law_33 (by decide) (by decide) (by rfl) (by decide) ?_
        exact lo_digest hC hM x nxt
      · refine r_tabOut (tgt := 1073) dL_law_33 (Or.inr (by rw [nI_toInt (by omega)]; omega)) (by decide) ?_
        exact nxt g n t ln bt B fd sh hC hM (fun _ _ _ => rfl)
    · exact ex i g hL hi c
