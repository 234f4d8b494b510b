/-! THE LAW -/
/-- what is behind every case -/
def kLK (G : kG) (c0 s0 b : Nat) (z : Int) (Post : kPo) : Prop := ∀ (h' : Nat → Option kC) (n' : Nat) (Z' : kCs) (q' : Nat → Int) (F' : Nat → Nat → Int), rKI G (kmh G h' q' F') Z' → rMD q' F' Z' → kCok Z' → 115 ≤ n' → kE G mL_law 10 c0 s0 1731 [some (.ref b), some (.ref (gB G + 0)), some (.ref (gB G + 97)), some (.int (jI z))] [] (kmh G h' q' F') n' Post
set_option maxHeartbeats 4000000 in
set_option maxRecDepth 100000 in
theorem l_men {G : kG} {c0 s0 : Nat} {h : Nat → Option kC} {n : Nat} {q : Nat → Int} {F : Nat → Nat → Int} {Z : kCs} {b N : Nat} {X : Nat → Int} {z : Int} {Post : kPo} (g : rSt G) (hT : (gT G)[4]? = some (b, N, fun j => jI (X j))) (hX : ∀ j, inI (X j)) (h0 : 0 ≤ z) (h1 : z + 9 ≤ N) (zz : rKI G (kmh G h q F) Z) (md : rMD q F Z) (ok : kCok Z) (hn : 115 ≤ n) (hk : kLK G c0 s0 b z Post) : kE G mL_law 10 (c0 + 1) (s0 + 4) 180 [some (.ref b), some (.ref (gB G + 0)), some (.ref (gB G + 97)), some (.int (jI z))] [] (kmh G h q F) n Post := by
  refine e_aload_n rfl dL_law_180 ?_
  refine e_aload_n rfl dL_law_181 ?_
  refine e_iload_n rfl dL_law_182 ?_
  refine e_iconst dL_law_183 ?_
  refine e_iadd dL_law_184 ?_
  refine e_tald (k := 4) dL_law_185 hT (by omega) (by omega) rfl ?_
  refine e_aload_n rfl dL_law_186 ?_
  refine e_iload_n rfl dL_law_187 ?_
  refine e_iconst dL_law_188 ?_
  refine e_iadd dL_law_189 ?_
  refine e_tald (k := 4) dL_law_190 hT (by omega) (by omega) rfl ?_
  refine e_aload_n rfl dL_law_191 ?_
  refine e_iload_n rfl dL_law_192 ?_
  refine e_iconst dL_law_193 ?_
  refine e_iadd dL_law_194 ?_
  refine e_tald (k := 4) dL_law_195 hT (by omega) (by omega) rfl ?_
  refine eV3R mtX9_men miX9_men lkL_13 dL_law_196 zz.1.1 rfl rfl rfl (k_men g zz ok (hX _) (hX _) (hX _)) (fun r196 h196 n196 hp196 => ?_)
  obtain ⟨hr1, z1, k1, n1⟩ := hp196
  subst hr1
  rw [kmh_keep hn k1]
  dsimp only [Option.toList, List.cons_append, List.nil_append]
  refine e_aload_n rfl dL_law_199 ?_
  refine e_aload_n rfl dL_law_200 ?_
  refine e_iload_n rfl dL_law_201 ?_
  refine e_iconst dL_law_202 ?_
  refine e_iadd dL_law_203 ?_
  refine e_tald (k := 4) dL_law_204 hT (by omega) (by omega) rfl ?_
  refine e_aload_n rfl dL_law_205 ?_
  refine e_iload_n rfl dL_law_206 ?_
  refine e_iconst dL_law_207 ?_
  refine e_iadd dL_law_208 ?_
  refine e_tald (k := 4) dL_law_209 hT (by omega) (by omega) rfl ?_
  refine e_aload_n rfl dL_law_210 ?_
  refine e_iload_n rfl dL_law_211 ?_
  refine e_iconst dL_law_212 ?_
  refine e_iadd dL_law_213 ?_
  refine e_tald (k := 4) dL_law_214 hT (by omega) (by omega) rfl ?_
  refine eV3R mtX10_men miX10_men lkL_17 dL_law_215 kmh_97 rfl rfl rfl (j_men md ok (hX _) (hX _) (hX _)) (fun r215 h215 n215 hp215 => ?_)
  obtain ⟨hr2, hn2, q2, F2, hh2, md2⟩ := hp215
  subst hr2
  subst hn2
  subst hh2
  dsimp only [Option.toList, List.cons_append, List.nil_append]
  refine e_same (tgt := 1731) dL_law_218 (by decide) ?_
  exact kE.less (hk _ _ _ _ _ (rKI_cg z1 (fun j hj => kmh_o (by omega))) md2 (ok_men ok _ _ _) (by omega)) (by omega) (by omega)
set_option maxHeartbeats 4000000 in
set_option maxRecDepth 100000 in
theorem l_set {G : kG} {c0 s0 : Nat} {h : Nat → Option kC} {n : Nat} {q : Nat → Int} {F : Nat → Nat → Int} {Z : kCs} {b N : Nat} {X : Nat → Int} {z : Int} {Post : kPo} (g : rSt G) (hT : (gT G)[4]? = some (b, N, fun j => jI (X j))) (hX : ∀ j, inI (X j)) (h0 : 0 ≤ z) (h1 : z + 9 ≤ N) (zz : rKI G (kmh G h q F) Z) (md : rMD q F Z) (ok : kCok Z) (hn : 115 ≤ n) (hk : kLK G c0 s0 b z Post) : kE G mL_law 10 (c0 + 1) (s0 + 4) 223 [some (.ref b), some (.ref (gB G + 0)), some (.ref (gB G + 97)), some (.int (jI z))] [] (kmh G h q F) n Post := by
  refine e_aload_n rfl dL_law_223 ?_
  refine e_aload_n rfl dL_law_224 ?_
  refine e_iload_n rfl dL_law_225 ?_
  refine e_iconst dL_law_226 ?_
  refine e_iadd dL_law_227 ?_
  refine e_tald (k := 4) dL_law_228 hT (by omega) (by omega) rfl ?_
  refine e_aload_n rfl dL_law_229 ?_
  refine e_iload_n rfl dL_law_230 ?_
  refine e_iconst dL_law_231 ?_
  refine e_iadd dL_law_232 ?_
  refine e_tald (k := 4) dL_law_233 hT (by omega) (by omega) rfl ?_
  refine e_aload_n rfl dL_law_234 ?_
  refine e_iload_n rfl dL_law_235 ?_
  refine e_iconst dL_law_236 ?_
  refine e_iadd dL_law_237 ?_
  refine e_tald (k := 4) dL_law_238 hT (by omega) (by omega) rfl ?_
  refine eV3R mtX9_set miX9_set lkL_18 dL_law_239 zz.1.1 rfl rfl rfl (k_set g zz ok (hX _) (hX _) (hX _)) (fun r239 h239 n239 hp239 => ?_)
  obtain ⟨hr1, z1, k1, n1⟩ := hp239
  subst hr1
  rw [kmh_keep hn k1]
  dsimp only [Option.toList, List.cons_append, List.nil_append]
  refine e_aload_n rfl dL_law_242 ?_
  refine e_aload_n rfl dL_law_243 ?_
  refine e_iload_n rfl dL_law_244 ?_
  refine e_iconst dL_law_245 ?_
  refine e_iadd dL_law_246 ?_
  refine e_tald (k := 4) dL_law_247 hT (by omega) (by omega) rfl ?_
  refine e_aload_n rfl dL_law_248 ?_
  refine e_iload_n rfl dL_law_249 ?_
  refine e_iconst dL_law_250 ?_
  refine e_iadd dL_law_251 ?_
  refine e_tald (k := 4) dL_law_252 hT (by omega) (by omega) rfl ?_
  refine e_aload_n rfl dL_law_253 ?_
  refine e_iload_n rfl dL_law_254 ?_
  refine e_iconst dL_law_255 ?_
  refine e_iadd dL_law_256 ?_
  refine e_tald (k := 4) dL_law_257 hT (by omega) (by omega) rfl ?_
  refine eV3R mtX10_set miX10_set lkL_21 dL_law_258 kmh_97 rfl rfl rfl (j_set md ok (hX _) (hX _) (hX _)) (fun r258 h258 n258 hp258 => ?_)
  obtain ⟨hr2, hn2, q2, F2, hh2, md2⟩ := hp258
  subst hr2
  subst hn2
  subst hh2
  dsimp only [Option.toList, List.cons_append, List.nil_append]
  refine e_same (tgt := 1731) dL_law_261 (by decide) ?_
  exact kE.less (hk _ _ _ _ _ (rKI_cg z1 (fun j hj => kmh_o (by omega))) md2 (ok_set ok _ _ _) (by omega)) (by omega) (by omega)
set_option maxHeartbeats 4000000 in
set_option maxRecDepth 100000 in
theorem l_way {G : kG} {c0 s0 : Nat} {h : Nat → Option kC} {n : Nat} {q : Nat → Int} {F : Nat → Nat → Int} {Z : kCs} {b N : Nat} {X : Nat → Int} {z : Int} {Post : kPo} (g : rSt G) (hT : (gT G)[4]? = some (b, N, fun j => jI (X j))) (hX : ∀ j, inI (X j)) (h0 : 0 ≤ z) (h1 : z + 9 ≤ N) (zz : rKI G (kmh G h q F) Z) (md : rMD q F Z) (ok : kCok Z) (hn : 115 ≤ n) (hk : kLK G c0 s0 b z Post) : kE G mL_law 10 (c0 + 1) (s0 + 4) 266 [some (.ref b), some (.ref (gB G + 0)), some (.ref (gB G + 97)), some (.int (jI z))] [] (kmh G h q F) n Post := by
  refine e_aload_n rfl dL_law_266 ?_
  refine e_aload_n rfl dL_law_267 ?_
  refine e_iload_n rfl dL_law_268 ?_
  refine e_iconst dL_law_269 ?_
  refine e_iadd dL_law_270 ?_
  refine e_tald (k := 4) dL_law_271 hT (by omega) (by omega) rfl ?_
  refine e_aload_n rfl dL_law_272 ?_
  refine e_iload_n rfl dL_law_273 ?_
  refine e_iconst dL_law_274 ?_
  refine e_iadd dL_law_275 ?_
  refine e_tald (k := 4) dL_law_276 hT (by omega) (by omega) rfl ?_
  refine eV2R mtX9_way miX9_way lkL_22 dL_law_277 zz.1.1 rfl rfl rfl (k_way g zz ok (hX _) (hX _)) (fun r277 h277 n277 hp277 => ?_)
  obtain ⟨hr1, z1, k1, n1⟩ := hp277
  subst hr1
  rw [kmh_keep hn k1]
  dsimp only [Option.toList, List.cons_append, List.nil_append]
  refine e_aload_n rfl dL_law_280 ?_
  refine e_aload_n rfl dL_law_281 ?_
  refine e_iload_n rfl dL_law_282 ?_
  refine e_iconst dL_law_283 ?_
  refine e_iadd dL_law_284 ?_
  refine e_tald (k := 4) dL_law_285 hT (by omega) (by omega) rfl ?_
  refine e_aload_n rfl dL_law_286 ?_
  refine e_iload_n rfl dL_law_287 ?_
  refine e_iconst dL_law_288 ?_
  refine e_iadd dL_law_289 ?_
  refine e_tald (k := 4) dL_law_290 hT (by omega) (by omega) rfl ?_
  refine eV2R mtX10_way miX10_way lkL_26 dL_law_291 kmh_97 rfl rfl rfl (j_way md ok (hX _) (hX _)) (fun r291 h291 n291 hp291 => ?_)
  obtain ⟨hr2, hn2, q2, F2, hh2, md2⟩ := hp291
  subst hr2
  subst hn2
  subst hh2
  dsimp only [Option.toList, List.cons_append, List.nil_append]
  refine e_same (tgt := 1731) dL_law_294 (by decide) ?_
  exact kE.less (hk _ _ _ _ _ (rKI_cg z1 (fun j hj => kmh_o (by omega))) md2 (ok_way ok _ _) (by omega)) (by omega) (by omega)
set_option maxHeartbeats 4000000 in
set_option maxRecDepth 100000 in
theorem l_say {G : kG} {c0 s0 : Nat} {h : Nat → Option kC} {n : Nat} {q : Nat → Int} {F : Nat → Nat → Int} {Z : kCs} {b N : Nat} {X : Nat → Int} {z : Int} {Post : kPo} (g : rSt G) (hT : (gT G)[4]? = some (b, N, fun j => jI (X j))) (hX : ∀ j, inI (X j)) (h0 : 0 ≤ z) (h1 : z + 9 ≤ N) (zz : rKI G (kmh G h q F) Z) (md : rMD q F Z) (ok : kCok Z) (hn : 115 ≤ n) (hk : kLK G c0 s0 b z Post) : kE G mL_law 10 (c0 + 1) (s0 + 4) 299 [some (.ref b), some (.ref (gB G + 0)), some (.ref (gB G + 97)), some (.int (jI z))] [] (kmh G h q F) n Post := by
  refine e_aload_n rfl dL_law_299 ?_
  refine e_aload_n rfl dL_law_300 ?_
  refine e_iload_n rfl dL_law_301 ?_
  refine e_iconst dL_law_302 ?_
  refine e_iadd dL_law_303 ?_
  refine e_tald (k := 4) dL_law_304 hT (by omega) (by omega) rfl ?_
  refine eV1R mtX9_say miX9_say lkL_27 dL_law_305 zz.1.1 rfl rfl rfl (k_say g zz ok (hX _)) (fun r305 h305 n305 hp305 => ?_)
  obtain ⟨hr1, z1, k1, n1⟩ := hp305
  subst hr1
  rw [kmh_keep hn k1]
  dsimp only [Option.toList, List.cons_append, List.nil_append]
  refine e_aload_n rfl dL_law_308 ?_
  refine e_aload_n rfl dL_law_309 ?_
  refine e_iload_n rfl dL_law_310 ?_
  refine e_iconst dL_law_311 ?_
  refine e_iadd dL_law_312 ?_
  refine e_tald (k := 4) dL_law_313 hT (by omega) (by omega) rfl ?_
  refine eV1R mtX10_say miX10_say lkL_31 dL_law_314 kmh_97 rfl rfl rfl (j_say md ok (hX _)) (fun r314 h314 n314 hp314 => ?_)
  obtain ⟨hr2, hn2, q2, F2, hh2, md2⟩ := hp314
  subst hr2
  subst hn2
  subst hh2
  dsimp only [Option.toList, List.cons_append, List.nil_append]
  refine e_same (tgt := 1731) dL_law_317 (by decide) ?_
  exact kE.less (hk _ _ _ _ _ (rKI_cg z1 (fun j hj => kmh_o (by omega))) md2 (ok_say ok _) (by omega)) (by omega) (by omega)
set_option maxHeartbeats 4000000 in
set_option maxRecDepth 100000 in
theorem l_wipe {G : kG} {c0 s0 : Nat} {h : Nat → Option kC} {n : Nat} {q : Nat → Int} {F : Nat → Nat → Int} {Z : kCs} {b N : Nat} {X : Nat → Int} {z : Int} {Post : kPo} (g : rSt G) (hT : (gT G)[4]? = some (b, N, fun j => jI (X j))) (hX : ∀ j, inI (X j)) (h0 : 0 ≤ z) (h1 : z + 9 ≤ N) (zz : rKI G (kmh G h q F) Z) (md : rMD q F Z) (ok : kCok Z) (hn : 115 ≤ n) (hk : kLK G c0 s0 b z Post) : kE G mL_law 10 (c0 + 1) (s0 + 4) 322 [some (.ref b), some (.ref (gB G + 0)), some (.ref (gB G + 97)), some (.int (jI z))] [] (kmh G h q F) n Post := by
  refine e_aload_n rfl dL_law_322 ?_
  refine eV0R mtX9_wipe miX9_wipe lkL_32 dL_law_323 zz.1.1 rfl rfl rfl (k_wipe g zz ok ) (fun r323 h323 n323 hp323 => ?_)
  obtain ⟨hr1, z1, k1, n1⟩ := hp323
  subst hr1
  rw [kmh_keep hn k1]
  dsimp only [Option.toList, List.cons_append, List.nil_append]
  refine e_aload_n rfl dL_law_326 ?_
  refine eV0R mtX10_wipe miX10_wipe lkL_36 dL_law_327 kmh_97 rfl rfl rfl (j_wipe md ok ) (fun r327 h327 n327 hp327 => ?_)
  obtain ⟨hr2, hn2, q2, F2, hh2, md2⟩ := hp327
  subst hr2
  subst hn2
  subst hh2
  dsimp only [Option.toList, List.cons_append, List.nil_append]
  refine e_same (tgt := 1731) dL_law_330 (by decide) ?_
  exact kE.less (hk _ _ _ _ _ (rKI_cg z1 (fun j hj => kmh_o (by omega))) md2 (ok_wipe ok) (by omega)) (by omega) (by omega)
set_option maxHeartbeats 4000000 in
set_option maxRecDepth 100000 in
theorem l_fault {G : kG} {c0 s0 : Nat} {h : Nat → Option kC} {n : Nat} {q : Nat → Int} {F : Nat → Nat → Int} {Z : kCs} {b N : Nat} {X : Nat → Int} {z : Int} {Post : kPo} (g : rSt G) (hT : (gT G)[4]? = some (b, N, fun j => jI (X j))) (hX : ∀ j, inI (X j)) (h0 : 0 ≤ z) (h1 : z + 9 ≤ N) (zz : rKI G (kmh G h q F) Z) (md : rMD q F Z) (ok : kCok Z) (hn : 115 ≤ n) (hk : kLK G c0 s0 b z Post) : kE G mL_law 10 (c0 + 1) (s0 + 4) 335 [some (.ref b), some (.ref (gB G + 0)), some (.ref (gB G + 97)), some (.int (jI z))] [] (kmh G h q F) n Post := by
  refine e_aload_n rfl dL_law_335 ?_
  refine e_aload_n rfl dL_law_336 ?_
  refine e_iload_n rfl dL_law_337 ?_
  refine e_iconst dL_law_338 ?_
  refine e_iadd dL_law_339 ?_
  refine e_tald (k := 4) dL_law_340 hT (by omega) (by omega) rfl ?_
  refine eV1R mtX9_fault miX9_fault lkL_37 dL_law_341 zz.1.1 rfl rfl rfl (k_fault g zz ok (hX _)) (fun r341 h341 n341 hp341 => ?_)
  obtain ⟨hr1, z1, k1, n1⟩ := hp341
  subst hr1
  rw [kmh_keep hn k1]
  dsimp only [Option.toList, List.cons_append, List.nil_append]
  refine e_aload_n rfl dL_law_344 ?_
  refine e_aload_n rfl dL_law_345 ?_
  refine e_iload_n rfl dL_law_346 ?_
  refine e_iconst dL_law_347 ?_
  refine e_iadd dL_law_348 ?_
  refine e_tald (k := 4) dL_law_349 hT (by omega) (by omega) rfl ?_
  refine eV1R mtX10_fault miX10_fault lkL_40 dL_law_350 kmh_97 rfl rfl rfl (j_fault md ok (hX _)) (fun r350 h350 n350 hp350 => ?_)
  obtain ⟨hr2, hn2, q2, F2, hh2, md2⟩ := hp350
  subst hr2
  subst hn2
  subst hh2
  dsimp only [Option.toList, List.cons_append, List.nil_append]
  refine e_same (tgt := 1731) dL_law_353 (by decide) ?_
  exact kE.less (hk _ _ _ _ _ (rKI_cg z1 (fun j hj => kmh_o (by omega))) md2 ok (by omega)) (by omega) (by omega)
set_option maxHeartbeats 4000000 in
set_option maxRecDepth 100000 in
theorem l_take {G : kG} {c0 s0 : Nat} {h : Nat → Option kC} {n : Nat} {q : Nat → Int} {F : Nat → Nat → Int} {Z : kCs} {b N : Nat} {X : Nat → Int} {z : Int} {Post : kPo} (g : rSt G) (hT : (gT G)[4]? = some (b, N, fun j => jI (X j))) (hX : ∀ j, inI (X j)) (h0 : 0 ≤ z) (h1 : z + 9 ≤ N) (zz : rKI G (kmh G h q F) Z) (md : rMD q F Z) (ok : kCok Z) (hn : 115 ≤ n) (hk : kLK G c0 s0 b z Post) : kE G mL_law 10 (c0 + 1) (s0 + 4) 358 [some (.ref b), some (.ref (gB G + 0)), some (.ref (gB G + 97)), some (.int (jI z))] [] (kmh G h q F) n Post := by
  refine e_aload_n rfl dL_law_358 ?_
  refine e_aload_n rfl dL_law_359 ?_
  refine e_iload_n rfl dL_law_360 ?_
  refine e_iconst dL_law_361 ?_
  refine e_iadd dL_law_362 ?_
  refine e_tald (k := 4) dL_law_363 hT (by omega) (by omega) rfl ?_
  refine eV1R mtX9_take miX9_take lkL_41 dL_law_364 zz.1.1 rfl rfl rfl (k_take g zz ok (hX _)) (fun r364 h364 n364 hp364 => ?_)
  obtain ⟨hr1, z1, k1, n1⟩ := hp364
  subst hr1
  rw [kmh_keep hn k1]
  dsimp only [Option.toList, List.cons_append, List.nil_append]
  refine e_aload_n rfl dL_law_367 ?_
  refine e_aload_n rfl dL_law_368 ?_
  refine e_iload_n rfl dL_law_369 ?_
  refine e_iconst dL_law_370 ?_
  refine e_iadd dL_law_371 ?_
  refine e_tald (k := 4) dL_law_372 hT (by omega) (by omega) rfl ?_
  refine eV1R mtX10_take miX10_take lkL_44 dL_law_373 kmh_97 rfl rfl rfl (j_take md ok (hX _)) (fun r373 h373 n373 hp373 => ?_)
  obtain ⟨hr2, hn2, q2, F2, hh2, md2⟩ := hp373
  subst hr2
  subst hn2
  subst hh2
  dsimp only [Option.toList, List.cons_append, List.nil_append]
  refine e_same (tgt := 1731) dL_law_376 (by decide) ?_
  exact kE.less (hk _ _ _ _ _ (rKI_cg z1 (fun j hj => kmh_o (by omega))) md2 (ok_take ok _) (by omega)) (by omega) (by omega)
set_option maxHeartbeats 4000000 in
set_option maxRecDepth 100000 in
theorem l_line {G : kG} {c0 s0 : Nat} {h : Nat → Option kC} {n : Nat} {q : Nat → Int} {F : Nat → Nat → Int} {Z : kCs} {b N : Nat} {X : Nat → Int} {z : Int} {Post : kPo} (g : rSt G) (hT : (gT G)[4]? = some (b, N, fun j => jI (X j))) (hX : ∀ j, inI (X j)) (h0 : 0 ≤ z) (h1 : z + 9 ≤ N) (zz : rKI G (kmh G h q F) Z) (md : rMD q F Z) (ok : kCok Z) (hn : 115 ≤ n) (hk : kLK G c0 s0 b z Post) : kE G mL_law 10 (c0 + 1) (s0 + 4) 381 [some (.ref b), some (.ref (gB G + 0)), some (.ref (gB G + 97)), some (.int (jI z))] [] (kmh G h q F) n Post := by
  refine e_aload_n rfl dL_law_381 ?_
  refine e_aload_n rfl dL_law_382 ?_
  refine e_iload_n rfl dL_law_383 ?_
  refine e_iconst dL_law_384 ?_
  refine e_iadd dL_law_385 ?_
  refine e_tald (k := 4) dL_law_386 hT (by omega) (by omega) rfl ?_
  refine eV1R mtX9_line miX9_line lkL_45 dL_law_387 zz.1.1 rfl rfl rfl (k_line g zz ok (hX _)) (fun r387 h387 n387 hp387 => ?_)
  obtain ⟨hr1, z1, k1, n1⟩ := hp387
  subst hr1
  rw [kmh_keep hn k1]
  dsimp only [Option.toList, List.cons_append, List.nil_append]
  refine e_aload_n rfl dL_law_390 ?_
  refine e_aload_n rfl dL_law_391 ?_
  refine e_iload_n rfl dL_law_392 ?_
  refine e_iconst dL_law_393 ?_
  refine e_iadd dL_law_394 ?_
  refine e_tald (k := 4) dL_law_395 hT (by omega) (by omega) rfl ?_
  refine eV1R mtX10_line miX10_line lkL_48 dL_law_396 kmh_97 rfl rfl rfl (j_line md ok (hX _)) (fun r396 h396 n396 hp396 => ?_)
  obtain ⟨hr2, hn2, q2, F2, hh2, md2⟩ := hp396
  subst hr2
  subst hn2
  subst hh2
  dsimp only [Option.toList, List.cons_append, List.nil_append]
  refine e_same (tgt := 1731) dL_law_399 (by decide) ?_
  exact kE.less (hk _ _ _ _ _ (rKI_cg z1 (fun j hj => kmh_o (by omega))) md2 ok (by omega)) (by omega) (by omega)
set_option maxHeartbeats 4000000 in
set_option maxRecDepth 100000 in
theorem l_hump {G : kG} {c0 s0 : Nat} {h : Nat → Option kC} {n : Nat} {q : Nat → Int} {F : Nat → Nat → Int} {Z : kCs} {b N : Nat} {X : Nat → Int} {z : Int} {Post : kPo} (g : rSt G) (hT : (gT G)[4]? = some (b, N, fun j => jI (X j))) (hX : ∀ j, inI (X j)) (h0 : 0 ≤ z) (h1 : z + 9 ≤ N) (zz : rKI G (kmh G h q F) Z) (md : rMD q F Z) (ok : kCok Z) (hn : 115 ≤ n) (hk : kLK G c0 s0 b z Post) : kE G mL_law 10 (c0 + 1) (s0 + 4) 404 [some (.ref b), some (.ref (gB G + 0)), some (.ref (gB G + 97)), some (.int (jI z))] [] (kmh G h q F) n Post := by
  refine e_aload_n rfl dL_law_404 ?_
  refine e_aload_n rfl dL_law_405 ?_
  refine e_iload_n rfl dL_law_406 ?_
  refine e_iconst dL_law_407 ?_
  refine e_iadd dL_law_408 ?_
  refine e_tald (k := 4) dL_law_409 hT (by omega) (by omega) rfl ?_
  refine e_aload_n rfl dL_law_410 ?_
  refine e_iload_n rfl dL_law_411 ?_
  refine e_iconst dL_law_412 ?_
  refine e_iadd dL_law_413 ?_
  refine e_tald (k := 4) dL_law_414 hT (by omega) (by omega) rfl ?_
  refine e_aload_n rfl dL_law_415 ?_
  refine e_iload_n rfl dL_law_416 ?_
  refine e_iconst dL_law_417 ?_
  refine e_iadd dL_law_418 ?_
  refine e_tald (k := 4) dL_law_419 hT (by omega) (by omega) rfl ?_
  refine eV3R mtX9_hump miX9_hump lkL_49 dL_law_420 zz.1.1 rfl rfl rfl (k_hump g zz ok (hX _) (hX _) (hX _)) (fun r420 h420 n420 hp420 => ?_)
  obtain ⟨hr1, z1, k1, n1⟩ := hp420
  subst hr1
  rw [kmh_keep hn k1]
  dsimp only [Option.toList, List.cons_append, List.nil_append]
  refine e_aload_n rfl dL_law_423 ?_
  refine e_aload_n rfl dL_law_424 ?_
  refine e_iload_n rfl dL_law_425 ?_
  refine e_iconst dL_law_426 ?_
  refine e_iadd dL_law_427 ?_
  refine e_tald (k := 4) dL_law_428 hT (by omega) (by omega) rfl ?_
  refine e_aload_n rfl dL_law_429 ?_
  refine e_iload_n rfl dL_law_430 ?_
  refine e_iconst dL_law_431 ?_
  refine e_iadd dL_law_432 ?_
  refine e_tald (k := 4) dL_law_433 hT (by omega) (by omega) rfl ?_
  refine e_aload_n rfl dL_law_434 ?_
  refine e_iload_n rfl dL_law_435 ?_
  refine e_iconst dL_law_436 ?_
  refine e_iadd dL_law_437 ?_
  refine e_tald (k := 4) dL_law_438 hT (by omega) (by omega) rfl ?_
  refine eV3R mtX10_hump miX10_hump lkL_52 dL_law_439 kmh_97 rfl rfl rfl (j_hump md ok (hX _) (hX _) (hX _)) (fun r439 h439 n439 hp439 => ?_)
  obtain ⟨hr2, hn2, q2, F2, hh2, md2⟩ := hp439
  subst hr2
  subst hn2
  subst hh2
  dsimp only [Option.toList, List.cons_append, List.nil_append]
  refine e_same (tgt := 1731) dL_law_442 (by decide) ?_
  exact kE.less (hk _ _ _ _ _ (rKI_cg z1 (fun j hj => kmh_o (by omega))) md2 ok (by omega)) (by omega) (by omega)
set_option maxHeartbeats 4000000 in
set_option maxRecDepth 100000 in
theorem l_upper {G : kG} {c0 s0 : Nat} {h : Nat → Option kC} {n : Nat} {q : Nat → Int} {F : Nat → Nat → Int} {Z : kCs} {b N : Nat} {X : Nat → Int} {z : Int} {Post : kPo} (g : rSt G) (hT : (gT G)[4]? = some (b, N, fun j => jI (X j))) (hX : ∀ j, inI (X j)) (h0 : 0 ≤ z) (h1 : z + 9 ≤ N) (zz : rKI G (kmh G h q F) Z) (md : rMD q F Z) (ok : kCok Z) (hn : 115 ≤ n) (hk : kLK G c0 s0 b z Post) : kE G mL_law 10 (c0 + 1) (s0 + 4) 447 [some (.ref b), some (.ref (gB G + 0)), some (.ref (gB G + 97)), some (.int (jI z))] [] (kmh G h q F) n Post := by
  refine e_aload_n rfl dL_law_447 ?_
  refine e_aload_n rfl dL_law_448 ?_
  refine e_iload_n rfl dL_law_449 ?_
  refine e_iconst dL_law_450 ?_
  refine e_iadd dL_law_451 ?_
  refine e_tald (k := 4) dL_law_452 hT (by omega) (by omega) rfl ?_
  refine e_aload_n rfl dL_law_453 ?_
  refine e_iload_n rfl dL_law_454 ?_
  refine e_iconst dL_law_455 ?_
  refine e_iadd dL_law_456 ?_
  refine e_tald (k := 4) dL_law_457 hT (by omega) (by omega) rfl ?_
  refine e_aload_n rfl dL_law_458 ?_
  refine e_iload_n rfl dL_law_459 ?_
  refine e_iconst dL_law_460 ?_
  refine e_iadd dL_law_461 ?_
  refine e_tald (k := 4) dL_law_462 hT (by omega) (by omega) rfl ?_
  refine e_aload_n rfl dL_law_463 ?_
  refine e_iload_n rfl dL_law_464 ?_
  refine e_iconst dL_law_465 ?_
  refine e_iadd dL_law_466 ?_
  refine e_tald (k := 4) dL_law_467 hT (by omega) (by omega) rfl ?_
  refine e_aload_n rfl dL_law_468 ?_
  refine e_iload_n rfl dL_law_469 ?_
  refine e_iconst dL_law_470 ?_
  refine e_iadd dL_law_471 ?_
  refine e_tald (k := 4) dL_law_472 hT (by omega) (by omega) rfl ?_
  refine eV5R mtX9_upper miX9_upper lkL_53 dL_law_473 zz.1.1 rfl rfl rfl (k_upper g zz ok (hX _) (hX _) (hX _) (hX _) (hX _)) (fun r473 h473 n473 hp473 => ?_)
  obtain ⟨hr1, z1, k1, n1⟩ := hp473
  subst hr1
  rw [kmh_keep hn k1]
  dsimp only [Option.toList, List.cons_append, List.nil_append]
  refine e_aload_n rfl dL_law_476 ?_
  refine e_aload_n rfl dL_law_477 ?_
  refine e_iload_n rfl dL_law_478 ?_
  refine e_iconst dL_law_479 ?_
  refine e_iadd dL_law_480 ?_
  refine e_tald (k := 4) dL_law_481 hT (by omega) (by omega) rfl ?_
  refine e_aload_n rfl dL_law_482 ?_
  refine e_iload_n rfl dL_law_483 ?_
  refine e_iconst dL_law_484 ?_
  refine e_iadd dL_law_485 ?_
  refine e_tald (k := 4) dL_law_486 hT (by omega) (by omega) rfl ?_
  refine e_aload_n rfl dL_law_487 ?_
  refine e_iload_n rfl dL_law_488 ?_
  refine e_iconst dL_law_489 ?_
  refine e_iadd dL_law_490 ?_
  refine e_tald (k := 4) dL_law_491 hT (by omega) (by omega) rfl ?_
  refine e_aload_n rfl dL_law_492 ?_
  refine e_iload_n rfl dL_law_493 ?_
  refine e_iconst dL_law_494 ?_
  refine e_iadd dL_law_495 ?_
  refine e_tald (k := 4) dL_law_496 hT (by omega) (by omega) rfl ?_
  refine e_aload_n rfl dL_law_497 ?_
  refine e_iload_n rfl dL_law_498 ?_
  refine e_iconst dL_law_499 ?_
  refine e_iadd dL_law_500 ?_
  refine e_tald (k := 4) dL_law_501 hT (by omega) (by omega) rfl ?_
  refine eV5R mtX10_upper miX10_upper lkL_57 dL_law_502 kmh_97 rfl rfl rfl (j_upper md ok (hX _) (hX _) (hX _) (hX _) (hX _)) (fun r502 h502 n502 hp502 => ?_)
  obtain ⟨hr2, hn2, q2, F2, hh2, md2⟩ := hp502
  subst hr2
  subst hn2
  subst hh2
  dsimp only [Option.toList, List.cons_append, List.nil_append]
  refine e_samel (tgt := 1731) dL_law_505 dL_law_506 (by decide) ?_
  exact kE.less (hk _ _ _ _ _ (rKI_cg z1 (fun j hj => kmh_o (by omega))) md2 ok (by omega)) (by omega) (by omega)
set_option maxHeartbeats 4000000 in
set_option maxRecDepth 100000 in
theorem l_misfit {G : kG} {c0 s0 : Nat} {h : Nat → Option kC} {n : Nat} {q : Nat → Int} {F : Nat → Nat → Int} {Z : kCs} {b N : Nat} {X : Nat → Int} {z : Int} {Post : kPo} (g : rSt G) (hT : (gT G)[4]? = some (b, N, fun j => jI (X j))) (hX : ∀ j, inI (X j)) (h0 : 0 ≤ z) (h1 : z + 9 ≤ N) (zz : rKI G (kmh G h q F) Z) (md : rMD q F Z) (ok : kCok Z) (hn : 115 ≤ n) (hk : kLK G c0 s0 b z Post) : kE G mL_law 10 (c0 + 1) (s0 + 4) 511 [some (.ref b), some (.ref (gB G + 0)), some (.ref (gB G + 97)), some (.int (jI z))] [] (kmh G h q F) n Post := by
  refine e_aload_n rfl dL_law_511 ?_
  refine e_aload_n rfl dL_law_512 ?_
  refine e_iload_n rfl dL_law_513 ?_
  refine e_iconst dL_law_514 ?_
  refine e_iadd dL_law_515 ?_
  refine e_tald (k := 4) dL_law_516 hT (by omega) (by omega) rfl ?_
  refine e_aload_n rfl dL_law_517 ?_
  refine e_iload_n rfl dL_law_518 ?_
  refine e_iconst dL_law_519 ?_
  refine e_iadd dL_law_520 ?_
  refine e_tald (k := 4) dL_law_521 hT (by omega) (by omega) rfl ?_
  refine e_aload_n rfl dL_law_522 ?_
  refine e_iload_n rfl dL_law_523 ?_
  refine e_iconst dL_law_524 ?_
  refine e_iadd dL_law_525 ?_
  refine e_tald (k := 4) dL_law_526 hT (by omega) (by omega) rfl ?_
  refine e_aload_n rfl dL_law_527 ?_
  refine e_iload_n rfl dL_law_528 ?_
  refine e_iconst dL_law_529 ?_
  refine e_iadd dL_law_530 ?_
  refine e_tald (k := 4) dL_law_531 hT (by omega) (by omega) rfl ?_
  refine eV4R mtX9_misfit miX9_misfit lkL_58 dL_law_532 zz.1.1 rfl rfl rfl (k_misfit g zz ok (hX _) (hX _) (hX _) (hX _)) (fun r532 h532 n532 hp532 => ?_)
  obtain ⟨hr1, z1, k1, n1⟩ := hp532
  subst hr1
  rw [kmh_keep hn k1]
  dsimp only [Option.toList, List.cons_append, List.nil_append]
  refine e_aload_n rfl dL_law_535 ?_
  refine e_aload_n rfl dL_law_536 ?_
  refine e_iload_n rfl dL_law_537 ?_
  refine e_iconst dL_law_538 ?_
  refine e_iadd dL_law_539 ?_
  refine e_tald (k := 4) dL_law_540 hT (by omega) (by omega) rfl ?_
  refine e_aload_n rfl dL_law_541 ?_
  refine e_iload_n rfl dL_law_542 ?_
  refine e_iconst dL_law_543 ?_
  refine e_iadd dL_law_544 ?_
  refine e_tald (k := 4) dL_law_545 hT (by omega) (by omega) rfl ?_
  refine e_aload_n rfl dL_law_546 ?_
  refine e_iload_n rfl dL_law_547 ?_
  refine e_iconst dL_law_548 ?_
  refine e_iadd dL_law_549 ?_
  refine e_tald (k := 4) dL_law_550 hT (by omega) (by omega) rfl ?_
  refine e_aload_n rfl dL_law_551 ?_
  refine e_iload_n rfl dL_law_552 ?_
  refine e_iconst dL_law_553 ?_
  refine e_iadd dL_law_554 ?_
  refine e_tald (k := 4) dL_law_555 hT (by omega) (by omega) rfl ?_
  refine eV4R mtX10_misfit miX10_misfit lkL_62 dL_law_556 kmh_97 rfl rfl rfl (j_misfit md ok (hX _) (hX _) (hX _) (hX _)) (fun r556 h556 n556 hp556 => ?_)
  obtain ⟨hr2, hn2, q2, F2, hh2, md2⟩ := hp556
  subst hr2
  subst hn2
  subst hh2
  dsimp only [Option.toList, List.cons_append, List.nil_append]
  refine e_same (tgt := 1731) dL_law_559 (by decide) ?_
  exact kE.less (hk _ _ _ _ _ (rKI_cg z1 (fun j hj => kmh_o (by omega))) md2 ok (by omega)) (by omega) (by omega)
set_option maxHeartbeats 4000000 in
set_option maxRecDepth 100000 in
theorem l_fit {G : kG} {c0 s0 : Nat} {h : Nat → Option kC} {n : Nat} {q : Nat → Int} {F : Nat → Nat → Int} {Z : kCs} {b N : Nat} {X : Nat → Int} {z : Int} {Post : kPo} (g : rSt G) (hT : (gT G)[4]? = some (b, N, fun j => jI (X j))) (hX : ∀ j, inI (X j)) (h0 : 0 ≤ z) (h1 : z + 9 ≤ N) (zz : rKI G (kmh G h q F) Z) (md : rMD q F Z) (ok : kCok Z) (hn : 115 ≤ n) (hk : kLK G c0 s0 b z Post) : kE G mL_law 10 (c0 + 1) (s0 + 4) 564 [some (.ref b), some (.ref (gB G + 0)), some (.ref (gB G + 97)), some (.int (jI z))] [] (kmh G h q F) n Post := by
  refine e_aload_n rfl dL_law_564 ?_
  refine e_aload_n rfl dL_law_565 ?_
  refine e_iload_n rfl dL_law_566 ?_
  refine e_iconst dL_law_567 ?_
  refine e_iadd dL_law_568 ?_
  refine e_tald (k := 4) dL_law_569 hT (by omega) (by omega) rfl ?_
  refine e_aload_n rfl dL_law_570 ?_
  refine e_iload_n rfl dL_law_571 ?_
  refine e_iconst dL_law_572 ?_
  refine e_iadd dL_law_573 ?_
  refine e_tald (k := 4) dL_law_574 hT (by omega) (by omega) rfl ?_
  refine e_aload_n rfl dL_law_575 ?_
  refine e_iload_n rfl dL_law_576 ?_
  refine e_iconst dL_law_577 ?_
  refine e_iadd dL_law_578 ?_
  refine e_tald (k := 4) dL_law_579 hT (by omega) (by omega) rfl ?_
  refine eV3R mtX9_fit miX9_fit lkL_63 dL_law_580 zz.1.1 rfl rfl rfl (k_fit g zz ok (hX _) (hX _) (hX _)) (fun r580 h580 n580 hp580 => ?_)
  obtain ⟨hr1, z1, k1, n1⟩ := hp580
  subst hr1
  rw [kmh_keep hn k1]
  dsimp only [Option.toList, List.cons_append, List.nil_append]
  refine e_aload_n rfl dL_law_583 ?_
  refine e_aload_n rfl dL_law_584 ?_
  refine e_iload_n rfl dL_law_585 ?_
  refine e_iconst dL_law_586 ?_
  refine e_iadd dL_law_587 ?_
  refine e_tald (k := 4) dL_law_588 hT (by omega) (by omega) rfl ?_
  refine e_aload_n rfl dL_law_589 ?_
  refine e_iload_n rfl dL_law_590 ?_
  refine e_iconst dL_law_591 ?_
  refine e_iadd dL_law_592 ?_
  refine e_tald (k := 4) dL_law_593 hT (by omega) (by omega) rfl ?_
  refine e_aload_n rfl dL_law_594 ?_
  refine e_iload_n rfl dL_law_595 ?_
  refine e_iconst dL_law_596 ?_
  refine e_iadd dL_law_597 ?_
  refine e_tald (k := 4) dL_law_598 hT (by omega) (by omega) rfl ?_
  refine eV3R mtX10_fit miX10_fit lkL_66 dL_law_599 kmh_97 rfl rfl rfl (j_fit md ok (hX _) (hX _) (hX _)) (fun r599 h599 n599 hp599 => ?_)
  obtain ⟨hr2, hn2, q2, F2, hh2, md2⟩ := hp599
  subst hr2
  subst hn2
  subst hh2
  dsimp only [Option.toList, List.cons_append, List.nil_append]
  refine e_same (tgt := 1731) dL_law_602 (by decide) ?_
  exact kE.less (hk _ _ _ _ _ (rKI_cg z1 (fun j hj => kmh_o (by omega))) md2 ok (by omega)) (by omega) (by omega)
set_option maxHeartbeats 4000000 in
set_option maxRecDepth 100000 in
theorem l_span {G : kG} {c0 s0 : Nat} {h : Nat → Option kC} {n : Nat} {q : Nat → Int} {F : Nat → Nat → Int} {Z : kCs} {b N : Nat} {X : Nat → Int} {z : Int} {Post : kPo} (g : rSt G) (hT : (gT G)[4]? = some (b, N, fun j => jI (X j))) (hX : ∀ j, inI (X j)) (h0 : 0 ≤ z) (h1 : z + 9 ≤ N) (zz : rKI G (kmh G h q F) Z) (md : rMD q F Z) (ok : kCok Z) (hn : 115 ≤ n) (hk : kLK G c0 s0 b z Post) : kE G mL_law 10 (c0 + 1) (s0 + 4) 607 [some (.ref b), some (.ref (gB G + 0)), some (.ref (gB G + 97)), some (.int (jI z))] [] (kmh G h q F) n Post := by
  refine e_aload_n rfl dL_law_607 ?_
  refine e_aload_n rfl dL_law_608 ?_
  refine e_iload_n rfl dL_law_609 ?_
  refine e_iconst dL_law_610 ?_
  refine e_iadd dL_law_611 ?_
  refine e_tald (k := 4) dL_law_612 hT (by omega) (by omega) rfl ?_
  refine e_aload_n rfl dL_law_613 ?_
  refine e_iload_n rfl dL_law_614 ?_
  refine e_iconst dL_law_615 ?_
  refine e_iadd dL_law_616 ?_
  refine e_tald (k := 4) dL_law_617 hT (by omega) (by omega) rfl ?_
  refine e_aload_n rfl dL_law_618 ?_
  refine e_iload_n rfl dL_law_619 ?_
  refine e_iconst dL_law_620 ?_
  refine e_iadd dL_law_621 ?_
  refine e_tald (k := 4) dL_law_622 hT (by omega) (by omega) rfl ?_
  refine e_aload_n rfl dL_law_623 ?_
  refine e_iload_n rfl dL_law_624 ?_
  refine e_iconst dL_law_625 ?_
  refine e_iadd dL_law_626 ?_
  refine e_tald (k := 4) dL_law_627 hT (by omega) (by omega) rfl ?_
  refine eV4R mtX9_span miX9_span lkL_67 dL_law_628 zz.1.1 rfl rfl rfl (k_span g zz ok (hX _) (hX _) (hX _) (hX _)) (fun r628 h628 n628 hp628 => ?_)
  obtain ⟨hr1, z1, k1, n1⟩ := hp628
  subst hr1
  rw [kmh_keep hn k1]
  dsimp only [Option.toList, List.cons_append, List.nil_append]
  refine e_aload_n rfl dL_law_631 ?_
  refine e_aload_n rfl dL_law_632 ?_
  refine e_iload_n rfl dL_law_633 ?_
  refine e_iconst dL_law_634 ?_
  refine e_iadd dL_law_635 ?_
  refine e_tald (k := 4) dL_law_636 hT (by omega) (by omega) rfl ?_
  refine e_aload_n rfl dL_law_637 ?_
  refine e_iload_n rfl dL_law_638 ?_
  refine e_iconst dL_law_639 ?_
  refine e_iadd dL_law_640 ?_
  refine e_tald (k := 4) dL_law_641 hT (by omega) (by omega) rfl ?_
  refine e_aload_n rfl dL_law_642 ?_
  refine e_iload_n rfl dL_law_643 ?_
  refine e_iconst dL_law_644 ?_
  refine e_iadd dL_law_645 ?_
  refine e_tald (k := 4) dL_law_646 hT (by omega) (by omega) rfl ?_
  refine e_aload_n rfl dL_law_647 ?_
  refine e_iload_n rfl dL_law_648 ?_
  refine e_iconst dL_law_649 ?_
  refine e_iadd dL_law_650 ?_
  refine e_tald (k := 4) dL_law_651 hT (by omega) (by omega) rfl ?_
  refine eV4R mtX10_span miX10_span lkL_70 dL_law_652 kmh_97 rfl rfl rfl (j_span md ok (hX _) (hX _) (hX _) (hX _)) (fun r652 h652 n652 hp652 => ?_)
  obtain ⟨hr2, hn2, q2, F2, hh2, md2⟩ := hp652
  subst hr2
  subst hn2
  subst hh2
  dsimp only [Option.toList, List.cons_append, List.nil_append]
  refine e_same (tgt := 1731) dL_law_655 (by decide) ?_
  exact kE.less (hk _ _ _ _ _ (rKI_cg z1 (fun j hj => kmh_o (by omega))) md2 ok (by omega)) (by omega) (by omega)
set_option maxHeartbeats 4000000 in
set_option maxRecDepth 100000 in
theorem l_found {G : kG} {c0 s0 : Nat} {h : Nat → Option kC} {n : Nat} {q : Nat → Int} {F : Nat → Nat → Int} {Z : kCs} {b N : Nat} {X : Nat → Int} {z : Int} {Post : kPo} (g : rSt G) (hT : (gT G)[4]? = some (b, N, fun j => jI (X j))) (hX : ∀ j, inI (X j)) (h0 : 0 ≤ z) (h1 : z + 9 ≤ N) (zz : rKI G (kmh G h q F) Z) (md : rMD q F Z) (ok : kCok Z) (hn : 115 ≤ n) (hk : kLK G c0 s0 b z Post) : kE G mL_law 10 (c0 + 1) (s0 + 4) 660 [some (.ref b), some (.ref (gB G + 0)), some (.ref (gB G + 97)), some (.int (jI z))] [] (kmh G h q F) n Post := by
  refine e_aload_n rfl dL_law_660 ?_
  refine e_aload_n rfl dL_law_661 ?_
  refine e_iload_n rfl dL_law_662 ?_
  refine e_iconst dL_law_663 ?_
  refine e_iadd dL_law_664 ?_
  refine e_tald (k := 4) dL_law_665 hT (by omega) (by omega) rfl ?_
  refine e_aload_n rfl dL_law_666 ?_
  refine e_iload_n rfl dL_law_667 ?_
  refine e_iconst dL_law_668 ?_
  refine e_iadd dL_law_669 ?_
  refine e_tald (k := 4) dL_law_670 hT (by omega) (by omega) rfl ?_
  refine e_aload_n rfl dL_law_671 ?_
  refine e_iload_n rfl dL_law_672 ?_
  refine e_iconst dL_law_673 ?_
  refine e_iadd dL_law_674 ?_
  refine e_tald (k := 4) dL_law_675 hT (by omega) (by omega) rfl ?_
  refine eV3R mtX9_found miX9_found lkL_71 dL_law_676 zz.1.1 rfl rfl rfl (k_found g zz ok (hX _) (hX _) (hX _)) (fun r676 h676 n676 hp676 => ?_)
  obtain ⟨hr1, z1, k1, n1⟩ := hp676
  subst hr1
  rw [kmh_keep hn k1]
  dsimp only [Option.toList, List.cons_append, List.nil_append]
  refine e_aload_n rfl dL_law_679 ?_
  refine e_aload_n rfl dL_law_680 ?_
  refine e_iload_n rfl dL_law_681 ?_
  refine e_iconst dL_law_682 ?_
  refine e_iadd dL_law_683 ?_
  refine e_tald (k := 4) dL_law_684 hT (by omega) (by omega) rfl ?_
  refine e_aload_n rfl dL_law_685 ?_
  refine e_iload_n rfl dL_law_686 ?_
  refine e_iconst dL_law_687 ?_
  refine e_iadd dL_law_688 ?_
  refine e_tald (k := 4) dL_law_689 hT (by omega) (by omega) rfl ?_
  refine e_aload_n rfl dL_law_690 ?_
  refine e_iload_n rfl dL_law_691 ?_
  refine e_iconst dL_law_692 ?_
  refine e_iadd dL_law_693 ?_
  refine e_tald (k := 4) dL_law_694 hT (by omega) (by omega) rfl ?_
  refine eV3R mtX10_found miX10_found lkL_74 dL_law_695 kmh_97 rfl rfl rfl (j_found md ok (hX _) (hX _) (hX _)) (fun r695 h695 n695 hp695 => ?_)
  obtain ⟨hr2, hn2, q2, F2, hh2, md2⟩ := hp695
  subst hr2
  subst hn2
  subst hh2
  dsimp only [Option.toList, List.cons_append, List.nil_append]
  refine e_same (tgt := 1731) dL_law_698 (by decide) ?_
  exact kE.less (hk _ _ _ _ _ (rKI_cg z1 (fun j hj => kmh_o (by omega))) md2 ok (by omega)) (by omega) (by omega)
set_option maxHeartbeats 4000000 in
set_option maxRecDepth 100000 in
theorem l_written {G : kG} {c0 s0 : Nat} {h : Nat → Option kC} {n : Nat} {q : Nat → Int} {F : Nat → Nat → Int} {Z : kCs} {b N : Nat} {X : Nat → Int} {z : Int} {Post : kPo} (g : rSt G) (hT : (gT G)[4]? = some (b, N, fun j => jI (X j))) (hX : ∀ j, inI (X j)) (h0 : 0 ≤ z) (h1 : z + 9 ≤ N) (zz : rKI G (kmh G h q F) Z) (md : rMD q F Z) (ok : kCok Z) (hn : 115 ≤ n) (hk : kLK G c0 s0 b z Post) : kE G mL_law 10 (c0 + 1) (s0 + 4) 703 [some (.ref b), some (.ref (gB G + 0)), some (.ref (gB G + 97)), some (.int (jI z))] [] (kmh G h q F) n Post := by
  refine e_aload_n rfl dL_law_703 ?_
  refine e_aload_n rfl dL_law_704 ?_
  refine e_iload_n rfl dL_law_705 ?_
  refine e_iconst dL_law_706 ?_
  refine e_iadd dL_law_707 ?_
  refine e_tald (k := 4) dL_law_708 hT (by omega) (by omega) rfl ?_
  refine e_aload_n rfl dL_law_709 ?_
  refine e_iload_n rfl dL_law_710 ?_
  refine e_iconst dL_law_711 ?_
  refine e_iadd dL_law_712 ?_
  refine e_tald (k := 4) dL_law_713 hT (by omega) (by omega) rfl ?_
  refine e_aload_n rfl dL_law_714 ?_
  refine e_iload_n rfl dL_law_715 ?_
  refine e_iconst dL_law_716 ?_
  refine e_iadd dL_law_717 ?_
  refine e_tald (k := 4) dL_law_718 hT (by omega) (by omega) rfl ?_
  refine e_aload_n rfl dL_law_719 ?_
  refine e_iload_n rfl dL_law_720 ?_
  refine e_iconst dL_law_721 ?_
  refine e_iadd dL_law_722 ?_
  refine e_tald (k := 4) dL_law_723 hT (by omega) (by omega) rfl ?_
  refine eV4R mtX9_written miX9_written lkL_75 dL_law_724 zz.1.1 rfl rfl rfl (k_written g zz ok (hX _) (hX _) (hX _) (hX _)) (fun r724 h724 n724 hp724 => ?_)
  obtain ⟨hr1, z1, k1, n1⟩ := hp724
  subst hr1
  rw [kmh_keep hn k1]
  dsimp only [Option.toList, List.cons_append, List.nil_append]
  refine e_aload_n rfl dL_law_727 ?_
  refine e_aload_n rfl dL_law_728 ?_
  refine e_iload_n rfl dL_law_729 ?_
  refine e_iconst dL_law_730 ?_
  refine e_iadd dL_law_731 ?_
  refine e_tald (k := 4) dL_law_732 hT (by omega) (by omega) rfl ?_
  refine e_aload_n rfl dL_law_733 ?_
  refine e_iload_n rfl dL_law_734 ?_
  refine e_iconst dL_law_735 ?_
  refine e_iadd dL_law_736 ?_
  refine e_tald (k := 4) dL_law_737 hT (by omega) (by omega) rfl ?_
  refine e_aload_n rfl dL_law_738 ?_
  refine e_iload_n rfl dL_law_739 ?_
  refine e_iconst dL_law_740 ?_
  refine e_iadd dL_law_741 ?_
  refine e_tald (k := 4) dL_law_742 hT (by omega) (by omega) rfl ?_
  refine e_aload_n rfl dL_law_743 ?_
  refine e_iload_n rfl dL_law_744 ?_
  refine e_iconst dL_law_745 ?_
  refine e_iadd dL_law_746 ?_
  refine e_tald (k := 4) dL_law_747 hT (by omega) (by omega) rfl ?_
  refine eV4R mtX10_written miX10_written lkL_79 dL_law_748 kmh_97 rfl rfl rfl (j_written md ok (hX _) (hX _) (hX _) (hX _)) (fun r748 h748 n748 hp748 => ?_)
  obtain ⟨hr2, hn2, q2, F2, hh2, md2⟩ := hp748
  subst hr2
  subst hn2
  subst hh2
  dsimp only [Option.toList, List.cons_append, List.nil_append]
  refine e_samel (tgt := 1731) dL_law_751 dL_law_752 (by decide) ?_
  exact kE.less (hk _ _ _ _ _ (rKI_cg z1 (fun j hj => kmh_o (by omega))) md2 ok (by omega)) (by omega) (by omega)
set_option maxHeartbeats 4000000 in
set_option maxRecDepth 100000 in
theorem l_back {G : kG} {c0 s0 : Nat} {h : Nat → Option kC} {n : Nat} {q : Nat → Int} {F : Nat → Nat → Int} {Z : kCs} {b N : Nat} {X : Nat → Int} {z : Int} {Post : kPo} (g : rSt G) (hT : (gT G)[4]? = some (b, N, fun j => jI (X j))) (hX : ∀ j, inI (X j)) (h0 : 0 ≤ z) (h1 : z + 9 ≤ N) (zz : rKI G (kmh G h q F) Z) (md : rMD q F Z) (ok : kCok Z) (hn : 115 ≤ n) (hk : kLK G c0 s0 b z Post) : kE G mL_law 10 (c0 + 1) (s0 + 4) 757 [some (.ref b), some (.ref (gB G + 0)), some (.ref (gB G + 97)), some (.int (jI z))] [] (kmh G h q F) n Post := by
  refine e_aload_n rfl dL_law_757 ?_
  refine e_aload_n rfl dL_law_758 ?_
  refine e_iload_n rfl dL_law_759 ?_
  refine e_iconst dL_law_760 ?_
  refine e_iadd dL_law_761 ?_
  refine e_tald (k := 4) dL_law_762 hT (by omega) (by omega) rfl ?_
  refine e_aload_n rfl dL_law_763 ?_
  refine e_iload_n rfl dL_law_764 ?_
  refine e_iconst dL_law_765 ?_
  refine e_iadd dL_law_766 ?_
  refine e_tald (k := 4) dL_law_767 hT (by omega) (by omega) rfl ?_
  refine e_aload_n rfl dL_law_768 ?_
  refine e_iload_n rfl dL_law_769 ?_
  refine e_iconst dL_law_770 ?_
  refine e_iadd dL_law_771 ?_
  refine e_tald (k := 4) dL_law_772 hT (by omega) (by omega) rfl ?_
  refine e_aload_n rfl dL_law_773 ?_
  refine e_iload_n rfl dL_law_774 ?_
  refine e_iconst dL_law_775 ?_
  refine e_iadd dL_law_776 ?_
  refine e_tald (k := 4) dL_law_777 hT (by omega) (by omega) rfl ?_
  refine e_aload_n rfl dL_law_778 ?_
  refine e_iload_n rfl dL_law_779 ?_
  refine e_iconst dL_law_780 ?_
  refine e_iadd dL_law_781 ?_
  refine e_tald (k := 4) dL_law_782 hT (by omega) (by omega) rfl ?_
  refine e_aload_n rfl dL_law_783 ?_
  refine e_iload_n rfl dL_law_784 ?_
  refine e_bipush (by decide) dL_law_785 ?_
  refine e_iadd dL_law_787 ?_
  refine e_tald (k := 4) dL_law_788 hT (by omega) (by omega) rfl ?_
  refine eV6R mtX9_back miX9_back lkL_80 dL_law_789 zz.1.1 rfl rfl rfl (k_back g zz ok (hX _) (hX _) (hX _) (hX _) (hX _) (hX _)) (fun r789 h789 n789 hp789 => ?_)
  obtain ⟨hr1, z1, k1, n1⟩ := hp789
  subst hr1
  rw [kmh_keep hn k1]
  dsimp only [Option.toList, List.cons_append, List.nil_append]
  refine e_aload_n rfl dL_law_792 ?_
  refine e_aload_n rfl dL_law_793 ?_
  refine e_iload_n rfl dL_law_794 ?_
  refine e_iconst dL_law_795 ?_
  refine e_iadd dL_law_796 ?_
  refine e_tald (k := 4) dL_law_797 hT (by omega) (by omega) rfl ?_
  refine e_aload_n rfl dL_law_798 ?_
  refine e_iload_n rfl dL_law_799 ?_
  refine e_iconst dL_law_800 ?_
  refine e_iadd dL_law_801 ?_
  refine e_tald (k := 4) dL_law_802 hT (by omega) (by omega) rfl ?_
  refine e_aload_n rfl dL_law_803 ?_
  refine e_iload_n rfl dL_law_804 ?_
  refine e_iconst dL_law_805 ?_
  refine e_iadd dL_law_806 ?_
  refine e_tald (k := 4) dL_law_807 hT (by omega) (by omega) rfl ?_
  refine e_aload_n rfl dL_law_808 ?_
  refine e_iload_n rfl dL_law_809 ?_
  refine e_iconst dL_law_810 ?_
  refine e_iadd dL_law_811 ?_
  refine e_tald (k := 4) dL_law_812 hT (by omega) (by omega) rfl ?_
  refine e_aload_n rfl dL_law_813 ?_
  refine e_iload_n rfl dL_law_814 ?_
  refine e_iconst dL_law_815 ?_
  refine e_iadd dL_law_816 ?_
  refine e_tald (k := 4) dL_law_817 hT (by omega) (by omega) rfl ?_
  refine e_aload_n rfl dL_law_818 ?_
  refine e_iload_n rfl dL_law_819 ?_
  refine e_bipush (by decide) dL_law_820 ?_
  refine e_iadd dL_law_822 ?_
  refine e_tald (k := 4) dL_law_823 hT (by omega) (by omega) rfl ?_
  refine eV6R mtX10_back miX10_back lkL_84 dL_law_824 kmh_97 rfl rfl rfl (j_back md ok (hX _) (hX _) (hX _) (hX _) (hX _) (hX _)) (fun r824 h824 n824 hp824 => ?_)
  obtain ⟨hr2, hn2, q2, F2, hh2, md2⟩ := hp824
  subst hr2
  subst hn2
  subst hh2
  dsimp only [Option.toList, List.cons_append, List.nil_append]
  refine e_samel (tgt := 1731) dL_law_827 dL_law_828 (by decide) ?_
  exact kE.less (hk _ _ _ _ _ (rKI_cg z1 (fun j hj => kmh_o (by omega))) md2 ok (by omega)) (by omega) (by omega)
set_option maxHeartbeats 4000000 in
set_option maxRecDepth 100000 in
theorem l_pile {G : kG} {c0 s0 : Nat} {h : Nat → Option kC} {n : Nat} {q : Nat → Int} {F : Nat → Nat → Int} {Z : kCs} {b N : Nat} {X : Nat → Int} {z : Int} {Post : kPo} (g : rSt G) (hT : (gT G)[4]? = some (b, N, fun j => jI (X j))) (hX : ∀ j, inI (X j)) (h0 : 0 ≤ z) (h1 : z + 9 ≤ N) (zz : rKI G (kmh G h q F) Z) (md : rMD q F Z) (ok : kCok Z) (hn : 115 ≤ n) (hk : kLK G c0 s0 b z Post) : kE G mL_law 10 (c0 + 1) (s0 + 4) 833 [some (.ref b), some (.ref (gB G + 0)), some (.ref (gB G + 97)), some (.int (jI z))] [] (kmh G h q F) n Post := by
  refine e_aload_n rfl dL_law_833 ?_
  refine e_aload_n rfl dL_law_834 ?_
  refine e_iload_n rfl dL_law_835 ?_
  refine e_iconst dL_law_836 ?_
  refine e_iadd dL_law_837 ?_
  refine e_tald (k := 4) dL_law_838 hT (by omega) (by omega) rfl ?_
  refine e_aload_n rfl dL_law_839 ?_
  refine e_iload_n rfl dL_law_840 ?_
  refine e_iconst dL_law_841 ?_
  refine e_iadd dL_law_842 ?_
  refine e_tald (k := 4) dL_law_843 hT (by omega) (by omega) rfl ?_
  refine eV2R mtX9_pile miX9_pile lkL_85 dL_law_844 zz.1.1 rfl rfl rfl (k_pile g zz ok (hX _) (hX _)) (fun r844 h844 n844 hp844 => ?_)
  obtain ⟨hr1, z1, k1, n1⟩ := hp844
  subst hr1
  rw [kmh_keep hn k1]
  dsimp only [Option.toList, List.cons_append, List.nil_append]
  refine e_aload_n rfl dL_law_847 ?_
  refine e_aload_n rfl dL_law_848 ?_
  refine e_iload_n rfl dL_law_849 ?_
  refine e_iconst dL_law_850 ?_
  refine e_iadd dL_law_851 ?_
  refine e_tald (k := 4) dL_law_852 hT (by omega) (by omega) rfl ?_
  refine e_aload_n rfl dL_law_853 ?_
  refine e_iload_n rfl dL_law_854 ?_
  refine e_iconst dL_law_855 ?_
  refine e_iadd dL_law_856 ?_
  refine e_tald (k := 4) dL_law_857 hT (by omega) (by omega) rfl ?_
  refine eV2R mtX10_pile miX10_pile lkL_89 dL_law_858 kmh_97 rfl rfl rfl (j_pile md ok (hX _) (hX _)) (fun r858 h858 n858 hp858 => ?_)
  obtain ⟨hr2, hn2, q2, F2, hh2, md2⟩ := hp858
  subst hr2
  subst hn2
  subst hh2
  dsimp only [Option.toList, List.cons_append, List.nil_append]
  refine e_samel (tgt := 1731) dL_law_861 dL_law_862 (by decide) ?_
  exact kE.less (hk _ _ _ _ _ (rKI_cg z1 (fun j hj => kmh_o (by omega))) md2 ok (by omega)) (by omega) (by omega)
set_option maxHeartbeats 4000000 in
set_option maxRecDepth 100000 in
theorem l_grown {G : kG} {c0 s0 : Nat} {h : Nat → Option kC} {n : Nat} {q : Nat → Int} {F : Nat → Nat → Int} {Z : kCs} {b N : Nat} {X : Nat → Int} {z : Int} {Post : kPo} (g : rSt G) (hT : (gT G)[4]? = some (b, N, fun j => jI (X j))) (hX : ∀ j, inI (X j)) (h0 : 0 ≤ z) (h1 : z + 9 ≤ N) (zz : rKI G (kmh G h q F) Z) (md : rMD q F Z) (ok : kCok Z) (hn : 115 ≤ n) (hk : kLK G c0 s0 b z Post) : kE G mL_law 10 (c0 + 1) (s0 + 4) 867 [some (.ref b), some (.ref (gB G + 0)), some (.ref (gB G + 97)), some (.int (jI z))] [] (kmh G h q F) n Post := by
  refine e_aload_n rfl dL_law_867 ?_
  refine e_aload_n rfl dL_law_868 ?_
  refine e_iload_n rfl dL_law_869 ?_
  refine e_iconst dL_law_870 ?_
  refine e_iadd dL_law_871 ?_
  refine e_tald (k := 4) dL_law_872 hT (by omega) (by omega) rfl ?_
  refine e_aload_n rfl dL_law_873 ?_
  refine e_iload_n rfl dL_law_874 ?_
  refine e_iconst dL_law_875 ?_
  refine e_iadd dL_law_876 ?_
  refine e_tald (k := 4) dL_law_877 hT (by omega) (by omega) rfl ?_
  refine e_aload_n rfl dL_law_878 ?_
  refine e_iload_n rfl dL_law_879 ?_
  refine e_iconst dL_law_880 ?_
  refine e_iadd dL_law_881 ?_
  refine e_tald (k := 4) dL_law_882 hT (by omega) (by omega) rfl ?_
  refine eV3R mtX9_grown miX9_grown lkL_90 dL_law_883 zz.1.1 rfl rfl rfl (k_grown g zz ok (hX _) (hX _) (hX _)) (fun r883 h883 n883 hp883 => ?_)
  obtain ⟨hr1, z1, k1, n1⟩ := hp883
  subst hr1
  rw [kmh_keep hn k1]
  dsimp only [Option.toList, List.cons_append, List.nil_append]
  refine e_aload_n rfl dL_law_886 ?_
  refine e_aload_n rfl dL_law_887 ?_
  refine e_iload_n rfl dL_law_888 ?_
  refine e_iconst dL_law_889 ?_
  refine e_iadd dL_law_890 ?_
  refine e_tald (k := 4) dL_law_891 hT (by omega) (by omega) rfl ?_
  refine e_aload_n rfl dL_law_892 ?_
  refine e_iload_n rfl dL_law_893 ?_
  refine e_iconst dL_law_894 ?_
  refine e_iadd dL_law_895 ?_
  refine e_tald (k := 4) dL_law_896 hT (by omega) (by omega) rfl ?_
  refine e_aload_n rfl dL_law_897 ?_
  refine e_iload_n rfl dL_law_898 ?_
  refine e_iconst dL_law_899 ?_
  refine e_iadd dL_law_900 ?_
  refine e_tald (k := 4) dL_law_901 hT (by omega) (by omega) rfl ?_
  refine eV3R mtX10_grown miX10_grown lkL_94 dL_law_902 kmh_97 rfl rfl rfl (j_grown md ok (hX _) (hX _) (hX _)) (fun r902 h902 n902 hp902 => ?_)
  obtain ⟨hr2, hn2, q2, F2, hh2, md2⟩ := hp902
  subst hr2
  subst hn2
  subst hh2
  dsimp only [Option.toList, List.cons_append, List.nil_append]
  refine e_samel (tgt := 1731) dL_law_905 dL_law_906 (by decide) ?_
  exact kE.less (hk _ _ _ _ _ (rKI_cg z1 (fun j hj => kmh_o (by omega))) md2 ok (by omega)) (by omega) (by omega)
set_option maxHeartbeats 4000000 in
set_option maxRecDepth 100000 in
theorem l_right {G : kG} {c0 s0 : Nat} {h : Nat → Option kC} {n : Nat} {q : Nat → Int} {F : Nat → Nat → Int} {Z : kCs} {b N : Nat} {X : Nat → Int} {z : Int} {Post : kPo} (g : rSt G) (hT : (gT G)[4]? = some (b, N, fun j => jI (X j))) (hX : ∀ j, inI (X j)) (h0 : 0 ≤ z) (h1 : z + 9 ≤ N) (zz : rKI G (kmh G h q F) Z) (md : rMD q F Z) (ok : kCok Z) (hn : 115 ≤ n) (hk : kLK G c0 s0 b z Post) : kE G mL_law 10 (c0 + 1) (s0 + 4) 911 [some (.ref b), some (.ref (gB G + 0)), some (.ref (gB G + 97)), some (.int (jI z))] [] (kmh G h q F) n Post := by
  refine e_aload_n rfl dL_law_911 ?_
  refine e_aload_n rfl dL_law_912 ?_
  refine e_iload_n rfl dL_law_913 ?_
  refine e_iconst dL_law_914 ?_
  refine e_iadd dL_law_915 ?_
  refine e_tald (k := 4) dL_law_916 hT (by omega) (by omega) rfl ?_
  refine e_aload_n rfl dL_law_917 ?_
  refine e_iload_n rfl dL_law_918 ?_
  refine e_iconst dL_law_919 ?_
  refine e_iadd dL_law_920 ?_
  refine e_tald (k := 4) dL_law_921 hT (by omega) (by omega) rfl ?_
  refine e_aload_n rfl dL_law_922 ?_
  refine e_iload_n rfl dL_law_923 ?_
  refine e_iconst dL_law_924 ?_
  refine e_iadd dL_law_925 ?_
  refine e_tald (k := 4) dL_law_926 hT (by omega) (by omega) rfl ?_
  refine eV3R mtX9_right miX9_right lkL_95 dL_law_927 zz.1.1 rfl rfl rfl (k_right g zz ok (hX _) (hX _) (hX _)) (fun r927 h927 n927 hp927 => ?_)
  obtain ⟨hr1, z1, k1, n1⟩ := hp927
  subst hr1
  rw [kmh_keep hn k1]
  dsimp only [Option.toList, List.cons_append, List.nil_append]
  refine e_aload_n rfl dL_law_930 ?_
  refine e_aload_n rfl dL_law_931 ?_
  refine e_iload_n rfl dL_law_932 ?_
  refine e_iconst dL_law_933 ?_
  refine e_iadd dL_law_934 ?_
  refine e_tald (k := 4) dL_law_935 hT (by omega) (by omega) rfl ?_
  refine e_aload_n rfl dL_law_936 ?_
  refine e_iload_n rfl dL_law_937 ?_
  refine e_iconst dL_law_938 ?_
  refine e_iadd dL_law_939 ?_
  refine e_tald (k := 4) dL_law_940 hT (by omega) (by omega) rfl ?_
  refine e_aload_n rfl dL_law_941 ?_
  refine e_iload_n rfl dL_law_942 ?_
  refine e_iconst dL_law_943 ?_
  refine e_iadd dL_law_944 ?_
  refine e_tald (k := 4) dL_law_945 hT (by omega) (by omega) rfl ?_
  refine eV3R mtX10_right miX10_right lkL_98 dL_law_946 kmh_97 rfl rfl rfl (j_right md ok (hX _) (hX _) (hX _)) (fun r946 h946 n946 hp946 => ?_)
  obtain ⟨hr2, hn2, q2, F2, hh2, md2⟩ := hp946
  subst hr2
  subst hn2
  subst hh2
  dsimp only [Option.toList, List.cons_append, List.nil_append]
  refine e_samel (tgt := 1731) dL_law_949 dL_law_950 (by decide) ?_
  exact kE.less (hk _ _ _ _ _ (rKI_cg z1 (fun j hj => kmh_o (by omega))) md2 ok (by omega)) (by omega) (by omega)
set_option maxHeartbeats 4000000 in
set_option maxRecDepth 100000 in
theorem l_mix {G : kG} {c0 s0 : Nat} {h : Nat → Option kC} {n : Nat} {q : Nat → Int} {F : Nat → Nat → Int} {Z : kCs} {b N : Nat} {X : Nat → Int} {z : Int} {Post : kPo} (g : rSt G) (hT : (gT G)[4]? = some (b, N, fun j => jI (X j))) (hX : ∀ j, inI (X j)) (h0 : 0 ≤ z) (h1 : z + 9 ≤ N) (zz : rKI G (kmh G h q F) Z) (md : rMD q F Z) (ok : kCok Z) (hn : 115 ≤ n) (hk : kLK G c0 s0 b z Post) : kE G mL_law 10 (c0 + 1) (s0 + 4) 955 [some (.ref b), some (.ref (gB G + 0)), some (.ref (gB G + 97)), some (.int (jI z))] [] (kmh G h q F) n Post := by
  refine e_aload_n rfl dL_law_955 ?_
  refine e_aload_n rfl dL_law_956 ?_
  refine e_iload_n rfl dL_law_957 ?_
  refine e_iconst dL_law_958 ?_
  refine e_iadd dL_law_959 ?_
  refine e_tald (k := 4) dL_law_960 hT (by omega) (by omega) rfl ?_
  refine e_aload_n rfl dL_law_961 ?_
  refine e_iload_n rfl dL_law_962 ?_
  refine e_iconst dL_law_963 ?_
  refine e_iadd dL_law_964 ?_
  refine e_tald (k := 4) dL_law_965 hT (by omega) (by omega) rfl ?_
  refine e_aload_n rfl dL_law_966 ?_
  refine e_iload_n rfl dL_law_967 ?_
  refine e_iconst dL_law_968 ?_
  refine e_iadd dL_law_969 ?_
  refine e_tald (k := 4) dL_law_970 hT (by omega) (by omega) rfl ?_
  refine e_aload_n rfl dL_law_971 ?_
  refine e_iload_n rfl dL_law_972 ?_
  refine e_iconst dL_law_973 ?_
  refine e_iadd dL_law_974 ?_
  refine e_tald (k := 4) dL_law_975 hT (by omega) (by omega) rfl ?_
  refine e_aload_n rfl dL_law_976 ?_
  refine e_iload_n rfl dL_law_977 ?_
  refine e_iconst dL_law_978 ?_
  refine e_iadd dL_law_979 ?_
  refine e_tald (k := 4) dL_law_980 hT (by omega) (by omega) rfl ?_
  refine e_aload_n rfl dL_law_981 ?_
  refine e_iload_n rfl dL_law_982 ?_
  refine e_bipush (by decide) dL_law_983 ?_
  refine e_iadd dL_law_985 ?_
  refine e_tald (k := 4) dL_law_986 hT (by omega) (by omega) rfl ?_
  refine eV6X mtX9_mix miX9_mix lkL_99 dL_law_987 zz.1.1 rfl rfl rfl (k_mix g zz ok (by omega) (hX _) (hX _) (hX _) (hX _) (hX _) (hX _)) (fun r987 h987 n987 hp987 => ?_)
  obtain ⟨hr1, z1, k1, n1⟩ := hp987
  subst hr1
  rw [kmh_keep hn k1]
  dsimp only [Option.toList, List.cons_append, List.nil_append]
  refine e_aload_n rfl dL_law_990 ?_
  refine e_aload_n rfl dL_law_991 ?_
  refine e_iload_n rfl dL_law_992 ?_
  refine e_iconst dL_law_993 ?_
  refine e_iadd dL_law_994 ?_
  refine e_tald (k := 4) dL_law_995 hT (by omega) (by omega) rfl ?_
  refine e_aload_n rfl dL_law_996 ?_
  refine e_iload_n rfl dL_law_997 ?_
  refine e_iconst dL_law_998 ?_
  refine e_iadd dL_law_999 ?_
  refine e_tald (k := 4) dL_law_1000 hT (by omega) (by omega) rfl ?_
  refine e_aload_n rfl dL_law_1001 ?_
  refine e_iload_n rfl dL_law_1002 ?_
  refine e_iconst dL_law_1003 ?_
  refine e_iadd dL_law_1004 ?_
  refine e_tald (k := 4) dL_law_1005 hT (by omega) (by omega) rfl ?_
  refine e_aload_n rfl dL_law_1006 ?_
  refine e_iload_n rfl dL_law_1007 ?_
  refine e_iconst dL_law_1008 ?_
  refine e_iadd dL_law_1009 ?_
  refine e_tald (k := 4) dL_law_1010 hT (by omega) (by omega) rfl ?_
  refine e_aload_n rfl dL_law_1011 ?_
  refine e_iload_n rfl dL_law_1012 ?_
  refine e_iconst dL_law_1013 ?_
  refine e_iadd dL_law_1014 ?_
  refine e_tald (k := 4) dL_law_1015 hT (by omega) (by omega) rfl ?_
  refine e_aload_n rfl dL_law_1016 ?_
  refine e_iload_n rfl dL_law_1017 ?_
  refine e_bipush (by decide) dL_law_1018 ?_
  refine e_iadd dL_law_1020 ?_
  refine e_tald (k := 4) dL_law_1021 hT (by omega) (by omega) rfl ?_
  refine eV6R mtX10_mix miX10_mix lkL_102 dL_law_1022 kmh_97 rfl rfl rfl (j_mix md ok (hX _) (hX _) (hX _) (hX _) (hX _) (hX _)) (fun r1022 h1022 n1022 hp1022 => ?_)
  obtain ⟨hr2, hn2, q2, F2, hh2, md2⟩ := hp1022
  subst hr2
  subst hn2
  subst hh2
  dsimp only [Option.toList, List.cons_append, List.nil_append]
  refine e_samel (tgt := 1731) dL_law_1025 dL_law_1026 (by decide) ?_
  exact kE.less (hk _ _ _ _ _ (rKI_cg z1 (fun j hj => kmh_o (by omega))) md2 ok (by omega)) (by omega) (by omega)
set_option maxHeartbeats 4000000 in
set_option maxRecDepth 100000 in
theorem l_fall {G : kG} {c0 s0 : Nat} {h : Nat → Option kC} {n : Nat} {q : Nat → Int} {F : Nat → Nat → Int} {Z : kCs} {b N : Nat} {X : Nat → Int} {z : Int} {Post : kPo} (g : rSt G) (hT : (gT G)[4]? = some (b, N, fun j => jI (X j))) (hX : ∀ j, inI (X j)) (h0 : 0 ≤ z) (h1 : z + 9 ≤ N) (zz : rKI G (kmh G h q F) Z) (md : rMD q F Z) (ok : kCok Z) (hn : 115 ≤ n) (hk : kLK G c0 s0 b z Post) : kE G mL_law 10 (c0 + 1) (s0 + 4) 1031 [some (.ref b), some (.ref (gB G + 0)), some (.ref (gB G + 97)), some (.int (jI z))] [] (kmh G h q F) n Post := by
  refine e_aload_n rfl dL_law_1031 ?_
  refine e_aload_n rfl dL_law_1032 ?_
  refine e_iload_n rfl dL_law_1033 ?_
  refine e_iconst dL_law_1034 ?_
  refine e_iadd dL_law_1035 ?_
  refine e_tald (k := 4) dL_law_1036 hT (by omega) (by omega) rfl ?_
  refine e_aload_n rfl dL_law_1037 ?_
  refine e_iload_n rfl dL_law_1038 ?_
  refine e_iconst dL_law_1039 ?_
  refine e_iadd dL_law_1040 ?_
  refine e_tald (k := 4) dL_law_1041 hT (by omega) (by omega) rfl ?_
  refine e_aload_n rfl dL_law_1042 ?_
  refine e_iload_n rfl dL_law_1043 ?_
  refine e_iconst dL_law_1044 ?_
  refine e_iadd dL_law_1045 ?_
  refine e_tald (k := 4) dL_law_1046 hT (by omega) (by omega) rfl ?_
  refine e_aload_n rfl dL_law_1047 ?_
  refine e_iload_n rfl dL_law_1048 ?_
  refine e_iconst dL_law_1049 ?_
  refine e_iadd dL_law_1050 ?_
  refine e_tald (k := 4) dL_law_1051 hT (by omega) (by omega) rfl ?_
  refine e_aload_n rfl dL_law_1052 ?_
  refine e_iload_n rfl dL_law_1053 ?_
  refine e_iconst dL_law_1054 ?_
  refine e_iadd dL_law_1055 ?_
  refine e_tald (k := 4) dL_law_1056 hT (by omega) (by omega) rfl ?_
  refine e_aload_n rfl dL_law_1057 ?_
  refine e_iload_n rfl dL_law_1058 ?_
  refine e_bipush (by decide) dL_law_1059 ?_
  refine e_iadd dL_law_1061 ?_
  refine e_tald (k := 4) dL_law_1062 hT (by omega) (by omega) rfl ?_
  refine e_aload_n rfl dL_law_1063 ?_
  refine e_iload_n rfl dL_law_1064 ?_
  refine e_bipush (by decide) dL_law_1065 ?_
  refine e_iadd dL_law_1067 ?_
  refine e_tald (k := 4) dL_law_1068 hT (by omega) (by omega) rfl ?_
  refine eV7X mtX9_fall miX9_fall lkL_103 dL_law_1069 zz.1.1 rfl rfl rfl (k_fall g zz ok (by omega) (hX _) (hX _) (hX _) (hX _) (hX _) (hX _) (hX _)) (fun r1069 h1069 n1069 hp1069 => ?_)
  obtain ⟨hr1, z1, k1, n1⟩ := hp1069
  subst hr1
  rw [kmh_keep hn k1]
  dsimp only [Option.toList, List.cons_append, List.nil_append]
  refine e_aload_n rfl dL_law_1072 ?_
  refine e_aload_n rfl dL_law_1073 ?_
  refine e_iload_n rfl dL_law_1074 ?_
  refine e_iconst dL_law_1075 ?_
  refine e_iadd dL_law_1076 ?_
  refine e_tald (k := 4) dL_law_1077 hT (by omega) (by omega) rfl ?_
  refine e_aload_n rfl dL_law_1078 ?_
  refine e_iload_n rfl dL_law_1079 ?_
  refine e_iconst dL_law_1080 ?_
  refine e_iadd dL_law_1081 ?_
  refine e_tald (k := 4) dL_law_1082 hT (by omega) (by omega) rfl ?_
  refine e_aload_n rfl dL_law_1083 ?_
  refine e_iload_n rfl dL_law_1084 ?_
  refine e_iconst dL_law_1085 ?_
  refine e_iadd dL_law_1086 ?_
  refine e_tald (k := 4) dL_law_1087 hT (by omega) (by omega) rfl ?_
  refine e_aload_n rfl dL_law_1088 ?_
  refine e_iload_n rfl dL_law_1089 ?_
  refine e_iconst dL_law_1090 ?_
  refine e_iadd dL_law_1091 ?_
  refine e_tald (k := 4) dL_law_1092 hT (by omega) (by omega) rfl ?_
  refine e_aload_n rfl dL_law_1093 ?_
  refine e_iload_n rfl dL_law_1094 ?_
  refine e_iconst dL_law_1095 ?_
  refine e_iadd dL_law_1096 ?_
  refine e_tald (k := 4) dL_law_1097 hT (by omega) (by omega) rfl ?_
  refine e_aload_n rfl dL_law_1098 ?_
  refine e_iload_n rfl dL_law_1099 ?_
  refine e_bipush (by decide) dL_law_1100 ?_
  refine e_iadd dL_law_1102 ?_
  refine e_tald (k := 4) dL_law_1103 hT (by omega) (by omega) rfl ?_
  refine e_aload_n rfl dL_law_1104 ?_
  refine e_iload_n rfl dL_law_1105 ?_
  refine e_bipush (by decide) dL_law_1106 ?_
  refine e_iadd dL_law_1108 ?_
  refine e_tald (k := 4) dL_law_1109 hT (by omega) (by omega) rfl ?_
  refine eV7R mtX10_fall miX10_fall lkL_107 dL_law_1110 kmh_97 rfl rfl rfl (j_fall md ok (hX _) (hX _) (hX _) (hX _) (hX _) (hX _) (hX _)) (fun r1110 h1110 n1110 hp1110 => ?_)
  obtain ⟨hr2, hn2, q2, F2, hh2, md2⟩ := hp1110
  subst hr2
  subst hn2
  subst hh2
  dsimp only [Option.toList, List.cons_append, List.nil_append]
  refine e_samel (tgt := 1731) dL_law_1113 dL_law_1114 (by decide) ?_
  exact kE.less (hk _ _ _ _ _ (rKI_cg z1 (fun j hj => kmh_o (by omega))) md2 ok (by omega)) (by omega) (by omega)
set_option maxHeartbeats 4000000 in
set_option maxRecDepth 100000 in
theorem l_alone {G : kG} {c0 s0 : Nat} {h : Nat → Option kC} {n : Nat} {q : Nat → Int} {F : Nat → Nat → Int} {Z : kCs} {b N : Nat} {X : Nat → Int} {z : Int} {Post : kPo} (g : rSt G) (hT : (gT G)[4]? = some (b, N, fun j => jI (X j))) (hX : ∀ j, inI (X j)) (h0 : 0 ≤ z) (h1 : z + 9 ≤ N) (zz : rKI G (kmh G h q F) Z) (md : rMD q F Z) (ok : kCok Z) (hn : 115 ≤ n) (hk : kLK G c0 s0 b z Post) : kE G mL_law 10 (c0 + 1) (s0 + 4) 1119 [some (.ref b), some (.ref (gB G + 0)), some (.ref (gB G + 97)), some (.int (jI z))] [] (kmh G h q F) n Post := by
  refine e_aload_n rfl dL_law_1119 ?_
  refine e_aload_n rfl dL_law_1120 ?_
  refine e_iload_n rfl dL_law_1121 ?_
  refine e_iconst dL_law_1122 ?_
  refine e_iadd dL_law_1123 ?_
  refine e_tald (k := 4) dL_law_1124 hT (by omega) (by omega) rfl ?_
  refine e_aload_n rfl dL_law_1125 ?_
  refine e_iload_n rfl dL_law_1126 ?_
  refine e_iconst dL_law_1127 ?_
  refine e_iadd dL_law_1128 ?_
  refine e_tald (k := 4) dL_law_1129 hT (by omega) (by omega) rfl ?_
  refine e_aload_n rfl dL_law_1130 ?_
  refine e_iload_n rfl dL_law_1131 ?_
  refine e_iconst dL_law_1132 ?_
  refine e_iadd dL_law_1133 ?_
  refine e_tald (k := 4) dL_law_1134 hT (by omega) (by omega) rfl ?_
  refine e_aload_n rfl dL_law_1135 ?_
  refine e_iload_n rfl dL_law_1136 ?_
  refine e_iconst dL_law_1137 ?_
  refine e_iadd dL_law_1138 ?_
  refine e_tald (k := 4) dL_law_1139 hT (by omega) (by omega) rfl ?_
  refine e_aload_n rfl dL_law_1140 ?_
  refine e_iload_n rfl dL_law_1141 ?_
  refine e_iconst dL_law_1142 ?_
  refine e_iadd dL_law_1143 ?_
  refine e_tald (k := 4) dL_law_1144 hT (by omega) (by omega) rfl ?_
  refine e_aload_n rfl dL_law_1145 ?_
  refine e_iload_n rfl dL_law_1146 ?_
  refine e_bipush (by decide) dL_law_1147 ?_
  refine e_iadd dL_law_1149 ?_
  refine e_tald (k := 4) dL_law_1150 hT (by omega) (by omega) rfl ?_
  refine e_aload_n rfl dL_law_1151 ?_
  refine e_iload_n rfl dL_law_1152 ?_
  refine e_bipush (by decide) dL_law_1153 ?_
  refine e_iadd dL_law_1155 ?_
  refine e_tald (k := 4) dL_law_1156 hT (by omega) (by omega) rfl ?_
  refine e_aload_n rfl dL_law_1157 ?_
  refine e_iload_n rfl dL_law_1158 ?_
  refine e_bipush (by decide) dL_law_1159 ?_
  refine e_iadd dL_law_1161 ?_
  refine e_tald (k := 4) dL_law_1162 hT (by omega) (by omega) rfl ?_
  refine eV8X mtX9_alone miX9_alone lkL_108 dL_law_1163 zz.1.1 rfl rfl rfl (k_alone g zz ok (by omega) (hX _) (hX _) (hX _) (hX _) (hX _) (hX _) (hX _) (hX _)) (fun r1163 h1163 n1163 hp1163 => ?_)
  obtain ⟨hr1, z1, k1, n1⟩ := hp1163
  subst hr1
  rw [kmh_keep hn k1]
  dsimp only [Option.toList, List.cons_append, List.nil_append]
  refine e_aload_n rfl dL_law_1166 ?_
  refine e_aload_n rfl dL_law_1167 ?_
  refine e_iload_n rfl dL_law_1168 ?_
  refine e_iconst dL_law_1169 ?_
  refine e_iadd dL_law_1170 ?_
  refine e_tald (k := 4) dL_law_1171 hT (by omega) (by omega) rfl ?_
  refine e_aload_n rfl dL_law_1172 ?_
  refine e_iload_n rfl dL_law_1173 ?_
  refine e_iconst dL_law_1174 ?_
  refine e_iadd dL_law_1175 ?_
  refine e_tald (k := 4) dL_law_1176 hT (by omega) (by omega) rfl ?_
  refine e_aload_n rfl dL_law_1177 ?_
  refine e_iload_n rfl dL_law_1178 ?_
  refine e_iconst dL_law_1179 ?_
  refine e_iadd dL_law_1180 ?_
  refine e_tald (k := 4) dL_law_1181 hT (by omega) (by omega) rfl ?_
  refine e_aload_n rfl dL_law_1182 ?_
  refine e_iload_n rfl dL_law_1183 ?_
  refine e_iconst dL_law_1184 ?_
  refine e_iadd dL_law_1185 ?_
  refine e_tald (k := 4) dL_law_1186 hT (by omega) (by omega) rfl ?_
  refine e_aload_n rfl dL_law_1187 ?_
  refine e_iload_n rfl dL_law_1188 ?_
  refine e_iconst dL_law_1189 ?_
  refine e_iadd dL_law_1190 ?_
  refine e_tald (k := 4) dL_law_1191 hT (by omega) (by omega) rfl ?_
  refine e_aload_n rfl dL_law_1192 ?_
  refine e_iload_n rfl dL_law_1193 ?_
  refine e_bipush (by decide) dL_law_1194 ?_
  refine e_iadd dL_law_1196 ?_
  refine e_tald (k := 4) dL_law_1197 hT (by omega) (by omega) rfl ?_
  refine e_aload_n rfl dL_law_1198 ?_
  refine e_iload_n rfl dL_law_1199 ?_
  refine e_bipush (by decide) dL_law_1200 ?_
  refine e_iadd dL_law_1202 ?_
  refine e_tald (k := 4) dL_law_1203 hT (by omega) (by omega) rfl ?_
  refine e_aload_n rfl dL_law_1204 ?_
  refine e_iload_n rfl dL_law_1205 ?_
  refine e_bipush (by decide) dL_law_1206 ?_
  refine e_iadd dL_law_1208 ?_
  refine e_tald (k := 4) dL_law_1209 hT (by omega) (by omega) rfl ?_
  refine eV8R mtX10_alone miX10_alone lkL_112 dL_law_1210 kmh_97 rfl rfl rfl (j_alone md ok (hX _) (hX _) (hX _) (hX _) (hX _) (hX _) (hX _) (hX _)) (fun r1210 h1210 n1210 hp1210 => ?_)
  obtain ⟨hr2, hn2, q2, F2, hh2, md2⟩ := hp1210
  subst hr2
  subst hn2
  subst hh2
  dsimp only [Option.toList, List.cons_append, List.nil_append]
  refine e_samel (tgt := 1731) dL_law_1213 dL_law_1214 (by decide) ?_
  exact kE.less (hk _ _ _ _ _ (rKI_cg z1 (fun j hj => kmh_o (by omega))) md2 ok (by omega)) (by omega) (by omega)
set_option maxHeartbeats 4000000 in
set_option maxRecDepth 100000 in
theorem l_mean {G : kG} {c0 s0 : Nat} {h : Nat → Option kC} {n : Nat} {q : Nat → Int} {F : Nat → Nat → Int} {Z : kCs} {b N : Nat} {X : Nat → Int} {z : Int} {Post : kPo} (g : rSt G) (hT : (gT G)[4]? = some (b, N, fun j => jI (X j))) (hX : ∀ j, inI (X j)) (h0 : 0 ≤ z) (h1 : z + 9 ≤ N) (zz : rKI G (kmh G h q F) Z) (md : rMD q F Z) (ok : kCok Z) (hn : 115 ≤ n) (hk : kLK G c0 s0 b z Post) : kE G mL_law 10 (c0 + 1) (s0 + 4) 1219 [some (.ref b), some (.ref (gB G + 0)), some (.ref (gB G + 97)), some (.int (jI z))] [] (kmh G h q F) n Post := by
  refine e_aload_n rfl dL_law_1219 ?_
  refine e_aload_n rfl dL_law_1220 ?_
  refine e_iload_n rfl dL_law_1221 ?_
  refine e_iconst dL_law_1222 ?_
  refine e_iadd dL_law_1223 ?_
  refine e_tald (k := 4) dL_law_1224 hT (by omega) (by omega) rfl ?_
  refine e_aload_n rfl dL_law_1225 ?_
  refine e_iload_n rfl dL_law_1226 ?_
  refine e_iconst dL_law_1227 ?_
  refine e_iadd dL_law_1228 ?_
  refine e_tald (k := 4) dL_law_1229 hT (by omega) (by omega) rfl ?_
  refine eV2R mtX9_mean miX9_mean lkL_113 dL_law_1230 zz.1.1 rfl rfl rfl (k_mean g zz ok (hX _) (hX _)) (fun r1230 h1230 n1230 hp1230 => ?_)
  obtain ⟨hr1, z1, k1, n1⟩ := hp1230
  subst hr1
  rw [kmh_keep hn k1]
  dsimp only [Option.toList, List.cons_append, List.nil_append]
  refine e_aload_n rfl dL_law_1233 ?_
  refine e_aload_n rfl dL_law_1234 ?_
  refine e_iload_n rfl dL_law_1235 ?_
  refine e_iconst dL_law_1236 ?_
  refine e_iadd dL_law_1237 ?_
  refine e_tald (k := 4) dL_law_1238 hT (by omega) (by omega) rfl ?_
  refine e_aload_n rfl dL_law_1239 ?_
  refine e_iload_n rfl dL_law_1240 ?_
  refine e_iconst dL_law_1241 ?_
  refine e_iadd dL_law_1242 ?_
  refine e_tald (k := 4) dL_law_1243 hT (by omega) (by omega) rfl ?_
  refine eV2R mtX10_mean miX10_mean lkL_116 dL_law_1244 kmh_97 rfl rfl rfl (j_mean md ok (hX _) (hX _)) (fun r1244 h1244 n1244 hp1244 => ?_)
  obtain ⟨hr2, hn2, q2, F2, hh2, md2⟩ := hp1244
  subst hr2
  subst hn2
  subst hh2
  dsimp only [Option.toList, List.cons_append, List.nil_append]
  refine e_samel (tgt := 1731) dL_law_1247 dL_law_1248 (by decide) ?_
  exact kE.less (hk _ _ _ _ _ (rKI_cg z1 (fun j hj => kmh_o (by omega))) md2 ok (by omega)) (by omega) (by omega)
set_option maxHeartbeats 4000000 in
set_option maxRecDepth 100000 in
theorem l_mode {G : kG} {c0 s0 : Nat} {h : Nat → Option kC} {n : Nat} {q : Nat → Int} {F : Nat → Nat → Int} {Z : kCs} {b N : Nat} {X : Nat → Int} {z : Int} {Post : kPo} (g : rSt G) (hT : (gT G)[4]? = some (b, N, fun j => jI (X j))) (hX : ∀ j, inI (X j)) (h0 : 0 ≤ z) (h1 : z + 9 ≤ N) (zz : rKI G (kmh G h q F) Z) (md : rMD q F Z) (ok : kCok Z) (hn : 115 ≤ n) (hk : kLK G c0 s0 b z Post) : kE G mL_law 10 (c0 + 1) (s0 + 4) 1253 [some (.ref b), some (.ref (gB G + 0)), some (.ref (gB G + 97)), some (.int (jI z))] [] (kmh G h q F) n Post := by
  refine e_aload_n rfl dL_law_1253 ?_
  refine e_aload_n rfl dL_law_1254 ?_
  refine e_iload_n rfl dL_law_1255 ?_
  refine e_iconst dL_law_1256 ?_
  refine e_iadd dL_law_1257 ?_
  refine e_tald (k := 4) dL_law_1258 hT (by omega) (by omega) rfl ?_
  refine eV1R mtX9_mode miX9_mode lkL_117 dL_law_1259 zz.1.1 rfl rfl rfl (k_mode g zz ok (hX _)) (fun r1259 h1259 n1259 hp1259 => ?_)
  obtain ⟨hr1, z1, k1, n1⟩ := hp1259
  subst hr1
  rw [kmh_keep hn k1]
  dsimp only [Option.toList, List.cons_append, List.nil_append]
  refine e_aload_n rfl dL_law_1262 ?_
  refine e_aload_n rfl dL_law_1263 ?_
  refine e_iload_n rfl dL_law_1264 ?_
  refine e_iconst dL_law_1265 ?_
  refine e_iadd dL_law_1266 ?_
  refine e_tald (k := 4) dL_law_1267 hT (by omega) (by omega) rfl ?_
  refine eV1R mtX10_mode miX10_mode lkL_120 dL_law_1268 kmh_97 rfl rfl rfl (j_mode md ok (hX _)) (fun r1268 h1268 n1268 hp1268 => ?_)
  obtain ⟨hr2, hn2, q2, F2, hh2, md2⟩ := hp1268
  subst hr2
  subst hn2
  subst hh2
  dsimp only [Option.toList, List.cons_append, List.nil_append]
  refine e_same (tgt := 1731) dL_law_1271 (by decide) ?_
  exact kE.less (hk _ _ _ _ _ (rKI_cg z1 (fun j hj => kmh_o (by omega))) md2 ok (by omega)) (by omega) (by omega)
set_option maxHeartbeats 4000000 in
set_option maxRecDepth 100000 in
theorem l_about {G : kG} {c0 s0 : Nat} {h : Nat → Option kC} {n : Nat} {q : Nat → Int} {F : Nat → Nat → Int} {Z : kCs} {b N : Nat} {X : Nat → Int} {z : Int} {Post : kPo} (g : rSt G) (hT : (gT G)[4]? = some (b, N, fun j => jI (X j))) (hX : ∀ j, inI (X j)) (h0 : 0 ≤ z) (h1 : z + 9 ≤ N) (zz : rKI G (kmh G h q F) Z) (md : rMD q F Z) (ok : kCok Z) (hn : 115 ≤ n) (hk : kLK G c0 s0 b z Post) : kE G mL_law 10 (c0 + 1) (s0 + 4) 1276 [some (.ref b), some (.ref (gB G + 0)), some (.ref (gB G + 97)), some (.int (jI z))] [] (kmh G h q F) n Post := by
  refine e_aload_n rfl dL_law_1276 ?_
  refine e_aload_n rfl dL_law_1277 ?_
  refine e_iload_n rfl dL_law_1278 ?_
  refine e_iconst dL_law_1279 ?_
  refine e_iadd dL_law_1280 ?_
  refine e_tald (k := 4) dL_law_1281 hT (by omega) (by omega) rfl ?_
  refine e_aload_n rfl dL_law_1282 ?_
  refine e_iload_n rfl dL_law_1283 ?_
  refine e_iconst dL_law_1284 ?_
  refine e_iadd dL_law_1285 ?_
  refine e_tald (k := 4) dL_law_1286 hT (by omega) (by omega) rfl ?_
  refine e_aload_n rfl dL_law_1287 ?_
  refine e_iload_n rfl dL_law_1288 ?_
  refine e_iconst dL_law_1289 ?_
  refine e_iadd dL_law_1290 ?_
  refine e_tald (k := 4) dL_law_1291 hT (by omega) (by omega) rfl ?_
  refine e_aload_n rfl dL_law_1292 ?_
  refine e_iload_n rfl dL_law_1293 ?_
  refine e_iconst dL_law_1294 ?_
  refine e_iadd dL_law_1295 ?_
  refine e_tald (k := 4) dL_law_1296 hT (by omega) (by omega) rfl ?_
  refine eV4R mtX9_about miX9_about lkL_121 dL_law_1297 zz.1.1 rfl rfl rfl (k_about g zz ok (hX _) (hX _) (hX _) (hX _)) (fun r1297 h1297 n1297 hp1297 => ?_)
  obtain ⟨hr1, z1, k1, n1⟩ := hp1297
  subst hr1
  rw [kmh_keep hn k1]
  dsimp only [Option.toList, List.cons_append, List.nil_append]
  refine e_aload_n rfl dL_law_1300 ?_
  refine e_aload_n rfl dL_law_1301 ?_
  refine e_iload_n rfl dL_law_1302 ?_
  refine e_iconst dL_law_1303 ?_
  refine e_iadd dL_law_1304 ?_
  refine e_tald (k := 4) dL_law_1305 hT (by omega) (by omega) rfl ?_
  refine e_aload_n rfl dL_law_1306 ?_
  refine e_iload_n rfl dL_law_1307 ?_
  refine e_iconst dL_law_1308 ?_
  refine e_iadd dL_law_1309 ?_
  refine e_tald (k := 4) dL_law_1310 hT (by omega) (by omega) rfl ?_
  refine e_aload_n rfl dL_law_1311 ?_
  refine e_iload_n rfl dL_law_1312 ?_
  refine e_iconst dL_law_1313 ?_
  refine e_iadd dL_law_1314 ?_
  refine e_tald (k := 4) dL_law_1315 hT (by omega) (by omega) rfl ?_
  refine e_aload_n rfl dL_law_1316 ?_
  refine e_iload_n rfl dL_law_1317 ?_
  refine e_iconst dL_law_1318 ?_
  refine e_iadd dL_law_1319 ?_
  refine e_tald (k := 4) dL_law_1320 hT (by omega) (by omega) rfl ?_
  refine eV4R mtX10_about miX10_about lkL_124 dL_law_1321 kmh_97 rfl rfl rfl (j_about md ok (hX _) (hX _) (hX _) (hX _)) (fun r1321 h1321 n1321 hp1321 => ?_)
  obtain ⟨hr2, hn2, q2, F2, hh2, md2⟩ := hp1321
  subst hr2
  subst hn2
  subst hh2
  dsimp only [Option.toList, List.cons_append, List.nil_append]
  refine e_samel (tgt := 1731) dL_law_1324 dL_law_1325 (by decide) ?_
  exact kE.less (hk _ _ _ _ _ (rKI_cg z1 (fun j hj => kmh_o (by omega))) md2 ok (by omega)) (by omega) (by omega)
set_option maxHeartbeats 4000000 in
set_option maxRecDepth 100000 in
theorem l_beside {G : kG} {c0 s0 : Nat} {h : Nat → Option kC} {n : Nat} {q : Nat → Int} {F : Nat → Nat → Int} {Z : kCs} {b N : Nat} {X : Nat → Int} {z : Int} {Post : kPo} (g : rSt G) (hT : (gT G)[4]? = some (b, N, fun j => jI (X j))) (hX : ∀ j, inI (X j)) (h0 : 0 ≤ z) (h1 : z + 9 ≤ N) (zz : rKI G (kmh G h q F) Z) (md : rMD q F Z) (ok : kCok Z) (hn : 115 ≤ n) (hk : kLK G c0 s0 b z Post) : kE G mL_law 10 (c0 + 1) (s0 + 4) 1330 [some (.ref b), some (.ref (gB G + 0)), some (.ref (gB G + 97)), some (.int (jI z))] [] (kmh G h q F) n Post := by
  refine e_aload_n rfl dL_law_1330 ?_
  refine e_aload_n rfl dL_law_1331 ?_
  refine e_iload_n rfl dL_law_1332 ?_
  refine e_iconst dL_law_1333 ?_
  refine e_iadd dL_law_1334 ?_
  refine e_tald (k := 4) dL_law_1335 hT (by omega) (by omega) rfl ?_
  refine e_aload_n rfl dL_law_1336 ?_
  refine e_iload_n rfl dL_law_1337 ?_
  refine e_iconst dL_law_1338 ?_
  refine e_iadd dL_law_1339 ?_
  refine e_tald (k := 4) dL_law_1340 hT (by omega) (by omega) rfl ?_
  refine e_aload_n rfl dL_law_1341 ?_
  refine e_iload_n rfl dL_law_1342 ?_
  refine e_iconst dL_law_1343 ?_
  refine e_iadd dL_law_1344 ?_
  refine e_tald (k := 4) dL_law_1345 hT (by omega) (by omega) rfl ?_
  refine e_aload_n rfl dL_law_1346 ?_
  refine e_iload_n rfl dL_law_1347 ?_
  refine e_iconst dL_law_1348 ?_
  refine e_iadd dL_law_1349 ?_
  refine e_tald (k := 4) dL_law_1350 hT (by omega) (by omega) rfl ?_
  refine eV4R mtX9_beside miX9_beside lkL_125 dL_law_1351 zz.1.1 rfl rfl rfl (k_beside g zz ok (hX _) (hX _) (hX _) (hX _)) (fun r1351 h1351 n1351 hp1351 => ?_)
  obtain ⟨hr1, z1, k1, n1⟩ := hp1351
  subst hr1
  rw [kmh_keep hn k1]
  dsimp only [Option.toList, List.cons_append, List.nil_append]
  refine e_aload_n rfl dL_law_1354 ?_
  refine e_aload_n rfl dL_law_1355 ?_
  refine e_iload_n rfl dL_law_1356 ?_
  refine e_iconst dL_law_1357 ?_
  refine e_iadd dL_law_1358 ?_
  refine e_tald (k := 4) dL_law_1359 hT (by omega) (by omega) rfl ?_
  refine e_aload_n rfl dL_law_1360 ?_
  refine e_iload_n rfl dL_law_1361 ?_
  refine e_iconst dL_law_1362 ?_
  refine e_iadd dL_law_1363 ?_
  refine e_tald (k := 4) dL_law_1364 hT (by omega) (by omega) rfl ?_
  refine e_aload_n rfl dL_law_1365 ?_
  refine e_iload_n rfl dL_law_1366 ?_
  refine e_iconst dL_law_1367 ?_
  refine e_iadd dL_law_1368 ?_
  refine e_tald (k := 4) dL_law_1369 hT (by omega) (by omega) rfl ?_
  refine e_aload_n rfl dL_law_1370 ?_
  refine e_iload_n rfl dL_law_1371 ?_
  refine e_iconst dL_law_1372 ?_
  refine e_iadd dL_law_1373 ?_
  refine e_tald (k := 4) dL_law_1374 hT (by omega) (by omega) rfl ?_
  refine eV4R mtX10_beside miX10_beside lkL_128 dL_law_1375 kmh_97 rfl rfl rfl (j_beside md ok (hX _) (hX _) (hX _) (hX _)) (fun r1375 h1375 n1375 hp1375 => ?_)
  obtain ⟨hr2, hn2, q2, F2, hh2, md2⟩ := hp1375
  subst hr2
  subst hn2
  subst hh2
  dsimp only [Option.toList, List.cons_append, List.nil_append]
  refine e_samel (tgt := 1731) dL_law_1378 dL_law_1379 (by decide) ?_
  exact kE.less (hk _ _ _ _ _ (rKI_cg z1 (fun j hj => kmh_o (by omega))) md2 ok (by omega)) (by omega) (by omega)
set_option maxHeartbeats 4000000 in
set_option maxRecDepth 100000 in
theorem l_shorter {G : kG} {c0 s0 : Nat} {h : Nat → Option kC} {n : Nat} {q : Nat → Int} {F : Nat → Nat → Int} {Z : kCs} {b N : Nat} {X : Nat → Int} {z : Int} {Post : kPo} (g : rSt G) (hT : (gT G)[4]? = some (b, N, fun j => jI (X j))) (hX : ∀ j, inI (X j)) (h0 : 0 ≤ z) (h1 : z + 9 ≤ N) (zz : rKI G (kmh G h q F) Z) (md : rMD q F Z) (ok : kCok Z) (hn : 115 ≤ n) (hk : kLK G c0 s0 b z Post) : kE G mL_law 10 (c0 + 1) (s0 + 4) 1384 [some (.ref b), some (.ref (gB G + 0)), some (.ref (gB G + 97)), some (.int (jI z))] [] (kmh G h q F) n Post := by
  refine e_aload_n rfl dL_law_1384 ?_
  refine e_aload_n rfl dL_law_1385 ?_
  refine e_iload_n rfl dL_law_1386 ?_
  refine e_iconst dL_law_1387 ?_
  refine e_iadd dL_law_1388 ?_
  refine e_tald (k := 4) dL_law_1389 hT (by omega) (by omega) rfl ?_
  refine e_aload_n rfl dL_law_1390 ?_
  refine e_iload_n rfl dL_law_1391 ?_
  refine e_iconst dL_law_1392 ?_
  refine e_iadd dL_law_1393 ?_
  refine e_tald (k := 4) dL_law_1394 hT (by omega) (by omega) rfl ?_
  refine e_aload_n rfl dL_law_1395 ?_
  refine e_iload_n rfl dL_law_1396 ?_
  refine e_iconst dL_law_1397 ?_
  refine e_iadd dL_law_1398 ?_
  refine e_tald (k := 4) dL_law_1399 hT (by omega) (by omega) rfl ?_
  refine e_aload_n rfl dL_law_1400 ?_
  refine e_iload_n rfl dL_law_1401 ?_
  refine e_iconst dL_law_1402 ?_
  refine e_iadd dL_law_1403 ?_
  refine e_tald (k := 4) dL_law_1404 hT (by omega) (by omega) rfl ?_
  refine eV4R mtX9_shorter miX9_shorter lkL_129 dL_law_1405 zz.1.1 rfl rfl rfl (k_shorter g zz ok (hX _) (hX _) (hX _) (hX _)) (fun r1405 h1405 n1405 hp1405 => ?_)
  obtain ⟨hr1, z1, k1, n1⟩ := hp1405
  subst hr1
  rw [kmh_keep hn k1]
  dsimp only [Option.toList, List.cons_append, List.nil_append]
  refine e_aload_n rfl dL_law_1408 ?_
  refine e_aload_n rfl dL_law_1409 ?_
  refine e_iload_n rfl dL_law_1410 ?_
  refine e_iconst dL_law_1411 ?_
  refine e_iadd dL_law_1412 ?_
  refine e_tald (k := 4) dL_law_1413 hT (by omega) (by omega) rfl ?_
  refine e_aload_n rfl dL_law_1414 ?_
  refine e_iload_n rfl dL_law_1415 ?_
  refine e_iconst dL_law_1416 ?_
  refine e_iadd dL_law_1417 ?_
  refine e_tald (k := 4) dL_law_1418 hT (by omega) (by omega) rfl ?_
  refine e_aload_n rfl dL_law_1419 ?_
  refine e_iload_n rfl dL_law_1420 ?_
  refine e_iconst dL_law_1421 ?_
  refine e_iadd dL_law_1422 ?_
  refine e_tald (k := 4) dL_law_1423 hT (by omega) (by omega) rfl ?_
  refine e_aload_n rfl dL_law_1424 ?_
  refine e_iload_n rfl dL_law_1425 ?_
  refine e_iconst dL_law_1426 ?_
  refine e_iadd dL_law_1427 ?_
  refine e_tald (k := 4) dL_law_1428 hT (by omega) (by omega) rfl ?_
  refine eV4R mtX10_shorter miX10_shorter lkL_132 dL_law_1429 kmh_97 rfl rfl rfl (j_shorter md ok (hX _) (hX _) (hX _) (hX _)) (fun r1429 h1429 n1429 hp1429 => ?_)
  obtain ⟨hr2, hn2, q2, F2, hh2, md2⟩ := hp1429
  subst hr2
  subst hn2
  subst hh2
  dsimp only [Option.toList, List.cons_append, List.nil_append]
  refine e_same (tgt := 1731) dL_law_1432 (by decide) ?_
  exact kE.less (hk _ _ _ _ _ (rKI_cg z1 (fun j hj => kmh_o (by omega))) md2 ok (by omega)) (by omega) (by omega)
set_option maxHeartbeats 4000000 in
set_option maxRecDepth 100000 in
theorem l_make {G : kG} {c0 s0 : Nat} {h : Nat → Option kC} {n : Nat} {q : Nat → Int} {F : Nat → Nat → Int} {Z : kCs} {b N : Nat} {X : Nat → Int} {z : Int} {Post : kPo} (g : rSt G) (hT : (gT G)[4]? = some (b, N, fun j => jI (X j))) (hX : ∀ j, inI (X j)) (h0 : 0 ≤ z) (h1 : z + 9 ≤ N) (zz : rKI G (kmh G h q F) Z) (md : rMD q F Z) (ok : kCok Z) (hn : 115 ≤ n) (hk : kLK G c0 s0 b z Post) : kE G mL_law 10 (c0 + 1) (s0 + 4) 1437 [some (.ref b), some (.ref (gB G + 0)), some (.ref (gB G + 97)), some (.int (jI z))] [] (kmh G h q F) n Post := by
  refine e_aload_n rfl dL_law_1437 ?_
  refine e_aload_n rfl dL_law_1438 ?_
  refine e_iload_n rfl dL_law_1439 ?_
  refine e_iconst dL_law_1440 ?_
  refine e_iadd dL_law_1441 ?_
  refine e_tald (k := 4) dL_law_1442 hT (by omega) (by omega) rfl ?_
  refine e_aload_n rfl dL_law_1443 ?_
  refine e_iload_n rfl dL_law_1444 ?_
  refine e_iconst dL_law_1445 ?_
  refine e_iadd dL_law_1446 ?_
  refine e_tald (k := 4) dL_law_1447 hT (by omega) (by omega) rfl ?_
  refine e_aload_n rfl dL_law_1448 ?_
  refine e_iload_n rfl dL_law_1449 ?_
  refine e_iconst dL_law_1450 ?_
  refine e_iadd dL_law_1451 ?_
  refine e_tald (k := 4) dL_law_1452 hT (by omega) (by omega) rfl ?_
  refine e_aload_n rfl dL_law_1453 ?_
  refine e_iload_n rfl dL_law_1454 ?_
  refine e_iconst dL_law_1455 ?_
  refine e_iadd dL_law_1456 ?_
  refine e_tald (k := 4) dL_law_1457 hT (by omega) (by omega) rfl ?_
  refine e_aload_n rfl dL_law_1458 ?_
  refine e_iload_n rfl dL_law_1459 ?_
  refine e_iconst dL_law_1460 ?_
  refine e_iadd dL_law_1461 ?_
  refine e_tald (k := 4) dL_law_1462 hT (by omega) (by omega) rfl ?_
  refine eV5R mtX9_make miX9_make lkL_133 dL_law_1463 zz.1.1 rfl rfl rfl (k_make g zz ok (hX _) (hX _) (hX _) (hX _) (hX _)) (fun r1463 h1463 n1463 hp1463 => ?_)
  obtain ⟨hr1, z1, k1, n1⟩ := hp1463
  subst hr1
  rw [kmh_keep hn k1]
  dsimp only [Option.toList, List.cons_append, List.nil_append]
  refine e_aload_n rfl dL_law_1466 ?_
  refine e_aload_n rfl dL_law_1467 ?_
  refine e_iload_n rfl dL_law_1468 ?_
  refine e_iconst dL_law_1469 ?_
  refine e_iadd dL_law_1470 ?_
  refine e_tald (k := 4) dL_law_1471 hT (by omega) (by omega) rfl ?_
  refine e_aload_n rfl dL_law_1472 ?_
  refine e_iload_n rfl dL_law_1473 ?_
  refine e_iconst dL_law_1474 ?_
  refine e_iadd dL_law_1475 ?_
  refine e_tald (k := 4) dL_law_1476 hT (by omega) (by omega) rfl ?_
  refine e_aload_n rfl dL_law_1477 ?_
  refine e_iload_n rfl dL_law_1478 ?_
  refine e_iconst dL_law_1479 ?_
  refine e_iadd dL_law_1480 ?_
  refine e_tald (k := 4) dL_law_1481 hT (by omega) (by omega) rfl ?_
  refine e_aload_n rfl dL_law_1482 ?_
  refine e_iload_n rfl dL_law_1483 ?_
  refine e_iconst dL_law_1484 ?_
  refine e_iadd dL_law_1485 ?_
  refine e_tald (k := 4) dL_law_1486 hT (by omega) (by omega) rfl ?_
  refine e_aload_n rfl dL_law_1487 ?_
  refine e_iload_n rfl dL_law_1488 ?_
  refine e_iconst dL_law_1489 ?_
  refine e_iadd dL_law_1490 ?_
  refine e_tald (k := 4) dL_law_1491 hT (by omega) (by omega) rfl ?_
  refine eV5R mtX10_make miX10_make lkL_137 dL_law_1492 kmh_97 rfl rfl rfl (j_make md ok (hX _) (hX _) (hX _) (hX _) (hX _)) (fun r1492 h1492 n1492 hp1492 => ?_)
  obtain ⟨hr2, hn2, q2, F2, hh2, md2⟩ := hp1492
  subst hr2
  subst hn2
  subst hh2
  dsimp only [Option.toList, List.cons_append, List.nil_append]
  refine e_same (tgt := 1731) dL_law_1495 (by decide) ?_
  exact kE.less (hk _ _ _ _ _ (rKI_cg z1 (fun j hj => kmh_o (by omega))) md2 (ok_make ok _ _ _ _ _) (by omega)) (by omega) (by omega)
set_option maxHeartbeats 4000000 in
set_option maxRecDepth 100000 in
theorem l_off {G : kG} {c0 s0 : Nat} {h : Nat → Option kC} {n : Nat} {q : Nat → Int} {F : Nat → Nat → Int} {Z : kCs} {b N : Nat} {X : Nat → Int} {z : Int} {Post : kPo} (g : rSt G) (hT : (gT G)[4]? = some (b, N, fun j => jI (X j))) (hX : ∀ j, inI (X j)) (h0 : 0 ≤ z) (h1 : z + 9 ≤ N) (zz : rKI G (kmh G h q F) Z) (md : rMD q F Z) (ok : kCok Z) (hn : 115 ≤ n) (hk : kLK G c0 s0 b z Post) : kE G mL_law 10 (c0 + 1) (s0 + 4) 1500 [some (.ref b), some (.ref (gB G + 0)), some (.ref (gB G + 97)), some (.int (jI z))] [] (kmh G h q F) n Post := by
  refine e_aload_n rfl dL_law_1500 ?_
  refine e_aload_n rfl dL_law_1501 ?_
  refine e_iload_n rfl dL_law_1502 ?_
  refine e_iconst dL_law_1503 ?_
  refine e_iadd dL_law_1504 ?_
  refine e_tald (k := 4) dL_law_1505 hT (by omega) (by omega) rfl ?_
  refine e_aload_n rfl dL_law_1506 ?_
  refine e_iload_n rfl dL_law_1507 ?_
  refine e_iconst dL_law_1508 ?_
  refine e_iadd dL_law_1509 ?_
  refine e_tald (k := 4) dL_law_1510 hT (by omega) (by omega) rfl ?_
  refine e_aload_n rfl dL_law_1511 ?_
  refine e_iload_n rfl dL_law_1512 ?_
  refine e_iconst dL_law_1513 ?_
  refine e_iadd dL_law_1514 ?_
  refine e_tald (k := 4) dL_law_1515 hT (by omega) (by omega) rfl ?_
  refine e_aload_n rfl dL_law_1516 ?_
  refine e_iload_n rfl dL_law_1517 ?_
  refine e_iconst dL_law_1518 ?_
  refine e_iadd dL_law_1519 ?_
  refine e_tald (k := 4) dL_law_1520 hT (by omega) (by omega) rfl ?_
  refine e_aload_n rfl dL_law_1521 ?_
  refine e_iload_n rfl dL_law_1522 ?_
  refine e_iconst dL_law_1523 ?_
  refine e_iadd dL_law_1524 ?_
  refine e_tald (k := 4) dL_law_1525 hT (by omega) (by omega) rfl ?_
  refine e_aload_n rfl dL_law_1526 ?_
  refine e_iload_n rfl dL_law_1527 ?_
  refine e_bipush (by decide) dL_law_1528 ?_
  refine e_iadd dL_law_1530 ?_
  refine e_tald (k := 4) dL_law_1531 hT (by omega) (by omega) rfl ?_
  refine e_aload_n rfl dL_law_1532 ?_
  refine e_iload_n rfl dL_law_1533 ?_
  refine e_bipush (by decide) dL_law_1534 ?_
  refine e_iadd dL_law_1536 ?_
  refine e_tald (k := 4) dL_law_1537 hT (by omega) (by omega) rfl ?_
  refine eV7R mtX9_off miX9_off lkL_138 dL_law_1538 zz.1.1 rfl rfl rfl (k_off g zz ok (hX _) (hX _) (hX _) (hX _) (hX _) (hX _) (hX _)) (fun r1538 h1538 n1538 hp1538 => ?_)
  obtain ⟨hr1, z1, k1, n1⟩ := hp1538
  subst hr1
  rw [kmh_keep hn k1]
  dsimp only [Option.toList, List.cons_append, List.nil_append]
  refine e_aload_n rfl dL_law_1541 ?_
  refine e_aload_n rfl dL_law_1542 ?_
  refine e_iload_n rfl dL_law_1543 ?_
  refine e_iconst dL_law_1544 ?_
  refine e_iadd dL_law_1545 ?_
  refine e_tald (k := 4) dL_law_1546 hT (by omega) (by omega) rfl ?_
  refine e_aload_n rfl dL_law_1547 ?_
  refine e_iload_n rfl dL_law_1548 ?_
  refine e_iconst dL_law_1549 ?_
  refine e_iadd dL_law_1550 ?_
  refine e_tald (k := 4) dL_law_1551 hT (by omega) (by omega) rfl ?_
  refine e_aload_n rfl dL_law_1552 ?_
  refine e_iload_n rfl dL_law_1553 ?_
  refine e_iconst dL_law_1554 ?_
  refine e_iadd dL_law_1555 ?_
  refine e_tald (k := 4) dL_law_1556 hT (by omega) (by omega) rfl ?_
  refine e_aload_n rfl dL_law_1557 ?_
  refine e_iload_n rfl dL_law_1558 ?_
  refine e_iconst dL_law_1559 ?_
  refine e_iadd dL_law_1560 ?_
  refine e_tald (k := 4) dL_law_1561 hT (by omega) (by omega) rfl ?_
  refine e_aload_n rfl dL_law_1562 ?_
  refine e_iload_n rfl dL_law_1563 ?_
  refine e_iconst dL_law_1564 ?_
  refine e_iadd dL_law_1565 ?_
  refine e_tald (k := 4) dL_law_1566 hT (by omega) (by omega) rfl ?_
  refine e_aload_n rfl dL_law_1567 ?_
  refine e_iload_n rfl dL_law_1568 ?_
  refine e_bipush (by decide) dL_law_1569 ?_
  refine e_iadd dL_law_1571 ?_
  refine e_tald (k := 4) dL_law_1572 hT (by omega) (by omega) rfl ?_
  refine e_aload_n rfl dL_law_1573 ?_
  refine e_iload_n rfl dL_law_1574 ?_
  refine e_bipush (by decide) dL_law_1575 ?_
  refine e_iadd dL_law_1577 ?_
  refine e_tald (k := 4) dL_law_1578 hT (by omega) (by omega) rfl ?_
  refine eV7R mtX10_off miX10_off lkL_142 dL_law_1579 kmh_97 rfl rfl rfl (j_off md ok (hX _) (hX _) (hX _) (hX _) (hX _) (hX _) (hX _)) (fun r1579 h1579 n1579 hp1579 => ?_)
  obtain ⟨hr2, hn2, q2, F2, hh2, md2⟩ := hp1579
  subst hr2
  subst hn2
  subst hh2
  dsimp only [Option.toList, List.cons_append, List.nil_append]
  refine e_same (tgt := 1731) dL_law_1582 (by decide) ?_
  exact kE.less (hk _ _ _ _ _ (rKI_cg z1 (fun j hj => kmh_o (by omega))) md2 ok (by omega)) (by omega) (by omega)
set_option maxHeartbeats 4000000 in
set_option maxRecDepth 100000 in
theorem l_best {G : kG} {c0 s0 : Nat} {h : Nat → Option kC} {n : Nat} {q : Nat → Int} {F : Nat → Nat → Int} {Z : kCs} {b N : Nat} {X : Nat → Int} {z : Int} {Post : kPo} (g : rSt G) (hT : (gT G)[4]? = some (b, N, fun j => jI (X j))) (hX : ∀ j, inI (X j)) (h0 : 0 ≤ z) (h1 : z + 9 ≤ N) (zz : rKI G (kmh G h q F) Z) (md : rMD q F Z) (ok : kCok Z) (hn : 115 ≤ n) (hk : kLK G c0 s0 b z Post) : kE G mL_law 10 (c0 + 1) (s0 + 4) 1587 [some (.ref b), some (.ref (gB G + 0)), some (.ref (gB G + 97)), some (.int (jI z))] [] (kmh G h q F) n Post := by
  refine e_aload_n rfl dL_law_1587 ?_
  refine e_aload_n rfl dL_law_1588 ?_
  refine e_iload_n rfl dL_law_1589 ?_
  refine e_iconst dL_law_1590 ?_
  refine e_iadd dL_law_1591 ?_
  refine e_tald (k := 4) dL_law_1592 hT (by omega) (by omega) rfl ?_
  refine e_aload_n rfl dL_law_1593 ?_
  refine e_iload_n rfl dL_law_1594 ?_
  refine e_iconst dL_law_1595 ?_
  refine e_iadd dL_law_1596 ?_
  refine e_tald (k := 4) dL_law_1597 hT (by omega) (by omega) rfl ?_
  refine e_aload_n rfl dL_law_1598 ?_
  refine e_iload_n rfl dL_law_1599 ?_
  refine e_iconst dL_law_1600 ?_
  refine e_iadd dL_law_1601 ?_
  refine e_tald (k := 4) dL_law_1602 hT (by omega) (by omega) rfl ?_
  refine e_aload_n rfl dL_law_1603 ?_
  refine e_iload_n rfl dL_law_1604 ?_
  refine e_iconst dL_law_1605 ?_
  refine e_iadd dL_law_1606 ?_
  refine e_tald (k := 4) dL_law_1607 hT (by omega) (by omega) rfl ?_
  refine e_aload_n rfl dL_law_1608 ?_
  refine e_iload_n rfl dL_law_1609 ?_
  refine e_iconst dL_law_1610 ?_
  refine e_iadd dL_law_1611 ?_
  refine e_tald (k := 4) dL_law_1612 hT (by omega) (by omega) rfl ?_
  refine e_aload_n rfl dL_law_1613 ?_
  refine e_iload_n rfl dL_law_1614 ?_
  refine e_bipush (by decide) dL_law_1615 ?_
  refine e_iadd dL_law_1617 ?_
  refine e_tald (k := 4) dL_law_1618 hT (by omega) (by omega) rfl ?_
  refine eV6R mtX9_best miX9_best lkL_143 dL_law_1619 zz.1.1 rfl rfl rfl (k_best g zz ok (hX _) (hX _) (hX _) (hX _) (hX _) (hX _)) (fun r1619 h1619 n1619 hp1619 => ?_)
  obtain ⟨hr1, z1, k1, n1⟩ := hp1619
  subst hr1
  rw [kmh_keep hn k1]
  dsimp only [Option.toList, List.cons_append, List.nil_append]
  refine e_aload_n rfl dL_law_1622 ?_
  refine e_aload_n rfl dL_law_1623 ?_
  refine e_iload_n rfl dL_law_1624 ?_
  refine e_iconst dL_law_1625 ?_
  refine e_iadd dL_law_1626 ?_
  refine e_tald (k := 4) dL_law_1627 hT (by omega) (by omega) rfl ?_
  refine e_aload_n rfl dL_law_1628 ?_
  refine e_iload_n rfl dL_law_1629 ?_
  refine e_iconst dL_law_1630 ?_
  refine e_iadd dL_law_1631 ?_
  refine e_tald (k := 4) dL_law_1632 hT (by omega) (by omega) rfl ?_
  refine e_aload_n rfl dL_law_1633 ?_
  refine e_iload_n rfl dL_law_1634 ?_
  refine e_iconst dL_law_1635 ?_
  refine e_iadd dL_law_1636 ?_
  refine e_tald (k := 4) dL_law_1637 hT (by omega) (by omega) rfl ?_
  refine e_aload_n rfl dL_law_1638 ?_
  refine e_iload_n rfl dL_law_1639 ?_
  refine e_iconst dL_law_1640 ?_
  refine e_iadd dL_law_1641 ?_
  refine e_tald (k := 4) dL_law_1642 hT (by omega) (by omega) rfl ?_
  refine e_aload_n rfl dL_law_1643 ?_
  refine e_iload_n rfl dL_law_1644 ?_
  refine e_iconst dL_law_1645 ?_
  refine e_iadd dL_law_1646 ?_
  refine e_tald (k := 4) dL_law_1647 hT (by omega) (by omega) rfl ?_
  refine e_aload_n rfl dL_law_1648 ?_
  refine e_iload_n rfl dL_law_1649 ?_
  refine e_bipush (by decide) dL_law_1650 ?_
  refine e_iadd dL_law_1652 ?_
  refine e_tald (k := 4) dL_law_1653 hT (by omega) (by omega) rfl ?_
  refine eV6R mtX10_best miX10_best lkL_147 dL_law_1654 kmh_97 rfl rfl rfl (j_best md ok (hX _) (hX _) (hX _) (hX _) (hX _) (hX _)) (fun r1654 h1654 n1654 hp1654 => ?_)
  obtain ⟨hr2, hn2, q2, F2, hh2, md2⟩ := hp1654
  subst hr2
  subst hn2
  subst hh2
  dsimp only [Option.toList, List.cons_append, List.nil_append]
  refine e_same (tgt := 1731) dL_law_1657 (by decide) ?_
  exact kE.less (hk _ _ _ _ _ (rKI_cg z1 (fun j hj => kmh_o (by omega))) md2 ok (by omega)) (by omega) (by omega)
set_option maxHeartbeats 4000000 in
set_option maxRecDepth 100000 in
theorem l_image {G : kG} {c0 s0 : Nat} {h : Nat → Option kC} {n : Nat} {q : Nat → Int} {F : Nat → Nat → Int} {Z : kCs} {b N : Nat} {X : Nat → Int} {z : Int} {Post : kPo} (g : rSt G) (hT : (gT G)[4]? = some (b, N, fun j => jI (X j))) (hX : ∀ j, inI (X j)) (h0 : 0 ≤ z) (h1 : z + 9 ≤ N) (zz : rKI G (kmh G h q F) Z) (md : rMD q F Z) (ok : kCok Z) (hn : 115 ≤ n) (hk : kLK G c0 s0 b z Post) : kE G mL_law 10 (c0 + 1) (s0 + 4) 1662 [some (.ref b), some (.ref (gB G + 0)), some (.ref (gB G + 97)), some (.int (jI z))] [] (kmh G h q F) n Post := by
  refine e_aload_n rfl dL_law_1662 ?_
  refine e_aload_n rfl dL_law_1663 ?_
  refine e_iload_n rfl dL_law_1664 ?_
  refine e_iconst dL_law_1665 ?_
  refine e_iadd dL_law_1666 ?_
  refine e_tald (k := 4) dL_law_1667 hT (by omega) (by omega) rfl ?_
  refine eV1R mtX9_image miX9_image lkL_148 dL_law_1668 zz.1.1 rfl rfl rfl (k_image g zz ok (hX _)) (fun r1668 h1668 n1668 hp1668 => ?_)
  obtain ⟨hr1, z1, k1, n1⟩ := hp1668
  subst hr1
  rw [kmh_keep hn k1]
  dsimp only [Option.toList, List.cons_append, List.nil_append]
  refine e_aload_n rfl dL_law_1671 ?_
  refine e_aload_n rfl dL_law_1672 ?_
  refine e_iload_n rfl dL_law_1673 ?_
  refine e_iconst dL_law_1674 ?_
  refine e_iadd dL_law_1675 ?_
  refine e_tald (k := 4) dL_law_1676 hT (by omega) (by omega) rfl ?_
  refine eV1R mtX10_image miX10_image lkL_151 dL_law_1677 kmh_97 rfl rfl rfl (j_image md ok (hX _)) (fun r1677 h1677 n1677 hp1677 => ?_)
  obtain ⟨hr2, hn2, q2, F2, hh2, md2⟩ := hp1677
  subst hr2
  subst hn2
  subst hh2
  dsimp only [Option.toList, List.cons_append, List.nil_append]
  refine e_same (tgt := 1731) dL_law_1680 (by decide) ?_
  exact kE.less (hk _ _ _ _ _ (rKI_cg z1 (fun j hj => kmh_o (by omega))) md2 (ok_image ok _) (by omega)) (by omega) (by omega)
set_option maxHeartbeats 4000000 in
set_option maxRecDepth 100000 in
theorem l_restore {G : kG} {c0 s0 : Nat} {h : Nat → Option kC} {n : Nat} {q : Nat → Int} {F : Nat → Nat → Int} {Z : kCs} {b N : Nat} {X : Nat → Int} {z : Int} {Post : kPo} (g : rSt G) (hT : (gT G)[4]? = some (b, N, fun j => jI (X j))) (hX : ∀ j, inI (X j)) (h0 : 0 ≤ z) (h1 : z + 9 ≤ N) (zz : rKI G (kmh G h q F) Z) (md : rMD q F Z) (ok : kCok Z) (hn : 115 ≤ n) (hk : kLK G c0 s0 b z Post) : kE G mL_law 10 (c0 + 1) (s0 + 4) 1685 [some (.ref b), some (.ref (gB G + 0)), some (.ref (gB G + 97)), some (.int (jI z))] [] (kmh G h q F) n Post := by
  refine e_aload_n rfl dL_law_1685 ?_
  refine e_aload_n rfl dL_law_1686 ?_
  refine e_iload_n rfl dL_law_1687 ?_
  refine e_iconst dL_law_1688 ?_
  refine e_iadd dL_law_1689 ?_
  refine e_tald (k := 4) dL_law_1690 hT (by omega) (by omega) rfl ?_
  refine eV1R mtX9_restore miX9_restore lkL_152 dL_law_1691 zz.1.1 rfl rfl rfl (k_restore g zz ok (hX _)) (fun r1691 h1691 n1691 hp1691 => ?_)
  obtain ⟨hr1, z1, k1, n1⟩ := hp1691
  subst hr1
  rw [kmh_keep hn k1]
  dsimp only [Option.toList, List.cons_append, List.nil_append]
  refine e_aload_n rfl dL_law_1694 ?_
  refine e_aload_n rfl dL_law_1695 ?_
  refine e_iload_n rfl dL_law_1696 ?_
  refine e_iconst dL_law_1697 ?_
  refine e_iadd dL_law_1698 ?_
  refine e_tald (k := 4) dL_law_1699 hT (by omega) (by omega) rfl ?_
  refine eV1R mtX10_restore miX10_restore lkL_155 dL_law_1700 kmh_97 rfl rfl rfl (j_restore md ok (hX _)) (fun r1700 h1700 n1700 hp1700 => ?_)
  obtain ⟨hr2, hn2, q2, F2, hh2, md2⟩ := hp1700
  subst hr2
  subst hn2
  subst hh2
  dsimp only [Option.toList, List.cons_append, List.nil_append]
  refine e_same (tgt := 1731) dL_law_1703 (by decide) ?_
  exact kE.less (hk _ _ _ _ _ (rKI_cg z1 (fun j hj => kmh_o (by omega))) md2 (ok_restore ok _) (by omega)) (by omega) (by omega)
set_option maxHeartbeats 4000000 in
set_option maxRecDepth 100000 in
theorem l_told {G : kG} {c0 s0 : Nat} {h : Nat → Option kC} {n : Nat} {q : Nat → Int} {F : Nat → Nat → Int} {Z : kCs} {b N : Nat} {X : Nat → Int} {z : Int} {Post : kPo} (g : rSt G) (hT : (gT G)[4]? = some (b, N, fun j => jI (X j))) (hX : ∀ j, inI (X j)) (h0 : 0 ≤ z) (h1 : z + 9 ≤ N) (zz : rKI G (kmh G h q F) Z) (md : rMD q F Z) (ok : kCok Z) (hn : 115 ≤ n) (hk : kLK G c0 s0 b z Post) : kE G mL_law 10 (c0 + 1) (s0 + 4) 1708 [some (.ref b), some (.ref (gB G + 0)), some (.ref (gB G + 97)), some (.int (jI z))] [] (kmh G h q F) n Post := by
  refine e_aload_n rfl dL_law_1708 ?_
  refine e_aload_n rfl dL_law_1709 ?_
  refine e_iload_n rfl dL_law_1710 ?_
  refine e_iconst dL_law_1711 ?_
  refine e_iadd dL_law_1712 ?_
  refine e_tald (k := 4) dL_law_1713 hT (by omega) (by omega) rfl ?_
  refine eV1R mtX9_told miX9_told lkL_156 dL_law_1714 zz.1.1 rfl rfl rfl (k_told g zz ok (hX _)) (fun r1714 h1714 n1714 hp1714 => ?_)
  obtain ⟨hr1, z1, k1, n1⟩ := hp1714
  subst hr1
  rw [kmh_keep hn k1]
  dsimp only [Option.toList, List.cons_append, List.nil_append]
  refine e_aload_n rfl dL_law_1717 ?_
  refine e_aload_n rfl dL_law_1718 ?_
  refine e_iload_n rfl dL_law_1719 ?_
  refine e_iconst dL_law_1720 ?_
  refine e_iadd dL_law_1721 ?_
  refine e_tald (k := 4) dL_law_1722 hT (by omega) (by omega) rfl ?_
  refine eV1R mtX10_told miX10_told lkL_159 dL_law_1723 kmh_97 rfl rfl rfl (j_told md ok (hX _)) (fun r1723 h1723 n1723 hp1723 => ?_)
  obtain ⟨hr2, hn2, q2, F2, hh2, md2⟩ := hp1723
  subst hr2
  subst hn2
  subst hh2
  dsimp only [Option.toList, List.cons_append, List.nil_append]
  refine e_same (tgt := 1731) dL_law_1726 (by decide) ?_
  exact kE.less (hk _ _ _ _ _ (rKI_cg z1 (fun j hj => kmh_o (by omega))) md2 ok (by omega)) (by omega) (by omega)
set_option maxHeartbeats 4000000 in
set_option maxRecDepth 100000 in
theorem l_loop {G : kG} {b N : Nat} {X : Nat → Int} (g : rSt G) (hT : (gT G)[4]? = some (b, N, fun j => jI (X j))) (hX : ∀ j, inI (X j)) (hN : N ≤ 4608) : ∀ (f : Nat) (z : Int) (h : Nat → Option kC) (n : Nat) (Z : kCs) (q : Nat → Int) (F : Nat → Nat → Int), 0 ≤ z → z ≤ (N : Int) + 9 → (N : Int) < z + 9 + 9 * (f : Int) → rKI G (kmh G h q F) Z → rMD q F Z → kCok Z → 115 ≤ n → kE G mL_law 10 f (4 * f) 18 [some (.ref b), some (.ref (gB G + 0)), some (.ref (gB G + 97)), some (.int (jI z))] [] (kmh G h q F) n (fun r _ _ => r = some (.int (jI 1))) := by
  intro f
  induction f with
  | zero =>
    intro z h n Z q F g1 g2 g3 g4 g5 g6 g7
    refine e_iload_n rfl dL_law_18 ?_
    refine e_aload_n rfl dL_law_19 ?_
    refine e_tlen (k := 4) dL_law_20 hT ?_
    refine e_bipush (by decide) dL_law_21 ?_
    refine e_isub dL_law_23 ?_
    refine e_icmp_gt (tgt := 1737) dL_law_24 (by decide) (by unfold inI; omega) (by unfold inI; omega) (fun c24 => ?_) (fun c24 => ?_)
    · refine e_iconst dL_law_1737 ?_
      refine e_ireturn dL_law_1738 rfl (by decide) ?_
      exact rfl
    · exact absurd c24 (by omega)
  | succ f ih =>
    intro z h n Z q F g1 g2 g3 g4 g5 g6 g7
    refine e_iload_n rfl dL_law_18 ?_
    refine e_aload_n rfl dL_law_19 ?_
    refine e_tlen (k := 4) dL_law_20 hT ?_
    refine e_bipush (by decide) dL_law_21 ?_
    refine e_isub dL_law_23 ?_
    refine e_icmp_gt (tgt := 1737) dL_law_24 (by decide) (by unfold inI; omega) (by unfold inI; omega) (fun c24 => ?_) (fun c24 => ?_)
    · refine e_iconst dL_law_1737 ?_
      refine e_ireturn dL_law_1738 rfl (by decide) ?_
      exact rfl
    · have hk : kLK G f (4 * f) b z (fun r _ _ => r = some (.int (jI 1))) := fun h' n' Z' q' F' a1 a2 a3 a4 => by
        refine e_iinc dL_law_1731 rfl rfl ?_
        dsimp only [List.set]
        refine e_goto (tgt := 18) dL_law_1734 (by decide) ?_
        exact ih (z + 9) h' n' Z' q' F' (by omega) (by omega) (by omega) a1 a2 a3 a4
      refine e_aload_n rfl dL_law_27 ?_
      refine e_iload_n rfl dL_law_28 ?_
      refine e_tald (k := 4) dL_law_29 hT (by omega) (by omega) rfl ?_
      refine e_bipush (by decide) dL_law_30 ?_
      obtain ⟨v, hv, hvi⟩ : ∃ v, jI (X z.toNat) &&& jI 63 = jI v ∧ inI v := ⟨_, (jI_of _).symm, inI_of _⟩
      refine e_iand hv dL_law_32 ?_
      rcases (show v = 0 ∨ v = 1 ∨ v = 2 ∨ v = 3 ∨ v = 4 ∨ v = 5 ∨ v = 6 ∨ v = 7 ∨ v = 8 ∨ v = 9 ∨ v = 10 ∨ v = 11 ∨ v = 12 ∨ v = 13 ∨ v = 14 ∨ v = 15 ∨ v = 16 ∨ v = 17 ∨ v = 18 ∨ v = 19 ∨ v = 20 ∨ v = 21 ∨ v = 22 ∨ v = 23 ∨ v = 24 ∨ v = 25 ∨ v = 26 ∨ v = 27 ∨ v = 28 ∨ v = 29 ∨ v = 30 ∨ v = 31 ∨ v = 32 ∨ (v < 0 ∨ 32 < v) by omega) with c33 | c33 | c33 | c33 | c33 | c33 | c33 | c33 | c33 | c33 | c33 | c33 | c33 | c33 | c33 | c33 | c33 | c33 | c33 | c33 | c33 | c33 | c33 | c33 | c33 | c33 | c33 | c33 | c33 | c33 | c33 | c33 | c33 | c33
      · rw [c33]
        refine e_tabIn (tgt := 180) dL_law_33 (by unfold inI; omega) (by decide) (by decide) rfl (by decide) ?_
        exact kE.less (l_men (c0 := f) (s0 := 4 * f) g hT hX g1 (by omega) g4 g5 g6 g7 hk) (Nat.le_refl _) (by omega)
      · rw [c33]
        refine e_tabIn (tgt := 223) dL_law_33 (by unfold inI; omega) (by decide) (by decide) rfl (by decide) ?_
        exact kE.less (l_set (c0 := f) (s0 := 4 * f) g hT hX g1 (by omega) g4 g5 g6 g7 hk) (Nat.le_refl _) (by omega)
      · rw [c33]
        refine e_tabIn (tgt := 266) dL_law_33 (by unfold inI; omega) (by decide) (by decide) rfl (by decide) ?_
        exact kE.less (l_way (c0 := f) (s0 := 4 * f) g hT hX g1 (by omega) g4 g5 g6 g7 hk) (Nat.le_refl _) (by omega)
      · rw [c33]
        refine e_tabIn (tgt := 299) dL_law_33 (by unfold inI; omega) (by decide) (by decide) rfl (by decide) ?_
        exact kE.less (l_say (c0 := f) (s0 := 4 * f) g hT hX g1 (by omega) g4 g5 g6 g7 hk) (Nat.le_refl _) (by omega)
      · rw [c33]
        refine e_tabIn (tgt := 322) dL_law_33 (by unfold inI; omega) (by decide) (by decide) rfl (by decide) ?_
        exact kE.less (l_wipe (c0 := f) (s0 := 4 * f) g hT hX g1 (by omega) g4 g5 g6 g7 hk) (Nat.le_refl _) (by omega)
      · rw [c33]
        refine e_tabIn (tgt := 335) dL_law_33 (by unfold inI; omega) (by decide) (by decide) rfl (by decide) ?_
        exact kE.less (l_fault (c0 := f) (s0 := 4 * f) g hT hX g1 (by omega) g4 g5 g6 g7 hk) (Nat.le_refl _) (by omega)
      · rw [c33]
        refine e_tabIn (tgt := 358) dL_law_33 (by unfold inI; omega) (by decide) (by decide) rfl (by decide) ?_
        exact kE.less (l_take (c0 := f) (s0 := 4 * f) g hT hX g1 (by omega) g4 g5 g6 g7 hk) (Nat.le_refl _) (by omega)
      · rw [c33]
        refine e_tabIn (tgt := 381) dL_law_33 (by unfold inI; omega) (by decide) (by decide) rfl (by decide) ?_
        exact kE.less (l_line (c0 := f) (s0 := 4 * f) g hT hX g1 (by omega) g4 g5 g6 g7 hk) (Nat.le_refl _) (by omega)
      · rw [c33]
        refine e_tabIn (tgt := 404) dL_law_33 (by unfold inI; omega) (by decide) (by decide) rfl (by decide) ?_
        exact kE.less (l_hump (c0 := f) (s0 := 4 * f) g hT hX g1 (by omega) g4 g5 g6 g7 hk) (Nat.le_refl _) (by omega)
      · rw [c33]
        refine e_tabIn (tgt := 447) dL_law_33 (by unfold inI; omega) (by decide) (by decide) rfl (by decide) ?_
        exact kE.less (l_upper (c0 := f) (s0 := 4 * f) g hT hX g1 (by omega) g4 g5 g6 g7 hk) (Nat.le_refl _) (by omega)
      · rw [c33]
        refine e_tabIn (tgt := 511) dL_law_33 (by unfold inI; omega) (by decide) (by decide) rfl (by decide) ?_
        exact kE.less (l_misfit (c0 := f) (s0 := 4 * f) g hT hX g1 (by omega) g4 g5 g6 g7 hk) (Nat.le_refl _) (by omega)
      · rw [c33]
        refine e_tabIn (tgt := 564) dL_law_33 (by unfold inI; omega) (by decide) (by decide) rfl (by decide) ?_
        exact kE.less (l_fit (c0 := f) (s0 := 4 * f) g hT hX g1 (by omega) g4 g5 g6 g7 hk) (Nat.le_refl _) (by omega)
      · rw [c33]
        refine e_tabIn (tgt := 607) dL_law_33 (by unfold inI; omega) (by decide) (by decide) rfl (by decide) ?_
        exact kE.less (l_span (c0 := f) (s0 := 4 * f) g hT hX g1 (by omega) g4 g5 g6 g7 hk) (Nat.le_refl _) (by omega)
      · rw [c33]
        refine e_tabIn (tgt := 660) dL_law_33 (by unfold inI; omega) (by decide) (by decide) rfl (by decide) ?_
        exact kE.less (l_found (c0 := f) (s0 := 4 * f) g hT hX g1 (by omega) g4 g5 g6 g7 hk) (Nat.le_refl _) (by omega)
      · rw [c33]
        refine e_tabIn (tgt := 703) dL_law_33 (by unfold inI; omega) (by decide) (by decide) rfl (by decide) ?_
        exact kE.less (l_written (c0 := f) (s0 := 4 * f) g hT hX g1 (by omega) g4 g5 g6 g7 hk) (Nat.le_refl _) (by omega)
      · rw [c33]
        refine e_tabIn (tgt := 757) dL_law_33 (by unfold inI; omega) (by decide) (by decide) rfl (by decide) ?_
        exact kE.less (l_back (c0 := f) (s0 := 4 * f) g hT hX g1 (by omega) g4 g5 g6 g7 hk) (Nat.le_refl _) (by omega)
      · rw [c33]
        refine e_tabIn (tgt := 833) dL_law_33 (by unfold inI; omega) (by decide) (by decide) rfl (by decide) ?_
        exact kE.less (l_pile (c0 := f) (s0 := 4 * f) g hT hX g1 (by omega) g4 g5 g6 g7 hk) (Nat.le_refl _) (by omega)
      · rw [c33]
        refine e_tabIn (tgt := 867) dL_law_33 (by unfold inI; omega) (by decide) (by decide) rfl (by decide) ?_
        exact kE.less (l_grown (c0 := f) (s0 := 4 * f) g hT hX g1 (by omega) g4 g5 g6 g7 hk) (Nat.le_refl _) (by omega)
      · rw [c33]
        refine e_tabIn (tgt := 911) dL_law_33 (by unfold inI; omega) (by decide) (by decide) rfl (by decide) ?_
        exact kE.less (l_right (c0 := f) (s0 := 4 * f) g hT hX g1 (by omega) g4 g5 g6 g7 hk) (Nat.le_refl _) (by omega)
      · rw [c33]
        refine e_tabIn (tgt := 955) dL_law_33 (by unfold inI; omega) (by decide) (by decide) rfl (by decide) ?_
        exact kE.less (l_mix (c0 := f) (s0 := 4 * f) g hT hX g1 (by omega) g4 g5 g6 g7 hk) (Nat.le_refl _) (by omega)
      · rw [c33]
        refine e_tabIn (tgt := 1031) dL_law_33 (by unfold inI; omega) (by decide) (by decide) rfl (by decide) ?_
        exact kE.less (l_fall (c0 := f) (s0 := 4 * f) g hT hX g1 (by omega) g4 g5 g6 g7 hk) (Nat.le_refl _) (by omega)
      · rw [c33]
        refine e_tabIn (tgt := 1119) dL_law_33 (by unfold inI; omega) (by decide) (by decide) rfl (by decide) ?_
        exact kE.less (l_alone (c0 := f) (s0 := 4 * f) g hT hX g1 (by omega) g4 g5 g6 g7 hk) (Nat.le_refl _) (by omega)
      · rw [c33]
        refine e_tabIn (tgt := 1219) dL_law_33 (by unfold inI; omega) (by decide) (by decide) rfl (by decide) ?_
        exact kE.less (l_mean (c0 := f) (s0 := 4 * f) g hT hX g1 (by omega) g4 g5 g6 g7 hk) (Nat.le_refl _) (by omega)
      · rw [c33]
        refine e_tabIn (tgt := 1253) dL_law_33 (by unfold inI; omega) (by decide) (by decide) rfl (by decide) ?_
        exact kE.less (l_mode (c0 := f) (s0 := 4 * f) g hT hX g1 (by omega) g4 g5 g6 g7 hk) (Nat.le_refl _) (by omega)
      · rw [c33]
        refine e_tabIn (tgt := 1276) dL_law_33 (by unfold inI; omega) (by decide) (by decide) rfl (by decide) ?_
        exact kE.less (l_about (c0 := f) (s0 := 4 * f) g hT hX g1 (by omega) g4 g5 g6 g7 hk) (Nat.le_refl _) (by omega)
      · rw [c33]
        refine e_tabIn (tgt := 1330) dL_law_33 (by unfold inI; omega) (by decide) (by decide) rfl (by decide) ?_
        exact kE.less (l_beside (c0 := f) (s0 := 4 * f) g hT hX g1 (by omega) g4 g5 g6 g7 hk) (Nat.le_refl _) (by omega)
      · rw [c33]
        refine e_tabIn (tgt := 1384) dL_law_33 (by unfold inI; omega) (by decide) (by decide) rfl (by decide) ?_
        exact kE.less (l_shorter (c0 := f) (s0 := 4 * f) g hT hX g1 (by omega) g4 g5 g6 g7 hk) (Nat.le_refl _) (by omega)
      · rw [c33]
        refine e_tabIn (tgt := 1437) dL_law_33 (by unfold inI; omega) (by decide) (by decide) rfl (by decide) ?_
        exact kE.less (l_make (c0 := f) (s0 := 4 * f) g hT hX g1 (by omega) g4 g5 g6 g7 hk) (Nat.le_refl _) (by omega)
      · rw [c33]
        refine e_tabIn (tgt := 1500) dL_law_33 (by unfold inI; omega) (by decide) (by decide) rfl (by decide) ?_
        exact kE.less (l_off (c0 := f) (s0 := 4 * f) g hT hX g1 (by omega) g4 g5 g6 g7 hk) (Nat.le_refl _) (by omega)
      · rw [c33]
        refine e_tabIn (tgt := 1587) dL_law_33 (by unfold inI; omega) (by decide) (by decide) rfl (by decide) ?_
        exact kE.less (l_best (c0 := f) (s0 := 4 * f) g hT hX g1 (by omega) g4 g5 g6 g7 hk) (Nat.le_refl _) (by omega)
      · rw [c33]
        refine e_tabIn (tgt := 1662) dL_law_33 (by unfold inI; omega) (by decide) (by decide) rfl (by decide) ?_
        exact kE.less (l_image (c0 := f) (s0 := 4 * f) g hT hX g1 (by omega) g4 g5 g6 g7 hk) (Nat.le_refl _) (by omega)
      · rw [c33]
        refine e_tabIn (tgt := 1685) dL_law_33 (by unfold inI; omega) (by decide) (by decide) rfl (by decide) ?_
        exact kE.less (l_restore (c0 := f) (s0 := 4 * f) g hT hX g1 (by omega) g4 g5 g6 g7 hk) (Nat.le_refl _) (by omega)
      · rw [c33]
        refine e_tabIn (tgt := 1708) dL_law_33 (by unfold inI; omega) (by decide) (by decide) rfl (by decide) ?_
        exact kE.less (l_told (c0 := f) (s0 := 4 * f) g hT hX g1 (by omega) g4 g5 g6 g7 hk) (Nat.le_refl _) (by omega)
      · refine e_tabOut (tgt := 1731) dL_law_33 hvi c33 (by decide) ?_
        exact kE.less (hk _ _ _ _ _ g4 g5 g6 g7) (by omega) (by omega)
theorem kIh_0 {G : kG} {h : Nat → Option kC} : kup h 97 (kob 8 (kMl0 G 0)) = kIh G h 0 := by
  funext j
  unfold kup kIh
  by_cases e : j = 97
  · rw [if_pos e, if_pos e]
  · rw [if_neg e, if_neg e, if_neg (by omega)]
set_option maxHeartbeats 4000000 in
set_option maxRecDepth 100000 in
theorem l_law {G : kG} {b N : Nat} {X : Nat → Int} (g : rSt G) (hT : (gT G)[4]? = some (b, N, fun j => jI (X j))) (hX : ∀ j, inI (X j)) (hN : N ≤ 4608) : kCall G mL_law 10 627 6229 [.ref b] (fun _ => none) 0 (fun r _ _ => r = some (.int (jI 1))) := by
  show kE G mL_law 10 627 6229 0 [some (.ref b), none, none, none] [] _ _ _
  refine e_ob [.null, .null, .null, .null, .null, .null, .null, .null] nwL_7 dL_law_0 (fun j9 hj9 => by rcases (show j9 = 0 ∨ j9 = 1 ∨ j9 = 2 ∨ j9 = 3 ∨ j9 = 4 ∨ j9 = 5 ∨ j9 = 6 ∨ j9 = 7 by omega) with rfl | rfl | rfl | rfl | rfl | rfl | rfl | rfl <;> rfl) rfl rfl ?_
  refine e_dup rfl dL_law_3 ?_
  refine eJ0 (c1 := 96) (s1 := 2049) mtX9_init rfl rfl miX9_init lkL_9 dL_law_4 rfl rfl rfl rfl (n_class g kup_s rfl) (fun r4 h4 n4 hp4 => ?_)
  obtain ⟨hr4, hn4, z4⟩ := hp4
  subst hr4
  subst hn4
  dsimp only [Option.toList, List.nil_append]
  refine e_astore_n dL_law_7 rfl rfl ?_
  dsimp only [List.set]
  refine e_ob (kMl0 G 0) nwL_10 dL_law_8 (fun j9 hj9 => by rcases (show j9 = 0 ∨ j9 = 1 ∨ j9 = 2 ∨ j9 = 3 ∨ j9 = 4 ∨ j9 = 5 ∨ j9 = 6 ∨ j9 = 7 ∨ j9 = 8 ∨ j9 = 9 ∨ j9 = 10 ∨ j9 = 11 ∨ j9 = 12 ∨ j9 = 13 ∨ j9 = 14 ∨ j9 = 15 ∨ j9 = 16 ∨ j9 = 17 ∨ j9 = 18 ∨ j9 = 19 ∨ j9 = 20 ∨ j9 = 21 ∨ j9 = 22 ∨ j9 = 23 ∨ j9 = 24 ∨ j9 = 25 ∨ j9 = 26 ∨ j9 = 27 ∨ j9 = 28 ∨ j9 = 29 ∨ j9 = 30 ∨ j9 = 31 ∨ j9 = 32 by omega) with rfl | rfl | rfl | rfl | rfl | rfl | rfl | rfl | rfl | rfl | rfl | rfl | rfl | rfl | rfl | rfl | rfl | rfl | rfl | rfl | rfl | rfl | rfl | rfl | rfl | rfl | rfl | rfl | rfl | rfl | rfl | rfl | rfl <;> rfl) rfl rfl ?_
  rw [kIh_0]
  refine e_dup rfl dL_law_11 ?_
  refine eJ0 (c1 := 17) (s1 := 2091) mtX10_init rfl rfl miX10_init lkL_12 dL_law_12 rfl rfl rfl rfl n_model (fun r12 h12 n12 hp12 => ?_)
  obtain ⟨rfl, rfl, rfl⟩ := hp12
  dsimp only [Option.toList, List.nil_append]
  refine e_astore_n dL_law_15 rfl rfl ?_
  dsimp only [List.set]
  refine e_iconst dL_law_16 ?_
  refine e_istore_n dL_law_17 rfl rfl ?_
  dsimp only [List.set]
  exact kE.less (l_loop g hT hX hN 512 0 h4 115 kZ0 _ kF0 (by omega) (by omega) (by omega) (rKI_cg z4 (fun j hj => kmh_o (by omega))) rMD_0 kCok_0 (Nat.le_refl _)) (by decide) (by decide)
