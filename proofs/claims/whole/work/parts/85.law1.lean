/-! the law -/
abbrev mL_law : hcM := (yL_law, cL_law, 4, some .boolean)
def LL (g : hcG) (b i : Nat) : List (Option Value) := [some (.ref (g.2.2.1 6)), some (.ref b), some (.ref (b + 81)), some (.int (nI i))]
section
variable {g : hcG} {M : hcM} {d kc ks : Nat} {S : hcS} {I : hcI} {R : hcR} {z pc q : Nat} {L : List (Option Value)} {st : List Value} {Q : hcQ}
theorem v_scld {i : Int32} (k : Nat) (hi : i = nI k) (hk : k < g.2.2.1 7) (hL : g.2.2.1 7 < 2 ^ 31) (hd : decode M.2.1 pc = .ok (.iaload, 1)) (hq : pc + 1 = q := by rfl) (kk : V g M d kc ks S I R z q L (.int (nI (g.2.2.1 (8 + k))) :: st) Q) : V g M d kc ks S I R z pc L (.int i :: .ref (g.2.2.1 6) :: st) Q := by
  subst hq
  subst hi
  intro p l e s m args below meth c H locs cells slots ls Rm mc ms D K C
  obtain ⟨hx, hb, hml, hr, hlk, hown, hnm, hts, hG, hbs, hw, hz, hS, hL', hR⟩ := id C
  exact va_ti hx hb hG.2.2.2.2.2.2.2 hS (vp_in_nI hk hL) (by rw [nI_clamp (by omega)]) hd (kk _ _ _ _ _ _ _ _ _ _ _ _ _ _ _ _ _ _ _ C)
theorem v_sclen (hd : decode M.2.1 pc = .ok (.arraylength, 1)) (hq : pc + 1 = q := by rfl) (kk : V g M d kc ks S I R z q L (.int (nI (g.2.2.1 7)) :: st) Q) : V g M d kc ks S I R z pc L (.ref (g.2.2.1 6) :: st) Q := by
  subst hq
  intro p l e s m args below meth c H locs cells slots ls Rm mc ms D K C
  obtain ⟨hx, hb, hml, hr, hlk, hown, hnm, hts, hG, hbs, hw, hz, hS, hL', hR⟩ := id C
  exact va_tlen hx hb hG.2.2.2.2.2.2.2 hS rfl hd (kk _ _ _ _ _ _ _ _ _ _ _ _ _ _ _ _ _ _ _ C)
end
section L27
variable {g : hcG} {S : hcS} {I : hcI} {R : hcR} {z b i kc ks : Nat} {Q : hcQ}
theorem lc_0 (hrel : REL S I R b z) (hi : i + 6 ≤ g.2.2.1 7) (hL : g.2.2.1 7 < 2 ^ 31) (next : ∀ (S' : hcS) (I' : hcI) (R' : hcR) (z' : Nat), REL S' I' R' b z' → V g mL_law 114 kc ks S' I' R' z' 1459 (LL g b i) [] Q) : V g mL_law 114 (kc + 3) (ks + 200) S I R z 220 (LL g b i) [] Q := by
  have hrel' := hrel
  obtain ⟨N, Ni, im, so, si, ce, ho, hA, hB, hl, tl, tp, wt, te, hX, hM⟩ := hrel'
  have mn := hX.1.2.mn
  have s0 := hX.1.1.1.1
  have sm := hM.1.1
  unfold LL at next ⊢
  refine V.less (kc' := kc) (ks' := ks) ?_ (by omega) (by omega)
  refine v_aload_n (q := 221) dL_law_220 (kk := ?_)
  refine v_aload_n (q := 222) dL_law_221 (kk := ?_)
  refine v_iload_n (q := 223) dL_law_222 (kk := ?_)
  refine v_iconst (v := 1) (q := 224) dL_law_223 (kk := ?_)
  refine v_iadd (q := 225) dL_law_224 (kk := ?_)
  refine v_scld (q := 226) (i + 1) (nI_add i 1) (by omega) hL dL_law_225 (kk := ?_)
  refine v_aload_n (q := 227) dL_law_226 (kk := ?_)
  refine v_iload_n (q := 228) dL_law_227 (kk := ?_)
  refine v_iconst (v := 2) (q := 229) dL_law_228 (kk := ?_)
  refine v_iadd (q := 230) dL_law_229 (kk := ?_)
  refine v_scld (q := 231) (i + 2) (nI_add i 2) (by omega) hL dL_law_230 (kk := ?_)
  refine v_aload_n (q := 232) dL_law_231 (kk := ?_)
  refine v_iload_n (q := 233) dL_law_232 (kk := ?_)
  refine v_iconst (v := 3) (q := 234) dL_law_233 (kk := ?_)
  refine v_iadd (q := 235) dL_law_234 (kk := ?_)
  refine v_scld (q := 236) (i + 3) (nI_add i 3) (by omega) hL dL_law_235 (kk := ?_)
  refine v_cV3 (N := mX6_person) (q := 239) lL_13 iX6_person kX6_person s0 dL_law_236 (x_person hX.1.1 hX.1.2 (fun I1 f1 n1 => ?_))
  have X1 := hX.n f1 n1
  have M1 := hM.x (fun y a c => f1 y (by omega) (by unfold stk; omega)) (fun _ _ _ => rfl) rfl
  refine v_aload_n (q := 240) dL_law_239 (kk := ?_)
  refine v_aload_n (q := 241) dL_law_240 (kk := ?_)
  refine v_iload_n (q := 242) dL_law_241 (kk := ?_)
  refine v_iconst (v := 1) (q := 243) dL_law_242 (kk := ?_)
  refine v_iadd (q := 244) dL_law_243 (kk := ?_)
  refine v_scld (q := 245) (i + 1) (nI_add i 1) (by omega) hL dL_law_244 (kk := ?_)
  refine v_aload_n (q := 246) dL_law_245 (kk := ?_)
  refine v_iload_n (q := 247) dL_law_246 (kk := ?_)
  refine v_iconst (v := 2) (q := 248) dL_law_247 (kk := ?_)
  refine v_iadd (q := 249) dL_law_248 (kk := ?_)
  refine v_scld (q := 250) (i + 2) (nI_add i 2) (by omega) hL dL_law_249 (kk := ?_)
  refine v_aload_n (q := 251) dL_law_250 (kk := ?_)
  refine v_iload_n (q := 252) dL_law_251 (kk := ?_)
  refine v_iconst (v := 3) (q := 253) dL_law_252 (kk := ?_)
  refine v_iadd (q := 254) dL_law_253 (kk := ?_)
  refine v_scld (q := 255) (i + 3) (nI_add i 3) (by omega) hL dL_law_254 (kk := ?_)
  refine v_cV3 (N := mX7_person) (q := 258) lL_17 iX7_person kX7_person sm dL_law_255 (m_person M1.1 M1.2.1 mn (fun I2 f2 n2 => ?_))
  have M2 := M1.n (fun y a1 a2 a3 a4 => f2 y a1 a3 a4) n2
  have X2 := X1.mo (fun y hy => f2 y (by omega) (by omega) (by omega))
  refine v_icmp_eqT 1459 dL_law_258 (rfl) (kt := ?_)
  exact next _ _ _ _ ⟨_, _, _, _, _, _, _, _, _, _, _, _, _, _, X2, M2⟩
theorem lc_1 (hrel : REL S I R b z) (hi : i + 6 ≤ g.2.2.1 7) (hL : g.2.2.1 7 < 2 ^ 31) (next : ∀ (S' : hcS) (I' : hcI) (R' : hcR) (z' : Nat), REL S' I' R' b z' → V g mL_law 114 kc ks S' I' R' z' 1459 (LL g b i) [] Q) : V g mL_law 114 (kc + 3) (ks + 200) S I R z 263 (LL g b i) [] Q := by
  have hrel' := hrel
  obtain ⟨N, Ni, im, so, si, ce, ho, hA, hB, hl, tl, tp, wt, te, hX, hM⟩ := hrel'
  have mn := hX.1.2.mn
  have s0 := hX.1.1.1.1
  have sm := hM.1.1
  unfold LL at next ⊢
  refine V.less (kc' := kc) (ks' := ks) ?_ (by omega) (by omega)
  refine v_aload_n (q := 264) dL_law_263 (kk := ?_)
  refine v_aload_n (q := 265) dL_law_264 (kk := ?_)
  refine v_iload_n (q := 266) dL_law_265 (kk := ?_)
  refine v_iconst (v := 1) (q := 267) dL_law_266 (kk := ?_)
  refine v_iadd (q := 268) dL_law_267 (kk := ?_)
  refine v_scld (q := 269) (i + 1) (nI_add i 1) (by omega) hL dL_law_268 (kk := ?_)
  refine v_aload_n (q := 270) dL_law_269 (kk := ?_)
  refine v_iload_n (q := 271) dL_law_270 (kk := ?_)
  refine v_iconst (v := 2) (q := 272) dL_law_271 (kk := ?_)
  refine v_iadd (q := 273) dL_law_272 (kk := ?_)
  refine v_scld (q := 274) (i + 2) (nI_add i 2) (by omega) hL dL_law_273 (kk := ?_)
  refine v_cV2 (N := mX6_told) (q := 277) lL_18 iX6_told kX6_told s0 dL_law_274 (x_told hX.1.1 hX.1.2 (fun I1 f1 => ?_))
  have X1 := hX.s f1
  have M1 := hM.x (fun y a c => f1 y (by unfold stk; omega)) (fun _ _ _ => rfl) rfl
  refine v_aload_n (q := 278) dL_law_277 (kk := ?_)
  refine v_aload_n (q := 279) dL_law_278 (kk := ?_)
  refine v_iload_n (q := 280) dL_law_279 (kk := ?_)
  refine v_iconst (v := 1) (q := 281) dL_law_280 (kk := ?_)
  refine v_iadd (q := 282) dL_law_281 (kk := ?_)
  refine v_scld (q := 283) (i + 1) (nI_add i 1) (by omega) hL dL_law_282 (kk := ?_)
  refine v_aload_n (q := 284) dL_law_283 (kk := ?_)
  refine v_iload_n (q := 285) dL_law_284 (kk := ?_)
  refine v_iconst (v := 2) (q := 286) dL_law_285 (kk := ?_)
  refine v_iadd (q := 287) dL_law_286 (kk := ?_)
  refine v_scld (q := 288) (i + 2) (nI_add i 2) (by omega) hL dL_law_287 (kk := ?_)
  refine v_cV2 (N := mX7_told) (q := 291) lL_22 iX7_told kX7_told sm dL_law_288 (m_told M1.1 M1.2.1 mn (fun I2 f2 => ?_))
  have M2 := M1.n (fun y _ _ a c => f2 y a c) ((f2 _ (by omega) (by omega)).trans M1.2.1)
  have X2 := X1.mo (fun y hy => f2 y (by omega) (by omega))
  refine v_icmp_eqT 1459 dL_law_291 (rfl) (kt := ?_)
  exact next _ _ _ _ ⟨_, _, _, _, _, _, _, _, _, _, _, _, _, _, X2, M2⟩
theorem lc_2 (hrel : REL S I R b z) (hi : i + 6 ≤ g.2.2.1 7) (hL : g.2.2.1 7 < 2 ^ 31) (next : ∀ (S' : hcS) (I' : hcI) (R' : hcR) (z' : Nat), REL S' I' R' b z' → V g mL_law 114 kc ks S' I' R' z' 1459 (LL g b i) [] Q) : V g mL_law 114 (kc + 3) (ks + 200) S I R z 296 (LL g b i) [] Q := by
  have hrel' := hrel
  obtain ⟨N, Ni, im, so, si, ce, ho, hA, hB, hl, tl, tp, wt, te, hX, hM⟩ := hrel'
  have mn := hX.1.2.mn
  have s0 := hX.1.1.1.1
  have sm := hM.1.1
  unfold LL at next ⊢
  refine V.less (kc' := kc) (ks' := ks) ?_ (by omega) (by omega)
  refine v_aload_n (q := 297) dL_law_296 (kk := ?_)
  refine v_aload_n (q := 298) dL_law_297 (kk := ?_)
  refine v_iload_n (q := 299) dL_law_298 (kk := ?_)
  refine v_iconst (v := 1) (q := 300) dL_law_299 (kk := ?_)
  refine v_iadd (q := 301) dL_law_300 (kk := ?_)
  refine v_scld (q := 302) (i + 1) (nI_add i 1) (by omega) hL dL_law_301 (kk := ?_)
  refine v_aload_n (q := 303) dL_law_302 (kk := ?_)
  refine v_iload_n (q := 304) dL_law_303 (kk := ?_)
  refine v_iconst (v := 2) (q := 305) dL_law_304 (kk := ?_)
  refine v_iadd (q := 306) dL_law_305 (kk := ?_)
  refine v_scld (q := 307) (i + 2) (nI_add i 2) (by omega) hL dL_law_306 (kk := ?_)
  refine v_cV2 (N := mX6_as) (q := 310) lL_23 iX6_as kX6_as s0 dL_law_307 (x_as hX.1.1 hX.1.2 ?_)
  have M1 := hM
  refine v_aload_n (q := 311) dL_law_310 (kk := ?_)
  refine v_aload_n (q := 312) dL_law_311 (kk := ?_)
  refine v_iload_n (q := 313) dL_law_312 (kk := ?_)
  refine v_iconst (v := 1) (q := 314) dL_law_313 (kk := ?_)
  refine v_iadd (q := 315) dL_law_314 (kk := ?_)
  refine v_scld (q := 316) (i + 1) (nI_add i 1) (by omega) hL dL_law_315 (kk := ?_)
  refine v_aload_n (q := 317) dL_law_316 (kk := ?_)
  refine v_iload_n (q := 318) dL_law_317 (kk := ?_)
  refine v_iconst (v := 2) (q := 319) dL_law_318 (kk := ?_)
  refine v_iadd (q := 320) dL_law_319 (kk := ?_)
  refine v_scld (q := 321) (i + 2) (nI_add i 2) (by omega) hL dL_law_320 (kk := ?_)
  refine v_cV2 (N := mX7_as) (q := 324) lL_26 iX7_as kX7_as sm dL_law_321 (m_as M1.1 M1.2.1 mn ?_)
  refine v_icmp_eqT 1459 dL_law_324 (rfl) (kt := ?_)
  exact next S I R z hrel
theorem lc_3 (hrel : REL S I R b z) (hi : i + 6 ≤ g.2.2.1 7) (hL : g.2.2.1 7 < 2 ^ 31) (next : ∀ (S' : hcS) (I' : hcI) (R' : hcR) (z' : Nat), REL S' I' R' b z' → V g mL_law 114 kc ks S' I' R' z' 1459 (LL g b i) [] Q) : V g mL_law 114 (kc + 3) (ks + 200) S I R z 329 (LL g b i) [] Q := by
  have hrel' := hrel
  obtain ⟨N, Ni, im, so, si, ce, ho, hA, hB, hl, tl, tp, wt, te, hX, hM⟩ := hrel'
  have mn := hX.1.2.mn
  have s0 := hX.1.1.1.1
  have sm := hM.1.1
  unfold LL at next ⊢
  refine V.less (kc' := kc) (ks' := ks) ?_ (by omega) (by omega)
  refine v_aload_n (q := 330) dL_law_329 (kk := ?_)
  refine v_aload_n (q := 331) dL_law_330 (kk := ?_)
  refine v_iload_n (q := 332) dL_law_331 (kk := ?_)
  refine v_iconst (v := 1) (q := 333) dL_law_332 (kk := ?_)
  refine v_iadd (q := 334) dL_law_333 (kk := ?_)
  refine v_scld (q := 335) (i + 1) (nI_add i 1) (by omega) hL dL_law_334 (kk := ?_)
  refine v_aload_n (q := 336) dL_law_335 (kk := ?_)
  refine v_iload_n (q := 337) dL_law_336 (kk := ?_)
  refine v_iconst (v := 2) (q := 338) dL_law_337 (kk := ?_)
  refine v_iadd (q := 339) dL_law_338 (kk := ?_)
  refine v_scld (q := 340) (i + 2) (nI_add i 2) (by omega) hL dL_law_339 (kk := ?_)
  refine v_cV2 (N := mX6_turns) (q := 343) lL_27 iX6_turns kX6_turns s0 dL_law_340 (x_turns hX.1.1 hX.1.2 (fun I1 f1 n1 => ?_))
  have X1 := hX.n f1 n1
  have M1 := hM.x (fun y a c => f1 y (by omega) (by unfold stk; omega)) (fun _ _ _ => rfl) rfl
  refine v_aload_n (q := 344) dL_law_343 (kk := ?_)
  refine v_aload_n (q := 345) dL_law_344 (kk := ?_)
  refine v_iload_n (q := 346) dL_law_345 (kk := ?_)
  refine v_iconst (v := 1) (q := 347) dL_law_346 (kk := ?_)
  refine v_iadd (q := 348) dL_law_347 (kk := ?_)
  refine v_scld (q := 349) (i + 1) (nI_add i 1) (by omega) hL dL_law_348 (kk := ?_)
  refine v_aload_n (q := 350) dL_law_349 (kk := ?_)
  refine v_iload_n (q := 351) dL_law_350 (kk := ?_)
  refine v_iconst (v := 2) (q := 352) dL_law_351 (kk := ?_)
  refine v_iadd (q := 353) dL_law_352 (kk := ?_)
  refine v_scld (q := 354) (i + 2) (nI_add i 2) (by omega) hL dL_law_353 (kk := ?_)
  refine v_cV2 (N := mX7_turns) (q := 357) lL_30 iX7_turns kX7_turns sm dL_law_354 (m_turns M1.1 M1.2.1 mn (fun I2 f2 n2 => ?_))
  have M2 := M1.n (fun y a1 a2 a3 a4 => f2 y a1 a3 a4) n2
  have X2 := X1.mo (fun y hy => f2 y (by omega) (by omega) (by omega))
  refine v_icmp_eqT 1459 dL_law_357 (rfl) (kt := ?_)
  exact next _ _ _ _ ⟨_, _, _, _, _, _, _, _, _, _, _, _, _, _, X2, M2⟩
theorem lc_4 (hrel : REL S I R b z) (hi : i + 6 ≤ g.2.2.1 7) (hL : g.2.2.1 7 < 2 ^ 31) (next : ∀ (S' : hcS) (I' : hcI) (R' : hcR) (z' : Nat), REL S' I' R' b z' → V g mL_law 114 kc ks S' I' R' z' 1459 (LL g b i) [] Q) : V g mL_law 114 (kc + 3) (ks + 200) S I R z 362 (LL g b i) [] Q := by
  have hrel' := hrel
  obtain ⟨N, Ni, im, so, si, ce, ho, hA, hB, hl, tl, tp, wt, te, hX, hM⟩ := hrel'
  have mn := hX.1.2.mn
  have s0 := hX.1.1.1.1
  have sm := hM.1.1
  unfold LL at next ⊢
  refine V.less (kc' := kc) (ks' := ks) ?_ (by omega) (by omega)
  refine v_aload_n (q := 363) dL_law_362 (kk := ?_)
  refine v_aload_n (q := 364) dL_law_363 (kk := ?_)
  refine v_iload_n (q := 365) dL_law_364 (kk := ?_)
  refine v_iconst (v := 1) (q := 366) dL_law_365 (kk := ?_)
  refine v_iadd (q := 367) dL_law_366 (kk := ?_)
  refine v_scld (q := 368) (i + 1) (nI_add i 1) (by omega) hL dL_law_367 (kk := ?_)
  refine v_aload_n (q := 369) dL_law_368 (kk := ?_)
  refine v_iload_n (q := 370) dL_law_369 (kk := ?_)
  refine v_iconst (v := 2) (q := 371) dL_law_370 (kk := ?_)
  refine v_iadd (q := 372) dL_law_371 (kk := ?_)
  refine v_scld (q := 373) (i + 2) (nI_add i 2) (by omega) hL dL_law_372 (kk := ?_)
  refine v_aload_n (q := 374) dL_law_373 (kk := ?_)
  refine v_iload_n (q := 375) dL_law_374 (kk := ?_)
  refine v_iconst (v := 3) (q := 376) dL_law_375 (kk := ?_)
  refine v_iadd (q := 377) dL_law_376 (kk := ?_)
  refine v_scld (q := 378) (i + 3) (nI_add i 3) (by omega) hL dL_law_377 (kk := ?_)
  refine v_cV3 (N := mX6_set) (q := 381) lL_31 iX6_set kX6_set s0 dL_law_378 (x_set hX.1.1 hX.1.2 (fun I1 f1 n1 => ?_))
  have X1 := hX.n f1 n1
  have M1 := hM.x (fun y a c => f1 y (by omega) (by unfold stk; omega)) (fun _ _ _ => rfl) rfl
  refine v_aload_n (q := 382) dL_law_381 (kk := ?_)
  refine v_aload_n (q := 383) dL_law_382 (kk := ?_)
  refine v_iload_n (q := 384) dL_law_383 (kk := ?_)
  refine v_iconst (v := 1) (q := 385) dL_law_384 (kk := ?_)
  refine v_iadd (q := 386) dL_law_385 (kk := ?_)
  refine v_scld (q := 387) (i + 1) (nI_add i 1) (by omega) hL dL_law_386 (kk := ?_)
  refine v_aload_n (q := 388) dL_law_387 (kk := ?_)
  refine v_iload_n (q := 389) dL_law_388 (kk := ?_)
  refine v_iconst (v := 2) (q := 390) dL_law_389 (kk := ?_)
  refine v_iadd (q := 391) dL_law_390 (kk := ?_)
  refine v_scld (q := 392) (i + 2) (nI_add i 2) (by omega) hL dL_law_391 (kk := ?_)
  refine v_aload_n (q := 393) dL_law_392 (kk := ?_)
  refine v_iload_n (q := 394) dL_law_393 (kk := ?_)
  refine v_iconst (v := 3) (q := 395) dL_law_394 (kk := ?_)
  refine v_iadd (q := 396) dL_law_395 (kk := ?_)
  refine v_scld (q := 397) (i + 3) (nI_add i 3) (by omega) hL dL_law_396 (kk := ?_)
  refine v_cV3 (N := mX7_set) (q := 400) lL_34 iX7_set kX7_set sm dL_law_397 (m_set M1.1 M1.2.1 mn (fun I2 f2 n2 => ?_))
  have M2 := M1.n (fun y a1 a2 a3 a4 => f2 y a1 a3 a4) n2
  have X2 := X1.mo (fun y hy => f2 y (by omega) (by omega) (by omega))
  refine v_icmp_eqT 1459 dL_law_400 (rfl) (kt := ?_)
  exact next _ _ _ _ ⟨_, _, _, _, _, _, _, _, _, _, _, _, _, _, X2, M2⟩
theorem lc_5 (hrel : REL S I R b z) (hi : i + 6 ≤ g.2.2.1 7) (hL : g.2.2.1 7 < 2 ^ 31) (next : ∀ (S' : hcS) (I' : hcI) (R' : hcR) (z' : Nat), REL S' I' R' b z' → V g mL_law 114 kc ks S' I' R' z' 1459 (LL g b i) [] Q) : V g mL_law 114 (kc + 3) (ks + 200) S I R z 405 (LL g b i) [] Q := by
  have hrel' := hrel
  obtain ⟨N, Ni, im, so, si, ce, ho, hA, hB, hl, tl, tp, wt, te, hX, hM⟩ := hrel'
  have mn := hX.1.2.mn
  have s0 := hX.1.1.1.1
  have sm := hM.1.1
  unfold LL at next ⊢
  refine V.less (kc' := kc) (ks' := ks) ?_ (by omega) (by omega)
  refine v_aload_n (q := 406) dL_law_405 (kk := ?_)
  refine v_aload_n (q := 407) dL_law_406 (kk := ?_)
  refine v_iload_n (q := 408) dL_law_407 (kk := ?_)
  refine v_iconst (v := 1) (q := 409) dL_law_408 (kk := ?_)
  refine v_iadd (q := 410) dL_law_409 (kk := ?_)
  refine v_scld (q := 411) (i + 1) (nI_add i 1) (by omega) hL dL_law_410 (kk := ?_)
  refine v_aload_n (q := 412) dL_law_411 (kk := ?_)
  refine v_iload_n (q := 413) dL_law_412 (kk := ?_)
  refine v_iconst (v := 2) (q := 414) dL_law_413 (kk := ?_)
  refine v_iadd (q := 415) dL_law_414 (kk := ?_)
  refine v_scld (q := 416) (i + 2) (nI_add i 2) (by omega) hL dL_law_415 (kk := ?_)
  refine v_cV2 (N := mX6_move) (q := 419) lL_35 iX6_move kX6_move s0 dL_law_416 (x_move hX.1.1 hX.1.2 (fun I1 f1 n1 => ?_))
  have X1 := hX.n f1 n1
  have M1 := hM.x (fun y a c => f1 y (by omega) (by unfold stk; omega)) (fun _ _ _ => rfl) rfl
  refine v_aload_n (q := 420) dL_law_419 (kk := ?_)
  refine v_aload_n (q := 421) dL_law_420 (kk := ?_)
  refine v_iload_n (q := 422) dL_law_421 (kk := ?_)
  refine v_iconst (v := 1) (q := 423) dL_law_422 (kk := ?_)
  refine v_iadd (q := 424) dL_law_423 (kk := ?_)
  refine v_scld (q := 425) (i + 1) (nI_add i 1) (by omega) hL dL_law_424 (kk := ?_)
  refine v_aload_n (q := 426) dL_law_425 (kk := ?_)
  refine v_iload_n (q := 427) dL_law_426 (kk := ?_)
  refine v_iconst (v := 2) (q := 428) dL_law_427 (kk := ?_)
  refine v_iadd (q := 429) dL_law_428 (kk := ?_)
  refine v_scld (q := 430) (i + 2) (nI_add i 2) (by omega) hL dL_law_429 (kk := ?_)
  refine v_cV2 (N := mX7_move) (q := 433) lL_38 iX7_move kX7_move sm dL_law_430 (m_move M1.1 M1.2.1 mn (fun I2 f2 n2 => ?_))
  have M2 := M1.n (fun y a1 a2 a3 a4 => f2 y a1 a3 a4) n2
  have X2 := X1.mo (fun y hy => f2 y (by omega) (by omega) (by omega))
  refine v_icmp_eqT 1459 dL_law_433 (rfl) (kt := ?_)
  exact next _ _ _ _ ⟨_, _, _, _, _, _, _, _, _, _, _, _, _, _, X2, M2⟩
theorem lc_6 (hrel : REL S I R b z) (hi : i + 6 ≤ g.2.2.1 7) (hL : g.2.2.1 7 < 2 ^ 31) (next : ∀ (S' : hcS) (I' : hcI) (R' : hcR) (z' : Nat), REL S' I' R' b z' → V g mL_law 114 kc ks S' I' R' z' 1459 (LL g b i) [] Q) : V g mL_law 114 (kc + 3) (ks + 200) S I R z 438 (LL g b i) [] Q := by
  have hrel' := hrel
  obtain ⟨N, Ni, im, so, si, ce, ho, hA, hB, hl, tl, tp, wt, te, hX, hM⟩ := hrel'
  have mn := hX.1.2.mn
  have s0 := hX.1.1.1.1
  have sm := hM.1.1
  unfold LL at next ⊢
  refine V.less (kc' := kc) (ks' := ks) ?_ (by omega) (by omega)
  refine v_aload_n (q := 439) dL_law_438 (kk := ?_)
  refine v_aload_n (q := 440) dL_law_439 (kk := ?_)
  refine v_iload_n (q := 441) dL_law_440 (kk := ?_)
  refine v_iconst (v := 1) (q := 442) dL_law_441 (kk := ?_)
  refine v_iadd (q := 443) dL_law_442 (kk := ?_)
  refine v_scld (q := 444) (i + 1) (nI_add i 1) (by omega) hL dL_law_443 (kk := ?_)
  refine v_cV1 (N := mX6_onSeat) (q := 447) lL_39 iX6_onSeat kX6_onSeat s0 dL_law_444 (x_onSeat hX.1.1 hX.1.2 ?_)
  have M1 := hM
  refine v_aload_n (q := 448) dL_law_447 (kk := ?_)
  refine v_aload_n (q := 449) dL_law_448 (kk := ?_)
  refine v_iload_n (q := 450) dL_law_449 (kk := ?_)
  refine v_iconst (v := 1) (q := 451) dL_law_450 (kk := ?_)
  refine v_iadd (q := 452) dL_law_451 (kk := ?_)
  refine v_scld (q := 453) (i + 1) (nI_add i 1) (by omega) hL dL_law_452 (kk := ?_)
  refine v_cV1 (N := mX7_onSeat) (q := 456) lL_43 iX7_onSeat kX7_onSeat sm dL_law_453 (m_onSeat M1.1 M1.2.1 mn ?_)
  refine v_icmp_eqT 1459 dL_law_456 (rfl) (kt := ?_)
  exact next S I R z hrel
theorem lc_7 (hrel : REL S I R b z) (hi : i + 6 ≤ g.2.2.1 7) (hL : g.2.2.1 7 < 2 ^ 31) (next : ∀ (S' : hcS) (I' : hcI) (R' : hcR) (z' : Nat), REL S' I' R' b z' → V g mL_law 114 kc ks S' I' R' z' 1459 (LL g b i) [] Q) : V g mL_law 114 (kc + 3) (ks + 200) S I R z 461 (LL g b i) [] Q := by
  have hrel' := hrel
  obtain ⟨N, Ni, im, so, si, ce, ho, hA, hB, hl, tl, tp, wt, te, hX, hM⟩ := hrel'
  have mn := hX.1.2.mn
  have s0 := hX.1.1.1.1
  have sm := hM.1.1
  unfold LL at next ⊢
  refine V.less (kc' := kc) (ks' := ks) ?_ (by omega) (by omega)
  refine v_aload_n (q := 462) dL_law_461 (kk := ?_)
  refine v_aload_n (q := 463) dL_law_462 (kk := ?_)
  refine v_iload_n (q := 464) dL_law_463 (kk := ?_)
  refine v_iconst (v := 1) (q := 465) dL_law_464 (kk := ?_)
  refine v_iadd (q := 466) dL_law_465 (kk := ?_)
  refine v_scld (q := 467) (i + 1) (nI_add i 1) (by omega) hL dL_law_466 (kk := ?_)
  refine v_cV1 (N := mX6_deal) (q := 470) lL_44 iX6_deal kX6_deal s0 dL_law_467 (x_deal hX.1.1 hX.1.2 (fun I1 f1 n1 => ?_))
  have X1 := hX.n f1 n1
  have M1 := hM.x (fun y a c => f1 y (by omega) (by unfold stk; omega)) (fun _ _ _ => rfl) rfl
  refine v_aload_n (q := 471) dL_law_470 (kk := ?_)
  refine v_aload_n (q := 472) dL_law_471 (kk := ?_)
  refine v_iload_n (q := 473) dL_law_472 (kk := ?_)
  refine v_iconst (v := 1) (q := 474) dL_law_473 (kk := ?_)
  refine v_iadd (q := 475) dL_law_474 (kk := ?_)
  refine v_scld (q := 476) (i + 1) (nI_add i 1) (by omega) hL dL_law_475 (kk := ?_)
  refine v_cV1 (N := mX7_deal) (q := 479) lL_47 iX7_deal kX7_deal sm dL_law_476 (m_deal M1.1 M1.2.1 mn (fun I2 f2 n2 => ?_))
  have M2 := M1.n (fun y a1 a2 a3 a4 => f2 y a1 a3 a4) n2
  have X2 := X1.mo (fun y hy => f2 y (by omega) (by omega) (by omega))
  refine v_icmp_eqT 1459 dL_law_479 (rfl) (kt := ?_)
  exact next _ _ _ _ ⟨_, _, _, _, _, _, _, _, _, _, _, _, _, _, X2, M2⟩
theorem lc_8 (hrel : REL S I R b z) (hi : i + 6 ≤ g.2.2.1 7) (hL : g.2.2.1 7 < 2 ^ 31) (next : ∀ (S' : hcS) (I' : hcI) (R' : hcR) (z' : Nat), REL S' I' R' b z' → V g mL_law 114 kc ks S' I' R' z' 1459 (LL g b i) [] Q) : V g mL_law 114 (kc + 3) (ks + 200) S I R z 484 (LL g b i) [] Q := by
  have hrel' := hrel
  obtain ⟨N, Ni, im, so, si, ce, ho, hA, hB, hl, tl, tp, wt, te, hX, hM⟩ := hrel'
  have mn := hX.1.2.mn
  have s0 := hX.1.1.1.1
  have sm := hM.1.1
  unfold LL at next ⊢
  refine V.less (kc' := kc) (ks' := ks) ?_ (by omega) (by omega)
  refine v_aload_n (q := 485) dL_law_484 (kk := ?_)
  refine v_aload_n (q := 486) dL_law_485 (kk := ?_)
  refine v_iload_n (q := 487) dL_law_486 (kk := ?_)
  refine v_iconst (v := 1) (q := 488) dL_law_487 (kk := ?_)
  refine v_iadd (q := 489) dL_law_488 (kk := ?_)
  refine v_scld (q := 490) (i + 1) (nI_add i 1) (by omega) hL dL_law_489 (kk := ?_)
  refine v_cV1 (N := mX6_seed) (q := 493) lL_48 iX6_seed kX6_seed s0 dL_law_490 (x_seed hX.1.1 hX.1.2 (fun I1 f1 n1 => ?_))
  have X1 := hX.n f1 n1
  have M1 := hM.x (fun y a c => f1 y (by omega) (by unfold stk; omega)) (fun _ _ _ => rfl) rfl
  refine v_aload_n (q := 494) dL_law_493 (kk := ?_)
  refine v_aload_n (q := 495) dL_law_494 (kk := ?_)
  refine v_iload_n (q := 496) dL_law_495 (kk := ?_)
  refine v_iconst (v := 1) (q := 497) dL_law_496 (kk := ?_)
  refine v_iadd (q := 498) dL_law_497 (kk := ?_)
  refine v_scld (q := 499) (i + 1) (nI_add i 1) (by omega) hL dL_law_498 (kk := ?_)
  refine v_cV1 (N := mX7_seed) (q := 502) lL_51 iX7_seed kX7_seed sm dL_law_499 (m_seed M1.1 M1.2.1 (fun I2 f2 n2 => ?_))
  have M2 := M1.n (fun y a1 a2 a3 a4 => f2 y a1 a3 a4) n2
  have X2 := X1.mo (fun y hy => f2 y (by omega) (by omega) (by omega))
  refine v_icmp_eqT 1459 dL_law_502 (rfl) (kt := ?_)
  exact next _ _ _ _ ⟨_, _, _, _, _, _, _, _, _, _, _, _, _, _, X2, M2⟩
theorem lc_9 (hrel : REL S I R b z) (hi : i + 6 ≤ g.2.2.1 7) (hL : g.2.2.1 7 < 2 ^ 31) (next : ∀ (S' : hcS) (I' : hcI) (R' : hcR) (z' : Nat), REL S' I' R' b z' → V g mL_law 114 kc ks S' I' R' z' 1459 (LL g b i) [] Q) : V g mL_law 114 (kc + 3) (ks + 200) S I R z 507 (LL g b i) [] Q := by
  have hrel' := hrel
  obtain ⟨N, Ni, im, so, si, ce, ho, hA, hB, hl, tl, tp, wt, te, hX, hM⟩ := hrel'
  have mn := hX.1.2.mn
  have s0 := hX.1.1.1.1
  have sm := hM.1.1
  unfold LL at next ⊢
  refine V.less (kc' := kc) (ks' := ks) ?_ (by omega) (by omega)
  refine v_aload_n (q := 508) dL_law_507 (kk := ?_)
  refine v_aload_n (q := 509) dL_law_508 (kk := ?_)
  refine v_iload_n (q := 510) dL_law_509 (kk := ?_)
  refine v_iconst (v := 1) (q := 511) dL_law_510 (kk := ?_)
  refine v_iadd (q := 512) dL_law_511 (kk := ?_)
  refine v_scld (q := 513) (i + 1) (nI_add i 1) (by omega) hL dL_law_512 (kk := ?_)
  refine v_aload_n (q := 514) dL_law_513 (kk := ?_)
  refine v_iload_n (q := 515) dL_law_514 (kk := ?_)
  refine v_iconst (v := 2) (q := 516) dL_law_515 (kk := ?_)
  refine v_iadd (q := 517) dL_law_516 (kk := ?_)
  refine v_scld (q := 518) (i + 2) (nI_add i 2) (by omega) hL dL_law_517 (kk := ?_)
  refine v_cV2 (N := mX6_hall) (q := 521) lL_52 iX6_hall kX6_hall s0 dL_law_518 (x_hall hX.1.1 hX.1.2 (fun I1 f1 n1 => ?_))
  have X1 := hX.n f1 n1
  have M1 := hM.x (fun y a c => f1 y (by omega) (by unfold stk; omega)) (fun _ _ _ => rfl) rfl
  refine v_aload_n (q := 522) dL_law_521 (kk := ?_)
  refine v_aload_n (q := 523) dL_law_522 (kk := ?_)
  refine v_iload_n (q := 524) dL_law_523 (kk := ?_)
  refine v_iconst (v := 1) (q := 525) dL_law_524 (kk := ?_)
  refine v_iadd (q := 526) dL_law_525 (kk := ?_)
  refine v_scld (q := 527) (i + 1) (nI_add i 1) (by omega) hL dL_law_526 (kk := ?_)
  refine v_aload_n (q := 528) dL_law_527 (kk := ?_)
  refine v_iload_n (q := 529) dL_law_528 (kk := ?_)
  refine v_iconst (v := 2) (q := 530) dL_law_529 (kk := ?_)
  refine v_iadd (q := 531) dL_law_530 (kk := ?_)
  refine v_scld (q := 532) (i + 2) (nI_add i 2) (by omega) hL dL_law_531 (kk := ?_)
  refine v_cV2 (N := mX7_hall) (q := 535) lL_55 iX7_hall kX7_hall sm dL_law_532 (m_hall M1.1 M1.2.1 mn (fun I2 f2 n2 => ?_))
  have M2 := M1.n (fun y a1 a2 a3 a4 => f2 y a1 a3 a4) n2
  have X2 := X1.mo (fun y hy => f2 y (by omega) (by omega) (by omega))
  refine v_icmp_eqT 1459 dL_law_535 (rfl) (kt := ?_)
  exact next _ _ _ _ ⟨_, _, _, _, _, _, _, _, _, _, _, _, _, _, X2, M2⟩
theorem lc_10 (hrel : REL S I R b z) (hi : i + 6 ≤ g.2.2.1 7) (hL : g.2.2.1 7 < 2 ^ 31) (next : ∀ (S' : hcS) (I' : hcI) (R' : hcR) (z' : Nat), REL S' I' R' b z' → V g mL_law 114 kc ks S' I' R' z' 1459 (LL g b i) [] Q) : V g mL_law 114 (kc + 3) (ks + 200) S I R z 540 (LL g b i) [] Q := by
  have hrel' := hrel
  obtain ⟨N, Ni, im, so, si, ce, ho, hA, hB, hl, tl, tp, wt, te, hX, hM⟩ := hrel'
  have mn := hX.1.2.mn
  have s0 := hX.1.1.1.1
  have sm := hM.1.1
  unfold LL at next ⊢
  refine V.less (kc' := kc) (ks' := ks) ?_ (by omega) (by omega)
  refine v_aload_n (q := 541) dL_law_540 (kk := ?_)
  refine v_aload_n (q := 542) dL_law_541 (kk := ?_)
  refine v_iload_n (q := 543) dL_law_542 (kk := ?_)
  refine v_iconst (v := 1) (q := 544) dL_law_543 (kk := ?_)
  refine v_iadd (q := 545) dL_law_544 (kk := ?_)
  refine v_scld (q := 546) (i + 1) (nI_add i 1) (by omega) hL dL_law_545 (kk := ?_)
  refine v_cV1 (N := mX6_bars) (q := 549) lL_56 iX6_bars kX6_bars s0 dL_law_546 (x_bars hX.1.1 hX.1.2 (fun I1 f1 n1 => ?_))
  have X1 := hX.n f1 n1
  have M1 := hM.x (fun y a c => f1 y (by omega) (by unfold stk; omega)) (fun _ _ _ => rfl) rfl
  refine v_aload_n (q := 550) dL_law_549 (kk := ?_)
  refine v_aload_n (q := 551) dL_law_550 (kk := ?_)
  refine v_iload_n (q := 552) dL_law_551 (kk := ?_)
  refine v_iconst (v := 1) (q := 553) dL_law_552 (kk := ?_)
  refine v_iadd (q := 554) dL_law_553 (kk := ?_)
  refine v_scld (q := 555) (i + 1) (nI_add i 1) (by omega) hL dL_law_554 (kk := ?_)
  refine v_cV1 (N := mX7_bars) (q := 558) lL_59 iX7_bars kX7_bars sm dL_law_555 (m_bars M1.1 M1.2.1 mn (fun I2 f2 n2 => ?_))
  have M2 := M1.n (fun y a1 a2 a3 a4 => f2 y a1 a3 a4) n2
  have X2 := X1.mo (fun y hy => f2 y (by omega) (by omega) (by omega))
  refine v_icmp_eqT 1459 dL_law_558 (rfl) (kt := ?_)
  exact next _ _ _ _ ⟨_, _, _, _, _, _, _, _, _, _, _, _, _, _, X2, M2⟩
theorem lc_11 (hrel : REL S I R b z) (hi : i + 6 ≤ g.2.2.1 7) (hL : g.2.2.1 7 < 2 ^ 31) (next : ∀ (S' : hcS) (I' : hcI) (R' : hcR) (z' : Nat), REL S' I' R' b z' → V g mL_law 114 kc ks S' I' R' z' 1459 (LL g b i) [] Q) : V g mL_law 114 (kc + 3) (ks + 200) S I R z 563 (LL g b i) [] Q := by
  have hrel' := hrel
  obtain ⟨N, Ni, im, so, si, ce, ho, hA, hB, hl, tl, tp, wt, te, hX, hM⟩ := hrel'
  have mn := hX.1.2.mn
  have s0 := hX.1.1.1.1
  have sm := hM.1.1
  unfold LL at next ⊢
  refine V.less (kc' := kc) (ks' := ks) ?_ (by omega) (by omega)
  refine v_aload_n (q := 564) dL_law_563 (kk := ?_)
  refine v_aload_n (q := 565) dL_law_564 (kk := ?_)
  refine v_iload_n (q := 566) dL_law_565 (kk := ?_)
  refine v_iconst (v := 1) (q := 567) dL_law_566 (kk := ?_)
  refine v_iadd (q := 568) dL_law_567 (kk := ?_)
  refine v_scld (q := 569) (i + 1) (nI_add i 1) (by omega) hL dL_law_568 (kk := ?_)
  refine v_aload_n (q := 570) dL_law_569 (kk := ?_)
  refine v_iload_n (q := 571) dL_law_570 (kk := ?_)
  refine v_iconst (v := 2) (q := 572) dL_law_571 (kk := ?_)
  refine v_iadd (q := 573) dL_law_572 (kk := ?_)
  refine v_scld (q := 574) (i + 2) (nI_add i 2) (by omega) hL dL_law_573 (kk := ?_)
  refine v_cV2 (N := mX6_loud) (q := 577) lL_60 iX6_loud kX6_loud s0 dL_law_574 (x_loud hX.1.1 hX.1.2 (fun I1 f1 n1 => ?_))
  have X1 := hX.n f1 n1
  have M1 := hM.x (fun y a c => f1 y (by omega) (by unfold stk; omega)) (fun _ _ _ => rfl) rfl
  refine v_aload_n (q := 578) dL_law_577 (kk := ?_)
  refine v_aload_n (q := 579) dL_law_578 (kk := ?_)
  refine v_iload_n (q := 580) dL_law_579 (kk := ?_)
  refine v_iconst (v := 1) (q := 581) dL_law_580 (kk := ?_)
  refine v_iadd (q := 582) dL_law_581 (kk := ?_)
  refine v_scld (q := 583) (i + 1) (nI_add i 1) (by omega) hL dL_law_582 (kk := ?_)
  refine v_aload_n (q := 584) dL_law_583 (kk := ?_)
  refine v_iload_n (q := 585) dL_law_584 (kk := ?_)
  refine v_iconst (v := 2) (q := 586) dL_law_585 (kk := ?_)
  refine v_iadd (q := 587) dL_law_586 (kk := ?_)
  refine v_scld (q := 588) (i + 2) (nI_add i 2) (by omega) hL dL_law_587 (kk := ?_)
  refine v_cV2 (N := mX7_loud) (q := 591) lL_63 iX7_loud kX7_loud sm dL_law_588 (m_loud M1.1 M1.2.1 mn (fun I2 f2 n2 => ?_))
  have M2 := M1.n (fun y a1 a2 a3 a4 => f2 y a1 a3 a4) n2
  have X2 := X1.mo (fun y hy => f2 y (by omega) (by omega) (by omega))
  refine v_icmp_eqT 1459 dL_law_591 (rfl) (kt := ?_)
  exact next _ _ _ _ ⟨_, _, _, _, _, _, _, _, _, _, _, _, _, _, X2, M2⟩
theorem lc_12 (hrel : REL S I R b z) (hi : i + 6 ≤ g.2.2.1 7) (hL : g.2.2.1 7 < 2 ^ 31) (next : ∀ (S' : hcS) (I' : hcI) (R' : hcR) (z' : Nat), REL S' I' R' b z' → V g mL_law 114 kc ks S' I' R' z' 1459 (LL g b i) [] Q) : V g mL_law 114 (kc + 3) (ks + 200) S I R z 596 (LL g b i) [] Q := by
  have hrel' := hrel
  obtain ⟨N, Ni, im, so, si, ce, ho, hA, hB, hl, tl, tp, wt, te, hX, hM⟩ := hrel'
  have mn := hX.1.2.mn
  have s0 := hX.1.1.1.1
  have sm := hM.1.1
  unfold LL at next ⊢
  refine V.less (kc' := kc) (ks' := ks) ?_ (by omega) (by omega)
  refine v_aload_n (q := 597) dL_law_596 (kk := ?_)
  refine v_aload_n (q := 598) dL_law_597 (kk := ?_)
  refine v_iload_n (q := 599) dL_law_598 (kk := ?_)
  refine v_iconst (v := 1) (q := 600) dL_law_599 (kk := ?_)
  refine v_iadd (q := 601) dL_law_600 (kk := ?_)
  refine v_scld (q := 602) (i + 1) (nI_add i 1) (by omega) hL dL_law_601 (kk := ?_)
  refine v_cV1 (N := mX6_music) (q := 605) lL_64 iX6_music kX6_music s0 dL_law_602 (x_music hX.1.1 hX.1.2 ?_)
  have M1 := hM
  refine v_aload_n (q := 606) dL_law_605 (kk := ?_)
  refine v_aload_n (q := 607) dL_law_606 (kk := ?_)
  refine v_iload_n (q := 608) dL_law_607 (kk := ?_)
  refine v_iconst (v := 1) (q := 609) dL_law_608 (kk := ?_)
  refine v_iadd (q := 610) dL_law_609 (kk := ?_)
  refine v_scld (q := 611) (i + 1) (nI_add i 1) (by omega) hL dL_law_610 (kk := ?_)
  refine v_cV1 (N := mX7_music) (q := 614) lL_67 iX7_music kX7_music sm dL_law_611 (m_music M1.1 M1.2.1 mn ?_)
  refine v_icmp_eqT 1459 dL_law_614 (rfl) (kt := ?_)
  exact next S I R z hrel
theorem lc_13 (hrel : REL S I R b z) (hi : i + 6 ≤ g.2.2.1 7) (hL : g.2.2.1 7 < 2 ^ 31) (next : ∀ (S' : hcS) (I' : hcI) (R' : hcR) (z' : Nat), REL S' I' R' b z' → V g mL_law 114 kc ks S' I' R' z' 1459 (LL g b i) [] Q) : V g mL_law 114 (kc + 3) (ks + 200) S I R z 619 (LL g b i) [] Q := by
  have hrel' := hrel
  obtain ⟨N, Ni, im, so, si, ce, ho, hA, hB, hl, tl, tp, wt, te, hX, hM⟩ := hrel'
  have mn := hX.1.2.mn
  have s0 := hX.1.1.1.1
  have sm := hM.1.1
  unfold LL at next ⊢
  refine V.less (kc' := kc) (ks' := ks) ?_ (by omega) (by omega)
  refine v_aload_n (q := 620) dL_law_619 (kk := ?_)
  refine v_aload_n (q := 621) dL_law_620 (kk := ?_)
  refine v_iload_n (q := 622) dL_law_621 (kk := ?_)
  refine v_iconst (v := 1) (q := 623) dL_law_622 (kk := ?_)
  refine v_iadd (q := 624) dL_law_623 (kk := ?_)
  refine v_scld (q := 625) (i + 1) (nI_add i 1) (by omega) hL dL_law_624 (kk := ?_)
  refine v_cV1 (N := mX6_run) (q := 628) lL_68 iX6_run kX6_run s0 dL_law_625 (x_run hX.1.1 hX.1.2 (fun I1 f1 n1 => ?_))
  have X1 := hX.n f1 n1
  have M1 := hM.x (fun y a c => f1 y (by omega) (by unfold stk; omega)) (fun _ _ _ => rfl) rfl
  refine v_aload_n (q := 629) dL_law_628 (kk := ?_)
  refine v_aload_n (q := 630) dL_law_629 (kk := ?_)
  refine v_iload_n (q := 631) dL_law_630 (kk := ?_)
  refine v_iconst (v := 1) (q := 632) dL_law_631 (kk := ?_)
  refine v_iadd (q := 633) dL_law_632 (kk := ?_)
  refine v_scld (q := 634) (i + 1) (nI_add i 1) (by omega) hL dL_law_633 (kk := ?_)
  refine v_cV1 (N := mX7_run) (q := 637) lL_71 iX7_run kX7_run sm dL_law_634 (m_run M1.1 M1.2.1 mn (fun I2 f2 n2 => ?_))
  have M2 := M1.n (fun y a1 a2 a3 a4 => f2 y a1 a3 a4) n2
  have X2 := X1.mo (fun y hy => f2 y (by omega) (by omega) (by omega))
  refine v_icmp_eqT 1459 dL_law_637 (rfl) (kt := ?_)
  exact next _ _ _ _ ⟨_, _, _, _, _, _, _, _, _, _, _, _, _, _, X2, M2⟩
theorem lc_14 (hrel : REL S I R b z) (hi : i + 6 ≤ g.2.2.1 7) (hL : g.2.2.1 7 < 2 ^ 31) (next : ∀ (S' : hcS) (I' : hcI) (R' : hcR) (z' : Nat), REL S' I' R' b z' → V g mL_law 114 kc ks S' I' R' z' 1459 (LL g b i) [] Q) : V g mL_law 114 (kc + 3) (ks + 200) S I R z 642 (LL g b i) [] Q := by
  have hrel' := hrel
  obtain ⟨N, Ni, im, so, si, ce, ho, hA, hB, hl, tl, tp, wt, te, hX, hM⟩ := hrel'
  have mn := hX.1.2.mn
  have s0 := hX.1.1.1.1
  have sm := hM.1.1
  unfold LL at next ⊢
  refine V.less (kc' := kc) (ks' := ks) ?_ (by omega) (by omega)
  refine v_aload_n (q := 643) dL_law_642 (kk := ?_)
  refine v_cV0 (N := mX6_did) (q := 646) lL_72 iX6_did kX6_did s0 dL_law_643 (x_did hX.1.1 hX.1.2 ?_)
  have M1 := hM
  refine v_aload_n (q := 647) dL_law_646 (kk := ?_)
  refine v_cV0 (N := mX7_did) (q := 650) lL_76 iX7_did kX7_did sm dL_law_647 (m_did M1.1 M1.2.1 ?_)
  refine v_icmp_eqT 1459 dL_law_650 (rfl) (kt := ?_)
  exact next S I R z hrel
end L27
