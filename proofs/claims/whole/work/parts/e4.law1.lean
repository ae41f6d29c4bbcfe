/-! ===== the law, call by call ===== -/
def mdL (nm : String) : zD := (⟨RL, nm, "([I)Z"⟩, cL_law, 4, some .boolean)
abbrev lsL (i : Nat) : List (Option Value) := [some (.ref 1000030), some (.ref 0), some (.ref 258), some (.int (nI i))]
theorem zM_mono {l : Launch} {G : zG} {md : zD} {d mc ms : Nat} {args : List Value} {Z : zS} {I : zI} {Q Q' : Option Value → zS → zI → Prop} (h : zM l G md d mc ms args Z I Q) (hq : ∀ r Z I, Q r Z I → Q' r Z I) : zM l G md d mc ms args Z I Q' := by
  intro p e ha hb hc s m a below h1 h2 h3 h4
  obtain ⟨n, o, k1, k2, k3, ⟨⟨r, Z1, I1, e1, q1, z1⟩, f1⟩, L1⟩ := h p e ha hb hc s m a below h1 h2 h3 h4
  exact ⟨n, o, k1, k2, k3, ⟨⟨r, Z1, I1, e1, hq _ _ _ q1, z1⟩, f1⟩, L1⟩
theorem x_less {l : Launch} {G : zG} {md : zD} {d ac as ac' as' pc : Nat} {ls : List (Option Value)} {st : List Value} {Z : zS} {I : zI} {Q : Option Value → zS → zI → Prop} (h1 : ac' ≤ ac) (h2 : as' ≤ as) (h : zX l G md d ac' as' pc ls st Z I Q) : zX l G md d ac as pc ls st Z I Q := by
  intro p e R s m args below meth c H locs cells slots lc hc hr hH hS hl
  exact h p e R s m args below meth c H locs cells slots lc hc ⟨hr.1, hr.2.1, by omega, by omega⟩ hH hS hl
section
variable {l : Launch} {G : zG} {nm : String} {Z : zS} {J : zI} {Q : Option Value → zS → zI → Prop} {i ac as : Nat}
theorem la_chains (hL : i + 6 ≤ G.2.2.2.2.1) (hL2 : G.2.2.2.2.1 ≤ 3072) (h : LR Z J (J q_s)) (hm : Z.1 + 2 ≤ 900000) (hac : 2 ≤ ac) (has : 100 ≤ as) (hx : ∀ Z2 J2, LR Z2 J2 (J2 q_s) → Z.1 ≤ Z2.1 → Z2.1 ≤ Z.1 + 2 → zX l G (mdL nm) 124 (ac - 2) (as - 100) 1641 (lsL i) [] Z2 J2 Q) : zX l G (mdL nm) 124 ac as 244 (lsL i) [] Z J Q := by
  refine x_ald1 (n := 245) dL_law_244 rfl ?_
  refine x_ald0 (n := 246) dL_law_245 rfl ?_
  refine x_ild3 (n := 247) dL_law_246 rfl ?_
  refine x_ic1 (n := 248) dL_law_247 rfl ?_
  refine x_iaddN (n := 249) dL_law_248 rfl ?_
  refine x_scrld (n := 250) dL_law_249 rfl (by omega) (by omega) ?_
  refine x_gV1 (n := 253) (mc := 0) (ms := 0) (d' := 3) zcX11_chains mlL_13 dL_law_250 rfl (lK_L h.1.1) (Nat.le_of_ble_eq_true rfl) (by omega) (by omega) (Nat.le_of_ble_eq_true rfl) ?_
  refine zM_mono (lw_chains h) (fun r Z1 J1 q => ?_)
  obtain ⟨v, rfl, hk1, q⟩ := q
  refine x_some ?_
  refine x_ald2 (n := 254) dL_law_253 rfl ?_
  refine x_ald0 (n := 255) dL_law_254 rfl ?_
  refine x_ild3 (n := 256) dL_law_255 rfl ?_
  refine x_ic1 (n := 257) dL_law_256 rfl ?_
  refine x_iaddN (n := 258) dL_law_257 rfl ?_
  refine x_scrld (n := 259) dL_law_258 rfl (by omega) (by omega) ?_
  refine x_cV1 (n := 262) (d' := 2) zcX12_chains mlL_17 dL_law_259 rfl hk1 (Nat.le_of_ble_eq_true rfl) (Nat.le_of_ble_eq_true rfl) ?_
  refine zM_mono q (fun r2 Z2 J2 q2 => ?_)
  obtain ⟨rfl, h2, le1, le2⟩ := q2
  refine x_some ?_
  exact x_icmp_eq (n := 265) (tgt := 1641) dL_law_262 rfl (by decide) (fun _ => x_less (by omega) (by omega) (hx Z2 J2 h2 le1 le2)) (fun c => absurd rfl c)
theorem la_set (hL : i + 6 ≤ G.2.2.2.2.1) (hL2 : G.2.2.2.2.1 ≤ 3072) (h : LR Z J (J q_s)) (hm : Z.1 + 2 ≤ 900000) (hac : 2 ≤ ac) (has : 100 ≤ as) (hx : ∀ Z2 J2, LR Z2 J2 (J2 q_s) → Z.1 ≤ Z2.1 → Z2.1 ≤ Z.1 + 2 → zX l G (mdL nm) 124 (ac - 2) (as - 100) 1641 (lsL i) [] Z2 J2 Q) : zX l G (mdL nm) 124 ac as 267 (lsL i) [] Z J Q := by
  refine x_ald1 (n := 268) dL_law_267 rfl ?_
  refine x_ald0 (n := 269) dL_law_268 rfl ?_
  refine x_ild3 (n := 270) dL_law_269 rfl ?_
  refine x_ic1 (n := 271) dL_law_270 rfl ?_
  refine x_iaddN (n := 272) dL_law_271 rfl ?_
  refine x_scrld (n := 273) dL_law_272 rfl (by omega) (by omega) ?_
  refine x_ald0 (n := 274) dL_law_273 rfl ?_
  refine x_ild3 (n := 275) dL_law_274 rfl ?_
  refine x_ic2 (n := 276) dL_law_275 rfl ?_
  refine x_iaddN (n := 277) dL_law_276 rfl ?_
  refine x_scrld (n := 278) dL_law_277 rfl (by omega) (by omega) ?_
  refine x_ald0 (n := 279) dL_law_278 rfl ?_
  refine x_ild3 (n := 280) dL_law_279 rfl ?_
  refine x_ic3 (n := 281) dL_law_280 rfl ?_
  refine x_iaddN (n := 282) dL_law_281 rfl ?_
  refine x_scrld (n := 283) dL_law_282 rfl (by omega) (by omega) ?_
  refine x_gV3 (n := 286) (mc := 0) (ms := 0) (d' := 1) zcX11_set mlL_18 dL_law_283 rfl (lK_L h.1.1) (Nat.le_of_ble_eq_true rfl) (by omega) (by omega) (Nat.le_of_ble_eq_true rfl) ?_
  refine zM_mono (lw_set h) (fun r Z1 J1 q => ?_)
  obtain ⟨v, rfl, hk1, q⟩ := q
  refine x_some ?_
  refine x_ald2 (n := 287) dL_law_286 rfl ?_
  refine x_ald0 (n := 288) dL_law_287 rfl ?_
  refine x_ild3 (n := 289) dL_law_288 rfl ?_
  refine x_ic1 (n := 290) dL_law_289 rfl ?_
  refine x_iaddN (n := 291) dL_law_290 rfl ?_
  refine x_scrld (n := 292) dL_law_291 rfl (by omega) (by omega) ?_
  refine x_ald0 (n := 293) dL_law_292 rfl ?_
  refine x_ild3 (n := 294) dL_law_293 rfl ?_
  refine x_ic2 (n := 295) dL_law_294 rfl ?_
  refine x_iaddN (n := 296) dL_law_295 rfl ?_
  refine x_scrld (n := 297) dL_law_296 rfl (by omega) (by omega) ?_
  refine x_ald0 (n := 298) dL_law_297 rfl ?_
  refine x_ild3 (n := 299) dL_law_298 rfl ?_
  refine x_ic3 (n := 300) dL_law_299 rfl ?_
  refine x_iaddN (n := 301) dL_law_300 rfl ?_
  refine x_scrld (n := 302) dL_law_301 rfl (by omega) (by omega) ?_
  refine x_cV3 (n := 305) (d' := 2) zcX12_set mlL_22 dL_law_302 rfl hk1 (Nat.le_of_ble_eq_true rfl) (Nat.le_of_ble_eq_true rfl) ?_
  refine zM_mono q (fun r2 Z2 J2 q2 => ?_)
  obtain ⟨rfl, h2, le1, le2⟩ := q2
  refine x_some ?_
  exact x_icmp_eq (n := 308) (tgt := 1641) dL_law_305 rfl (by decide) (fun _ => x_less (by omega) (by omega) (hx Z2 J2 h2 le1 le2)) (fun c => absurd rfl c)
theorem la_bore (hL : i + 6 ≤ G.2.2.2.2.1) (hL2 : G.2.2.2.2.1 ≤ 3072) (h : LR Z J (J q_s)) (hm : Z.1 + 2 ≤ 900000) (hac : 2 ≤ ac) (has : 100 ≤ as) (hx : ∀ Z2 J2, LR Z2 J2 (J2 q_s) → Z.1 ≤ Z2.1 → Z2.1 ≤ Z.1 + 2 → zX l G (mdL nm) 124 (ac - 2) (as - 100) 1641 (lsL i) [] Z2 J2 Q) : zX l G (mdL nm) 124 ac as 310 (lsL i) [] Z J Q := by
  refine x_ald1 (n := 311) dL_law_310 rfl ?_
  refine x_ald0 (n := 312) dL_law_311 rfl ?_
  refine x_ild3 (n := 313) dL_law_312 rfl ?_
  refine x_ic1 (n := 314) dL_law_313 rfl ?_
  refine x_iaddN (n := 315) dL_law_314 rfl ?_
  refine x_scrld (n := 316) dL_law_315 rfl (by omega) (by omega) ?_
  refine x_gV1 (n := 319) (mc := 0) (ms := 0) (d' := 2) zcX11_bore mlL_23 dL_law_316 rfl (lK_L h.1.1) (Nat.le_of_ble_eq_true rfl) (by omega) (by omega) (Nat.le_of_ble_eq_true rfl) ?_
  refine zM_mono (lw_bore h) (fun r Z1 J1 q => ?_)
  obtain ⟨v, rfl, hk1, q⟩ := q
  refine x_some ?_
  refine x_ald2 (n := 320) dL_law_319 rfl ?_
  refine x_ald0 (n := 321) dL_law_320 rfl ?_
  refine x_ild3 (n := 322) dL_law_321 rfl ?_
  refine x_ic1 (n := 323) dL_law_322 rfl ?_
  refine x_iaddN (n := 324) dL_law_323 rfl ?_
  refine x_scrld (n := 325) dL_law_324 rfl (by omega) (by omega) ?_
  refine x_cV1 (n := 328) (d' := 2) zcX12_bore mlL_26 dL_law_325 rfl hk1 (Nat.le_of_ble_eq_true rfl) (Nat.le_of_ble_eq_true rfl) ?_
  refine zM_mono q (fun r2 Z2 J2 q2 => ?_)
  obtain ⟨rfl, h2, le1, le2⟩ := q2
  refine x_some ?_
  exact x_icmp_eq (n := 331) (tgt := 1641) dL_law_328 rfl (by decide) (fun _ => x_less (by omega) (by omega) (hx Z2 J2 h2 le1 le2)) (fun c => absurd rfl c)
theorem la_at (hL : i + 6 ≤ G.2.2.2.2.1) (hL2 : G.2.2.2.2.1 ≤ 3072) (h : LR Z J (J q_s)) (hm : Z.1 + 2 ≤ 900000) (hac : 2 ≤ ac) (has : 100 ≤ as) (hx : ∀ Z2 J2, LR Z2 J2 (J2 q_s) → Z.1 ≤ Z2.1 → Z2.1 ≤ Z.1 + 2 → zX l G (mdL nm) 124 (ac - 2) (as - 100) 1641 (lsL i) [] Z2 J2 Q) : zX l G (mdL nm) 124 ac as 333 (lsL i) [] Z J Q := by
  refine x_ald1 (n := 334) dL_law_333 rfl ?_
  refine x_ald0 (n := 335) dL_law_334 rfl ?_
  refine x_ild3 (n := 336) dL_law_335 rfl ?_
  refine x_ic1 (n := 337) dL_law_336 rfl ?_
  refine x_iaddN (n := 338) dL_law_337 rfl ?_
  refine x_scrld (n := 339) dL_law_338 rfl (by omega) (by omega) ?_
  refine x_ald0 (n := 340) dL_law_339 rfl ?_
  refine x_ild3 (n := 341) dL_law_340 rfl ?_
  refine x_ic2 (n := 342) dL_law_341 rfl ?_
  refine x_iaddN (n := 343) dL_law_342 rfl ?_
  refine x_scrld (n := 344) dL_law_343 rfl (by omega) (by omega) ?_
  refine x_gV2 (n := 347) (mc := 0) (ms := 0) (d' := 2) zcX11_at mlL_27 dL_law_344 rfl (lK_L h.1.1) (Nat.le_of_ble_eq_true rfl) (by omega) (by omega) (Nat.le_of_ble_eq_true rfl) ?_
  refine zM_mono (lw_at h) (fun r Z1 J1 q => ?_)
  obtain ⟨v, rfl, hk1, q⟩ := q
  refine x_some ?_
  refine x_ald2 (n := 348) dL_law_347 rfl ?_
  refine x_ald0 (n := 349) dL_law_348 rfl ?_
  refine x_ild3 (n := 350) dL_law_349 rfl ?_
  refine x_ic1 (n := 351) dL_law_350 rfl ?_
  refine x_iaddN (n := 352) dL_law_351 rfl ?_
  refine x_scrld (n := 353) dL_law_352 rfl (by omega) (by omega) ?_
  refine x_ald0 (n := 354) dL_law_353 rfl ?_
  refine x_ild3 (n := 355) dL_law_354 rfl ?_
  refine x_ic2 (n := 356) dL_law_355 rfl ?_
  refine x_iaddN (n := 357) dL_law_356 rfl ?_
  refine x_scrld (n := 358) dL_law_357 rfl (by omega) (by omega) ?_
  refine x_cV2 (n := 361) (d' := 3) zcX12_at mlL_31 dL_law_358 rfl hk1 (Nat.le_of_ble_eq_true rfl) (Nat.le_of_ble_eq_true rfl) ?_
  refine zM_mono q (fun r2 Z2 J2 q2 => ?_)
  obtain ⟨rfl, h2, le1, le2⟩ := q2
  refine x_some ?_
  exact x_icmp_eq (n := 364) (tgt := 1641) dL_law_361 rfl (by decide) (fun _ => x_less (by omega) (by omega) (hx Z2 J2 h2 le1 le2)) (fun c => absurd rfl c)
theorem la_rule (hL : i + 6 ≤ G.2.2.2.2.1) (hL2 : G.2.2.2.2.1 ≤ 3072) (h : LR Z J (J q_s)) (hm : Z.1 + 2 ≤ 900000) (hac : 2 ≤ ac) (has : 100 ≤ as) (hx : ∀ Z2 J2, LR Z2 J2 (J2 q_s) → Z.1 ≤ Z2.1 → Z2.1 ≤ Z.1 + 2 → zX l G (mdL nm) 124 (ac - 2) (as - 100) 1641 (lsL i) [] Z2 J2 Q) : zX l G (mdL nm) 124 ac as 366 (lsL i) [] Z J Q := by
  refine x_ald1 (n := 367) dL_law_366 rfl ?_
  refine x_ald0 (n := 368) dL_law_367 rfl ?_
  refine x_ild3 (n := 369) dL_law_368 rfl ?_
  refine x_ic1 (n := 370) dL_law_369 rfl ?_
  refine x_iaddN (n := 371) dL_law_370 rfl ?_
  refine x_scrld (n := 372) dL_law_371 rfl (by omega) (by omega) ?_
  refine x_ald0 (n := 373) dL_law_372 rfl ?_
  refine x_ild3 (n := 374) dL_law_373 rfl ?_
  refine x_ic2 (n := 375) dL_law_374 rfl ?_
  refine x_iaddN (n := 376) dL_law_375 rfl ?_
  refine x_scrld (n := 377) dL_law_376 rfl (by omega) (by omega) ?_
  refine x_gV2 (n := 380) (mc := 0) (ms := 0) (d' := 1) zcX11_rule mlL_32 dL_law_377 rfl (lK_L h.1.1) (Nat.le_of_ble_eq_true rfl) (by omega) (by omega) (Nat.le_of_ble_eq_true rfl) ?_
  refine zM_mono (lw_rule h) (fun r Z1 J1 q => ?_)
  obtain ⟨v, rfl, hk1, q⟩ := q
  refine x_some ?_
  refine x_ald2 (n := 381) dL_law_380 rfl ?_
  refine x_ald0 (n := 382) dL_law_381 rfl ?_
  refine x_ild3 (n := 383) dL_law_382 rfl ?_
  refine x_ic1 (n := 384) dL_law_383 rfl ?_
  refine x_iaddN (n := 385) dL_law_384 rfl ?_
  refine x_scrld (n := 386) dL_law_385 rfl (by omega) (by omega) ?_
  refine x_ald0 (n := 387) dL_law_386 rfl ?_
  refine x_ild3 (n := 388) dL_law_387 rfl ?_
  refine x_ic2 (n := 389) dL_law_388 rfl ?_
  refine x_iaddN (n := 390) dL_law_389 rfl ?_
  refine x_scrld (n := 391) dL_law_390 rfl (by omega) (by omega) ?_
  refine x_cV2 (n := 394) (d' := 1) zcX12_rule mlL_35 dL_law_391 rfl hk1 (Nat.le_of_ble_eq_true rfl) (Nat.le_of_ble_eq_true rfl) ?_
  refine zM_mono q (fun r2 Z2 J2 q2 => ?_)
  obtain ⟨rfl, h2, le1, le2⟩ := q2
  refine x_some ?_
  exact x_icmp_eq (n := 397) (tgt := 1641) dL_law_394 rfl (by decide) (fun _ => x_less (by omega) (by omega) (hx Z2 J2 h2 le1 le2)) (fun c => absurd rfl c)
theorem la_steep (hL : i + 6 ≤ G.2.2.2.2.1) (hL2 : G.2.2.2.2.1 ≤ 3072) (h : LR Z J (J q_s)) (hm : Z.1 + 2 ≤ 900000) (hac : 2 ≤ ac) (has : 100 ≤ as) (hx : ∀ Z2 J2, LR Z2 J2 (J2 q_s) → Z.1 ≤ Z2.1 → Z2.1 ≤ Z.1 + 2 → zX l G (mdL nm) 124 (ac - 2) (as - 100) 1641 (lsL i) [] Z2 J2 Q) : zX l G (mdL nm) 124 ac as 399 (lsL i) [] Z J Q := by
  refine x_ald1 (n := 400) dL_law_399 rfl ?_
  refine x_gV0 (n := 403) (mc := 0) (ms := 0) (d' := 2) zcX11_steep mlL_36 dL_law_400 rfl (lK_L h.1.1) (Nat.le_of_ble_eq_true rfl) (by omega) (by omega) (Nat.le_of_ble_eq_true rfl) ?_
  refine zM_mono (lw_steep h) (fun r Z1 J1 q => ?_)
  obtain ⟨v, rfl, hk1, q⟩ := q
  refine x_some ?_
  refine x_ald2 (n := 404) dL_law_403 rfl ?_
  refine x_cV0 (n := 407) (d' := 1) zcX12_steep mlL_40 dL_law_404 rfl hk1 (Nat.le_of_ble_eq_true rfl) (Nat.le_of_ble_eq_true rfl) ?_
  refine zM_mono q (fun r2 Z2 J2 q2 => ?_)
  obtain ⟨rfl, h2, le1, le2⟩ := q2
  refine x_some ?_
  exact x_icmp_eq (n := 410) (tgt := 1641) dL_law_407 rfl (by decide) (fun _ => x_less (by omega) (by omega) (hx Z2 J2 h2 le1 le2)) (fun c => absurd rfl c)
theorem la_best (hL : i + 6 ≤ G.2.2.2.2.1) (hL2 : G.2.2.2.2.1 ≤ 3072) (h : LR Z J (J q_s)) (hm : Z.1 + 2 ≤ 900000) (hac : 2 ≤ ac) (has : 100 ≤ as) (hx : ∀ Z2 J2, LR Z2 J2 (J2 q_s) → Z.1 ≤ Z2.1 → Z2.1 ≤ Z.1 + 2 → zX l G (mdL nm) 124 (ac - 2) (as - 100) 1641 (lsL i) [] Z2 J2 Q) : zX l G (mdL nm) 124 ac as 412 (lsL i) [] Z J Q := by
  refine x_ald1 (n := 413) dL_law_412 rfl ?_
  refine x_ald0 (n := 414) dL_law_413 rfl ?_
  refine x_ild3 (n := 415) dL_law_414 rfl ?_
  refine x_ic1 (n := 416) dL_law_415 rfl ?_
  refine x_iaddN (n := 417) dL_law_416 rfl ?_
  refine x_scrld (n := 418) dL_law_417 rfl (by omega) (by omega) ?_
  refine x_gV1 (n := 421) (mc := 0) (ms := 0) (d' := 5) zcX11_best mlL_41 dL_law_418 rfl (lK_L h.1.1) (Nat.le_of_ble_eq_true rfl) (by omega) (by omega) (Nat.le_of_ble_eq_true rfl) ?_
  refine zM_mono (lw_best h) (fun r Z1 J1 q => ?_)
  obtain ⟨v, rfl, hk1, q⟩ := q
  refine x_some ?_
  refine x_ald2 (n := 422) dL_law_421 rfl ?_
  refine x_ald0 (n := 423) dL_law_422 rfl ?_
  refine x_ild3 (n := 424) dL_law_423 rfl ?_
  refine x_ic1 (n := 425) dL_law_424 rfl ?_
  refine x_iaddN (n := 426) dL_law_425 rfl ?_
  refine x_scrld (n := 427) dL_law_426 rfl (by omega) (by omega) ?_
  refine x_cV1 (n := 430) (d' := 3) zcX12_best mlL_44 dL_law_427 rfl hk1 (Nat.le_of_ble_eq_true rfl) (Nat.le_of_ble_eq_true rfl) ?_
  refine zM_mono q (fun r2 Z2 J2 q2 => ?_)
  obtain ⟨rfl, h2, le1, le2⟩ := q2
  refine x_some ?_
  exact x_icmp_eq (n := 433) (tgt := 1641) dL_law_430 rfl (by decide) (fun _ => x_less (by omega) (by omega) (hx Z2 J2 h2 le1 le2)) (fun c => absurd rfl c)
theorem la_lay (hL : i + 6 ≤ G.2.2.2.2.1) (hL2 : G.2.2.2.2.1 ≤ 3072) (h : LR Z J (J q_s)) (hm : Z.1 + 2 ≤ 900000) (hac : 2 ≤ ac) (has : 100 ≤ as) (hx : ∀ Z2 J2, LR Z2 J2 (J2 q_s) → Z.1 ≤ Z2.1 → Z2.1 ≤ Z.1 + 2 → zX l G (mdL nm) 124 (ac - 2) (as - 100) 1641 (lsL i) [] Z2 J2 Q) : zX l G (mdL nm) 124 ac as 435 (lsL i) [] Z J Q := by
  refine x_ald1 (n := 436) dL_law_435 rfl ?_
  refine x_gV0 (n := 439) (mc := 0) (ms := 0) (d' := 5) zcX11_lay mlL_45 dL_law_436 rfl (lK_L h.1.1) (Nat.le_of_ble_eq_true rfl) (by omega) (by omega) (Nat.le_of_ble_eq_true rfl) ?_
  refine zM_mono (lw_lay h) (fun r Z1 J1 q => ?_)
  obtain ⟨v, rfl, hk1, q⟩ := q
  refine x_some ?_
  refine x_ald2 (n := 440) dL_law_439 rfl ?_
  refine x_cV0 (n := 443) (d' := 3) zcX12_lay mlL_48 dL_law_440 rfl hk1 (Nat.le_of_ble_eq_true rfl) (Nat.le_of_ble_eq_true rfl) ?_
  refine zM_mono q (fun r2 Z2 J2 q2 => ?_)
  obtain ⟨rfl, h2, le1, le2⟩ := q2
  refine x_some ?_
  exact x_icmp_eq (n := 446) (tgt := 1641) dL_law_443 rfl (by decide) (fun _ => x_less (by omega) (by omega) (hx Z2 J2 h2 le1 le2)) (fun c => absurd rfl c)
theorem la_haul (hL : i + 6 ≤ G.2.2.2.2.1) (hL2 : G.2.2.2.2.1 ≤ 3072) (h : LR Z J (J q_s)) (hm : Z.1 + 2 ≤ 900000) (hac : 2 ≤ ac) (has : 100 ≤ as) (hx : ∀ Z2 J2, LR Z2 J2 (J2 q_s) → Z.1 ≤ Z2.1 → Z2.1 ≤ Z.1 + 2 → zX l G (mdL nm) 124 (ac - 2) (as - 100) 1641 (lsL i) [] Z2 J2 Q) : zX l G (mdL nm) 124 ac as 448 (lsL i) [] Z J Q := by
  refine x_ald1 (n := 449) dL_law_448 rfl ?_
  refine x_gV0 (n := 452) (mc := 0) (ms := 0) (d' := 5) zcX11_haul mlL_49 dL_law_449 rfl (lK_L h.1.1) (Nat.le_of_ble_eq_true rfl) (by omega) (by omega) (Nat.le_of_ble_eq_true rfl) ?_
  refine zM_mono (lw_haul h) (fun r Z1 J1 q => ?_)
  obtain ⟨v, rfl, hk1, q⟩ := q
  refine x_some ?_
  refine x_ald2 (n := 453) dL_law_452 rfl ?_
  refine x_cV0 (n := 456) (d' := 2) zcX12_haul mlL_52 dL_law_453 rfl hk1 (Nat.le_of_ble_eq_true rfl) (Nat.le_of_ble_eq_true rfl) ?_
  refine zM_mono q (fun r2 Z2 J2 q2 => ?_)
  obtain ⟨rfl, h2, le1, le2⟩ := q2
  refine x_some ?_
  exact x_icmp_eq (n := 459) (tgt := 1641) dL_law_456 rfl (by decide) (fun _ => x_less (by omega) (by omega) (hx Z2 J2 h2 le1 le2)) (fun c => absurd rfl c)
theorem la_work (hL : i + 6 ≤ G.2.2.2.2.1) (hL2 : G.2.2.2.2.1 ≤ 3072) (h : LR Z J (J q_s)) (hm : Z.1 + 2 ≤ 900000) (hac : 2 ≤ ac) (has : 100 ≤ as) (hx : ∀ Z2 J2, LR Z2 J2 (J2 q_s) → Z.1 ≤ Z2.1 → Z2.1 ≤ Z.1 + 2 → zX l G (mdL nm) 124 (ac - 2) (as - 100) 1641 (lsL i) [] Z2 J2 Q) : zX l G (mdL nm) 124 ac as 461 (lsL i) [] Z J Q := by
  refine x_ald1 (n := 462) dL_law_461 rfl ?_
  refine x_ald0 (n := 463) dL_law_462 rfl ?_
  refine x_ild3 (n := 464) dL_law_463 rfl ?_
  refine x_ic1 (n := 465) dL_law_464 rfl ?_
  refine x_iaddN (n := 466) dL_law_465 rfl ?_
  refine x_scrld (n := 467) dL_law_466 rfl (by omega) (by omega) ?_
  refine x_ald0 (n := 468) dL_law_467 rfl ?_
  refine x_ild3 (n := 469) dL_law_468 rfl ?_
  refine x_ic2 (n := 470) dL_law_469 rfl ?_
  refine x_iaddN (n := 471) dL_law_470 rfl ?_
  refine x_scrld (n := 472) dL_law_471 rfl (by omega) (by omega) ?_
  refine x_ald0 (n := 473) dL_law_472 rfl ?_
  refine x_ild3 (n := 474) dL_law_473 rfl ?_
  refine x_ic3 (n := 475) dL_law_474 rfl ?_
  refine x_iaddN (n := 476) dL_law_475 rfl ?_
  refine x_scrld (n := 477) dL_law_476 rfl (by omega) (by omega) ?_
  refine x_gV3 (n := 480) (mc := 0) (ms := 0) (d' := 2) zcX11_work mlL_53 dL_law_477 rfl (lK_L h.1.1) (Nat.le_of_ble_eq_true rfl) (by omega) (by omega) (Nat.le_of_ble_eq_true rfl) ?_
  refine zM_mono (lw_work h) (fun r Z1 J1 q => ?_)
  obtain ⟨v, rfl, hk1, q⟩ := q
  refine x_some ?_
  refine x_ald2 (n := 481) dL_law_480 rfl ?_
  refine x_ald0 (n := 482) dL_law_481 rfl ?_
  refine x_ild3 (n := 483) dL_law_482 rfl ?_
  refine x_ic1 (n := 484) dL_law_483 rfl ?_
  refine x_iaddN (n := 485) dL_law_484 rfl ?_
  refine x_scrld (n := 486) dL_law_485 rfl (by omega) (by omega) ?_
  refine x_ald0 (n := 487) dL_law_486 rfl ?_
  refine x_ild3 (n := 488) dL_law_487 rfl ?_
  refine x_ic2 (n := 489) dL_law_488 rfl ?_
  refine x_iaddN (n := 490) dL_law_489 rfl ?_
  refine x_scrld (n := 491) dL_law_490 rfl (by omega) (by omega) ?_
  refine x_ald0 (n := 492) dL_law_491 rfl ?_
  refine x_ild3 (n := 493) dL_law_492 rfl ?_
  refine x_ic3 (n := 494) dL_law_493 rfl ?_
  refine x_iaddN (n := 495) dL_law_494 rfl ?_
  refine x_scrld (n := 496) dL_law_495 rfl (by omega) (by omega) ?_
  refine x_cV3 (n := 499) (d' := 2) zcX12_work mlL_56 dL_law_496 rfl hk1 (Nat.le_of_ble_eq_true rfl) (Nat.le_of_ble_eq_true rfl) ?_
  refine zM_mono q (fun r2 Z2 J2 q2 => ?_)
  obtain ⟨rfl, h2, le1, le2⟩ := q2
  refine x_some ?_
  exact x_icmp_eq (n := 502) (tgt := 1641) dL_law_499 rfl (by decide) (fun _ => x_less (by omega) (by omega) (hx Z2 J2 h2 le1 le2)) (fun c => absurd rfl c)
theorem la_told (hL : i + 6 ≤ G.2.2.2.2.1) (hL2 : G.2.2.2.2.1 ≤ 3072) (h : LR Z J (J q_s)) (hm : Z.1 + 2 ≤ 900000) (hac : 2 ≤ ac) (has : 100 ≤ as) (hx : ∀ Z2 J2, LR Z2 J2 (J2 q_s) → Z.1 ≤ Z2.1 → Z2.1 ≤ Z.1 + 2 → zX l G (mdL nm) 124 (ac - 2) (as - 100) 1641 (lsL i) [] Z2 J2 Q) : zX l G (mdL nm) 124 ac as 504 (lsL i) [] Z J Q := by
  refine x_ald1 (n := 505) dL_law_504 rfl ?_
  refine x_ald0 (n := 506) dL_law_505 rfl ?_
  refine x_ild3 (n := 507) dL_law_506 rfl ?_
  refine x_ic1 (n := 508) dL_law_507 rfl ?_
  refine x_iaddN (n := 509) dL_law_508 rfl ?_
  refine x_scrld (n := 510) dL_law_509 rfl (by omega) (by omega) ?_
  refine x_ald0 (n := 511) dL_law_510 rfl ?_
  refine x_ild3 (n := 512) dL_law_511 rfl ?_
  refine x_ic2 (n := 513) dL_law_512 rfl ?_
  refine x_iaddN (n := 514) dL_law_513 rfl ?_
  refine x_scrld (n := 515) dL_law_514 rfl (by omega) (by omega) ?_
  refine x_gV2 (n := 518) (mc := 0) (ms := 0) (d' := 3) zcX11_told mlL_57 dL_law_515 rfl (lK_L h.1.1) (Nat.le_of_ble_eq_true rfl) (by omega) (by omega) (Nat.le_of_ble_eq_true rfl) ?_
  refine zM_mono (lw_told h) (fun r Z1 J1 q => ?_)
  obtain ⟨v, rfl, hk1, q⟩ := q
  refine x_some ?_
  refine x_ald2 (n := 519) dL_law_518 rfl ?_
  refine x_ald0 (n := 520) dL_law_519 rfl ?_
  refine x_ild3 (n := 521) dL_law_520 rfl ?_
  refine x_ic1 (n := 522) dL_law_521 rfl ?_
  refine x_iaddN (n := 523) dL_law_522 rfl ?_
  refine x_scrld (n := 524) dL_law_523 rfl (by omega) (by omega) ?_
  refine x_ald0 (n := 525) dL_law_524 rfl ?_
  refine x_ild3 (n := 526) dL_law_525 rfl ?_
  refine x_ic2 (n := 527) dL_law_526 rfl ?_
  refine x_iaddN (n := 528) dL_law_527 rfl ?_
  refine x_scrld (n := 529) dL_law_528 rfl (by omega) (by omega) ?_
  refine x_cV2 (n := 532) (d' := 3) zcX12_told mlL_60 dL_law_529 rfl hk1 (Nat.le_of_ble_eq_true rfl) (Nat.le_of_ble_eq_true rfl) ?_
  refine zM_mono q (fun r2 Z2 J2 q2 => ?_)
  obtain ⟨rfl, h2, le1, le2⟩ := q2
  refine x_some ?_
  exact x_icmp_eq (n := 535) (tgt := 1641) dL_law_532 rfl (by decide) (fun _ => x_less (by omega) (by omega) (hx Z2 J2 h2 le1 le2)) (fun c => absurd rfl c)
theorem la_as (hL : i + 6 ≤ G.2.2.2.2.1) (hL2 : G.2.2.2.2.1 ≤ 3072) (h : LR Z J (J q_s)) (hm : Z.1 + 2 ≤ 900000) (hac : 2 ≤ ac) (has : 100 ≤ as) (hx : ∀ Z2 J2, LR Z2 J2 (J2 q_s) → Z.1 ≤ Z2.1 → Z2.1 ≤ Z.1 + 2 → zX l G (mdL nm) 124 (ac - 2) (as - 100) 1641 (lsL i) [] Z2 J2 Q) : zX l G (mdL nm) 124 ac as 537 (lsL i) [] Z J Q := by
  refine x_ald1 (n := 538) dL_law_537 rfl ?_
  refine x_ald0 (n := 539) dL_law_538 rfl ?_
  refine x_ild3 (n := 540) dL_law_539 rfl ?_
  refine x_ic1 (n := 541) dL_law_540 rfl ?_
  refine x_iaddN (n := 542) dL_law_541 rfl ?_
  refine x_scrld (n := 543) dL_law_542 rfl (by omega) (by omega) ?_
  refine x_ald0 (n := 544) dL_law_543 rfl ?_
  refine x_ild3 (n := 545) dL_law_544 rfl ?_
  refine x_ic2 (n := 546) dL_law_545 rfl ?_
  refine x_iaddN (n := 547) dL_law_546 rfl ?_
  refine x_scrld (n := 548) dL_law_547 rfl (by omega) (by omega) ?_
  refine x_gV2 (n := 551) (mc := 0) (ms := 0) (d' := 2) zcX11_as mlL_61 dL_law_548 rfl (lK_L h.1.1) (Nat.le_of_ble_eq_true rfl) (by omega) (by omega) (Nat.le_of_ble_eq_true rfl) ?_
  refine zM_mono (lw_as h) (fun r Z1 J1 q => ?_)
  obtain ⟨v, rfl, hk1, q⟩ := q
  refine x_some ?_
  refine x_ald2 (n := 552) dL_law_551 rfl ?_
  refine x_ald0 (n := 553) dL_law_552 rfl ?_
  refine x_ild3 (n := 554) dL_law_553 rfl ?_
  refine x_ic1 (n := 555) dL_law_554 rfl ?_
  refine x_iaddN (n := 556) dL_law_555 rfl ?_
  refine x_scrld (n := 557) dL_law_556 rfl (by omega) (by omega) ?_
  refine x_ald0 (n := 558) dL_law_557 rfl ?_
  refine x_ild3 (n := 559) dL_law_558 rfl ?_
  refine x_ic2 (n := 560) dL_law_559 rfl ?_
  refine x_iaddN (n := 561) dL_law_560 rfl ?_
  refine x_scrld (n := 562) dL_law_561 rfl (by omega) (by omega) ?_
  refine x_cV2 (n := 565) (d' := 2) zcX12_as mlL_64 dL_law_562 rfl hk1 (Nat.le_of_ble_eq_true rfl) (Nat.le_of_ble_eq_true rfl) ?_
  refine zM_mono q (fun r2 Z2 J2 q2 => ?_)
  obtain ⟨rfl, h2, le1, le2⟩ := q2
  refine x_some ?_
  exact x_icmp_eq (n := 568) (tgt := 1641) dL_law_565 rfl (by decide) (fun _ => x_less (by omega) (by omega) (hx Z2 J2 h2 le1 le2)) (fun c => absurd rfl c)
theorem la_ahead (hL : i + 6 ≤ G.2.2.2.2.1) (hL2 : G.2.2.2.2.1 ≤ 3072) (h : LR Z J (J q_s)) (hm : Z.1 + 2 ≤ 900000) (hac : 2 ≤ ac) (has : 100 ≤ as) (hx : ∀ Z2 J2, LR Z2 J2 (J2 q_s) → Z.1 ≤ Z2.1 → Z2.1 ≤ Z.1 + 2 → zX l G (mdL nm) 124 (ac - 2) (as - 100) 1641 (lsL i) [] Z2 J2 Q) : zX l G (mdL nm) 124 ac as 570 (lsL i) [] Z J Q := by
  refine x_ald1 (n := 571) dL_law_570 rfl ?_
  refine x_ald0 (n := 572) dL_law_571 rfl ?_
  refine x_ild3 (n := 573) dL_law_572 rfl ?_
  refine x_ic1 (n := 574) dL_law_573 rfl ?_
  refine x_iaddN (n := 575) dL_law_574 rfl ?_
  refine x_scrld (n := 576) dL_law_575 rfl (by omega) (by omega) ?_
  refine x_ald0 (n := 577) dL_law_576 rfl ?_
  refine x_ild3 (n := 578) dL_law_577 rfl ?_
  refine x_ic2 (n := 579) dL_law_578 rfl ?_
  refine x_iaddN (n := 580) dL_law_579 rfl ?_
  refine x_scrld (n := 581) dL_law_580 rfl (by omega) (by omega) ?_
  refine x_gV2 (n := 584) (mc := 0) (ms := 0) (d' := 2) zcX11_ahead mlL_65 dL_law_581 rfl (lK_L h.1.1) (Nat.le_of_ble_eq_true rfl) (by omega) (by omega) (Nat.le_of_ble_eq_true rfl) ?_
  refine zM_mono (lw_ahead h) (fun r Z1 J1 q => ?_)
  obtain ⟨v, rfl, hk1, q⟩ := q
  refine x_some ?_
  refine x_ald2 (n := 585) dL_law_584 rfl ?_
  refine x_ald0 (n := 586) dL_law_585 rfl ?_
  refine x_ild3 (n := 587) dL_law_586 rfl ?_
  refine x_ic1 (n := 588) dL_law_587 rfl ?_
  refine x_iaddN (n := 589) dL_law_588 rfl ?_
  refine x_scrld (n := 590) dL_law_589 rfl (by omega) (by omega) ?_
  refine x_ald0 (n := 591) dL_law_590 rfl ?_
  refine x_ild3 (n := 592) dL_law_591 rfl ?_
  refine x_ic2 (n := 593) dL_law_592 rfl ?_
  refine x_iaddN (n := 594) dL_law_593 rfl ?_
  refine x_scrld (n := 595) dL_law_594 rfl (by omega) (by omega) ?_
  refine x_cV2 (n := 598) (d' := 2) zcX12_ahead mlL_68 dL_law_595 rfl hk1 (Nat.le_of_ble_eq_true rfl) (Nat.le_of_ble_eq_true rfl) ?_
  refine zM_mono q (fun r2 Z2 J2 q2 => ?_)
  obtain ⟨rfl, h2, le1, le2⟩ := q2
  refine x_some ?_
  exact x_icmp_eq (n := 601) (tgt := 1641) dL_law_598 rfl (by decide) (fun _ => x_less (by omega) (by omega) (hx Z2 J2 h2 le1 le2)) (fun c => absurd rfl c)
theorem la_days (hL : i + 6 ≤ G.2.2.2.2.1) (hL2 : G.2.2.2.2.1 ≤ 3072) (h : LR Z J (J q_s)) (hm : Z.1 + 2 ≤ 900000) (hac : 2 ≤ ac) (has : 100 ≤ as) (hx : ∀ Z2 J2, LR Z2 J2 (J2 q_s) → Z.1 ≤ Z2.1 → Z2.1 ≤ Z.1 + 2 → zX l G (mdL nm) 124 (ac - 2) (as - 100) 1641 (lsL i) [] Z2 J2 Q) : zX l G (mdL nm) 124 ac as 603 (lsL i) [] Z J Q := by
  refine x_ald1 (n := 604) dL_law_603 rfl ?_
  refine x_ald0 (n := 605) dL_law_604 rfl ?_
  refine x_ild3 (n := 606) dL_law_605 rfl ?_
  refine x_ic1 (n := 607) dL_law_606 rfl ?_
  refine x_iaddN (n := 608) dL_law_607 rfl ?_
  refine x_scrld (n := 609) dL_law_608 rfl (by omega) (by omega) ?_
  refine x_ald0 (n := 610) dL_law_609 rfl ?_
  refine x_ild3 (n := 611) dL_law_610 rfl ?_
  refine x_ic2 (n := 612) dL_law_611 rfl ?_
  refine x_iaddN (n := 613) dL_law_612 rfl ?_
  refine x_scrld (n := 614) dL_law_613 rfl (by omega) (by omega) ?_
  refine x_gV2 (n := 617) (mc := 0) (ms := 0) (d' := 2) zcX11_days mlL_69 dL_law_614 rfl (lK_L h.1.1) (Nat.le_of_ble_eq_true rfl) (by omega) (by omega) (Nat.le_of_ble_eq_true rfl) ?_
  refine zM_mono (lw_days h) (fun r Z1 J1 q => ?_)
  obtain ⟨v, rfl, hk1, q⟩ := q
  refine x_some ?_
  refine x_ald2 (n := 618) dL_law_617 rfl ?_
  refine x_ald0 (n := 619) dL_law_618 rfl ?_
  refine x_ild3 (n := 620) dL_law_619 rfl ?_
  refine x_ic1 (n := 621) dL_law_620 rfl ?_
  refine x_iaddN (n := 622) dL_law_621 rfl ?_
  refine x_scrld (n := 623) dL_law_622 rfl (by omega) (by omega) ?_
  refine x_ald0 (n := 624) dL_law_623 rfl ?_
  refine x_ild3 (n := 625) dL_law_624 rfl ?_
  refine x_ic2 (n := 626) dL_law_625 rfl ?_
  refine x_iaddN (n := 627) dL_law_626 rfl ?_
  refine x_scrld (n := 628) dL_law_627 rfl (by omega) (by omega) ?_
  refine x_cV2 (n := 631) (d' := 2) zcX12_days mlL_72 dL_law_628 rfl hk1 (Nat.le_of_ble_eq_true rfl) (Nat.le_of_ble_eq_true rfl) ?_
  refine zM_mono q (fun r2 Z2 J2 q2 => ?_)
  obtain ⟨rfl, h2, le1, le2⟩ := q2
  refine x_some ?_
  exact x_icmp_eq (n := 634) (tgt := 1641) dL_law_631 rfl (by decide) (fun _ => x_less (by omega) (by omega) (hx Z2 J2 h2 le1 le2)) (fun c => absurd rfl c)
theorem la_gang (hL : i + 6 ≤ G.2.2.2.2.1) (hL2 : G.2.2.2.2.1 ≤ 3072) (h : LR Z J (J q_s)) (hm : Z.1 + 2 ≤ 900000) (hac : 2 ≤ ac) (has : 100 ≤ as) (hx : ∀ Z2 J2, LR Z2 J2 (J2 q_s) → Z.1 ≤ Z2.1 → Z2.1 ≤ Z.1 + 2 → zX l G (mdL nm) 124 (ac - 2) (as - 100) 1641 (lsL i) [] Z2 J2 Q) : zX l G (mdL nm) 124 ac as 636 (lsL i) [] Z J Q := by
  refine x_ald1 (n := 637) dL_law_636 rfl ?_
  refine x_ald0 (n := 638) dL_law_637 rfl ?_
  refine x_ild3 (n := 639) dL_law_638 rfl ?_
  refine x_ic1 (n := 640) dL_law_639 rfl ?_
  refine x_iaddN (n := 641) dL_law_640 rfl ?_
  refine x_scrld (n := 642) dL_law_641 rfl (by omega) (by omega) ?_
  refine x_gV1 (n := 645) (mc := 0) (ms := 0) (d' := 1) zcX11_gang mlL_73 dL_law_642 rfl (lK_L h.1.1) (Nat.le_of_ble_eq_true rfl) (by omega) (by omega) (Nat.le_of_ble_eq_true rfl) ?_
  refine zM_mono (lw_gang h) (fun r Z1 J1 q => ?_)
  obtain ⟨v, rfl, hk1, q⟩ := q
  refine x_some ?_
  refine x_ald2 (n := 646) dL_law_645 rfl ?_
  refine x_ald0 (n := 647) dL_law_646 rfl ?_
  refine x_ild3 (n := 648) dL_law_647 rfl ?_
  refine x_ic1 (n := 649) dL_law_648 rfl ?_
  refine x_iaddN (n := 650) dL_law_649 rfl ?_
  refine x_scrld (n := 651) dL_law_650 rfl (by omega) (by omega) ?_
  refine x_cV1 (n := 654) (d' := 1) zcX12_gang mlL_76 dL_law_651 rfl hk1 (Nat.le_of_ble_eq_true rfl) (Nat.le_of_ble_eq_true rfl) ?_
  refine zM_mono q (fun r2 Z2 J2 q2 => ?_)
  obtain ⟨rfl, h2, le1, le2⟩ := q2
  refine x_some ?_
  exact x_icmp_eq (n := 657) (tgt := 1641) dL_law_654 rfl (by decide) (fun _ => x_less (by omega) (by omega) (hx Z2 J2 h2 le1 le2)) (fun c => absurd rfl c)
theorem la_goes (hL : i + 6 ≤ G.2.2.2.2.1) (hL2 : G.2.2.2.2.1 ≤ 3072) (h : LR Z J (J q_s)) (hm : Z.1 + 2 ≤ 900000) (hac : 2 ≤ ac) (has : 100 ≤ as) (hx : ∀ Z2 J2, LR Z2 J2 (J2 q_s) → Z.1 ≤ Z2.1 → Z2.1 ≤ Z.1 + 2 → zX l G (mdL nm) 124 (ac - 2) (as - 100) 1641 (lsL i) [] Z2 J2 Q) : zX l G (mdL nm) 124 ac as 659 (lsL i) [] Z J Q := by
  refine x_ald1 (n := 660) dL_law_659 rfl ?_
  refine x_ald0 (n := 661) dL_law_660 rfl ?_
  refine x_ild3 (n := 662) dL_law_661 rfl ?_
  refine x_ic1 (n := 663) dL_law_662 rfl ?_
  refine x_iaddN (n := 664) dL_law_663 rfl ?_
  refine x_scrld (n := 665) dL_law_664 rfl (by omega) (by omega) ?_
  refine x_ald0 (n := 666) dL_law_665 rfl ?_
  refine x_ild3 (n := 667) dL_law_666 rfl ?_
  refine x_ic2 (n := 668) dL_law_667 rfl ?_
  refine x_iaddN (n := 669) dL_law_668 rfl ?_
  refine x_scrld (n := 670) dL_law_669 rfl (by omega) (by omega) ?_
  refine x_gV2 (n := 673) (mc := 0) (ms := 0) (d' := 2) zcX11_goes mlL_77 dL_law_670 rfl (lK_L h.1.1) (Nat.le_of_ble_eq_true rfl) (by omega) (by omega) (Nat.le_of_ble_eq_true rfl) ?_
  refine zM_mono (lw_goes h) (fun r Z1 J1 q => ?_)
  obtain ⟨v, rfl, hk1, q⟩ := q
  refine x_some ?_
  refine x_ald2 (n := 674) dL_law_673 rfl ?_
  refine x_ald0 (n := 675) dL_law_674 rfl ?_
  refine x_ild3 (n := 676) dL_law_675 rfl ?_
  refine x_ic1 (n := 677) dL_law_676 rfl ?_
  refine x_iaddN (n := 678) dL_law_677 rfl ?_
  refine x_scrld (n := 679) dL_law_678 rfl (by omega) (by omega) ?_
  refine x_ald0 (n := 680) dL_law_679 rfl ?_
  refine x_ild3 (n := 681) dL_law_680 rfl ?_
  refine x_ic2 (n := 682) dL_law_681 rfl ?_
  refine x_iaddN (n := 683) dL_law_682 rfl ?_
  refine x_scrld (n := 684) dL_law_683 rfl (by omega) (by omega) ?_
  refine x_cV2 (n := 687) (d' := 2) zcX12_goes mlL_80 dL_law_684 rfl hk1 (Nat.le_of_ble_eq_true rfl) (Nat.le_of_ble_eq_true rfl) ?_
  refine zM_mono q (fun r2 Z2 J2 q2 => ?_)
  obtain ⟨rfl, h2, le1, le2⟩ := q2
  refine x_some ?_
  exact x_icmp_eq (n := 690) (tgt := 1641) dL_law_687 rfl (by decide) (fun _ => x_less (by omega) (by omega) (hx Z2 J2 h2 le1 le2)) (fun c => absurd rfl c)
theorem la_wet (hL : i + 6 ≤ G.2.2.2.2.1) (hL2 : G.2.2.2.2.1 ≤ 3072) (h : LR Z J (J q_s)) (hm : Z.1 + 2 ≤ 900000) (hac : 2 ≤ ac) (has : 100 ≤ as) (hx : ∀ Z2 J2, LR Z2 J2 (J2 q_s) → Z.1 ≤ Z2.1 → Z2.1 ≤ Z.1 + 2 → zX l G (mdL nm) 124 (ac - 2) (as - 100) 1641 (lsL i) [] Z2 J2 Q) : zX l G (mdL nm) 124 ac as 692 (lsL i) [] Z J Q := by
  refine x_ald1 (n := 693) dL_law_692 rfl ?_
  refine x_ald0 (n := 694) dL_law_693 rfl ?_
  refine x_ild3 (n := 695) dL_law_694 rfl ?_
  refine x_ic1 (n := 696) dL_law_695 rfl ?_
  refine x_iaddN (n := 697) dL_law_696 rfl ?_
  refine x_scrld (n := 698) dL_law_697 rfl (by omega) (by omega) ?_
  refine x_ald0 (n := 699) dL_law_698 rfl ?_
  refine x_ild3 (n := 700) dL_law_699 rfl ?_
  refine x_ic2 (n := 701) dL_law_700 rfl ?_
  refine x_iaddN (n := 702) dL_law_701 rfl ?_
  refine x_scrld (n := 703) dL_law_702 rfl (by omega) (by omega) ?_
  refine x_gV2 (n := 706) (mc := 0) (ms := 0) (d' := 1) zcX11_wet mlL_81 dL_law_703 rfl (lK_L h.1.1) (Nat.le_of_ble_eq_true rfl) (by omega) (by omega) (Nat.le_of_ble_eq_true rfl) ?_
  refine zM_mono (lw_wet h) (fun r Z1 J1 q => ?_)
  obtain ⟨v, rfl, hk1, q⟩ := q
  refine x_some ?_
  refine x_ald2 (n := 707) dL_law_706 rfl ?_
  refine x_ald0 (n := 708) dL_law_707 rfl ?_
  refine x_ild3 (n := 709) dL_law_708 rfl ?_
  refine x_ic1 (n := 710) dL_law_709 rfl ?_
  refine x_iaddN (n := 711) dL_law_710 rfl ?_
  refine x_scrld (n := 712) dL_law_711 rfl (by omega) (by omega) ?_
  refine x_ald0 (n := 713) dL_law_712 rfl ?_
  refine x_ild3 (n := 714) dL_law_713 rfl ?_
  refine x_ic2 (n := 715) dL_law_714 rfl ?_
  refine x_iaddN (n := 716) dL_law_715 rfl ?_
  refine x_scrld (n := 717) dL_law_716 rfl (by omega) (by omega) ?_
  refine x_cV2 (n := 720) (d' := 1) zcX12_wet mlL_84 dL_law_717 rfl hk1 (Nat.le_of_ble_eq_true rfl) (Nat.le_of_ble_eq_true rfl) ?_
  refine zM_mono q (fun r2 Z2 J2 q2 => ?_)
  obtain ⟨rfl, h2, le1, le2⟩ := q2
  refine x_some ?_
  exact x_icmp_eq (n := 723) (tgt := 1641) dL_law_720 rfl (by decide) (fun _ => x_less (by omega) (by omega) (hx Z2 J2 h2 le1 le2)) (fun c => absurd rfl c)
theorem la_run (hL : i + 6 ≤ G.2.2.2.2.1) (hL2 : G.2.2.2.2.1 ≤ 3072) (h : LR Z J (J q_s)) (hm : Z.1 + 2 ≤ 900000) (hac : 2 ≤ ac) (has : 100 ≤ as) (hx : ∀ Z2 J2, LR Z2 J2 (J2 q_s) → Z.1 ≤ Z2.1 → Z2.1 ≤ Z.1 + 2 → zX l G (mdL nm) 124 (ac - 2) (as - 100) 1641 (lsL i) [] Z2 J2 Q) : zX l G (mdL nm) 124 ac as 725 (lsL i) [] Z J Q := by
  refine x_ald1 (n := 726) dL_law_725 rfl ?_
  refine x_ald0 (n := 727) dL_law_726 rfl ?_
  refine x_ild3 (n := 728) dL_law_727 rfl ?_
  refine x_ic1 (n := 729) dL_law_728 rfl ?_
  refine x_iaddN (n := 730) dL_law_729 rfl ?_
  refine x_scrld (n := 731) dL_law_730 rfl (by omega) (by omega) ?_
  refine x_gV1 (n := 734) (mc := 0) (ms := 0) (d' := 6) zcX11_run mlL_85 dL_law_731 rfl (lK_L h.1.1) (Nat.le_of_ble_eq_true rfl) (by omega) (by omega) (Nat.le_of_ble_eq_true rfl) ?_
  refine zM_mono (lw_run h) (fun r Z1 J1 q => ?_)
  obtain ⟨v, rfl, hk1, q⟩ := q
  refine x_some ?_
  refine x_ald2 (n := 735) dL_law_734 rfl ?_
  refine x_ald0 (n := 736) dL_law_735 rfl ?_
  refine x_ild3 (n := 737) dL_law_736 rfl ?_
  refine x_ic1 (n := 738) dL_law_737 rfl ?_
  refine x_iaddN (n := 739) dL_law_738 rfl ?_
  refine x_scrld (n := 740) dL_law_739 rfl (by omega) (by omega) ?_
  refine x_cV1 (n := 743) (d' := 6) zcX12_run mlL_88 dL_law_740 rfl hk1 (Nat.le_of_ble_eq_true rfl) (Nat.le_of_ble_eq_true rfl) ?_
  refine zM_mono q (fun r2 Z2 J2 q2 => ?_)
  obtain ⟨rfl, h2, le1, le2⟩ := q2
  refine x_some ?_
  exact x_icmp_eq (n := 746) (tgt := 1641) dL_law_743 rfl (by decide) (fun _ => x_less (by omega) (by omega) (hx Z2 J2 h2 le1 le2)) (fun c => absurd rfl c)
theorem la_foretold (hL : i + 6 ≤ G.2.2.2.2.1) (hL2 : G.2.2.2.2.1 ≤ 3072) (h : LR Z J (J q_s)) (hm : Z.1 + 2 ≤ 900000) (hac : 2 ≤ ac) (has : 100 ≤ as) (hx : ∀ Z2 J2, LR Z2 J2 (J2 q_s) → Z.1 ≤ Z2.1 → Z2.1 ≤ Z.1 + 2 → zX l G (mdL nm) 124 (ac - 2) (as - 100) 1641 (lsL i) [] Z2 J2 Q) : zX l G (mdL nm) 124 ac as 748 (lsL i) [] Z J Q := by
  refine x_ald1 (n := 749) dL_law_748 rfl ?_
  refine x_gV0 (n := 752) (mc := 0) (ms := 0) (d' := 4) zcX11_foretold mlL_89 dL_law_749 rfl (lK_L h.1.1) (Nat.le_of_ble_eq_true rfl) (by omega) (by omega) (Nat.le_of_ble_eq_true rfl) ?_
  refine zM_mono (lw_foretold h) (fun r Z1 J1 q => ?_)
  obtain ⟨v, rfl, hk1, q⟩ := q
  refine x_some ?_
  refine x_ald2 (n := 753) dL_law_752 rfl ?_
  refine x_cV0 (n := 756) (d' := 4) zcX12_foretold mlL_92 dL_law_753 rfl hk1 (Nat.le_of_ble_eq_true rfl) (Nat.le_of_ble_eq_true rfl) ?_
  refine zM_mono q (fun r2 Z2 J2 q2 => ?_)
  obtain ⟨rfl, h2, le1, le2⟩ := q2
  refine x_some ?_
  exact x_icmp_eq (n := 759) (tgt := 1641) dL_law_756 rfl (by decide) (fun _ => x_less (by omega) (by omega) (hx Z2 J2 h2 le1 le2)) (fun c => absurd rfl c)
theorem la_feed (hL : i + 6 ≤ G.2.2.2.2.1) (hL2 : G.2.2.2.2.1 ≤ 3072) (h : LR Z J (J q_s)) (hm : Z.1 + 2 ≤ 900000) (hac : 2 ≤ ac) (has : 100 ≤ as) (hx : ∀ Z2 J2, LR Z2 J2 (J2 q_s) → Z.1 ≤ Z2.1 → Z2.1 ≤ Z.1 + 2 → zX l G (mdL nm) 124 (ac - 2) (as - 100) 1641 (lsL i) [] Z2 J2 Q) : zX l G (mdL nm) 124 ac as 761 (lsL i) [] Z J Q := by
  refine x_ald1 (n := 762) dL_law_761 rfl ?_
  refine x_ald0 (n := 763) dL_law_762 rfl ?_
  refine x_ild3 (n := 764) dL_law_763 rfl ?_
  refine x_ic1 (n := 765) dL_law_764 rfl ?_
  refine x_iaddN (n := 766) dL_law_765 rfl ?_
  refine x_scrld (n := 767) dL_law_766 rfl (by omega) (by omega) ?_
  refine x_ald0 (n := 768) dL_law_767 rfl ?_
  refine x_ild3 (n := 769) dL_law_768 rfl ?_
  refine x_ic2 (n := 770) dL_law_769 rfl ?_
  refine x_iaddN (n := 771) dL_law_770 rfl ?_
  refine x_scrld (n := 772) dL_law_771 rfl (by omega) (by omega) ?_
  refine x_ald0 (n := 773) dL_law_772 rfl ?_
  refine x_ild3 (n := 774) dL_law_773 rfl ?_
  refine x_ic3 (n := 775) dL_law_774 rfl ?_
  refine x_iaddN (n := 776) dL_law_775 rfl ?_
  refine x_scrld (n := 777) dL_law_776 rfl (by omega) (by omega) ?_
  refine x_gV3 (n := 780) (mc := 0) (ms := 0) (d' := 1) zcX11_feed mlL_93 dL_law_777 rfl (lK_L h.1.1) (Nat.le_of_ble_eq_true rfl) (by omega) (by omega) (Nat.le_of_ble_eq_true rfl) ?_
  refine zM_mono (lw_feed h) (fun r Z1 J1 q => ?_)
  obtain ⟨v, rfl, hk1, q⟩ := q
  refine x_some ?_
  refine x_ald2 (n := 781) dL_law_780 rfl ?_
  refine x_ald0 (n := 782) dL_law_781 rfl ?_
  refine x_ild3 (n := 783) dL_law_782 rfl ?_
  refine x_ic1 (n := 784) dL_law_783 rfl ?_
  refine x_iaddN (n := 785) dL_law_784 rfl ?_
  refine x_scrld (n := 786) dL_law_785 rfl (by omega) (by omega) ?_
  refine x_ald0 (n := 787) dL_law_786 rfl ?_
  refine x_ild3 (n := 788) dL_law_787 rfl ?_
  refine x_ic2 (n := 789) dL_law_788 rfl ?_
  refine x_iaddN (n := 790) dL_law_789 rfl ?_
  refine x_scrld (n := 791) dL_law_790 rfl (by omega) (by omega) ?_
  refine x_ald0 (n := 792) dL_law_791 rfl ?_
  refine x_ild3 (n := 793) dL_law_792 rfl ?_
  refine x_ic3 (n := 794) dL_law_793 rfl ?_
  refine x_iaddN (n := 795) dL_law_794 rfl ?_
  refine x_scrld (n := 796) dL_law_795 rfl (by omega) (by omega) ?_
  refine x_cV3 (n := 799) (d' := 0) zcX12_feed mlL_96 dL_law_796 rfl hk1 (Nat.le_of_ble_eq_true rfl) (Nat.le_of_ble_eq_true rfl) ?_
  refine zM_mono q (fun r2 Z2 J2 q2 => ?_)
  obtain ⟨rfl, h2, le1, le2⟩ := q2
  refine x_some ?_
  exact x_icmp_eq (n := 802) (tgt := 1641) dL_law_799 rfl (by decide) (fun _ => x_less (by omega) (by omega) (hx Z2 J2 h2 le1 le2)) (fun c => absurd rfl c)
theorem la_trim (hL : i + 6 ≤ G.2.2.2.2.1) (hL2 : G.2.2.2.2.1 ≤ 3072) (h : LR Z J (J q_s)) (hm : Z.1 + 2 ≤ 900000) (hac : 2 ≤ ac) (has : 100 ≤ as) (hx : ∀ Z2 J2, LR Z2 J2 (J2 q_s) → Z.1 ≤ Z2.1 → Z2.1 ≤ Z.1 + 2 → zX l G (mdL nm) 124 (ac - 2) (as - 100) 1641 (lsL i) [] Z2 J2 Q) : zX l G (mdL nm) 124 ac as 804 (lsL i) [] Z J Q := by
  refine x_ald1 (n := 805) dL_law_804 rfl ?_
  refine x_ald0 (n := 806) dL_law_805 rfl ?_
  refine x_ild3 (n := 807) dL_law_806 rfl ?_
  refine x_ic1 (n := 808) dL_law_807 rfl ?_
  refine x_iaddN (n := 809) dL_law_808 rfl ?_
  refine x_scrld (n := 810) dL_law_809 rfl (by omega) (by omega) ?_
  refine x_gV1 (n := 813) (mc := 0) (ms := 0) (d' := 1) zcX11_trim mlL_97 dL_law_810 rfl (lK_L h.1.1) (Nat.le_of_ble_eq_true rfl) (by omega) (by omega) (Nat.le_of_ble_eq_true rfl) ?_
  refine zM_mono (lw_trim h) (fun r Z1 J1 q => ?_)
  obtain ⟨v, rfl, hk1, q⟩ := q
  refine x_some ?_
  refine x_ald2 (n := 814) dL_law_813 rfl ?_
  refine x_ald0 (n := 815) dL_law_814 rfl ?_
  refine x_ild3 (n := 816) dL_law_815 rfl ?_
  refine x_ic1 (n := 817) dL_law_816 rfl ?_
  refine x_iaddN (n := 818) dL_law_817 rfl ?_
  refine x_scrld (n := 819) dL_law_818 rfl (by omega) (by omega) ?_
  refine x_cV1 (n := 822) (d' := 1) zcX12_trim mlL_100 dL_law_819 rfl hk1 (Nat.le_of_ble_eq_true rfl) (Nat.le_of_ble_eq_true rfl) ?_
  refine zM_mono q (fun r2 Z2 J2 q2 => ?_)
  obtain ⟨rfl, h2, le1, le2⟩ := q2
  refine x_some ?_
  exact x_icmp_eq (n := 825) (tgt := 1641) dL_law_822 rfl (by decide) (fun _ => x_less (by omega) (by omega) (hx Z2 J2 h2 le1 le2)) (fun c => absurd rfl c)
theorem la_text (hL : i + 6 ≤ G.2.2.2.2.1) (hL2 : G.2.2.2.2.1 ≤ 3072) (h : LR Z J (J q_s)) (hm : Z.1 + 2 ≤ 900000) (hac : 2 ≤ ac) (has : 100 ≤ as) (hx : ∀ Z2 J2, LR Z2 J2 (J2 q_s) → Z.1 ≤ Z2.1 → Z2.1 ≤ Z.1 + 2 → zX l G (mdL nm) 124 (ac - 2) (as - 100) 1641 (lsL i) [] Z2 J2 Q) : zX l G (mdL nm) 124 ac as 827 (lsL i) [] Z J Q := by
  refine x_ald1 (n := 828) dL_law_827 rfl ?_
  refine x_ald0 (n := 829) dL_law_828 rfl ?_
  refine x_ild3 (n := 830) dL_law_829 rfl ?_
  refine x_ic1 (n := 831) dL_law_830 rfl ?_
  refine x_iaddN (n := 832) dL_law_831 rfl ?_
  refine x_scrld (n := 833) dL_law_832 rfl (by omega) (by omega) ?_
  refine x_gV1 (n := 836) (mc := 2) (ms := 100) (d' := 7) zcX11_text mlL_101 dL_law_833 rfl (lK_L h.1.1) (Nat.le_of_ble_eq_true rfl) (by omega) (by omega) (Nat.le_of_ble_eq_true rfl) ?_
  refine zM_mono (lw_text hm h) (fun r Z1 J1 q => ?_)
  obtain ⟨v, rfl, hk1, q⟩ := q
  refine x_some ?_
  refine x_ald2 (n := 837) dL_law_836 rfl ?_
  refine x_ald0 (n := 838) dL_law_837 rfl ?_
  refine x_ild3 (n := 839) dL_law_838 rfl ?_
  refine x_ic1 (n := 840) dL_law_839 rfl ?_
  refine x_iaddN (n := 841) dL_law_840 rfl ?_
  refine x_scrld (n := 842) dL_law_841 rfl (by omega) (by omega) ?_
  refine x_cV1 (n := 845) (d' := 123) zcX12_text mlL_104 dL_law_842 rfl hk1 (Nat.le_of_ble_eq_true rfl) (Nat.le_of_ble_eq_true rfl) ?_
  refine zM_mono q (fun r2 Z2 J2 q2 => ?_)
  obtain ⟨rfl, h2, le1, le2⟩ := q2
  refine x_some ?_
  exact x_icmp_eq (n := 848) (tgt := 1641) dL_law_845 rfl (by decide) (fun _ => x_less (by omega) (by omega) (hx Z2 J2 h2 le1 le2)) (fun c => absurd rfl c)
theorem la_of (hL : i + 6 ≤ G.2.2.2.2.1) (hL2 : G.2.2.2.2.1 ≤ 3072) (h : LR Z J (J q_s)) (hm : Z.1 + 2 ≤ 900000) (hac : 2 ≤ ac) (has : 100 ≤ as) (hx : ∀ Z2 J2, LR Z2 J2 (J2 q_s) → Z.1 ≤ Z2.1 → Z2.1 ≤ Z.1 + 2 → zX l G (mdL nm) 124 (ac - 2) (as - 100) 1641 (lsL i) [] Z2 J2 Q) : zX l G (mdL nm) 124 ac as 850 (lsL i) [] Z J Q := by
  refine x_ald1 (n := 851) dL_law_850 rfl ?_
  refine x_ald0 (n := 852) dL_law_851 rfl ?_
  refine x_ild3 (n := 853) dL_law_852 rfl ?_
  refine x_ic1 (n := 854) dL_law_853 rfl ?_
  refine x_iaddN (n := 855) dL_law_854 rfl ?_
  refine x_scrld (n := 856) dL_law_855 rfl (by omega) (by omega) ?_
  refine x_ald0 (n := 857) dL_law_856 rfl ?_
  refine x_ild3 (n := 858) dL_law_857 rfl ?_
  refine x_ic2 (n := 859) dL_law_858 rfl ?_
  refine x_iaddN (n := 860) dL_law_859 rfl ?_
  refine x_scrld (n := 861) dL_law_860 rfl (by omega) (by omega) ?_
  refine x_gV2 (n := 864) (mc := 0) (ms := 0) (d' := 2) zcX11_of mlL_105 dL_law_861 rfl (lK_L h.1.1) (Nat.le_of_ble_eq_true rfl) (by omega) (by omega) (Nat.le_of_ble_eq_true rfl) ?_
  refine zM_mono (lw_of h) (fun r Z1 J1 q => ?_)
  obtain ⟨v, rfl, hk1, q⟩ := q
  refine x_some ?_
  refine x_ald2 (n := 865) dL_law_864 rfl ?_
  refine x_ald0 (n := 866) dL_law_865 rfl ?_
  refine x_ild3 (n := 867) dL_law_866 rfl ?_
  refine x_ic1 (n := 868) dL_law_867 rfl ?_
  refine x_iaddN (n := 869) dL_law_868 rfl ?_
  refine x_scrld (n := 870) dL_law_869 rfl (by omega) (by omega) ?_
  refine x_ald0 (n := 871) dL_law_870 rfl ?_
  refine x_ild3 (n := 872) dL_law_871 rfl ?_
  refine x_ic2 (n := 873) dL_law_872 rfl ?_
  refine x_iaddN (n := 874) dL_law_873 rfl ?_
  refine x_scrld (n := 875) dL_law_874 rfl (by omega) (by omega) ?_
  refine x_cV2 (n := 878) (d' := 2) zcX12_of mlL_108 dL_law_875 rfl hk1 (Nat.le_of_ble_eq_true rfl) (Nat.le_of_ble_eq_true rfl) ?_
  refine zM_mono q (fun r2 Z2 J2 q2 => ?_)
  obtain ⟨rfl, h2, le1, le2⟩ := q2
  refine x_some ?_
  exact x_icmp_eq (n := 881) (tgt := 1641) dL_law_878 rfl (by decide) (fun _ => x_less (by omega) (by omega) (hx Z2 J2 h2 le1 le2)) (fun c => absurd rfl c)
theorem la_why (hL : i + 6 ≤ G.2.2.2.2.1) (hL2 : G.2.2.2.2.1 ≤ 3072) (h : LR Z J (J q_s)) (hm : Z.1 + 2 ≤ 900000) (hac : 2 ≤ ac) (has : 100 ≤ as) (hx : ∀ Z2 J2, LR Z2 J2 (J2 q_s) → Z.1 ≤ Z2.1 → Z2.1 ≤ Z.1 + 2 → zX l G (mdL nm) 124 (ac - 2) (as - 100) 1641 (lsL i) [] Z2 J2 Q) : zX l G (mdL nm) 124 ac as 883 (lsL i) [] Z J Q := by
  refine x_ald1 (n := 884) dL_law_883 rfl ?_
  refine x_ald0 (n := 885) dL_law_884 rfl ?_
  refine x_ild3 (n := 886) dL_law_885 rfl ?_
  refine x_ic1 (n := 887) dL_law_886 rfl ?_
  refine x_iaddN (n := 888) dL_law_887 rfl ?_
  refine x_scrld (n := 889) dL_law_888 rfl (by omega) (by omega) ?_
  refine x_gV1 (n := 892) (mc := 0) (ms := 0) (d' := 2) zcX11_why mlL_109 dL_law_889 rfl (lK_L h.1.1) (Nat.le_of_ble_eq_true rfl) (by omega) (by omega) (Nat.le_of_ble_eq_true rfl) ?_
  refine zM_mono (lw_why h) (fun r Z1 J1 q => ?_)
  obtain ⟨v, rfl, hk1, q⟩ := q
  refine x_some ?_
  refine x_ald2 (n := 893) dL_law_892 rfl ?_
  refine x_ald0 (n := 894) dL_law_893 rfl ?_
  refine x_ild3 (n := 895) dL_law_894 rfl ?_
  refine x_ic1 (n := 896) dL_law_895 rfl ?_
  refine x_iaddN (n := 897) dL_law_896 rfl ?_
  refine x_scrld (n := 898) dL_law_897 rfl (by omega) (by omega) ?_
  refine x_cV1 (n := 901) (d' := 2) zcX12_why mlL_112 dL_law_898 rfl hk1 (Nat.le_of_ble_eq_true rfl) (Nat.le_of_ble_eq_true rfl) ?_
  refine zM_mono q (fun r2 Z2 J2 q2 => ?_)
  obtain ⟨rfl, h2, le1, le2⟩ := q2
  refine x_some ?_
  exact x_icmp_eq (n := 904) (tgt := 1641) dL_law_901 rfl (by decide) (fun _ => x_less (by omega) (by omega) (hx Z2 J2 h2 le1 le2)) (fun c => absurd rfl c)
theorem la_rules (hL : i + 6 ≤ G.2.2.2.2.1) (hL2 : G.2.2.2.2.1 ≤ 3072) (h : LR Z J (J q_s)) (hm : Z.1 + 2 ≤ 900000) (hac : 2 ≤ ac) (has : 100 ≤ as) (hx : ∀ Z2 J2, LR Z2 J2 (J2 q_s) → Z.1 ≤ Z2.1 → Z2.1 ≤ Z.1 + 2 → zX l G (mdL nm) 124 (ac - 2) (as - 100) 1641 (lsL i) [] Z2 J2 Q) : zX l G (mdL nm) 124 ac as 906 (lsL i) [] Z J Q := by
  refine x_ald1 (n := 907) dL_law_906 rfl ?_
  refine x_ald0 (n := 908) dL_law_907 rfl ?_
  refine x_ild3 (n := 909) dL_law_908 rfl ?_
  refine x_ic1 (n := 910) dL_law_909 rfl ?_
  refine x_iaddN (n := 911) dL_law_910 rfl ?_
  refine x_scrld (n := 912) dL_law_911 rfl (by omega) (by omega) ?_
  refine x_ald0 (n := 913) dL_law_912 rfl ?_
  refine x_ild3 (n := 914) dL_law_913 rfl ?_
  refine x_ic2 (n := 915) dL_law_914 rfl ?_
  refine x_iaddN (n := 916) dL_law_915 rfl ?_
  refine x_scrld (n := 917) dL_law_916 rfl (by omega) (by omega) ?_
  refine x_ald0 (n := 918) dL_law_917 rfl ?_
  refine x_ild3 (n := 919) dL_law_918 rfl ?_
  refine x_ic3 (n := 920) dL_law_919 rfl ?_
  refine x_iaddN (n := 921) dL_law_920 rfl ?_
  refine x_scrld (n := 922) dL_law_921 rfl (by omega) (by omega) ?_
  refine x_ald0 (n := 923) dL_law_922 rfl ?_
  refine x_ild3 (n := 924) dL_law_923 rfl ?_
  refine x_ic4 (n := 925) dL_law_924 rfl ?_
  refine x_iaddN (n := 926) dL_law_925 rfl ?_
  refine x_scrld (n := 927) dL_law_926 rfl (by omega) (by omega) ?_
  refine x_gV4 (n := 930) (mc := 0) (ms := 0) (d' := 3) zcX11_rules mlL_113 dL_law_927 rfl (lK_L h.1.1) (Nat.le_of_ble_eq_true rfl) (by omega) (by omega) (Nat.le_of_ble_eq_true rfl) ?_
  refine zM_mono (lw_rules h) (fun r Z1 J1 q => ?_)
  obtain ⟨v, rfl, hk1, q⟩ := q
  refine x_some ?_
  refine x_ald2 (n := 931) dL_law_930 rfl ?_
  refine x_ald0 (n := 932) dL_law_931 rfl ?_
  refine x_ild3 (n := 933) dL_law_932 rfl ?_
  refine x_ic1 (n := 934) dL_law_933 rfl ?_
  refine x_iaddN (n := 935) dL_law_934 rfl ?_
  refine x_scrld (n := 936) dL_law_935 rfl (by omega) (by omega) ?_
  refine x_ald0 (n := 937) dL_law_936 rfl ?_
  refine x_ild3 (n := 938) dL_law_937 rfl ?_
  refine x_ic2 (n := 939) dL_law_938 rfl ?_
  refine x_iaddN (n := 940) dL_law_939 rfl ?_
  refine x_scrld (n := 941) dL_law_940 rfl (by omega) (by omega) ?_
  refine x_ald0 (n := 942) dL_law_941 rfl ?_
  refine x_ild3 (n := 943) dL_law_942 rfl ?_
  refine x_ic3 (n := 944) dL_law_943 rfl ?_
  refine x_iaddN (n := 945) dL_law_944 rfl ?_
  refine x_scrld (n := 946) dL_law_945 rfl (by omega) (by omega) ?_
  refine x_ald0 (n := 947) dL_law_946 rfl ?_
  refine x_ild3 (n := 948) dL_law_947 rfl ?_
  refine x_ic4 (n := 949) dL_law_948 rfl ?_
  refine x_iaddN (n := 950) dL_law_949 rfl ?_
  refine x_scrld (n := 951) dL_law_950 rfl (by omega) (by omega) ?_
  refine x_cV4 (n := 954) (d' := 3) zcX12_rules mlL_117 dL_law_951 rfl hk1 (Nat.le_of_ble_eq_true rfl) (Nat.le_of_ble_eq_true rfl) ?_
  refine zM_mono q (fun r2 Z2 J2 q2 => ?_)
  obtain ⟨rfl, h2, le1, le2⟩ := q2
  refine x_some ?_
  exact x_icmp_eq (n := 957) (tgt := 1641) dL_law_954 rfl (by decide) (fun _ => x_less (by omega) (by omega) (hx Z2 J2 h2 le1 le2)) (fun c => absurd rfl c)
theorem la_price (hL : i + 6 ≤ G.2.2.2.2.1) (hL2 : G.2.2.2.2.1 ≤ 3072) (h : LR Z J (J q_s)) (hm : Z.1 + 2 ≤ 900000) (hac : 2 ≤ ac) (has : 100 ≤ as) (hx : ∀ Z2 J2, LR Z2 J2 (J2 q_s) → Z.1 ≤ Z2.1 → Z2.1 ≤ Z.1 + 2 → zX l G (mdL nm) 124 (ac - 2) (as - 100) 1641 (lsL i) [] Z2 J2 Q) : zX l G (mdL nm) 124 ac as 959 (lsL i) [] Z J Q := by
  refine x_ald1 (n := 960) dL_law_959 rfl ?_
  refine x_ald0 (n := 961) dL_law_960 rfl ?_
  refine x_ild3 (n := 962) dL_law_961 rfl ?_
  refine x_ic1 (n := 963) dL_law_962 rfl ?_
  refine x_iaddN (n := 964) dL_law_963 rfl ?_
  refine x_scrld (n := 965) dL_law_964 rfl (by omega) (by omega) ?_
  refine x_gV1 (n := 968) (mc := 0) (ms := 0) (d' := 4) zcX11_price mlL_118 dL_law_965 rfl (lK_L h.1.1) (Nat.le_of_ble_eq_true rfl) (by omega) (by omega) (Nat.le_of_ble_eq_true rfl) ?_
  refine zM_mono (lw_price h) (fun r Z1 J1 q => ?_)
  obtain ⟨v, rfl, hk1, q⟩ := q
  refine x_some ?_
  refine x_ald2 (n := 969) dL_law_968 rfl ?_
  refine x_ald0 (n := 970) dL_law_969 rfl ?_
  refine x_ild3 (n := 971) dL_law_970 rfl ?_
  refine x_ic1 (n := 972) dL_law_971 rfl ?_
  refine x_iaddN (n := 973) dL_law_972 rfl ?_
  refine x_scrld (n := 974) dL_law_973 rfl (by omega) (by omega) ?_
  refine x_cV1 (n := 977) (d' := 4) zcX12_price mlL_121 dL_law_974 rfl hk1 (Nat.le_of_ble_eq_true rfl) (Nat.le_of_ble_eq_true rfl) ?_
  refine zM_mono q (fun r2 Z2 J2 q2 => ?_)
  obtain ⟨rfl, h2, le1, le2⟩ := q2
  refine x_some ?_
  exact x_icmp_eq (n := 980) (tgt := 1641) dL_law_977 rfl (by decide) (fun _ => x_less (by omega) (by omega) (hx Z2 J2 h2 le1 le2)) (fun c => absurd rfl c)
theorem la_measure (hL : i + 6 ≤ G.2.2.2.2.1) (hL2 : G.2.2.2.2.1 ≤ 3072) (h : LR Z J (J q_s)) (hm : Z.1 + 2 ≤ 900000) (hac : 2 ≤ ac) (has : 100 ≤ as) (hx : ∀ Z2 J2, LR Z2 J2 (J2 q_s) → Z.1 ≤ Z2.1 → Z2.1 ≤ Z.1 + 2 → zX l G (mdL nm) 124 (ac - 2) (as - 100) 1641 (lsL i) [] Z2 J2 Q) : zX l G (mdL nm) 124 ac as 982 (lsL i) [] Z J Q := by
  refine x_ald1 (n := 983) dL_law_982 rfl ?_
  refine x_ald0 (n := 984) dL_law_983 rfl ?_
  refine x_ild3 (n := 985) dL_law_984 rfl ?_
  refine x_ic1 (n := 986) dL_law_985 rfl ?_
  refine x_iaddN (n := 987) dL_law_986 rfl ?_
  refine x_scrld (n := 988) dL_law_987 rfl (by omega) (by omega) ?_
  refine x_ald0 (n := 989) dL_law_988 rfl ?_
  refine x_ild3 (n := 990) dL_law_989 rfl ?_
  refine x_ic2 (n := 991) dL_law_990 rfl ?_
  refine x_iaddN (n := 992) dL_law_991 rfl ?_
  refine x_scrld (n := 993) dL_law_992 rfl (by omega) (by omega) ?_
  refine x_ald0 (n := 994) dL_law_993 rfl ?_
  refine x_ild3 (n := 995) dL_law_994 rfl ?_
  refine x_ic3 (n := 996) dL_law_995 rfl ?_
  refine x_iaddN (n := 997) dL_law_996 rfl ?_
  refine x_scrld (n := 998) dL_law_997 rfl (by omega) (by omega) ?_
  refine x_gV3 (n := 1001) (mc := 0) (ms := 0) (d' := 2) zcX11_measure mlL_122 dL_law_998 rfl (lK_L h.1.1) (Nat.le_of_ble_eq_true rfl) (by omega) (by omega) (Nat.le_of_ble_eq_true rfl) ?_
  refine zM_mono (lw_measure h) (fun r Z1 J1 q => ?_)
  obtain ⟨v, rfl, hk1, q⟩ := q
  refine x_some ?_
  refine x_ald2 (n := 1002) dL_law_1001 rfl ?_
  refine x_ald0 (n := 1003) dL_law_1002 rfl ?_
  refine x_ild3 (n := 1004) dL_law_1003 rfl ?_
  refine x_ic1 (n := 1005) dL_law_1004 rfl ?_
  refine x_iaddN (n := 1006) dL_law_1005 rfl ?_
  refine x_scrld (n := 1007) dL_law_1006 rfl (by omega) (by omega) ?_
  refine x_ald0 (n := 1008) dL_law_1007 rfl ?_
  refine x_ild3 (n := 1009) dL_law_1008 rfl ?_
  refine x_ic2 (n := 1010) dL_law_1009 rfl ?_
  refine x_iaddN (n := 1011) dL_law_1010 rfl ?_
  refine x_scrld (n := 1012) dL_law_1011 rfl (by omega) (by omega) ?_
  refine x_ald0 (n := 1013) dL_law_1012 rfl ?_
  refine x_ild3 (n := 1014) dL_law_1013 rfl ?_
  refine x_ic3 (n := 1015) dL_law_1014 rfl ?_
  refine x_iaddN (n := 1016) dL_law_1015 rfl ?_
  refine x_scrld (n := 1017) dL_law_1016 rfl (by omega) (by omega) ?_
  refine x_cV3 (n := 1020) (d' := 2) zcX12_measure mlL_125 dL_law_1017 rfl hk1 (Nat.le_of_ble_eq_true rfl) (Nat.le_of_ble_eq_true rfl) ?_
  refine zM_mono q (fun r2 Z2 J2 q2 => ?_)
  obtain ⟨rfl, h2, le1, le2⟩ := q2
  refine x_some ?_
  exact x_icmp_eq (n := 1023) (tgt := 1641) dL_law_1020 rfl (by decide) (fun _ => x_less (by omega) (by omega) (hx Z2 J2 h2 le1 le2)) (fun c => absurd rfl c)
theorem la_quarrels (hL : i + 6 ≤ G.2.2.2.2.1) (hL2 : G.2.2.2.2.1 ≤ 3072) (h : LR Z J (J q_s)) (hm : Z.1 + 2 ≤ 900000) (hac : 2 ≤ ac) (has : 100 ≤ as) (hx : ∀ Z2 J2, LR Z2 J2 (J2 q_s) → Z.1 ≤ Z2.1 → Z2.1 ≤ Z.1 + 2 → zX l G (mdL nm) 124 (ac - 2) (as - 100) 1641 (lsL i) [] Z2 J2 Q) : zX l G (mdL nm) 124 ac as 1025 (lsL i) [] Z J Q := by
  refine x_ald1 (n := 1026) dL_law_1025 rfl ?_
  refine x_gV0 (n := 1029) (mc := 0) (ms := 0) (d' := 1) zcX11_quarrels mlL_126 dL_law_1026 rfl (lK_L h.1.1) (Nat.le_of_ble_eq_true rfl) (by omega) (by omega) (Nat.le_of_ble_eq_true rfl) ?_
  refine zM_mono (lw_quarrels h) (fun r Z1 J1 q => ?_)
  obtain ⟨v, rfl, hk1, q⟩ := q
  refine x_some ?_
  refine x_ald2 (n := 1030) dL_law_1029 rfl ?_
  refine x_cV0 (n := 1033) (d' := 1) zcX12_quarrels mlL_129 dL_law_1030 rfl hk1 (Nat.le_of_ble_eq_true rfl) (Nat.le_of_ble_eq_true rfl) ?_
  refine zM_mono q (fun r2 Z2 J2 q2 => ?_)
  obtain ⟨rfl, h2, le1, le2⟩ := q2
  refine x_some ?_
  exact x_icmp_eq (n := 1036) (tgt := 1641) dL_law_1033 rfl (by decide) (fun _ => x_less (by omega) (by omega) (hx Z2 J2 h2 le1 le2)) (fun c => absurd rfl c)
theorem la_claim (hL : i + 6 ≤ G.2.2.2.2.1) (hL2 : G.2.2.2.2.1 ≤ 3072) (h : LR Z J (J q_s)) (hm : Z.1 + 2 ≤ 900000) (hac : 2 ≤ ac) (has : 100 ≤ as) (hx : ∀ Z2 J2, LR Z2 J2 (J2 q_s) → Z.1 ≤ Z2.1 → Z2.1 ≤ Z.1 + 2 → zX l G (mdL nm) 124 (ac - 2) (as - 100) 1641 (lsL i) [] Z2 J2 Q) : zX l G (mdL nm) 124 ac as 1038 (lsL i) [] Z J Q := by
  refine x_ald1 (n := 1039) dL_law_1038 rfl ?_
  refine x_ald0 (n := 1040) dL_law_1039 rfl ?_
  refine x_ild3 (n := 1041) dL_law_1040 rfl ?_
  refine x_ic1 (n := 1042) dL_law_1041 rfl ?_
  refine x_iaddN (n := 1043) dL_law_1042 rfl ?_
  refine x_scrld (n := 1044) dL_law_1043 rfl (by omega) (by omega) ?_
  refine x_ald0 (n := 1045) dL_law_1044 rfl ?_
  refine x_ild3 (n := 1046) dL_law_1045 rfl ?_
  refine x_ic2 (n := 1047) dL_law_1046 rfl ?_
  refine x_iaddN (n := 1048) dL_law_1047 rfl ?_
  refine x_scrld (n := 1049) dL_law_1048 rfl (by omega) (by omega) ?_
  refine x_ald0 (n := 1050) dL_law_1049 rfl ?_
  refine x_ild3 (n := 1051) dL_law_1050 rfl ?_
  refine x_ic3 (n := 1052) dL_law_1051 rfl ?_
  refine x_iaddN (n := 1053) dL_law_1052 rfl ?_
  refine x_scrld (n := 1054) dL_law_1053 rfl (by omega) (by omega) ?_
  refine x_gV3 (n := 1057) (mc := 0) (ms := 0) (d' := 1) zcX11_claim mlL_130 dL_law_1054 rfl (lK_L h.1.1) (Nat.le_of_ble_eq_true rfl) (by omega) (by omega) (Nat.le_of_ble_eq_true rfl) ?_
  refine zM_mono (lw_claim h) (fun r Z1 J1 q => ?_)
  obtain ⟨v, rfl, hk1, q⟩ := q
  refine x_some ?_
  refine x_ald2 (n := 1058) dL_law_1057 rfl ?_
  refine x_ald0 (n := 1059) dL_law_1058 rfl ?_
  refine x_ild3 (n := 1060) dL_law_1059 rfl ?_
  refine x_ic1 (n := 1061) dL_law_1060 rfl ?_
  refine x_iaddN (n := 1062) dL_law_1061 rfl ?_
  refine x_scrld (n := 1063) dL_law_1062 rfl (by omega) (by omega) ?_
  refine x_ald0 (n := 1064) dL_law_1063 rfl ?_
  refine x_ild3 (n := 1065) dL_law_1064 rfl ?_
  refine x_ic2 (n := 1066) dL_law_1065 rfl ?_
  refine x_iaddN (n := 1067) dL_law_1066 rfl ?_
  refine x_scrld (n := 1068) dL_law_1067 rfl (by omega) (by omega) ?_
  refine x_ald0 (n := 1069) dL_law_1068 rfl ?_
  refine x_ild3 (n := 1070) dL_law_1069 rfl ?_
  refine x_ic3 (n := 1071) dL_law_1070 rfl ?_
  refine x_iaddN (n := 1072) dL_law_1071 rfl ?_
  refine x_scrld (n := 1073) dL_law_1072 rfl (by omega) (by omega) ?_
  refine x_cV3 (n := 1076) (d' := 1) zcX12_claim mlL_133 dL_law_1073 rfl hk1 (Nat.le_of_ble_eq_true rfl) (Nat.le_of_ble_eq_true rfl) ?_
  refine zM_mono q (fun r2 Z2 J2 q2 => ?_)
  obtain ⟨rfl, h2, le1, le2⟩ := q2
  refine x_some ?_
  exact x_icmp_eq (n := 1079) (tgt := 1641) dL_law_1076 rfl (by decide) (fun _ => x_less (by omega) (by omega) (hx Z2 J2 h2 le1 le2)) (fun c => absurd rfl c)
theorem la_given (hL : i + 6 ≤ G.2.2.2.2.1) (hL2 : G.2.2.2.2.1 ≤ 3072) (h : LR Z J (J q_s)) (hm : Z.1 + 2 ≤ 900000) (hac : 2 ≤ ac) (has : 100 ≤ as) (hx : ∀ Z2 J2, LR Z2 J2 (J2 q_s) → Z.1 ≤ Z2.1 → Z2.1 ≤ Z.1 + 2 → zX l G (mdL nm) 124 (ac - 2) (as - 100) 1641 (lsL i) [] Z2 J2 Q) : zX l G (mdL nm) 124 ac as 1081 (lsL i) [] Z J Q := by
  refine x_ald1 (n := 1082) dL_law_1081 rfl ?_
  refine x_ald0 (n := 1083) dL_law_1082 rfl ?_
  refine x_ild3 (n := 1084) dL_law_1083 rfl ?_
  refine x_ic1 (n := 1085) dL_law_1084 rfl ?_
  refine x_iaddN (n := 1086) dL_law_1085 rfl ?_
  refine x_scrld (n := 1087) dL_law_1086 rfl (by omega) (by omega) ?_
  refine x_gV1 (n := 1090) (mc := 0) (ms := 0) (d' := 5) zcX11_given mlL_134 dL_law_1087 rfl (lK_L h.1.1) (Nat.le_of_ble_eq_true rfl) (by omega) (by omega) (Nat.le_of_ble_eq_true rfl) ?_
  refine zM_mono (lw_given h) (fun r Z1 J1 q => ?_)
  obtain ⟨v, rfl, hk1, q⟩ := q
  refine x_some ?_
  refine x_ald2 (n := 1091) dL_law_1090 rfl ?_
  refine x_ald0 (n := 1092) dL_law_1091 rfl ?_
  refine x_ild3 (n := 1093) dL_law_1092 rfl ?_
  refine x_ic1 (n := 1094) dL_law_1093 rfl ?_
  refine x_iaddN (n := 1095) dL_law_1094 rfl ?_
  refine x_scrld (n := 1096) dL_law_1095 rfl (by omega) (by omega) ?_
  refine x_cV1 (n := 1099) (d' := 4) zcX12_given mlL_137 dL_law_1096 rfl hk1 (Nat.le_of_ble_eq_true rfl) (Nat.le_of_ble_eq_true rfl) ?_
  refine zM_mono q (fun r2 Z2 J2 q2 => ?_)
  obtain ⟨rfl, h2, le1, le2⟩ := q2
  refine x_some ?_
  exact x_icmp_eq (n := 1102) (tgt := 1641) dL_law_1099 rfl (by decide) (fun _ => x_less (by omega) (by omega) (hx Z2 J2 h2 le1 le2)) (fun c => absurd rfl c)
theorem la_late (hL : i + 6 ≤ G.2.2.2.2.1) (hL2 : G.2.2.2.2.1 ≤ 3072) (h : LR Z J (J q_s)) (hm : Z.1 + 2 ≤ 900000) (hac : 2 ≤ ac) (has : 100 ≤ as) (hx : ∀ Z2 J2, LR Z2 J2 (J2 q_s) → Z.1 ≤ Z2.1 → Z2.1 ≤ Z.1 + 2 → zX l G (mdL nm) 124 (ac - 2) (as - 100) 1641 (lsL i) [] Z2 J2 Q) : zX l G (mdL nm) 124 ac as 1104 (lsL i) [] Z J Q := by
  refine x_ald1 (n := 1105) dL_law_1104 rfl ?_
  refine x_ald0 (n := 1106) dL_law_1105 rfl ?_
  refine x_ild3 (n := 1107) dL_law_1106 rfl ?_
  refine x_ic1 (n := 1108) dL_law_1107 rfl ?_
  refine x_iaddN (n := 1109) dL_law_1108 rfl ?_
  refine x_scrld (n := 1110) dL_law_1109 rfl (by omega) (by omega) ?_
  refine x_gV1 (n := 1113) (mc := 0) (ms := 0) (d' := 5) zcX11_late mlL_138 dL_law_1110 rfl (lK_L h.1.1) (Nat.le_of_ble_eq_true rfl) (by omega) (by omega) (Nat.le_of_ble_eq_true rfl) ?_
  refine zM_mono (lw_late h) (fun r Z1 J1 q => ?_)
  obtain ⟨v, rfl, hk1, q⟩ := q
  refine x_some ?_
  refine x_ald2 (n := 1114) dL_law_1113 rfl ?_
  refine x_ald0 (n := 1115) dL_law_1114 rfl ?_
  refine x_ild3 (n := 1116) dL_law_1115 rfl ?_
  refine x_ic1 (n := 1117) dL_law_1116 rfl ?_
  refine x_iaddN (n := 1118) dL_law_1117 rfl ?_
  refine x_scrld (n := 1119) dL_law_1118 rfl (by omega) (by omega) ?_
  refine x_cV1 (n := 1122) (d' := 4) zcX12_late mlL_141 dL_law_1119 rfl hk1 (Nat.le_of_ble_eq_true rfl) (Nat.le_of_ble_eq_true rfl) ?_
  refine zM_mono q (fun r2 Z2 J2 q2 => ?_)
  obtain ⟨rfl, h2, le1, le2⟩ := q2
  refine x_some ?_
  exact x_icmp_eq (n := 1125) (tgt := 1641) dL_law_1122 rfl (by decide) (fun _ => x_less (by omega) (by omega) (hx Z2 J2 h2 le1 le2)) (fun c => absurd rfl c)
theorem la_call (hL : i + 6 ≤ G.2.2.2.2.1) (hL2 : G.2.2.2.2.1 ≤ 3072) (h : LR Z J (J q_s)) (hm : Z.1 + 2 ≤ 900000) (hac : 2 ≤ ac) (has : 100 ≤ as) (hx : ∀ Z2 J2, LR Z2 J2 (J2 q_s) → Z.1 ≤ Z2.1 → Z2.1 ≤ Z.1 + 2 → zX l G (mdL nm) 124 (ac - 2) (as - 100) 1641 (lsL i) [] Z2 J2 Q) : zX l G (mdL nm) 124 ac as 1127 (lsL i) [] Z J Q := by
  refine x_ald1 (n := 1128) dL_law_1127 rfl ?_
  refine x_ald0 (n := 1129) dL_law_1128 rfl ?_
  refine x_ild3 (n := 1130) dL_law_1129 rfl ?_
  refine x_ic1 (n := 1131) dL_law_1130 rfl ?_
  refine x_iaddN (n := 1132) dL_law_1131 rfl ?_
  refine x_scrld (n := 1133) dL_law_1132 rfl (by omega) (by omega) ?_
  refine x_gV1 (n := 1136) (mc := 0) (ms := 0) (d' := 1) zcX11_call mlL_142 dL_law_1133 rfl (lK_L h.1.1) (Nat.le_of_ble_eq_true rfl) (by omega) (by omega) (Nat.le_of_ble_eq_true rfl) ?_
  refine zM_mono (lw_call h) (fun r Z1 J1 q => ?_)
  obtain ⟨v, rfl, hk1, q⟩ := q
  refine x_some ?_
  refine x_ald2 (n := 1137) dL_law_1136 rfl ?_
  refine x_ald0 (n := 1138) dL_law_1137 rfl ?_
  refine x_ild3 (n := 1139) dL_law_1138 rfl ?_
  refine x_ic1 (n := 1140) dL_law_1139 rfl ?_
  refine x_iaddN (n := 1141) dL_law_1140 rfl ?_
  refine x_scrld (n := 1142) dL_law_1141 rfl (by omega) (by omega) ?_
  refine x_cV1 (n := 1145) (d' := 1) zcX12_call mlL_145 dL_law_1142 rfl hk1 (Nat.le_of_ble_eq_true rfl) (Nat.le_of_ble_eq_true rfl) ?_
  refine zM_mono q (fun r2 Z2 J2 q2 => ?_)
  obtain ⟨rfl, h2, le1, le2⟩ := q2
  refine x_some ?_
  exact x_icmp_eq (n := 1148) (tgt := 1641) dL_law_1145 rfl (by decide) (fun _ => x_less (by omega) (by omega) (hx Z2 J2 h2 le1 le2)) (fun c => absurd rfl c)
theorem la_due (hL : i + 6 ≤ G.2.2.2.2.1) (hL2 : G.2.2.2.2.1 ≤ 3072) (h : LR Z J (J q_s)) (hm : Z.1 + 2 ≤ 900000) (hac : 2 ≤ ac) (has : 100 ≤ as) (hx : ∀ Z2 J2, LR Z2 J2 (J2 q_s) → Z.1 ≤ Z2.1 → Z2.1 ≤ Z.1 + 2 → zX l G (mdL nm) 124 (ac - 2) (as - 100) 1641 (lsL i) [] Z2 J2 Q) : zX l G (mdL nm) 124 ac as 1150 (lsL i) [] Z J Q := by
  refine x_ald1 (n := 1151) dL_law_1150 rfl ?_
  refine x_ald0 (n := 1152) dL_law_1151 rfl ?_
  refine x_ild3 (n := 1153) dL_law_1152 rfl ?_
  refine x_ic1 (n := 1154) dL_law_1153 rfl ?_
  refine x_iaddN (n := 1155) dL_law_1154 rfl ?_
  refine x_scrld (n := 1156) dL_law_1155 rfl (by omega) (by omega) ?_
  refine x_ald0 (n := 1157) dL_law_1156 rfl ?_
  refine x_ild3 (n := 1158) dL_law_1157 rfl ?_
  refine x_ic2 (n := 1159) dL_law_1158 rfl ?_
  refine x_iaddN (n := 1160) dL_law_1159 rfl ?_
  refine x_scrld (n := 1161) dL_law_1160 rfl (by omega) (by omega) ?_
  refine x_gV2 (n := 1164) (mc := 0) (ms := 0) (d' := 1) zcX11_due mlL_146 dL_law_1161 rfl (lK_L h.1.1) (Nat.le_of_ble_eq_true rfl) (by omega) (by omega) (Nat.le_of_ble_eq_true rfl) ?_
  refine zM_mono (lw_due h) (fun r Z1 J1 q => ?_)
  obtain ⟨v, rfl, hk1, q⟩ := q
  refine x_some ?_
  refine x_ald2 (n := 1165) dL_law_1164 rfl ?_
  refine x_ald0 (n := 1166) dL_law_1165 rfl ?_
  refine x_ild3 (n := 1167) dL_law_1166 rfl ?_
  refine x_ic1 (n := 1168) dL_law_1167 rfl ?_
  refine x_iaddN (n := 1169) dL_law_1168 rfl ?_
  refine x_scrld (n := 1170) dL_law_1169 rfl (by omega) (by omega) ?_
  refine x_ald0 (n := 1171) dL_law_1170 rfl ?_
  refine x_ild3 (n := 1172) dL_law_1171 rfl ?_
  refine x_ic2 (n := 1173) dL_law_1172 rfl ?_
  refine x_iaddN (n := 1174) dL_law_1173 rfl ?_
  refine x_scrld (n := 1175) dL_law_1174 rfl (by omega) (by omega) ?_
  refine x_cV2 (n := 1178) (d' := 1) zcX12_due mlL_149 dL_law_1175 rfl hk1 (Nat.le_of_ble_eq_true rfl) (Nat.le_of_ble_eq_true rfl) ?_
  refine zM_mono q (fun r2 Z2 J2 q2 => ?_)
  obtain ⟨rfl, h2, le1, le2⟩ := q2
  refine x_some ?_
  exact x_icmp_eq (n := 1181) (tgt := 1641) dL_law_1178 rfl (by decide) (fun _ => x_less (by omega) (by omega) (hx Z2 J2 h2 le1 le2)) (fun c => absurd rfl c)
theorem la_out (hL : i + 6 ≤ G.2.2.2.2.1) (hL2 : G.2.2.2.2.1 ≤ 3072) (h : LR Z J (J q_s)) (hm : Z.1 + 2 ≤ 900000) (hac : 2 ≤ ac) (has : 100 ≤ as) (hx : ∀ Z2 J2, LR Z2 J2 (J2 q_s) → Z.1 ≤ Z2.1 → Z2.1 ≤ Z.1 + 2 → zX l G (mdL nm) 124 (ac - 2) (as - 100) 1641 (lsL i) [] Z2 J2 Q) : zX l G (mdL nm) 124 ac as 1183 (lsL i) [] Z J Q := by
  refine x_ald1 (n := 1184) dL_law_1183 rfl ?_
  refine x_gV0 (n := 1187) (mc := 0) (ms := 0) (d' := 2) zcX11_out mlL_150 dL_law_1184 rfl (lK_L h.1.1) (Nat.le_of_ble_eq_true rfl) (by omega) (by omega) (Nat.le_of_ble_eq_true rfl) ?_
  refine zM_mono (lw_out h) (fun r Z1 J1 q => ?_)
  obtain ⟨v, rfl, hk1, q⟩ := q
  refine x_some ?_
  refine x_ald2 (n := 1188) dL_law_1187 rfl ?_
  refine x_cV0 (n := 1191) (d' := 1) zcX12_out mlL_153 dL_law_1188 rfl hk1 (Nat.le_of_ble_eq_true rfl) (Nat.le_of_ble_eq_true rfl) ?_
  refine zM_mono q (fun r2 Z2 J2 q2 => ?_)
  obtain ⟨rfl, h2, le1, le2⟩ := q2
  refine x_some ?_
  exact x_icmp_eq (n := 1194) (tgt := 1641) dL_law_1191 rfl (by decide) (fun _ => x_less (by omega) (by omega) (hx Z2 J2 h2 le1 le2)) (fun c => absurd rfl c)
theorem la_face (hL : i + 6 ≤ G.2.2.2.2.1) (hL2 : G.2.2.2.2.1 ≤ 3072) (h : LR Z J (J q_s)) (hm : Z.1 + 2 ≤ 900000) (hac : 2 ≤ ac) (has : 100 ≤ as) (hx : ∀ Z2 J2, LR Z2 J2 (J2 q_s) → Z.1 ≤ Z2.1 → Z2.1 ≤ Z.1 + 2 → zX l G (mdL nm) 124 (ac - 2) (as - 100) 1641 (lsL i) [] Z2 J2 Q) : zX l G (mdL nm) 124 ac as 1196 (lsL i) [] Z J Q := by
  refine x_ald1 (n := 1197) dL_law_1196 rfl ?_
  refine x_ald0 (n := 1198) dL_law_1197 rfl ?_
  refine x_ild3 (n := 1199) dL_law_1198 rfl ?_
  refine x_ic1 (n := 1200) dL_law_1199 rfl ?_
  refine x_iaddN (n := 1201) dL_law_1200 rfl ?_
  refine x_scrld (n := 1202) dL_law_1201 rfl (by omega) (by omega) ?_
  refine x_ald0 (n := 1203) dL_law_1202 rfl ?_
  refine x_ild3 (n := 1204) dL_law_1203 rfl ?_
  refine x_ic2 (n := 1205) dL_law_1204 rfl ?_
  refine x_iaddN (n := 1206) dL_law_1205 rfl ?_
  refine x_scrld (n := 1207) dL_law_1206 rfl (by omega) (by omega) ?_
  refine x_gV2 (n := 1210) (mc := 0) (ms := 0) (d' := 1) zcX11_face mlL_154 dL_law_1207 rfl (lK_L h.1.1) (Nat.le_of_ble_eq_true rfl) (by omega) (by omega) (Nat.le_of_ble_eq_true rfl) ?_
  refine zM_mono (lw_face h) (fun r Z1 J1 q => ?_)
  obtain ⟨v, rfl, hk1, q⟩ := q
  refine x_some ?_
  refine x_ald2 (n := 1211) dL_law_1210 rfl ?_
  refine x_ald0 (n := 1212) dL_law_1211 rfl ?_
  refine x_ild3 (n := 1213) dL_law_1212 rfl ?_
  refine x_ic1 (n := 1214) dL_law_1213 rfl ?_
  refine x_iaddN (n := 1215) dL_law_1214 rfl ?_
  refine x_scrld (n := 1216) dL_law_1215 rfl (by omega) (by omega) ?_
  refine x_ald0 (n := 1217) dL_law_1216 rfl ?_
  refine x_ild3 (n := 1218) dL_law_1217 rfl ?_
  refine x_ic2 (n := 1219) dL_law_1218 rfl ?_
  refine x_iaddN (n := 1220) dL_law_1219 rfl ?_
  refine x_scrld (n := 1221) dL_law_1220 rfl (by omega) (by omega) ?_
  refine x_cV2 (n := 1224) (d' := 1) zcX12_face mlL_157 dL_law_1221 rfl hk1 (Nat.le_of_ble_eq_true rfl) (Nat.le_of_ble_eq_true rfl) ?_
  refine zM_mono q (fun r2 Z2 J2 q2 => ?_)
  obtain ⟨rfl, h2, le1, le2⟩ := q2
  refine x_some ?_
  exact x_icmp_eq (n := 1227) (tgt := 1641) dL_law_1224 rfl (by decide) (fun _ => x_less (by omega) (by omega) (hx Z2 J2 h2 le1 le2)) (fun c => absurd rfl c)
theorem la_meets (hL : i + 6 ≤ G.2.2.2.2.1) (hL2 : G.2.2.2.2.1 ≤ 3072) (h : LR Z J (J q_s)) (hm : Z.1 + 2 ≤ 900000) (hac : 2 ≤ ac) (has : 100 ≤ as) (hx : ∀ Z2 J2, LR Z2 J2 (J2 q_s) → Z.1 ≤ Z2.1 → Z2.1 ≤ Z.1 + 2 → zX l G (mdL nm) 124 (ac - 2) (as - 100) 1641 (lsL i) [] Z2 J2 Q) : zX l G (mdL nm) 124 ac as 1229 (lsL i) [] Z J Q := by
  refine x_ald1 (n := 1230) dL_law_1229 rfl ?_
  refine x_ald0 (n := 1231) dL_law_1230 rfl ?_
  refine x_ild3 (n := 1232) dL_law_1231 rfl ?_
  refine x_ic1 (n := 1233) dL_law_1232 rfl ?_
  refine x_iaddN (n := 1234) dL_law_1233 rfl ?_
  refine x_scrld (n := 1235) dL_law_1234 rfl (by omega) (by omega) ?_
  refine x_gV1 (n := 1238) (mc := 0) (ms := 0) (d' := 3) zcX11_meets mlL_158 dL_law_1235 rfl (lK_L h.1.1) (Nat.le_of_ble_eq_true rfl) (by omega) (by omega) (Nat.le_of_ble_eq_true rfl) ?_
  refine zM_mono (lw_meets h) (fun r Z1 J1 q => ?_)
  obtain ⟨v, rfl, hk1, q⟩ := q
  refine x_some ?_
  refine x_ald2 (n := 1239) dL_law_1238 rfl ?_
  refine x_ald0 (n := 1240) dL_law_1239 rfl ?_
  refine x_ild3 (n := 1241) dL_law_1240 rfl ?_
  refine x_ic1 (n := 1242) dL_law_1241 rfl ?_
  refine x_iaddN (n := 1243) dL_law_1242 rfl ?_
  refine x_scrld (n := 1244) dL_law_1243 rfl (by omega) (by omega) ?_
  refine x_cV1 (n := 1247) (d' := 1) zcX12_meets mlL_161 dL_law_1244 rfl hk1 (Nat.le_of_ble_eq_true rfl) (Nat.le_of_ble_eq_true rfl) ?_
  refine zM_mono q (fun r2 Z2 J2 q2 => ?_)
  obtain ⟨rfl, h2, le1, le2⟩ := q2
  refine x_some ?_
  exact x_icmp_eq (n := 1250) (tgt := 1641) dL_law_1247 rfl (by decide) (fun _ => x_less (by omega) (by omega) (hx Z2 J2 h2 le1 le2)) (fun c => absurd rfl c)
theorem la_arch (hL : i + 6 ≤ G.2.2.2.2.1) (hL2 : G.2.2.2.2.1 ≤ 3072) (h : LR Z J (J q_s)) (hm : Z.1 + 2 ≤ 900000) (hac : 2 ≤ ac) (has : 100 ≤ as) (hx : ∀ Z2 J2, LR Z2 J2 (J2 q_s) → Z.1 ≤ Z2.1 → Z2.1 ≤ Z.1 + 2 → zX l G (mdL nm) 124 (ac - 2) (as - 100) 1641 (lsL i) [] Z2 J2 Q) : zX l G (mdL nm) 124 ac as 1252 (lsL i) [] Z J Q := by
  refine x_ald1 (n := 1253) dL_law_1252 rfl ?_
  refine x_ald0 (n := 1254) dL_law_1253 rfl ?_
  refine x_ild3 (n := 1255) dL_law_1254 rfl ?_
  refine x_ic1 (n := 1256) dL_law_1255 rfl ?_
  refine x_iaddN (n := 1257) dL_law_1256 rfl ?_
  refine x_scrld (n := 1258) dL_law_1257 rfl (by omega) (by omega) ?_
  refine x_gV1 (n := 1261) (mc := 0) (ms := 0) (d' := 1) zcX11_arch mlL_162 dL_law_1258 rfl (lK_L h.1.1) (Nat.le_of_ble_eq_true rfl) (by omega) (by omega) (Nat.le_of_ble_eq_true rfl) ?_
  refine zM_mono (lw_arch h) (fun r Z1 J1 q => ?_)
  obtain ⟨v, rfl, hk1, q⟩ := q
  refine x_some ?_
  refine x_ald2 (n := 1262) dL_law_1261 rfl ?_
  refine x_ald0 (n := 1263) dL_law_1262 rfl ?_
  refine x_ild3 (n := 1264) dL_law_1263 rfl ?_
  refine x_ic1 (n := 1265) dL_law_1264 rfl ?_
  refine x_iaddN (n := 1266) dL_law_1265 rfl ?_
  refine x_scrld (n := 1267) dL_law_1266 rfl (by omega) (by omega) ?_
  refine x_cV1 (n := 1270) (d' := 1) zcX12_arch mlL_165 dL_law_1267 rfl hk1 (Nat.le_of_ble_eq_true rfl) (Nat.le_of_ble_eq_true rfl) ?_
  refine zM_mono q (fun r2 Z2 J2 q2 => ?_)
  obtain ⟨rfl, h2, le1, le2⟩ := q2
  refine x_some ?_
  exact x_icmp_eq (n := 1273) (tgt := 1641) dL_law_1270 rfl (by decide) (fun _ => x_less (by omega) (by omega) (hx Z2 J2 h2 le1 le2)) (fun c => absurd rfl c)
theorem la_order (hL : i + 6 ≤ G.2.2.2.2.1) (hL2 : G.2.2.2.2.1 ≤ 3072) (h : LR Z J (J q_s)) (hm : Z.1 + 2 ≤ 900000) (hac : 2 ≤ ac) (has : 100 ≤ as) (hx : ∀ Z2 J2, LR Z2 J2 (J2 q_s) → Z.1 ≤ Z2.1 → Z2.1 ≤ Z.1 + 2 → zX l G (mdL nm) 124 (ac - 2) (as - 100) 1641 (lsL i) [] Z2 J2 Q) : zX l G (mdL nm) 124 ac as 1275 (lsL i) [] Z J Q := by
  refine x_ald1 (n := 1276) dL_law_1275 rfl ?_
  refine x_ald0 (n := 1277) dL_law_1276 rfl ?_
  refine x_ild3 (n := 1278) dL_law_1277 rfl ?_
  refine x_ic1 (n := 1279) dL_law_1278 rfl ?_
  refine x_iaddN (n := 1280) dL_law_1279 rfl ?_
  refine x_scrld (n := 1281) dL_law_1280 rfl (by omega) (by omega) ?_
  refine x_ald0 (n := 1282) dL_law_1281 rfl ?_
  refine x_ild3 (n := 1283) dL_law_1282 rfl ?_
  refine x_ic2 (n := 1284) dL_law_1283 rfl ?_
  refine x_iaddN (n := 1285) dL_law_1284 rfl ?_
  refine x_scrld (n := 1286) dL_law_1285 rfl (by omega) (by omega) ?_
  refine x_gV2 (n := 1289) (mc := 0) (ms := 0) (d' := 4) zcX11_order mlL_166 dL_law_1286 rfl (lK_L h.1.1) (Nat.le_of_ble_eq_true rfl) (by omega) (by omega) (Nat.le_of_ble_eq_true rfl) ?_
  refine zM_mono (lw_order h) (fun r Z1 J1 q => ?_)
  obtain ⟨v, rfl, hk1, q⟩ := q
  refine x_some ?_
  refine x_ald2 (n := 1290) dL_law_1289 rfl ?_
  refine x_ald0 (n := 1291) dL_law_1290 rfl ?_
  refine x_ild3 (n := 1292) dL_law_1291 rfl ?_
  refine x_ic1 (n := 1293) dL_law_1292 rfl ?_
  refine x_iaddN (n := 1294) dL_law_1293 rfl ?_
  refine x_scrld (n := 1295) dL_law_1294 rfl (by omega) (by omega) ?_
  refine x_ald0 (n := 1296) dL_law_1295 rfl ?_
  refine x_ild3 (n := 1297) dL_law_1296 rfl ?_
  refine x_ic2 (n := 1298) dL_law_1297 rfl ?_
  refine x_iaddN (n := 1299) dL_law_1298 rfl ?_
  refine x_scrld (n := 1300) dL_law_1299 rfl (by omega) (by omega) ?_
  refine x_cV2 (n := 1303) (d' := 2) zcX12_order mlL_169 dL_law_1300 rfl hk1 (Nat.le_of_ble_eq_true rfl) (Nat.le_of_ble_eq_true rfl) ?_
  refine zM_mono q (fun r2 Z2 J2 q2 => ?_)
  obtain ⟨rfl, h2, le1, le2⟩ := q2
  refine x_some ?_
  exact x_icmp_eq (n := 1306) (tgt := 1641) dL_law_1303 rfl (by decide) (fun _ => x_less (by omega) (by omega) (hx Z2 J2 h2 le1 le2)) (fun c => absurd rfl c)
theorem la_through (hL : i + 6 ≤ G.2.2.2.2.1) (hL2 : G.2.2.2.2.1 ≤ 3072) (h : LR Z J (J q_s)) (hm : Z.1 + 2 ≤ 900000) (hac : 2 ≤ ac) (has : 100 ≤ as) (hx : ∀ Z2 J2, LR Z2 J2 (J2 q_s) → Z.1 ≤ Z2.1 → Z2.1 ≤ Z.1 + 2 → zX l G (mdL nm) 124 (ac - 2) (as - 100) 1641 (lsL i) [] Z2 J2 Q) : zX l G (mdL nm) 124 ac as 1308 (lsL i) [] Z J Q := by
  refine x_ald1 (n := 1309) dL_law_1308 rfl ?_
  refine x_ald0 (n := 1310) dL_law_1309 rfl ?_
  refine x_ild3 (n := 1311) dL_law_1310 rfl ?_
  refine x_ic1 (n := 1312) dL_law_1311 rfl ?_
  refine x_iaddN (n := 1313) dL_law_1312 rfl ?_
  refine x_scrld (n := 1314) dL_law_1313 rfl (by omega) (by omega) ?_
  refine x_gV1 (n := 1317) (mc := 0) (ms := 0) (d' := 4) zcX11_through mlL_170 dL_law_1314 rfl (lK_L h.1.1) (Nat.le_of_ble_eq_true rfl) (by omega) (by omega) (Nat.le_of_ble_eq_true rfl) ?_
  refine zM_mono (lw_through h) (fun r Z1 J1 q => ?_)
  obtain ⟨v, rfl, hk1, q⟩ := q
  refine x_some ?_
  refine x_ald2 (n := 1318) dL_law_1317 rfl ?_
  refine x_ald0 (n := 1319) dL_law_1318 rfl ?_
  refine x_ild3 (n := 1320) dL_law_1319 rfl ?_
  refine x_ic1 (n := 1321) dL_law_1320 rfl ?_
  refine x_iaddN (n := 1322) dL_law_1321 rfl ?_
  refine x_scrld (n := 1323) dL_law_1322 rfl (by omega) (by omega) ?_
  refine x_cV1 (n := 1326) (d' := 2) zcX12_through mlL_173 dL_law_1323 rfl hk1 (Nat.le_of_ble_eq_true rfl) (Nat.le_of_ble_eq_true rfl) ?_
  refine zM_mono q (fun r2 Z2 J2 q2 => ?_)
  obtain ⟨rfl, h2, le1, le2⟩ := q2
  refine x_some ?_
  exact x_icmp_eq (n := 1329) (tgt := 1641) dL_law_1326 rfl (by decide) (fun _ => x_less (by omega) (by omega) (hx Z2 J2 h2 le1 le2)) (fun c => absurd rfl c)
theorem la_chain (hL : i + 6 ≤ G.2.2.2.2.1) (hL2 : G.2.2.2.2.1 ≤ 3072) (h : LR Z J (J q_s)) (hm : Z.1 + 2 ≤ 900000) (hac : 2 ≤ ac) (has : 100 ≤ as) (hx : ∀ Z2 J2, LR Z2 J2 (J2 q_s) → Z.1 ≤ Z2.1 → Z2.1 ≤ Z.1 + 2 → zX l G (mdL nm) 124 (ac - 2) (as - 100) 1641 (lsL i) [] Z2 J2 Q) : zX l G (mdL nm) 124 ac as 1331 (lsL i) [] Z J Q := by
  refine x_ald1 (n := 1332) dL_law_1331 rfl ?_
  refine x_ald0 (n := 1333) dL_law_1332 rfl ?_
  refine x_ild3 (n := 1334) dL_law_1333 rfl ?_
  refine x_ic1 (n := 1335) dL_law_1334 rfl ?_
  refine x_iaddN (n := 1336) dL_law_1335 rfl ?_
  refine x_scrld (n := 1337) dL_law_1336 rfl (by omega) (by omega) ?_
  refine x_ald0 (n := 1338) dL_law_1337 rfl ?_
  refine x_ild3 (n := 1339) dL_law_1338 rfl ?_
  refine x_ic2 (n := 1340) dL_law_1339 rfl ?_
  refine x_iaddN (n := 1341) dL_law_1340 rfl ?_
  refine x_scrld (n := 1342) dL_law_1341 rfl (by omega) (by omega) ?_
  refine x_gV2 (n := 1345) (mc := 0) (ms := 0) (d' := 5) zcX11_chain mlL_174 dL_law_1342 rfl (lK_L h.1.1) (Nat.le_of_ble_eq_true rfl) (by omega) (by omega) (Nat.le_of_ble_eq_true rfl) ?_
  refine zM_mono (lw_chain h) (fun r Z1 J1 q => ?_)
  obtain ⟨v, rfl, hk1, q⟩ := q
  refine x_some ?_
  refine x_ald2 (n := 1346) dL_law_1345 rfl ?_
  refine x_ald0 (n := 1347) dL_law_1346 rfl ?_
  refine x_ild3 (n := 1348) dL_law_1347 rfl ?_
  refine x_ic1 (n := 1349) dL_law_1348 rfl ?_
  refine x_iaddN (n := 1350) dL_law_1349 rfl ?_
  refine x_scrld (n := 1351) dL_law_1350 rfl (by omega) (by omega) ?_
  refine x_ald0 (n := 1352) dL_law_1351 rfl ?_
  refine x_ild3 (n := 1353) dL_law_1352 rfl ?_
  refine x_ic2 (n := 1354) dL_law_1353 rfl ?_
  refine x_iaddN (n := 1355) dL_law_1354 rfl ?_
  refine x_scrld (n := 1356) dL_law_1355 rfl (by omega) (by omega) ?_
  refine x_cV2 (n := 1359) (d' := 2) zcX12_chain mlL_177 dL_law_1356 rfl hk1 (Nat.le_of_ble_eq_true rfl) (Nat.le_of_ble_eq_true rfl) ?_
  refine zM_mono q (fun r2 Z2 J2 q2 => ?_)
  obtain ⟨rfl, h2, le1, le2⟩ := q2
  refine x_some ?_
  exact x_icmp_eq (n := 1362) (tgt := 1641) dL_law_1359 rfl (by decide) (fun _ => x_less (by omega) (by omega) (hx Z2 J2 h2 le1 le2)) (fun c => absurd rfl c)
theorem la_survey (hL : i + 6 ≤ G.2.2.2.2.1) (hL2 : G.2.2.2.2.1 ≤ 3072) (h : LR Z J (J q_s)) (hm : Z.1 + 2 ≤ 900000) (hac : 2 ≤ ac) (has : 100 ≤ as) (hx : ∀ Z2 J2, LR Z2 J2 (J2 q_s) → Z.1 ≤ Z2.1 → Z2.1 ≤ Z.1 + 2 → zX l G (mdL nm) 124 (ac - 2) (as - 100) 1641 (lsL i) [] Z2 J2 Q) : zX l G (mdL nm) 124 ac as 1364 (lsL i) [] Z J Q := by
  refine x_ald1 (n := 1365) dL_law_1364 rfl ?_
  refine x_ald0 (n := 1366) dL_law_1365 rfl ?_
  refine x_ild3 (n := 1367) dL_law_1366 rfl ?_
  refine x_ic1 (n := 1368) dL_law_1367 rfl ?_
  refine x_iaddN (n := 1369) dL_law_1368 rfl ?_
  refine x_scrld (n := 1370) dL_law_1369 rfl (by omega) (by omega) ?_
  refine x_ald0 (n := 1371) dL_law_1370 rfl ?_
  refine x_ild3 (n := 1372) dL_law_1371 rfl ?_
  refine x_ic2 (n := 1373) dL_law_1372 rfl ?_
  refine x_iaddN (n := 1374) dL_law_1373 rfl ?_
  refine x_scrld (n := 1375) dL_law_1374 rfl (by omega) (by omega) ?_
  refine x_ald0 (n := 1376) dL_law_1375 rfl ?_
  refine x_ild3 (n := 1377) dL_law_1376 rfl ?_
  refine x_ic3 (n := 1378) dL_law_1377 rfl ?_
  refine x_iaddN (n := 1379) dL_law_1378 rfl ?_
  refine x_scrld (n := 1380) dL_law_1379 rfl (by omega) (by omega) ?_
  refine x_gV3 (n := 1383) (mc := 0) (ms := 0) (d' := 3) zcX11_survey mlL_178 dL_law_1380 rfl (lK_L h.1.1) (Nat.le_of_ble_eq_true rfl) (by omega) (by omega) (Nat.le_of_ble_eq_true rfl) ?_
  refine zM_mono (lw_survey h) (fun r Z1 J1 q => ?_)
  obtain ⟨v, rfl, hk1, q⟩ := q
  refine x_some ?_
  refine x_ald2 (n := 1384) dL_law_1383 rfl ?_
  refine x_ald0 (n := 1385) dL_law_1384 rfl ?_
  refine x_ild3 (n := 1386) dL_law_1385 rfl ?_
  refine x_ic1 (n := 1387) dL_law_1386 rfl ?_
  refine x_iaddN (n := 1388) dL_law_1387 rfl ?_
  refine x_scrld (n := 1389) dL_law_1388 rfl (by omega) (by omega) ?_
  refine x_ald0 (n := 1390) dL_law_1389 rfl ?_
  refine x_ild3 (n := 1391) dL_law_1390 rfl ?_
  refine x_ic2 (n := 1392) dL_law_1391 rfl ?_
  refine x_iaddN (n := 1393) dL_law_1392 rfl ?_
  refine x_scrld (n := 1394) dL_law_1393 rfl (by omega) (by omega) ?_
  refine x_ald0 (n := 1395) dL_law_1394 rfl ?_
  refine x_ild3 (n := 1396) dL_law_1395 rfl ?_
  refine x_ic3 (n := 1397) dL_law_1396 rfl ?_
  refine x_iaddN (n := 1398) dL_law_1397 rfl ?_
  refine x_scrld (n := 1399) dL_law_1398 rfl (by omega) (by omega) ?_
  refine x_cV3 (n := 1402) (d' := 2) zcX12_survey mlL_181 dL_law_1399 rfl hk1 (Nat.le_of_ble_eq_true rfl) (Nat.le_of_ble_eq_true rfl) ?_
  refine zM_mono q (fun r2 Z2 J2 q2 => ?_)
  obtain ⟨rfl, h2, le1, le2⟩ := q2
  refine x_some ?_
  exact x_icmp_eq (n := 1405) (tgt := 1641) dL_law_1402 rfl (by decide) (fun _ => x_less (by omega) (by omega) (hx Z2 J2 h2 le1 le2)) (fun c => absurd rfl c)
theorem la_note (hL : i + 6 ≤ G.2.2.2.2.1) (hL2 : G.2.2.2.2.1 ≤ 3072) (h : LR Z J (J q_s)) (hm : Z.1 + 2 ≤ 900000) (hac : 2 ≤ ac) (has : 100 ≤ as) (hx : ∀ Z2 J2, LR Z2 J2 (J2 q_s) → Z.1 ≤ Z2.1 → Z2.1 ≤ Z.1 + 2 → zX l G (mdL nm) 124 (ac - 2) (as - 100) 1641 (lsL i) [] Z2 J2 Q) : zX l G (mdL nm) 124 ac as 1407 (lsL i) [] Z J Q := by
  refine x_ald1 (n := 1408) dL_law_1407 rfl ?_
  refine x_ald0 (n := 1409) dL_law_1408 rfl ?_
  refine x_ild3 (n := 1410) dL_law_1409 rfl ?_
  refine x_ic1 (n := 1411) dL_law_1410 rfl ?_
  refine x_iaddN (n := 1412) dL_law_1411 rfl ?_
  refine x_scrld (n := 1413) dL_law_1412 rfl (by omega) (by omega) ?_
  refine x_ald0 (n := 1414) dL_law_1413 rfl ?_
  refine x_ild3 (n := 1415) dL_law_1414 rfl ?_
  refine x_ic2 (n := 1416) dL_law_1415 rfl ?_
  refine x_iaddN (n := 1417) dL_law_1416 rfl ?_
  refine x_scrld (n := 1418) dL_law_1417 rfl (by omega) (by omega) ?_
  refine x_ald0 (n := 1419) dL_law_1418 rfl ?_
  refine x_ild3 (n := 1420) dL_law_1419 rfl ?_
  refine x_ic3 (n := 1421) dL_law_1420 rfl ?_
  refine x_iaddN (n := 1422) dL_law_1421 rfl ?_
  refine x_scrld (n := 1423) dL_law_1422 rfl (by omega) (by omega) ?_
  refine x_gV3 (n := 1426) (mc := 0) (ms := 0) (d' := 2) zcX11_note mlL_182 dL_law_1423 rfl (lK_L h.1.1) (Nat.le_of_ble_eq_true rfl) (by omega) (by omega) (Nat.le_of_ble_eq_true rfl) ?_
  refine zM_mono (lw_note h) (fun r Z1 J1 q => ?_)
  obtain ⟨v, rfl, hk1, q⟩ := q
  refine x_some ?_
  refine x_ald2 (n := 1427) dL_law_1426 rfl ?_
  refine x_ald0 (n := 1428) dL_law_1427 rfl ?_
  refine x_ild3 (n := 1429) dL_law_1428 rfl ?_
  refine x_ic1 (n := 1430) dL_law_1429 rfl ?_
  refine x_iaddN (n := 1431) dL_law_1430 rfl ?_
  refine x_scrld (n := 1432) dL_law_1431 rfl (by omega) (by omega) ?_
  refine x_ald0 (n := 1433) dL_law_1432 rfl ?_
  refine x_ild3 (n := 1434) dL_law_1433 rfl ?_
  refine x_ic2 (n := 1435) dL_law_1434 rfl ?_
  refine x_iaddN (n := 1436) dL_law_1435 rfl ?_
  refine x_scrld (n := 1437) dL_law_1436 rfl (by omega) (by omega) ?_
  refine x_ald0 (n := 1438) dL_law_1437 rfl ?_
  refine x_ild3 (n := 1439) dL_law_1438 rfl ?_
  refine x_ic3 (n := 1440) dL_law_1439 rfl ?_
  refine x_iaddN (n := 1441) dL_law_1440 rfl ?_
  refine x_scrld (n := 1442) dL_law_1441 rfl (by omega) (by omega) ?_
  refine x_cV3 (n := 1445) (d' := 3) zcX12_note mlL_185 dL_law_1442 rfl hk1 (Nat.le_of_ble_eq_true rfl) (Nat.le_of_ble_eq_true rfl) ?_
  refine zM_mono q (fun r2 Z2 J2 q2 => ?_)
  obtain ⟨rfl, h2, le1, le2⟩ := q2
  refine x_some ?_
  exact x_icmp_eq (n := 1448) (tgt := 1641) dL_law_1445 rfl (by decide) (fun _ => x_less (by omega) (by omega) (hx Z2 J2 h2 le1 le2)) (fun c => absurd rfl c)
theorem la_read (hL : i + 6 ≤ G.2.2.2.2.1) (hL2 : G.2.2.2.2.1 ≤ 3072) (h : LR Z J (J q_s)) (hm : Z.1 + 2 ≤ 900000) (hac : 2 ≤ ac) (has : 100 ≤ as) (hx : ∀ Z2 J2, LR Z2 J2 (J2 q_s) → Z.1 ≤ Z2.1 → Z2.1 ≤ Z.1 + 2 → zX l G (mdL nm) 124 (ac - 2) (as - 100) 1641 (lsL i) [] Z2 J2 Q) : zX l G (mdL nm) 124 ac as 1450 (lsL i) [] Z J Q := by
  refine x_ald1 (n := 1451) dL_law_1450 rfl ?_
  refine x_ald0 (n := 1452) dL_law_1451 rfl ?_
  refine x_ild3 (n := 1453) dL_law_1452 rfl ?_
  refine x_ic1 (n := 1454) dL_law_1453 rfl ?_
  refine x_iaddN (n := 1455) dL_law_1454 rfl ?_
  refine x_scrld (n := 1456) dL_law_1455 rfl (by omega) (by omega) ?_
  refine x_ald0 (n := 1457) dL_law_1456 rfl ?_
  refine x_ild3 (n := 1458) dL_law_1457 rfl ?_
  refine x_ic2 (n := 1459) dL_law_1458 rfl ?_
  refine x_iaddN (n := 1460) dL_law_1459 rfl ?_
  refine x_scrld (n := 1461) dL_law_1460 rfl (by omega) (by omega) ?_
  refine x_gV2 (n := 1464) (mc := 0) (ms := 0) (d' := 3) zcX11_read mlL_186 dL_law_1461 rfl (lK_L h.1.1) (Nat.le_of_ble_eq_true rfl) (by omega) (by omega) (Nat.le_of_ble_eq_true rfl) ?_
  refine zM_mono (lw_read h) (fun r Z1 J1 q => ?_)
  obtain ⟨v, rfl, hk1, q⟩ := q
  refine x_some ?_
  refine x_ald2 (n := 1465) dL_law_1464 rfl ?_
  refine x_ald0 (n := 1466) dL_law_1465 rfl ?_
  refine x_ild3 (n := 1467) dL_law_1466 rfl ?_
  refine x_ic1 (n := 1468) dL_law_1467 rfl ?_
  refine x_iaddN (n := 1469) dL_law_1468 rfl ?_
  refine x_scrld (n := 1470) dL_law_1469 rfl (by omega) (by omega) ?_
  refine x_ald0 (n := 1471) dL_law_1470 rfl ?_
  refine x_ild3 (n := 1472) dL_law_1471 rfl ?_
  refine x_ic2 (n := 1473) dL_law_1472 rfl ?_
  refine x_iaddN (n := 1474) dL_law_1473 rfl ?_
  refine x_scrld (n := 1475) dL_law_1474 rfl (by omega) (by omega) ?_
  refine x_cV2 (n := 1478) (d' := 3) zcX12_read mlL_189 dL_law_1475 rfl hk1 (Nat.le_of_ble_eq_true rfl) (Nat.le_of_ble_eq_true rfl) ?_
  refine zM_mono q (fun r2 Z2 J2 q2 => ?_)
  obtain ⟨rfl, h2, le1, le2⟩ := q2
  refine x_some ?_
  exact x_icmp_eq (n := 1481) (tgt := 1641) dL_law_1478 rfl (by decide) (fun _ => x_less (by omega) (by omega) (hx Z2 J2 h2 le1 le2)) (fun c => absurd rfl c)
theorem la_copy (hL : i + 6 ≤ G.2.2.2.2.1) (hL2 : G.2.2.2.2.1 ≤ 3072) (h : LR Z J (J q_s)) (hm : Z.1 + 2 ≤ 900000) (hac : 2 ≤ ac) (has : 100 ≤ as) (hx : ∀ Z2 J2, LR Z2 J2 (J2 q_s) → Z.1 ≤ Z2.1 → Z2.1 ≤ Z.1 + 2 → zX l G (mdL nm) 124 (ac - 2) (as - 100) 1641 (lsL i) [] Z2 J2 Q) : zX l G (mdL nm) 124 ac as 1483 (lsL i) [] Z J Q := by
  refine x_ald1 (n := 1484) dL_law_1483 rfl ?_
  refine x_ald0 (n := 1485) dL_law_1484 rfl ?_
  refine x_ild3 (n := 1486) dL_law_1485 rfl ?_
  refine x_ic1 (n := 1487) dL_law_1486 rfl ?_
  refine x_iaddN (n := 1488) dL_law_1487 rfl ?_
  refine x_scrld (n := 1489) dL_law_1488 rfl (by omega) (by omega) ?_
  refine x_ald0 (n := 1490) dL_law_1489 rfl ?_
  refine x_ild3 (n := 1491) dL_law_1490 rfl ?_
  refine x_ic2 (n := 1492) dL_law_1491 rfl ?_
  refine x_iaddN (n := 1493) dL_law_1492 rfl ?_
  refine x_scrld (n := 1494) dL_law_1493 rfl (by omega) (by omega) ?_
  refine x_ald0 (n := 1495) dL_law_1494 rfl ?_
  refine x_ild3 (n := 1496) dL_law_1495 rfl ?_
  refine x_ic3 (n := 1497) dL_law_1496 rfl ?_
  refine x_iaddN (n := 1498) dL_law_1497 rfl ?_
  refine x_scrld (n := 1499) dL_law_1498 rfl (by omega) (by omega) ?_
  refine x_ald0 (n := 1500) dL_law_1499 rfl ?_
  refine x_ild3 (n := 1501) dL_law_1500 rfl ?_
  refine x_ic4 (n := 1502) dL_law_1501 rfl ?_
  refine x_iaddN (n := 1503) dL_law_1502 rfl ?_
  refine x_scrld (n := 1504) dL_law_1503 rfl (by omega) (by omega) ?_
  refine x_ald0 (n := 1505) dL_law_1504 rfl ?_
  refine x_ild3 (n := 1506) dL_law_1505 rfl ?_
  refine x_ic5 (n := 1507) dL_law_1506 rfl ?_
  refine x_iaddN (n := 1508) dL_law_1507 rfl ?_
  refine x_scrld (n := 1509) dL_law_1508 rfl (by omega) (by omega) ?_
  refine x_gV5 (n := 1512) (mc := 0) (ms := 0) (d' := 2) zcX11_copy mlL_190 dL_law_1509 rfl (lK_L h.1.1) (Nat.le_of_ble_eq_true rfl) (by omega) (by omega) (Nat.le_of_ble_eq_true rfl) ?_
  refine zM_mono (lw_copy h) (fun r Z1 J1 q => ?_)
  obtain ⟨v, rfl, hk1, q⟩ := q
  refine x_some ?_
  refine x_ald2 (n := 1513) dL_law_1512 rfl ?_
  refine x_ald0 (n := 1514) dL_law_1513 rfl ?_
  refine x_ild3 (n := 1515) dL_law_1514 rfl ?_
  refine x_ic1 (n := 1516) dL_law_1515 rfl ?_
  refine x_iaddN (n := 1517) dL_law_1516 rfl ?_
  refine x_scrld (n := 1518) dL_law_1517 rfl (by omega) (by omega) ?_
  refine x_ald0 (n := 1519) dL_law_1518 rfl ?_
  refine x_ild3 (n := 1520) dL_law_1519 rfl ?_
  refine x_ic2 (n := 1521) dL_law_1520 rfl ?_
  refine x_iaddN (n := 1522) dL_law_1521 rfl ?_
  refine x_scrld (n := 1523) dL_law_1522 rfl (by omega) (by omega) ?_
  refine x_ald0 (n := 1524) dL_law_1523 rfl ?_
  refine x_ild3 (n := 1525) dL_law_1524 rfl ?_
  refine x_ic3 (n := 1526) dL_law_1525 rfl ?_
  refine x_iaddN (n := 1527) dL_law_1526 rfl ?_
  refine x_scrld (n := 1528) dL_law_1527 rfl (by omega) (by omega) ?_
  refine x_ald0 (n := 1529) dL_law_1528 rfl ?_
  refine x_ild3 (n := 1530) dL_law_1529 rfl ?_
  refine x_ic4 (n := 1531) dL_law_1530 rfl ?_
  refine x_iaddN (n := 1532) dL_law_1531 rfl ?_
  refine x_scrld (n := 1533) dL_law_1532 rfl (by omega) (by omega) ?_
  refine x_ald0 (n := 1534) dL_law_1533 rfl ?_
  refine x_ild3 (n := 1535) dL_law_1534 rfl ?_
  refine x_ic5 (n := 1536) dL_law_1535 rfl ?_
  refine x_iaddN (n := 1537) dL_law_1536 rfl ?_
  refine x_scrld (n := 1538) dL_law_1537 rfl (by omega) (by omega) ?_
  refine x_cV5 (n := 1541) (d' := 2) zcX12_copy mlL_194 dL_law_1538 rfl hk1 (Nat.le_of_ble_eq_true rfl) (Nat.le_of_ble_eq_true rfl) ?_
  refine zM_mono q (fun r2 Z2 J2 q2 => ?_)
  obtain ⟨rfl, h2, le1, le2⟩ := q2
  refine x_some ?_
  exact x_icmp_eq (n := 1544) (tgt := 1641) dL_law_1541 rfl (by decide) (fun _ => x_less (by omega) (by omega) (hx Z2 J2 h2 le1 le2)) (fun c => absurd rfl c)
theorem la_tell (hL : i + 6 ≤ G.2.2.2.2.1) (hL2 : G.2.2.2.2.1 ≤ 3072) (h : LR Z J (J q_s)) (hm : Z.1 + 2 ≤ 900000) (hac : 2 ≤ ac) (has : 100 ≤ as) (hx : ∀ Z2 J2, LR Z2 J2 (J2 q_s) → Z.1 ≤ Z2.1 → Z2.1 ≤ Z.1 + 2 → zX l G (mdL nm) 124 (ac - 2) (as - 100) 1641 (lsL i) [] Z2 J2 Q) : zX l G (mdL nm) 124 ac as 1546 (lsL i) [] Z J Q := by
  refine x_ald1 (n := 1547) dL_law_1546 rfl ?_
  refine x_ald0 (n := 1548) dL_law_1547 rfl ?_
  refine x_ild3 (n := 1549) dL_law_1548 rfl ?_
  refine x_ic1 (n := 1550) dL_law_1549 rfl ?_
  refine x_iaddN (n := 1551) dL_law_1550 rfl ?_
  refine x_scrld (n := 1552) dL_law_1551 rfl (by omega) (by omega) ?_
  refine x_gV1 (n := 1555) (mc := 0) (ms := 0) (d' := 0) zcX11_tell mlL_195 dL_law_1552 rfl (lK_L h.1.1) (Nat.le_of_ble_eq_true rfl) (by omega) (by omega) (Nat.le_of_ble_eq_true rfl) ?_
  refine zM_mono (lw_tell h) (fun r Z1 J1 q => ?_)
  obtain ⟨v, rfl, hk1, q⟩ := q
  refine x_some ?_
  refine x_ald2 (n := 1556) dL_law_1555 rfl ?_
  refine x_ald0 (n := 1557) dL_law_1556 rfl ?_
  refine x_ild3 (n := 1558) dL_law_1557 rfl ?_
  refine x_ic1 (n := 1559) dL_law_1558 rfl ?_
  refine x_iaddN (n := 1560) dL_law_1559 rfl ?_
  refine x_scrld (n := 1561) dL_law_1560 rfl (by omega) (by omega) ?_
  refine x_cV1 (n := 1564) (d' := 0) zcX12_tell mlL_198 dL_law_1561 rfl hk1 (Nat.le_of_ble_eq_true rfl) (Nat.le_of_ble_eq_true rfl) ?_
  refine zM_mono q (fun r2 Z2 J2 q2 => ?_)
  obtain ⟨rfl, h2, le1, le2⟩ := q2
  refine x_some ?_
  exact x_icmp_eq (n := 1567) (tgt := 1641) dL_law_1564 rfl (by decide) (fun _ => x_less (by omega) (by omega) (hx Z2 J2 h2 le1 le2)) (fun c => absurd rfl c)
theorem la_check (hL : i + 6 ≤ G.2.2.2.2.1) (hL2 : G.2.2.2.2.1 ≤ 3072) (h : LR Z J (J q_s)) (hm : Z.1 + 2 ≤ 900000) (hac : 2 ≤ ac) (has : 100 ≤ as) (hx : ∀ Z2 J2, LR Z2 J2 (J2 q_s) → Z.1 ≤ Z2.1 → Z2.1 ≤ Z.1 + 2 → zX l G (mdL nm) 124 (ac - 2) (as - 100) 1641 (lsL i) [] Z2 J2 Q) : zX l G (mdL nm) 124 ac as 1569 (lsL i) [] Z J Q := by
  refine x_ald1 (n := 1570) dL_law_1569 rfl ?_
  refine x_ald0 (n := 1571) dL_law_1570 rfl ?_
  refine x_ild3 (n := 1572) dL_law_1571 rfl ?_
  refine x_ic1 (n := 1573) dL_law_1572 rfl ?_
  refine x_iaddN (n := 1574) dL_law_1573 rfl ?_
  refine x_scrld (n := 1575) dL_law_1574 rfl (by omega) (by omega) ?_
  refine x_gV1 (n := 1578) (mc := 0) (ms := 0) (d' := 7) zcX11_check mlL_199 dL_law_1575 rfl (lK_L h.1.1) (Nat.le_of_ble_eq_true rfl) (by omega) (by omega) (Nat.le_of_ble_eq_true rfl) ?_
  refine zM_mono (lw_check h) (fun r Z1 J1 q => ?_)
  obtain ⟨v, rfl, hk1, q⟩ := q
  refine x_some ?_
  refine x_ald2 (n := 1579) dL_law_1578 rfl ?_
  refine x_ald0 (n := 1580) dL_law_1579 rfl ?_
  refine x_ild3 (n := 1581) dL_law_1580 rfl ?_
  refine x_ic1 (n := 1582) dL_law_1581 rfl ?_
  refine x_iaddN (n := 1583) dL_law_1582 rfl ?_
  refine x_scrld (n := 1584) dL_law_1583 rfl (by omega) (by omega) ?_
  refine x_cV1 (n := 1587) (d' := 6) zcX12_check mlL_202 dL_law_1584 rfl hk1 (Nat.le_of_ble_eq_true rfl) (Nat.le_of_ble_eq_true rfl) ?_
  refine zM_mono q (fun r2 Z2 J2 q2 => ?_)
  obtain ⟨rfl, h2, le1, le2⟩ := q2
  refine x_some ?_
  exact x_icmp_eq (n := 1590) (tgt := 1641) dL_law_1587 rfl (by decide) (fun _ => x_less (by omega) (by omega) (hx Z2 J2 h2 le1 le2)) (fun c => absurd rfl c)
theorem la_keep (hL : i + 6 ≤ G.2.2.2.2.1) (hL2 : G.2.2.2.2.1 ≤ 3072) (h : LR Z J (J q_s)) (hm : Z.1 + 2 ≤ 900000) (hac : 2 ≤ ac) (has : 100 ≤ as) (hx : ∀ Z2 J2, LR Z2 J2 (J2 q_s) → Z.1 ≤ Z2.1 → Z2.1 ≤ Z.1 + 2 → zX l G (mdL nm) 124 (ac - 2) (as - 100) 1641 (lsL i) [] Z2 J2 Q) : zX l G (mdL nm) 124 ac as 1592 (lsL i) [] Z J Q := by
  refine x_ald1 (n := 1593) dL_law_1592 rfl ?_
  refine x_gV0 (n := 1596) (mc := 0) (ms := 0) (d' := 4) zcX11_keep mlL_203 dL_law_1593 rfl (lK_L h.1.1) (Nat.le_of_ble_eq_true rfl) (by omega) (by omega) (Nat.le_of_ble_eq_true rfl) ?_
  refine zM_mono (lw_keep h) (fun r Z1 J1 q => ?_)
  obtain ⟨v, rfl, hk1, q⟩ := q
  refine x_some ?_
  refine x_ald2 (n := 1597) dL_law_1596 rfl ?_
  refine x_cV0 (n := 1600) (d' := 1) zcX12_keep mlL_206 dL_law_1597 rfl hk1 (Nat.le_of_ble_eq_true rfl) (Nat.le_of_ble_eq_true rfl) ?_
  refine zM_mono q (fun r2 Z2 J2 q2 => ?_)
  obtain ⟨rfl, h2, le1, le2⟩ := q2
  refine x_some ?_
  exact x_icmp_eq (n := 1603) (tgt := 1641) dL_law_1600 rfl (by decide) (fun _ => x_less (by omega) (by omega) (hx Z2 J2 h2 le1 le2)) (fun c => absurd rfl c)
theorem la_back (hL : i + 6 ≤ G.2.2.2.2.1) (hL2 : G.2.2.2.2.1 ≤ 3072) (h : LR Z J (J q_s)) (hm : Z.1 + 2 ≤ 900000) (hac : 2 ≤ ac) (has : 100 ≤ as) (hx : ∀ Z2 J2, LR Z2 J2 (J2 q_s) → Z.1 ≤ Z2.1 → Z2.1 ≤ Z.1 + 2 → zX l G (mdL nm) 124 (ac - 2) (as - 100) 1641 (lsL i) [] Z2 J2 Q) : zX l G (mdL nm) 124 ac as 1605 (lsL i) [] Z J Q := by
  refine x_ald1 (n := 1606) dL_law_1605 rfl ?_
  refine x_gV0 (n := 1609) (mc := 0) (ms := 0) (d' := 4) zcX11_back mlL_207 dL_law_1606 rfl (lK_L h.1.1) (Nat.le_of_ble_eq_true rfl) (by omega) (by omega) (Nat.le_of_ble_eq_true rfl) ?_
  refine zM_mono (lw_back h) (fun r Z1 J1 q => ?_)
  obtain ⟨v, rfl, hk1, q⟩ := q
  refine x_some ?_
  refine x_ald2 (n := 1610) dL_law_1609 rfl ?_
  refine x_cV0 (n := 1613) (d' := 1) zcX12_back mlL_210 dL_law_1610 rfl hk1 (Nat.le_of_ble_eq_true rfl) (Nat.le_of_ble_eq_true rfl) ?_
  refine zM_mono q (fun r2 Z2 J2 q2 => ?_)
  obtain ⟨rfl, h2, le1, le2⟩ := q2
  refine x_some ?_
  exact x_icmp_eq (n := 1616) (tgt := 1641) dL_law_1613 rfl (by decide) (fun _ => x_less (by omega) (by omega) (hx Z2 J2 h2 le1 le2)) (fun c => absurd rfl c)
theorem la_count (hL : i + 6 ≤ G.2.2.2.2.1) (hL2 : G.2.2.2.2.1 ≤ 3072) (h : LR Z J (J q_s)) (hm : Z.1 + 2 ≤ 900000) (hac : 2 ≤ ac) (has : 100 ≤ as) (hx : ∀ Z2 J2, LR Z2 J2 (J2 q_s) → Z.1 ≤ Z2.1 → Z2.1 ≤ Z.1 + 2 → zX l G (mdL nm) 124 (ac - 2) (as - 100) 1641 (lsL i) [] Z2 J2 Q) : zX l G (mdL nm) 124 ac as 1618 (lsL i) [] Z J Q := by
  refine x_ald1 (n := 1619) dL_law_1618 rfl ?_
  refine x_ald0 (n := 1620) dL_law_1619 rfl ?_
  refine x_ild3 (n := 1621) dL_law_1620 rfl ?_
  refine x_ic1 (n := 1622) dL_law_1621 rfl ?_
  refine x_iaddN (n := 1623) dL_law_1622 rfl ?_
  refine x_scrld (n := 1624) dL_law_1623 rfl (by omega) (by omega) ?_
  refine x_gV1 (n := 1627) (mc := 0) (ms := 0) (d' := 3) zcX11_count mlL_211 dL_law_1624 rfl (lK_L h.1.1) (Nat.le_of_ble_eq_true rfl) (by omega) (by omega) (Nat.le_of_ble_eq_true rfl) ?_
  refine zM_mono (lw_count h) (fun r Z1 J1 q => ?_)
  obtain ⟨v, rfl, hk1, q⟩ := q
  refine x_some ?_
  refine x_ald2 (n := 1628) dL_law_1627 rfl ?_
  refine x_ald0 (n := 1629) dL_law_1628 rfl ?_
  refine x_ild3 (n := 1630) dL_law_1629 rfl ?_
  refine x_ic1 (n := 1631) dL_law_1630 rfl ?_
  refine x_iaddN (n := 1632) dL_law_1631 rfl ?_
  refine x_scrld (n := 1633) dL_law_1632 rfl (by omega) (by omega) ?_
  refine x_cV1 (n := 1636) (d' := 3) zcX12_count mlL_214 dL_law_1633 rfl hk1 (Nat.le_of_ble_eq_true rfl) (Nat.le_of_ble_eq_true rfl) ?_
  refine zM_mono q (fun r2 Z2 J2 q2 => ?_)
  obtain ⟨rfl, h2, le1, le2⟩ := q2
  refine x_some ?_
  exact x_icmp_eq (n := 1639) (tgt := 1641) dL_law_1636 rfl (by decide) (fun _ => x_less (by omega) (by omega) (hx Z2 J2 h2 le1 le2)) (fun c => absurd rfl c)
end
