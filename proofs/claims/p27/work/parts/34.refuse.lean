/-! REFUSES: four rounds, each in two walks (to pc 233, and on to the loop's head) -/
theorem zlh_n {a b : Int32} (h : ¬ (¬ zme a = 0 ∧ ¬ zme b = 0 ∧ a ≤ b)) : ¬ zLH a b := h
set_option maxRecDepth 100000 in
set_option maxHeartbeats 4000000 in
theorem l_refB0 {x : zX} {g : zG} {μ : zM} {s d c : Nat} {ph fs : Nat → Nat} {al : Int32} (S : zS x g 17 cL_refuses RL) (V : zV μ s d c ph fs) (hN : zK x g ({ frames := 10, cells := 192, slots := 1152, locals := 184 } : Room) 17 48 288 32 [some (.ref (za g 0)), some (.int (nI d)), some (.int (nI c)), some (.int al), some (.long ((-99000011))), none, some (.long ((-99000012))), none, some (.int 2147483647), some (.int 1), none, none, none, none, none, none, none] [] μ) : zK x g ({ frames := 10, cells := 192, slots := 1152, locals := 184 } : Room) 17 10 60 233 [some (.ref (za g 0)), some (.int (nI d)), some (.int (nI c)), some (.int al), some (.long ((-99000011))), none, some (.long ((-99000012))), none, some (.int 2147483647), some (.int 0), some (.int ((-1))), some (.int ((-1))), some (.int ((-1))), some (.int ((-10000))), none, none, none] [] μ := by
  have hc0 : zIn 0 c := ⟨0, V.c1, rfl⟩
  refine k_aload0 S dL_refuses_233 (n := 234) rfl ?_
  refine k_bipush S dL_refuses_234 (v := 12) (by decide) (n := 236) rfl ?_
  refine k_iload11 S dL_refuses_236 (n := 238) rfl ?_
  refine k_iconst S dL_refuses_238 (v := 0) (by decide) (n := 239) rfl ?_
  refine k_iconst S dL_refuses_239 (v := 0) (by decide) (n := 240) rfl ?_
  refine k_callH (As := [.ref (za g 0), .int 12, .int ((-1)), .int 0, .int 0]) (rest := []) S (x_act12 (Or.inl rfl) (n_firstOf V (fun z => (zin_l V.d60 (by decide)) z.1))) mv_L_act m_457 dL_refuses_240 rfl rfl ⟨by decide, by decide⟩ rfl rfl (Nat.le_of_ble_eq_true rfl) ⟨by decide, by decide⟩ (n := 243) rfl (fun _ _ h => h.elim) (fun v9 ν9 h9 => ?_)
  rw [h9.1, h9.2]
  show zK x g ({ frames := 10, cells := 192, slots := 1152, locals := 184 } : Room) 17 12 72 243 [some (.ref (za g 0)), some (.int (nI d)), some (.int (nI c)), some (.int al), some (.long ((-99000011))), none, some (.long ((-99000012))), none, some (.int 2147483647), some (.int 0), some (.int ((-1))), some (.int ((-1))), some (.int ((-1))), some (.int ((-10000))), none, none, none] [.long ((zcd "java/lang/IndexOutOfBoundsException"))] μ
  refine k_topl (-99000011) zcd_p ?_
  refine k_lload4 S dL_refuses_243 (n := 245) rfl ?_
  refine k_lcmp S dL_refuses_245 (n := 246) rfl ?_
  refine k_top 0 (by decide) ?_
  refine k_if_ne S dL_refuses_246 (tgt := 325) (by decide) (n := 249) rfl (fun h9 => absurd (by decide) h9) (fun _ => ?_)
  refine k_aload0 S dL_refuses_249 (n := 250) rfl ?_
  refine k_bipush S dL_refuses_250 (v := 12) (by decide) (n := 252) rfl ?_
  refine k_iconst S dL_refuses_252 (v := 0) (by decide) (n := 253) rfl ?_
  refine k_iload9 S dL_refuses_253 (n := 255) rfl ?_
  refine k_if_ne S dL_refuses_255 (tgt := 262) (by decide) (n := 258) rfl (fun h9 => absurd (by decide) h9) (fun _ => ?_)
  refine k_iconst S dL_refuses_258 (v := 0) (by decide) (n := 259) rfl ?_
  refine k_goto S dL_refuses_259 (tgt := 275) (by decide) ?_
  refine k_iconst S dL_refuses_275 (v := 0) (by decide) (n := 276) rfl ?_
  refine k_callH (As := [.ref (za g 0), .int 12, .int 0, .int 0, .int 0]) (rest := []) S (x_act12 (Or.inl rfl) (n_firstOf V (fun z => absurd z.2 (by decide)))) mv_L_act m_457 dL_refuses_276 rfl rfl ⟨by decide, by decide⟩ rfl rfl (Nat.le_of_ble_eq_true rfl) ⟨by decide, by decide⟩ (n := 279) rfl (fun _ _ h => h.elim) (fun v9 ν9 h9 => ?_)
  rw [h9.1, h9.2]
  show zK x g ({ frames := 10, cells := 192, slots := 1152, locals := 184 } : Room) 17 14 84 279 [some (.ref (za g 0)), some (.int (nI d)), some (.int (nI c)), some (.int al), some (.long ((-99000011))), none, some (.long ((-99000012))), none, some (.int 2147483647), some (.int 0), some (.int ((-1))), some (.int ((-1))), some (.int ((-1))), some (.int ((-10000))), none, none, none] [.long ((zcd "java/lang/IndexOutOfBoundsException"))] μ
  refine k_topl (-99000011) zcd_p ?_
  refine k_lload4 S dL_refuses_279 (n := 281) rfl ?_
  refine k_lcmp S dL_refuses_281 (n := 282) rfl ?_
  refine k_top 0 (by decide) ?_
  refine k_if_ne S dL_refuses_282 (tgt := 325) (by decide) (n := 285) rfl (fun h9 => absurd (by decide) h9) (fun _ => ?_)
  refine k_aload0 S dL_refuses_285 (n := 286) rfl ?_
  refine k_bipush S dL_refuses_286 (v := 14) (by decide) (n := 288) rfl ?_
  refine k_iload9 S dL_refuses_288 (n := 290) rfl ?_
  refine k_if_ne S dL_refuses_290 (tgt := 297) (by decide) (n := 293) rfl (fun h9 => absurd (by decide) h9) (fun _ => ?_)
  refine k_iconst S dL_refuses_293 (v := 0) (by decide) (n := 294) rfl ?_
  refine k_goto S dL_refuses_294 (tgt := 310) (by decide) ?_
  refine k_iconst S dL_refuses_310 (v := 0) (by decide) (n := 311) rfl ?_
  refine k_iconst S dL_refuses_311 (v := 0) (by decide) (n := 312) rfl ?_
  refine k_callH (As := [.ref (za g 0), .int 14, .int 0, .int 0, .int 0]) (rest := []) S (x_act14 (Or.inr (Or.inl rfl)) (n_setWeight (by decide))) mv_L_act m_457 dL_refuses_312 rfl rfl ⟨by decide, by decide⟩ rfl rfl (Nat.le_of_ble_eq_true rfl) ⟨by decide, by decide⟩ (n := 315) rfl (fun _ _ h => h.elim) (fun v9 ν9 h9 => ?_)
  rw [h9.1, h9.2]
  show zK x g ({ frames := 10, cells := 192, slots := 1152, locals := 184 } : Room) 17 15 90 315 [some (.ref (za g 0)), some (.int (nI d)), some (.int (nI c)), some (.int al), some (.long ((-99000011))), none, some (.long ((-99000012))), none, some (.int 2147483647), some (.int 0), some (.int ((-1))), some (.int ((-1))), some (.int ((-1))), some (.int ((-10000))), none, none, none] [.long ((zcd "java/lang/IllegalArgumentException"))] μ
  refine k_topl (-99000012) zcd_a ?_
  refine k_lload6 S dL_refuses_315 (n := 317) rfl ?_
  refine k_lcmp S dL_refuses_317 (n := 318) rfl ?_
  refine k_top 0 (by decide) ?_
  refine k_if_ne S dL_refuses_318 (tgt := 325) (by decide) (n := 321) rfl (fun h9 => absurd (by decide) h9) (fun _ => ?_)
  refine k_iconst S dL_refuses_321 (v := 1) (by decide) (n := 322) rfl ?_
  refine k_goto S dL_refuses_322 (tgt := 326) (by decide) ?_
  refine k_istore14 S dL_refuses_326 (by decide) rfl (n := 328) rfl ?_
  refine k_iconst S dL_refuses_328 (v := 3) (by decide) (n := 329) rfl ?_
  refine k_istore15 S dL_refuses_329 (by decide) rfl (n := 331) rfl ?_
  refine k_iload15 S dL_refuses_331 (n := 333) rfl ?_
  refine k_bipush S dL_refuses_333 (v := 17) (by decide) (n := 335) rfl ?_
  refine k_icmp_ge S dL_refuses_335 (tgt := 416) (by decide) (n := 338) rfl (fun h9 => absurd h9 (by decide)) (fun _ => ?_)
  refine k_iload15 S dL_refuses_338 (n := 340) rfl ?_
  refine k_iconst S dL_refuses_340 (v := 5) (by decide) (n := 341) rfl ?_
  refine k_icmp_le S dL_refuses_341 (tgt := 355) (by decide) (n := 344) rfl (fun _ => ?_) (fun h9 => absurd (by decide) h9)
  refine k_iconst S dL_refuses_355 (v := 0) (by decide) (n := 356) rfl ?_
  refine k_istore16 S dL_refuses_356 (by decide) rfl (n := 358) rfl ?_
  refine k_iload14 S dL_refuses_358 (n := 360) rfl ?_
  refine k_if_eq S dL_refuses_360 (tgt := 407) (by decide) (n := 363) rfl (fun h9 => absurd h9 (by decide)) (fun _ => ?_)
  refine k_iload15 S dL_refuses_363 (n := 365) rfl ?_
  refine k_bipush S dL_refuses_365 (v := 12) (by decide) (n := 367) rfl ?_
  refine k_icmp_eq S dL_refuses_367 (tgt := 403) (by decide) (n := 370) rfl (fun h9 => absurd h9 (by decide)) (fun _ => ?_)
  refine k_iload15 S dL_refuses_370 (n := 372) rfl ?_
  refine k_bipush S dL_refuses_372 (v := 14) (by decide) (n := 374) rfl ?_
  refine k_icmp_eq S dL_refuses_374 (tgt := 403) (by decide) (n := 377) rfl (fun h9 => absurd h9 (by decide)) (fun _ => ?_)
  refine k_aload0 S dL_refuses_377 (n := 378) rfl ?_
  refine k_iload15 S dL_refuses_378 (n := 380) rfl ?_
  refine k_iload16 S dL_refuses_380 (n := 382) rfl ?_
  refine k_if_eq S dL_refuses_382 (tgt := 390) (by decide) (n := 385) rfl (fun _ => ?_) (fun h9 => absurd (by decide) h9)
  refine k_iload11 S dL_refuses_390 (n := 392) rfl ?_
  refine k_iconst S dL_refuses_392 (v := 0) (by decide) (n := 393) rfl ?_
  refine k_iconst S dL_refuses_393 (v := 0) (by decide) (n := 394) rfl ?_
  refine k_callH (As := [.ref (za g 0), .int 3, .int ((-1)), .int 0, .int 0]) (rest := []) S (x_act3 (Or.inl rfl) (n_mean_place V (zin_l V.d60 (by decide)))) mv_L_act m_457 dL_refuses_394 rfl rfl ⟨by decide, by decide⟩ rfl rfl (Nat.le_of_ble_eq_true rfl) ⟨by decide, by decide⟩ (n := 397) rfl (fun _ _ h => h.elim) (fun v9 ν9 h9 => ?_)
  rw [h9.1, h9.2]
  show zK x g ({ frames := 10, cells := 192, slots := 1152, locals := 184 } : Room) 17 16 96 397 [some (.ref (za g 0)), some (.int (nI d)), some (.int (nI c)), some (.int al), some (.long ((-99000011))), none, some (.long ((-99000012))), none, some (.int 2147483647), some (.int 0), some (.int ((-1))), some (.int ((-1))), some (.int ((-1))), some (.int ((-10000))), some (.int 1), some (.int 3), some (.int 0)] [.long ((zcd "java/lang/IndexOutOfBoundsException"))] μ
  refine k_topl (-99000011) zcd_p ?_
  refine k_lload4 S dL_refuses_397 (n := 399) rfl ?_
  refine k_lcmp S dL_refuses_399 (n := 400) rfl ?_
  refine k_top 0 (by decide) ?_
  refine k_if_ne S dL_refuses_400 (tgt := 407) (by decide) (n := 403) rfl (fun h9 => absurd (by decide) h9) (fun _ => ?_)
  refine k_iconst S dL_refuses_403 (v := 1) (by decide) (n := 404) rfl ?_
  refine k_goto S dL_refuses_404 (tgt := 408) (by decide) ?_
  refine k_istore14 S dL_refuses_408 (by decide) rfl (n := 410) rfl ?_
  refine k_iinc15 S dL_refuses_410 (v := 4) (by decide) (by decide) (n := 413) rfl ?_
  refine k_goto S dL_refuses_413 (tgt := 331) (by decide) ?_
  refine k_iload15 S dL_refuses_331 (n := 333) rfl ?_
  refine k_bipush S dL_refuses_333 (v := 17) (by decide) (n := 335) rfl ?_
  refine k_icmp_ge S dL_refuses_335 (tgt := 416) (by decide) (n := 338) rfl (fun h9 => absurd h9 (by decide)) (fun _ => ?_)
  refine k_iload15 S dL_refuses_338 (n := 340) rfl ?_
  refine k_iconst S dL_refuses_340 (v := 5) (by decide) (n := 341) rfl ?_
  refine k_icmp_le S dL_refuses_341 (tgt := 355) (by decide) (n := 344) rfl (fun _ => ?_) (fun h9 => absurd (by decide) h9)
  refine k_iconst S dL_refuses_355 (v := 0) (by decide) (n := 356) rfl ?_
  refine k_istore16 S dL_refuses_356 (by decide) rfl (n := 358) rfl ?_
  refine k_iload14 S dL_refuses_358 (n := 360) rfl ?_
  refine k_if_eq S dL_refuses_360 (tgt := 407) (by decide) (n := 363) rfl (fun h9 => absurd h9 (by decide)) (fun _ => ?_)
  refine k_iload15 S dL_refuses_363 (n := 365) rfl ?_
  refine k_bipush S dL_refuses_365 (v := 12) (by decide) (n := 367) rfl ?_
  refine k_icmp_eq S dL_refuses_367 (tgt := 403) (by decide) (n := 370) rfl (fun h9 => absurd h9 (by decide)) (fun _ => ?_)
  refine k_iload15 S dL_refuses_370 (n := 372) rfl ?_
  refine k_bipush S dL_refuses_372 (v := 14) (by decide) (n := 374) rfl ?_
  refine k_icmp_eq S dL_refuses_374 (tgt := 403) (by decide) (n := 377) rfl (fun h9 => absurd h9 (by decide)) (fun _ => ?_)
  refine k_aload0 S dL_refuses_377 (n := 378) rfl ?_
  refine k_iload15 S dL_refuses_378 (n := 380) rfl ?_
  refine k_iload16 S dL_refuses_380 (n := 382) rfl ?_
  refine k_if_eq S dL_refuses_382 (tgt := 390) (by decide) (n := 385) rfl (fun _ => ?_) (fun h9 => absurd (by decide) h9)
  refine k_iload11 S dL_refuses_390 (n := 392) rfl ?_
  refine k_iconst S dL_refuses_392 (v := 0) (by decide) (n := 393) rfl ?_
  refine k_iconst S dL_refuses_393 (v := 0) (by decide) (n := 394) rfl ?_
  refine k_callH (As := [.ref (za g 0), .int 4, .int ((-1)), .int 0, .int 0]) (rest := []) S (x_act4 (Or.inl rfl) (n_range_place V (zin_l V.d60 (by decide)))) mv_L_act m_457 dL_refuses_394 rfl rfl ⟨by decide, by decide⟩ rfl rfl (Nat.le_of_ble_eq_true rfl) ⟨by decide, by decide⟩ (n := 397) rfl (fun _ _ h => h.elim) (fun v9 ν9 h9 => ?_)
  rw [h9.1, h9.2]
  show zK x g ({ frames := 10, cells := 192, slots := 1152, locals := 184 } : Room) 17 17 102 397 [some (.ref (za g 0)), some (.int (nI d)), some (.int (nI c)), some (.int al), some (.long ((-99000011))), none, some (.long ((-99000012))), none, some (.int 2147483647), some (.int 0), some (.int ((-1))), some (.int ((-1))), some (.int ((-1))), some (.int ((-10000))), some (.int 1), some (.int 4), some (.int 0)] [.long ((zcd "java/lang/IndexOutOfBoundsException"))] μ
  refine k_topl (-99000011) zcd_p ?_
  refine k_lload4 S dL_refuses_397 (n := 399) rfl ?_
  refine k_lcmp S dL_refuses_399 (n := 400) rfl ?_
  refine k_top 0 (by decide) ?_
  refine k_if_ne S dL_refuses_400 (tgt := 407) (by decide) (n := 403) rfl (fun h9 => absurd (by decide) h9) (fun _ => ?_)
  refine k_iconst S dL_refuses_403 (v := 1) (by decide) (n := 404) rfl ?_
  refine k_goto S dL_refuses_404 (tgt := 408) (by decide) ?_
  refine k_istore14 S dL_refuses_408 (by decide) rfl (n := 410) rfl ?_
  refine k_iinc15 S dL_refuses_410 (v := 5) (by decide) (by decide) (n := 413) rfl ?_
  refine k_goto S dL_refuses_413 (tgt := 331) (by decide) ?_
  refine k_iload15 S dL_refuses_331 (n := 333) rfl ?_
  refine k_bipush S dL_refuses_333 (v := 17) (by decide) (n := 335) rfl ?_
  refine k_icmp_ge S dL_refuses_335 (tgt := 416) (by decide) (n := 338) rfl (fun h9 => absurd h9 (by decide)) (fun _ => ?_)
  refine k_iload15 S dL_refuses_338 (n := 340) rfl ?_
  refine k_iconst S dL_refuses_340 (v := 5) (by decide) (n := 341) rfl ?_
  refine k_icmp_le S dL_refuses_341 (tgt := 355) (by decide) (n := 344) rfl (fun _ => ?_) (fun h9 => absurd (by decide) h9)
  refine k_iconst S dL_refuses_355 (v := 0) (by decide) (n := 356) rfl ?_
  refine k_istore16 S dL_refuses_356 (by decide) rfl (n := 358) rfl ?_
  refine k_iload14 S dL_refuses_358 (n := 360) rfl ?_
  refine k_if_eq S dL_refuses_360 (tgt := 407) (by decide) (n := 363) rfl (fun h9 => absurd h9 (by decide)) (fun _ => ?_)
  refine k_iload15 S dL_refuses_363 (n := 365) rfl ?_
  refine k_bipush S dL_refuses_365 (v := 12) (by decide) (n := 367) rfl ?_
  refine k_icmp_eq S dL_refuses_367 (tgt := 403) (by decide) (n := 370) rfl (fun h9 => absurd h9 (by decide)) (fun _ => ?_)
  refine k_iload15 S dL_refuses_370 (n := 372) rfl ?_
  refine k_bipush S dL_refuses_372 (v := 14) (by decide) (n := 374) rfl ?_
  refine k_icmp_eq S dL_refuses_374 (tgt := 403) (by decide) (n := 377) rfl (fun h9 => absurd h9 (by decide)) (fun _ => ?_)
  refine k_aload0 S dL_refuses_377 (n := 378) rfl ?_
  refine k_iload15 S dL_refuses_378 (n := 380) rfl ?_
  refine k_iload16 S dL_refuses_380 (n := 382) rfl ?_
  refine k_if_eq S dL_refuses_382 (tgt := 390) (by decide) (n := 385) rfl (fun _ => ?_) (fun h9 => absurd (by decide) h9)
  refine k_iload11 S dL_refuses_390 (n := 392) rfl ?_
  refine k_iconst S dL_refuses_392 (v := 0) (by decide) (n := 393) rfl ?_
  refine k_iconst S dL_refuses_393 (v := 0) (by decide) (n := 394) rfl ?_
  refine k_callH (As := [.ref (za g 0), .int 5, .int ((-1)), .int 0, .int 0]) (rest := []) S (x_act5 (Or.inl rfl) (n_phaseOf_place V (zin_l V.d60 (by decide)))) mv_L_act m_457 dL_refuses_394 rfl rfl ⟨by decide, by decide⟩ rfl rfl (Nat.le_of_ble_eq_true rfl) ⟨by decide, by decide⟩ (n := 397) rfl (fun _ _ h => h.elim) (fun v9 ν9 h9 => ?_)
  rw [h9.1, h9.2]
  show zK x g ({ frames := 10, cells := 192, slots := 1152, locals := 184 } : Room) 17 18 108 397 [some (.ref (za g 0)), some (.int (nI d)), some (.int (nI c)), some (.int al), some (.long ((-99000011))), none, some (.long ((-99000012))), none, some (.int 2147483647), some (.int 0), some (.int ((-1))), some (.int ((-1))), some (.int ((-1))), some (.int ((-10000))), some (.int 1), some (.int 5), some (.int 0)] [.long ((zcd "java/lang/IndexOutOfBoundsException"))] μ
  refine k_topl (-99000011) zcd_p ?_
  refine k_lload4 S dL_refuses_397 (n := 399) rfl ?_
  refine k_lcmp S dL_refuses_399 (n := 400) rfl ?_
  refine k_top 0 (by decide) ?_
  refine k_if_ne S dL_refuses_400 (tgt := 407) (by decide) (n := 403) rfl (fun h9 => absurd (by decide) h9) (fun _ => ?_)
  refine k_iconst S dL_refuses_403 (v := 1) (by decide) (n := 404) rfl ?_
  refine k_goto S dL_refuses_404 (tgt := 408) (by decide) ?_
  refine k_istore14 S dL_refuses_408 (by decide) rfl (n := 410) rfl ?_
  refine k_iinc15 S dL_refuses_410 (v := 6) (by decide) (by decide) (n := 413) rfl ?_
  refine k_goto S dL_refuses_413 (tgt := 331) (by decide) ?_
  refine k_iload15 S dL_refuses_331 (n := 333) rfl ?_
  refine k_bipush S dL_refuses_333 (v := 17) (by decide) (n := 335) rfl ?_
  refine k_icmp_ge S dL_refuses_335 (tgt := 416) (by decide) (n := 338) rfl (fun h9 => absurd h9 (by decide)) (fun _ => ?_)
  refine k_iload15 S dL_refuses_338 (n := 340) rfl ?_
  refine k_iconst S dL_refuses_340 (v := 5) (by decide) (n := 341) rfl ?_
  refine k_icmp_le S dL_refuses_341 (tgt := 355) (by decide) (n := 344) rfl (fun h9 => absurd h9 (by decide)) (fun _ => ?_)
  refine k_iload15 S dL_refuses_344 (n := 346) rfl ?_
  refine k_bipush S dL_refuses_346 (v := 10) (by decide) (n := 348) rfl ?_
  refine k_icmp_ge S dL_refuses_348 (tgt := 355) (by decide) (n := 351) rfl (fun h9 => absurd h9 (by decide)) (fun _ => ?_)
  refine k_iconst S dL_refuses_351 (v := 1) (by decide) (n := 352) rfl ?_
  refine k_goto S dL_refuses_352 (tgt := 356) (by decide) ?_
  refine k_istore16 S dL_refuses_356 (by decide) rfl (n := 358) rfl ?_
  refine k_iload14 S dL_refuses_358 (n := 360) rfl ?_
  refine k_if_eq S dL_refuses_360 (tgt := 407) (by decide) (n := 363) rfl (fun h9 => absurd h9 (by decide)) (fun _ => ?_)
  refine k_iload15 S dL_refuses_363 (n := 365) rfl ?_
  refine k_bipush S dL_refuses_365 (v := 12) (by decide) (n := 367) rfl ?_
  refine k_icmp_eq S dL_refuses_367 (tgt := 403) (by decide) (n := 370) rfl (fun h9 => absurd h9 (by decide)) (fun _ => ?_)
  refine k_iload15 S dL_refuses_370 (n := 372) rfl ?_
  refine k_bipush S dL_refuses_372 (v := 14) (by decide) (n := 374) rfl ?_
  refine k_icmp_eq S dL_refuses_374 (tgt := 403) (by decide) (n := 377) rfl (fun h9 => absurd h9 (by decide)) (fun _ => ?_)
  refine k_aload0 S dL_refuses_377 (n := 378) rfl ?_
  refine k_iload15 S dL_refuses_378 (n := 380) rfl ?_
  refine k_iload16 S dL_refuses_380 (n := 382) rfl ?_
  refine k_if_eq S dL_refuses_382 (tgt := 390) (by decide) (n := 385) rfl (fun h9 => absurd h9 (by decide)) (fun _ => ?_)
  refine k_iload12 S dL_refuses_385 (n := 387) rfl ?_
  refine k_goto S dL_refuses_387 (tgt := 392) (by decide) ?_
  refine k_iconst S dL_refuses_392 (v := 0) (by decide) (n := 393) rfl ?_
  refine k_iconst S dL_refuses_393 (v := 0) (by decide) (n := 394) rfl ?_
  refine k_callH (As := [.ref (za g 0), .int 6, .int ((-1)), .int 0, .int 0]) (rest := []) S (x_act6 (Or.inl rfl) (n_points_place V (zin_l (Nat.le_trans V.c10 (by decide)) (by decide)))) mv_L_act m_457 dL_refuses_394 rfl rfl ⟨by decide, by decide⟩ rfl rfl (Nat.le_of_ble_eq_true rfl) ⟨by decide, by decide⟩ (n := 397) rfl (fun _ _ h => h.elim) (fun v9 ν9 h9 => ?_)
  rw [h9.1, h9.2]
  show zK x g ({ frames := 10, cells := 192, slots := 1152, locals := 184 } : Room) 17 19 114 397 [some (.ref (za g 0)), some (.int (nI d)), some (.int (nI c)), some (.int al), some (.long ((-99000011))), none, some (.long ((-99000012))), none, some (.int 2147483647), some (.int 0), some (.int ((-1))), some (.int ((-1))), some (.int ((-1))), some (.int ((-10000))), some (.int 1), some (.int 6), some (.int 1)] [.long ((zcd "java/lang/IndexOutOfBoundsException"))] μ
  refine k_topl (-99000011) zcd_p ?_
  refine k_lload4 S dL_refuses_397 (n := 399) rfl ?_
  refine k_lcmp S dL_refuses_399 (n := 400) rfl ?_
  refine k_top 0 (by decide) ?_
  refine k_if_ne S dL_refuses_400 (tgt := 407) (by decide) (n := 403) rfl (fun h9 => absurd (by decide) h9) (fun _ => ?_)
  refine k_iconst S dL_refuses_403 (v := 1) (by decide) (n := 404) rfl ?_
  refine k_goto S dL_refuses_404 (tgt := 408) (by decide) ?_
  refine k_istore14 S dL_refuses_408 (by decide) rfl (n := 410) rfl ?_
  refine k_iinc15 S dL_refuses_410 (v := 7) (by decide) (by decide) (n := 413) rfl ?_
  refine k_goto S dL_refuses_413 (tgt := 331) (by decide) ?_
  refine k_iload15 S dL_refuses_331 (n := 333) rfl ?_
  refine k_bipush S dL_refuses_333 (v := 17) (by decide) (n := 335) rfl ?_
  refine k_icmp_ge S dL_refuses_335 (tgt := 416) (by decide) (n := 338) rfl (fun h9 => absurd h9 (by decide)) (fun _ => ?_)
  refine k_iload15 S dL_refuses_338 (n := 340) rfl ?_
  refine k_iconst S dL_refuses_340 (v := 5) (by decide) (n := 341) rfl ?_
  refine k_icmp_le S dL_refuses_341 (tgt := 355) (by decide) (n := 344) rfl (fun h9 => absurd h9 (by decide)) (fun _ => ?_)
  refine k_iload15 S dL_refuses_344 (n := 346) rfl ?_
  refine k_bipush S dL_refuses_346 (v := 10) (by decide) (n := 348) rfl ?_
  refine k_icmp_ge S dL_refuses_348 (tgt := 355) (by decide) (n := 351) rfl (fun h9 => absurd h9 (by decide)) (fun _ => ?_)
  refine k_iconst S dL_refuses_351 (v := 1) (by decide) (n := 352) rfl ?_
  refine k_goto S dL_refuses_352 (tgt := 356) (by decide) ?_
  refine k_istore16 S dL_refuses_356 (by decide) rfl (n := 358) rfl ?_
  refine k_iload14 S dL_refuses_358 (n := 360) rfl ?_
  refine k_if_eq S dL_refuses_360 (tgt := 407) (by decide) (n := 363) rfl (fun h9 => absurd h9 (by decide)) (fun _ => ?_)
  refine k_iload15 S dL_refuses_363 (n := 365) rfl ?_
  refine k_bipush S dL_refuses_365 (v := 12) (by decide) (n := 367) rfl ?_
  refine k_icmp_eq S dL_refuses_367 (tgt := 403) (by decide) (n := 370) rfl (fun h9 => absurd h9 (by decide)) (fun _ => ?_)
  refine k_iload15 S dL_refuses_370 (n := 372) rfl ?_
  refine k_bipush S dL_refuses_372 (v := 14) (by decide) (n := 374) rfl ?_
  refine k_icmp_eq S dL_refuses_374 (tgt := 403) (by decide) (n := 377) rfl (fun h9 => absurd h9 (by decide)) (fun _ => ?_)
  refine k_aload0 S dL_refuses_377 (n := 378) rfl ?_
  refine k_iload15 S dL_refuses_378 (n := 380) rfl ?_
  refine k_iload16 S dL_refuses_380 (n := 382) rfl ?_
  refine k_if_eq S dL_refuses_382 (tgt := 390) (by decide) (n := 385) rfl (fun h9 => absurd h9 (by decide)) (fun _ => ?_)
  refine k_iload12 S dL_refuses_385 (n := 387) rfl ?_
  refine k_goto S dL_refuses_387 (tgt := 392) (by decide) ?_
  refine k_iconst S dL_refuses_392 (v := 0) (by decide) (n := 393) rfl ?_
  refine k_iconst S dL_refuses_393 (v := 0) (by decide) (n := 394) rfl ?_
  refine k_callH (As := [.ref (za g 0), .int 7, .int ((-1)), .int 0, .int 0]) (rest := []) S (x_act7 (Or.inl rfl) (n_center_place V (zin_l (Nat.le_trans V.c10 (by decide)) (by decide)))) mv_L_act m_457 dL_refuses_394 rfl rfl ⟨by decide, by decide⟩ rfl rfl (Nat.le_of_ble_eq_true rfl) ⟨by decide, by decide⟩ (n := 397) rfl (fun _ _ h => h.elim) (fun v9 ν9 h9 => ?_)
  rw [h9.1, h9.2]
  show zK x g ({ frames := 10, cells := 192, slots := 1152, locals := 184 } : Room) 17 21 126 397 [some (.ref (za g 0)), some (.int (nI d)), some (.int (nI c)), some (.int al), some (.long ((-99000011))), none, some (.long ((-99000012))), none, some (.int 2147483647), some (.int 0), some (.int ((-1))), some (.int ((-1))), some (.int ((-1))), some (.int ((-10000))), some (.int 1), some (.int 7), some (.int 1)] [.long ((zcd "java/lang/IndexOutOfBoundsException"))] μ
  refine k_topl (-99000011) zcd_p ?_
  refine k_lload4 S dL_refuses_397 (n := 399) rfl ?_
  refine k_lcmp S dL_refuses_399 (n := 400) rfl ?_
  refine k_top 0 (by decide) ?_
  refine k_if_ne S dL_refuses_400 (tgt := 407) (by decide) (n := 403) rfl (fun h9 => absurd (by decide) h9) (fun _ => ?_)
  refine k_iconst S dL_refuses_403 (v := 1) (by decide) (n := 404) rfl ?_
  refine k_goto S dL_refuses_404 (tgt := 408) (by decide) ?_
  refine k_istore14 S dL_refuses_408 (by decide) rfl (n := 410) rfl ?_
  refine k_iinc15 S dL_refuses_410 (v := 8) (by decide) (by decide) (n := 413) rfl ?_
  refine k_goto S dL_refuses_413 (tgt := 331) (by decide) ?_
  refine k_iload15 S dL_refuses_331 (n := 333) rfl ?_
  refine k_bipush S dL_refuses_333 (v := 17) (by decide) (n := 335) rfl ?_
  refine k_icmp_ge S dL_refuses_335 (tgt := 416) (by decide) (n := 338) rfl (fun h9 => absurd h9 (by decide)) (fun _ => ?_)
  refine k_iload15 S dL_refuses_338 (n := 340) rfl ?_
  refine k_iconst S dL_refuses_340 (v := 5) (by decide) (n := 341) rfl ?_
  refine k_icmp_le S dL_refuses_341 (tgt := 355) (by decide) (n := 344) rfl (fun h9 => absurd h9 (by decide)) (fun _ => ?_)
  refine k_iload15 S dL_refuses_344 (n := 346) rfl ?_
  refine k_bipush S dL_refuses_346 (v := 10) (by decide) (n := 348) rfl ?_
  refine k_icmp_ge S dL_refuses_348 (tgt := 355) (by decide) (n := 351) rfl (fun h9 => absurd h9 (by decide)) (fun _ => ?_)
  refine k_iconst S dL_refuses_351 (v := 1) (by decide) (n := 352) rfl ?_
  refine k_goto S dL_refuses_352 (tgt := 356) (by decide) ?_
  refine k_istore16 S dL_refuses_356 (by decide) rfl (n := 358) rfl ?_
  refine k_iload14 S dL_refuses_358 (n := 360) rfl ?_
  refine k_if_eq S dL_refuses_360 (tgt := 407) (by decide) (n := 363) rfl (fun h9 => absurd h9 (by decide)) (fun _ => ?_)
  refine k_iload15 S dL_refuses_363 (n := 365) rfl ?_
  refine k_bipush S dL_refuses_365 (v := 12) (by decide) (n := 367) rfl ?_
  refine k_icmp_eq S dL_refuses_367 (tgt := 403) (by decide) (n := 370) rfl (fun h9 => absurd h9 (by decide)) (fun _ => ?_)
  refine k_iload15 S dL_refuses_370 (n := 372) rfl ?_
  refine k_bipush S dL_refuses_372 (v := 14) (by decide) (n := 374) rfl ?_
  refine k_icmp_eq S dL_refuses_374 (tgt := 403) (by decide) (n := 377) rfl (fun h9 => absurd h9 (by decide)) (fun _ => ?_)
  refine k_aload0 S dL_refuses_377 (n := 378) rfl ?_
  refine k_iload15 S dL_refuses_378 (n := 380) rfl ?_
  refine k_iload16 S dL_refuses_380 (n := 382) rfl ?_
  refine k_if_eq S dL_refuses_382 (tgt := 390) (by decide) (n := 385) rfl (fun h9 => absurd h9 (by decide)) (fun _ => ?_)
  refine k_iload12 S dL_refuses_385 (n := 387) rfl ?_
  refine k_goto S dL_refuses_387 (tgt := 392) (by decide) ?_
  refine k_iconst S dL_refuses_392 (v := 0) (by decide) (n := 393) rfl ?_
  refine k_iconst S dL_refuses_393 (v := 0) (by decide) (n := 394) rfl ?_
  refine k_callH (As := [.ref (za g 0), .int 8, .int ((-1)), .int 0, .int 0]) (rest := []) S (x_act8 (Or.inl rfl) (n_width_place V (zin_l (Nat.le_trans V.c10 (by decide)) (by decide)))) mv_L_act m_457 dL_refuses_394 rfl rfl ⟨by decide, by decide⟩ rfl rfl (Nat.le_of_ble_eq_true rfl) ⟨by decide, by decide⟩ (n := 397) rfl (fun _ _ h => h.elim) (fun v9 ν9 h9 => ?_)
  rw [h9.1, h9.2]
  show zK x g ({ frames := 10, cells := 192, slots := 1152, locals := 184 } : Room) 17 23 138 397 [some (.ref (za g 0)), some (.int (nI d)), some (.int (nI c)), some (.int al), some (.long ((-99000011))), none, some (.long ((-99000012))), none, some (.int 2147483647), some (.int 0), some (.int ((-1))), some (.int ((-1))), some (.int ((-1))), some (.int ((-10000))), some (.int 1), some (.int 8), some (.int 1)] [.long ((zcd "java/lang/IndexOutOfBoundsException"))] μ
  refine k_topl (-99000011) zcd_p ?_
  refine k_lload4 S dL_refuses_397 (n := 399) rfl ?_
  refine k_lcmp S dL_refuses_399 (n := 400) rfl ?_
  refine k_top 0 (by decide) ?_
  refine k_if_ne S dL_refuses_400 (tgt := 407) (by decide) (n := 403) rfl (fun h9 => absurd (by decide) h9) (fun _ => ?_)
  refine k_iconst S dL_refuses_403 (v := 1) (by decide) (n := 404) rfl ?_
  refine k_goto S dL_refuses_404 (tgt := 408) (by decide) ?_
  refine k_istore14 S dL_refuses_408 (by decide) rfl (n := 410) rfl ?_
  refine k_iinc15 S dL_refuses_410 (v := 9) (by decide) (by decide) (n := 413) rfl ?_
  refine k_goto S dL_refuses_413 (tgt := 331) (by decide) ?_
  refine k_iload15 S dL_refuses_331 (n := 333) rfl ?_
  refine k_bipush S dL_refuses_333 (v := 17) (by decide) (n := 335) rfl ?_
  refine k_icmp_ge S dL_refuses_335 (tgt := 416) (by decide) (n := 338) rfl (fun h9 => absurd h9 (by decide)) (fun _ => ?_)
  refine k_iload15 S dL_refuses_338 (n := 340) rfl ?_
  refine k_iconst S dL_refuses_340 (v := 5) (by decide) (n := 341) rfl ?_
  refine k_icmp_le S dL_refuses_341 (tgt := 355) (by decide) (n := 344) rfl (fun h9 => absurd h9 (by decide)) (fun _ => ?_)
  refine k_iload15 S dL_refuses_344 (n := 346) rfl ?_
  refine k_bipush S dL_refuses_346 (v := 10) (by decide) (n := 348) rfl ?_
  refine k_icmp_ge S dL_refuses_348 (tgt := 355) (by decide) (n := 351) rfl (fun h9 => absurd h9 (by decide)) (fun _ => ?_)
  refine k_iconst S dL_refuses_351 (v := 1) (by decide) (n := 352) rfl ?_
  refine k_goto S dL_refuses_352 (tgt := 356) (by decide) ?_
  refine k_istore16 S dL_refuses_356 (by decide) rfl (n := 358) rfl ?_
  refine k_iload14 S dL_refuses_358 (n := 360) rfl ?_
  refine k_if_eq S dL_refuses_360 (tgt := 407) (by decide) (n := 363) rfl (fun h9 => absurd h9 (by decide)) (fun _ => ?_)
  refine k_iload15 S dL_refuses_363 (n := 365) rfl ?_
  refine k_bipush S dL_refuses_365 (v := 12) (by decide) (n := 367) rfl ?_
  refine k_icmp_eq S dL_refuses_367 (tgt := 403) (by decide) (n := 370) rfl (fun h9 => absurd h9 (by decide)) (fun _ => ?_)
  refine k_iload15 S dL_refuses_370 (n := 372) rfl ?_
  refine k_bipush S dL_refuses_372 (v := 14) (by decide) (n := 374) rfl ?_
  refine k_icmp_eq S dL_refuses_374 (tgt := 403) (by decide) (n := 377) rfl (fun h9 => absurd h9 (by decide)) (fun _ => ?_)
  refine k_aload0 S dL_refuses_377 (n := 378) rfl ?_
  refine k_iload15 S dL_refuses_378 (n := 380) rfl ?_
  refine k_iload16 S dL_refuses_380 (n := 382) rfl ?_
  refine k_if_eq S dL_refuses_382 (tgt := 390) (by decide) (n := 385) rfl (fun h9 => absurd h9 (by decide)) (fun _ => ?_)
  refine k_iload12 S dL_refuses_385 (n := 387) rfl ?_
  refine k_goto S dL_refuses_387 (tgt := 392) (by decide) ?_
  refine k_iconst S dL_refuses_392 (v := 0) (by decide) (n := 393) rfl ?_
  refine k_iconst S dL_refuses_393 (v := 0) (by decide) (n := 394) rfl ?_
  refine k_callH (As := [.ref (za g 0), .int 9, .int ((-1)), .int 0, .int 0]) (rest := []) S (x_act9 (Or.inl rfl) (n_rangeLimit_place V (zin_l (Nat.le_trans V.c10 (by decide)) (by decide)))) mv_L_act m_457 dL_refuses_394 rfl rfl ⟨by decide, by decide⟩ rfl rfl (Nat.le_of_ble_eq_true rfl) ⟨by decide, by decide⟩ (n := 397) rfl (fun _ _ h => h.elim) (fun v9 ν9 h9 => ?_)
  rw [h9.1, h9.2]
  show zK x g ({ frames := 10, cells := 192, slots := 1152, locals := 184 } : Room) 17 25 150 397 [some (.ref (za g 0)), some (.int (nI d)), some (.int (nI c)), some (.int al), some (.long ((-99000011))), none, some (.long ((-99000012))), none, some (.int 2147483647), some (.int 0), some (.int ((-1))), some (.int ((-1))), some (.int ((-1))), some (.int ((-10000))), some (.int 1), some (.int 9), some (.int 1)] [.long ((zcd "java/lang/IndexOutOfBoundsException"))] μ
  refine k_topl (-99000011) zcd_p ?_
  refine k_lload4 S dL_refuses_397 (n := 399) rfl ?_
  refine k_lcmp S dL_refuses_399 (n := 400) rfl ?_
  refine k_top 0 (by decide) ?_
  refine k_if_ne S dL_refuses_400 (tgt := 407) (by decide) (n := 403) rfl (fun h9 => absurd (by decide) h9) (fun _ => ?_)
  refine k_iconst S dL_refuses_403 (v := 1) (by decide) (n := 404) rfl ?_
  refine k_goto S dL_refuses_404 (tgt := 408) (by decide) ?_
  refine k_istore14 S dL_refuses_408 (by decide) rfl (n := 410) rfl ?_
  refine k_iinc15 S dL_refuses_410 (v := 10) (by decide) (by decide) (n := 413) rfl ?_
  refine k_goto S dL_refuses_413 (tgt := 331) (by decide) ?_
  refine k_iload15 S dL_refuses_331 (n := 333) rfl ?_
  refine k_bipush S dL_refuses_333 (v := 17) (by decide) (n := 335) rfl ?_
  refine k_icmp_ge S dL_refuses_335 (tgt := 416) (by decide) (n := 338) rfl (fun h9 => absurd h9 (by decide)) (fun _ => ?_)
  refine k_iload15 S dL_refuses_338 (n := 340) rfl ?_
  refine k_iconst S dL_refuses_340 (v := 5) (by decide) (n := 341) rfl ?_
  refine k_icmp_le S dL_refuses_341 (tgt := 355) (by decide) (n := 344) rfl (fun h9 => absurd h9 (by decide)) (fun _ => ?_)
  refine k_iload15 S dL_refuses_344 (n := 346) rfl ?_
  refine k_bipush S dL_refuses_346 (v := 10) (by decide) (n := 348) rfl ?_
  refine k_icmp_ge S dL_refuses_348 (tgt := 355) (by decide) (n := 351) rfl (fun _ => ?_) (fun h9 => absurd (by decide) h9)
  refine k_iconst S dL_refuses_355 (v := 0) (by decide) (n := 356) rfl ?_
  refine k_istore16 S dL_refuses_356 (by decide) rfl (n := 358) rfl ?_
  refine k_iload14 S dL_refuses_358 (n := 360) rfl ?_
  refine k_if_eq S dL_refuses_360 (tgt := 407) (by decide) (n := 363) rfl (fun h9 => absurd h9 (by decide)) (fun _ => ?_)
  refine k_iload15 S dL_refuses_363 (n := 365) rfl ?_
  refine k_bipush S dL_refuses_365 (v := 12) (by decide) (n := 367) rfl ?_
  refine k_icmp_eq S dL_refuses_367 (tgt := 403) (by decide) (n := 370) rfl (fun h9 => absurd h9 (by decide)) (fun _ => ?_)
  refine k_iload15 S dL_refuses_370 (n := 372) rfl ?_
  refine k_bipush S dL_refuses_372 (v := 14) (by decide) (n := 374) rfl ?_
  refine k_icmp_eq S dL_refuses_374 (tgt := 403) (by decide) (n := 377) rfl (fun h9 => absurd h9 (by decide)) (fun _ => ?_)
  refine k_aload0 S dL_refuses_377 (n := 378) rfl ?_
  refine k_iload15 S dL_refuses_378 (n := 380) rfl ?_
  refine k_iload16 S dL_refuses_380 (n := 382) rfl ?_
  refine k_if_eq S dL_refuses_382 (tgt := 390) (by decide) (n := 385) rfl (fun _ => ?_) (fun h9 => absurd (by decide) h9)
  refine k_iload11 S dL_refuses_390 (n := 392) rfl ?_
  refine k_iconst S dL_refuses_392 (v := 0) (by decide) (n := 393) rfl ?_
  refine k_iconst S dL_refuses_393 (v := 0) (by decide) (n := 394) rfl ?_
  refine k_callH (As := [.ref (za g 0), .int 10, .int ((-1)), .int 0, .int 0]) (rest := []) S (x_act10 (Or.inl rfl) (n_signals_place V (zin_l V.d60 (by decide)))) mv_L_act m_457 dL_refuses_394 rfl rfl ⟨by decide, by decide⟩ rfl rfl (Nat.le_of_ble_eq_true rfl) ⟨by decide, by decide⟩ (n := 397) rfl (fun _ _ h => h.elim) (fun v9 ν9 h9 => ?_)
  rw [h9.1, h9.2]
  show zK x g ({ frames := 10, cells := 192, slots := 1152, locals := 184 } : Room) 17 26 156 397 [some (.ref (za g 0)), some (.int (nI d)), some (.int (nI c)), some (.int al), some (.long ((-99000011))), none, some (.long ((-99000012))), none, some (.int 2147483647), some (.int 0), some (.int ((-1))), some (.int ((-1))), some (.int ((-1))), some (.int ((-10000))), some (.int 1), some (.int 10), some (.int 0)] [.long ((zcd "java/lang/IndexOutOfBoundsException"))] μ
  refine k_topl (-99000011) zcd_p ?_
  refine k_lload4 S dL_refuses_397 (n := 399) rfl ?_
  refine k_lcmp S dL_refuses_399 (n := 400) rfl ?_
  refine k_top 0 (by decide) ?_
  refine k_if_ne S dL_refuses_400 (tgt := 407) (by decide) (n := 403) rfl (fun h9 => absurd (by decide) h9) (fun _ => ?_)
  refine k_iconst S dL_refuses_403 (v := 1) (by decide) (n := 404) rfl ?_
  refine k_goto S dL_refuses_404 (tgt := 408) (by decide) ?_
  refine k_istore14 S dL_refuses_408 (by decide) rfl (n := 410) rfl ?_
  refine k_iinc15 S dL_refuses_410 (v := 11) (by decide) (by decide) (n := 413) rfl ?_
  refine k_goto S dL_refuses_413 (tgt := 331) (by decide) ?_
  refine k_iload15 S dL_refuses_331 (n := 333) rfl ?_
  refine k_bipush S dL_refuses_333 (v := 17) (by decide) (n := 335) rfl ?_
  refine k_icmp_ge S dL_refuses_335 (tgt := 416) (by decide) (n := 338) rfl (fun h9 => absurd h9 (by decide)) (fun _ => ?_)
  refine k_iload15 S dL_refuses_338 (n := 340) rfl ?_
  refine k_iconst S dL_refuses_340 (v := 5) (by decide) (n := 341) rfl ?_
  refine k_icmp_le S dL_refuses_341 (tgt := 355) (by decide) (n := 344) rfl (fun h9 => absurd h9 (by decide)) (fun _ => ?_)
  refine k_iload15 S dL_refuses_344 (n := 346) rfl ?_
  refine k_bipush S dL_refuses_346 (v := 10) (by decide) (n := 348) rfl ?_
  refine k_icmp_ge S dL_refuses_348 (tgt := 355) (by decide) (n := 351) rfl (fun _ => ?_) (fun h9 => absurd (by decide) h9)
  refine k_iconst S dL_refuses_355 (v := 0) (by decide) (n := 356) rfl ?_
  refine k_istore16 S dL_refuses_356 (by decide) rfl (n := 358) rfl ?_
  refine k_iload14 S dL_refuses_358 (n := 360) rfl ?_
  refine k_if_eq S dL_refuses_360 (tgt := 407) (by decide) (n := 363) rfl (fun h9 => absurd h9 (by decide)) (fun _ => ?_)
  refine k_iload15 S dL_refuses_363 (n := 365) rfl ?_
  refine k_bipush S dL_refuses_365 (v := 12) (by decide) (n := 367) rfl ?_
  refine k_icmp_eq S dL_refuses_367 (tgt := 403) (by decide) (n := 370) rfl (fun h9 => absurd h9 (by decide)) (fun _ => ?_)
  refine k_iload15 S dL_refuses_370 (n := 372) rfl ?_
  refine k_bipush S dL_refuses_372 (v := 14) (by decide) (n := 374) rfl ?_
  refine k_icmp_eq S dL_refuses_374 (tgt := 403) (by decide) (n := 377) rfl (fun h9 => absurd h9 (by decide)) (fun _ => ?_)
  refine k_aload0 S dL_refuses_377 (n := 378) rfl ?_
  refine k_iload15 S dL_refuses_378 (n := 380) rfl ?_
  refine k_iload16 S dL_refuses_380 (n := 382) rfl ?_
  refine k_if_eq S dL_refuses_382 (tgt := 390) (by decide) (n := 385) rfl (fun _ => ?_) (fun h9 => absurd (by decide) h9)
  refine k_iload11 S dL_refuses_390 (n := 392) rfl ?_
  refine k_iconst S dL_refuses_392 (v := 0) (by decide) (n := 393) rfl ?_
  refine k_iconst S dL_refuses_393 (v := 0) (by decide) (n := 394) rfl ?_
  refine k_callH (As := [.ref (za g 0), .int 11, .int ((-1)), .int 0, .int 0]) (rest := []) S (x_act11 (Or.inl rfl) (n_signalsByWindows_place V (zin_l V.d60 (by decide)))) mv_L_act m_457 dL_refuses_394 rfl rfl ⟨by decide, by decide⟩ rfl rfl (Nat.le_of_ble_eq_true rfl) ⟨by decide, by decide⟩ (n := 397) rfl (fun _ _ h => h.elim) (fun v9 ν9 h9 => ?_)
  rw [h9.1, h9.2]
  show zK x g ({ frames := 10, cells := 192, slots := 1152, locals := 184 } : Room) 17 27 162 397 [some (.ref (za g 0)), some (.int (nI d)), some (.int (nI c)), some (.int al), some (.long ((-99000011))), none, some (.long ((-99000012))), none, some (.int 2147483647), some (.int 0), some (.int ((-1))), some (.int ((-1))), some (.int ((-1))), some (.int ((-10000))), some (.int 1), some (.int 11), some (.int 0)] [.long ((zcd "java/lang/IndexOutOfBoundsException"))] μ
  refine k_topl (-99000011) zcd_p ?_
  refine k_lload4 S dL_refuses_397 (n := 399) rfl ?_
  refine k_lcmp S dL_refuses_399 (n := 400) rfl ?_
  refine k_top 0 (by decide) ?_
  refine k_if_ne S dL_refuses_400 (tgt := 407) (by decide) (n := 403) rfl (fun h9 => absurd (by decide) h9) (fun _ => ?_)
  refine k_iconst S dL_refuses_403 (v := 1) (by decide) (n := 404) rfl ?_
  refine k_goto S dL_refuses_404 (tgt := 408) (by decide) ?_
  refine k_istore14 S dL_refuses_408 (by decide) rfl (n := 410) rfl ?_
  refine k_iinc15 S dL_refuses_410 (v := 12) (by decide) (by decide) (n := 413) rfl ?_
  refine k_goto S dL_refuses_413 (tgt := 331) (by decide) ?_
  refine k_iload15 S dL_refuses_331 (n := 333) rfl ?_
  refine k_bipush S dL_refuses_333 (v := 17) (by decide) (n := 335) rfl ?_
  refine k_icmp_ge S dL_refuses_335 (tgt := 416) (by decide) (n := 338) rfl (fun h9 => absurd h9 (by decide)) (fun _ => ?_)
  refine k_iload15 S dL_refuses_338 (n := 340) rfl ?_
  refine k_iconst S dL_refuses_340 (v := 5) (by decide) (n := 341) rfl ?_
  refine k_icmp_le S dL_refuses_341 (tgt := 355) (by decide) (n := 344) rfl (fun h9 => absurd h9 (by decide)) (fun _ => ?_)
  refine k_iload15 S dL_refuses_344 (n := 346) rfl ?_
  refine k_bipush S dL_refuses_346 (v := 10) (by decide) (n := 348) rfl ?_
  refine k_icmp_ge S dL_refuses_348 (tgt := 355) (by decide) (n := 351) rfl (fun _ => ?_) (fun h9 => absurd (by decide) h9)
  refine k_iconst S dL_refuses_355 (v := 0) (by decide) (n := 356) rfl ?_
  refine k_istore16 S dL_refuses_356 (by decide) rfl (n := 358) rfl ?_
  refine k_iload14 S dL_refuses_358 (n := 360) rfl ?_
  refine k_if_eq S dL_refuses_360 (tgt := 407) (by decide) (n := 363) rfl (fun h9 => absurd h9 (by decide)) (fun _ => ?_)
  refine k_iload15 S dL_refuses_363 (n := 365) rfl ?_
  refine k_bipush S dL_refuses_365 (v := 12) (by decide) (n := 367) rfl ?_
  refine k_icmp_eq S dL_refuses_367 (tgt := 403) (by decide) (n := 370) rfl (fun _ => ?_) (fun h9 => absurd (by decide) h9)
  refine k_iconst S dL_refuses_403 (v := 1) (by decide) (n := 404) rfl ?_
  refine k_goto S dL_refuses_404 (tgt := 408) (by decide) ?_
  refine k_istore14 S dL_refuses_408 (by decide) rfl (n := 410) rfl ?_
  refine k_iinc15 S dL_refuses_410 (v := 13) (by decide) (by decide) (n := 413) rfl ?_
  refine k_goto S dL_refuses_413 (tgt := 331) (by decide) ?_
  refine k_iload15 S dL_refuses_331 (n := 333) rfl ?_
  refine k_bipush S dL_refuses_333 (v := 17) (by decide) (n := 335) rfl ?_
  refine k_icmp_ge S dL_refuses_335 (tgt := 416) (by decide) (n := 338) rfl (fun h9 => absurd h9 (by decide)) (fun _ => ?_)
  refine k_iload15 S dL_refuses_338 (n := 340) rfl ?_
  refine k_iconst S dL_refuses_340 (v := 5) (by decide) (n := 341) rfl ?_
  refine k_icmp_le S dL_refuses_341 (tgt := 355) (by decide) (n := 344) rfl (fun h9 => absurd h9 (by decide)) (fun _ => ?_)
  refine k_iload15 S dL_refuses_344 (n := 346) rfl ?_
  refine k_bipush S dL_refuses_346 (v := 10) (by decide) (n := 348) rfl ?_
  refine k_icmp_ge S dL_refuses_348 (tgt := 355) (by decide) (n := 351) rfl (fun _ => ?_) (fun h9 => absurd (by decide) h9)
  refine k_iconst S dL_refuses_355 (v := 0) (by decide) (n := 356) rfl ?_
  refine k_istore16 S dL_refuses_356 (by decide) rfl (n := 358) rfl ?_
  refine k_iload14 S dL_refuses_358 (n := 360) rfl ?_
  refine k_if_eq S dL_refuses_360 (tgt := 407) (by decide) (n := 363) rfl (fun h9 => absurd h9 (by decide)) (fun _ => ?_)
  refine k_iload15 S dL_refuses_363 (n := 365) rfl ?_
  refine k_bipush S dL_refuses_365 (v := 12) (by decide) (n := 367) rfl ?_
  refine k_icmp_eq S dL_refuses_367 (tgt := 403) (by decide) (n := 370) rfl (fun h9 => absurd h9 (by decide)) (fun _ => ?_)
  refine k_iload15 S dL_refuses_370 (n := 372) rfl ?_
  refine k_bipush S dL_refuses_372 (v := 14) (by decide) (n := 374) rfl ?_
  refine k_icmp_eq S dL_refuses_374 (tgt := 403) (by decide) (n := 377) rfl (fun h9 => absurd h9 (by decide)) (fun _ => ?_)
  refine k_aload0 S dL_refuses_377 (n := 378) rfl ?_
  refine k_iload15 S dL_refuses_378 (n := 380) rfl ?_
  refine k_iload16 S dL_refuses_380 (n := 382) rfl ?_
  refine k_if_eq S dL_refuses_382 (tgt := 390) (by decide) (n := 385) rfl (fun _ => ?_) (fun h9 => absurd (by decide) h9)
  refine k_iload11 S dL_refuses_390 (n := 392) rfl ?_
  refine k_iconst S dL_refuses_392 (v := 0) (by decide) (n := 393) rfl ?_
  refine k_iconst S dL_refuses_393 (v := 0) (by decide) (n := 394) rfl ?_
  refine k_callH (As := [.ref (za g 0), .int 13, .int ((-1)), .int 0, .int 0]) (rest := []) S (x_act13 (Or.inl rfl) (n_isWide_place V (zin_l V.d60 (by decide)))) mv_L_act m_457 dL_refuses_394 rfl rfl ⟨by decide, by decide⟩ rfl rfl (Nat.le_of_ble_eq_true rfl) ⟨by decide, by decide⟩ (n := 397) rfl (fun _ _ h => h.elim) (fun v9 ν9 h9 => ?_)
  rw [h9.1, h9.2]
  show zK x g ({ frames := 10, cells := 192, slots := 1152, locals := 184 } : Room) 17 28 168 397 [some (.ref (za g 0)), some (.int (nI d)), some (.int (nI c)), some (.int al), some (.long ((-99000011))), none, some (.long ((-99000012))), none, some (.int 2147483647), some (.int 0), some (.int ((-1))), some (.int ((-1))), some (.int ((-1))), some (.int ((-10000))), some (.int 1), some (.int 13), some (.int 0)] [.long ((zcd "java/lang/IndexOutOfBoundsException"))] μ
  refine k_topl (-99000011) zcd_p ?_
  refine k_lload4 S dL_refuses_397 (n := 399) rfl ?_
  refine k_lcmp S dL_refuses_399 (n := 400) rfl ?_
  refine k_top 0 (by decide) ?_
  refine k_if_ne S dL_refuses_400 (tgt := 407) (by decide) (n := 403) rfl (fun h9 => absurd (by decide) h9) (fun _ => ?_)
  refine k_iconst S dL_refuses_403 (v := 1) (by decide) (n := 404) rfl ?_
  refine k_goto S dL_refuses_404 (tgt := 408) (by decide) ?_
  refine k_istore14 S dL_refuses_408 (by decide) rfl (n := 410) rfl ?_
  refine k_iinc15 S dL_refuses_410 (v := 14) (by decide) (by decide) (n := 413) rfl ?_
  refine k_goto S dL_refuses_413 (tgt := 331) (by decide) ?_
  refine k_iload15 S dL_refuses_331 (n := 333) rfl ?_
  refine k_bipush S dL_refuses_333 (v := 17) (by decide) (n := 335) rfl ?_
  refine k_icmp_ge S dL_refuses_335 (tgt := 416) (by decide) (n := 338) rfl (fun h9 => absurd h9 (by decide)) (fun _ => ?_)
  refine k_iload15 S dL_refuses_338 (n := 340) rfl ?_
  refine k_iconst S dL_refuses_340 (v := 5) (by decide) (n := 341) rfl ?_
  refine k_icmp_le S dL_refuses_341 (tgt := 355) (by decide) (n := 344) rfl (fun h9 => absurd h9 (by decide)) (fun _ => ?_)
  refine k_iload15 S dL_refuses_344 (n := 346) rfl ?_
  refine k_bipush S dL_refuses_346 (v := 10) (by decide) (n := 348) rfl ?_
  refine k_icmp_ge S dL_refuses_348 (tgt := 355) (by decide) (n := 351) rfl (fun _ => ?_) (fun h9 => absurd (by decide) h9)
  refine k_iconst S dL_refuses_355 (v := 0) (by decide) (n := 356) rfl ?_
  refine k_istore16 S dL_refuses_356 (by decide) rfl (n := 358) rfl ?_
  refine k_iload14 S dL_refuses_358 (n := 360) rfl ?_
  refine k_if_eq S dL_refuses_360 (tgt := 407) (by decide) (n := 363) rfl (fun h9 => absurd h9 (by decide)) (fun _ => ?_)
  refine k_iload15 S dL_refuses_363 (n := 365) rfl ?_
  refine k_bipush S dL_refuses_365 (v := 12) (by decide) (n := 367) rfl ?_
  refine k_icmp_eq S dL_refuses_367 (tgt := 403) (by decide) (n := 370) rfl (fun h9 => absurd h9 (by decide)) (fun _ => ?_)
  refine k_iload15 S dL_refuses_370 (n := 372) rfl ?_
  refine k_bipush S dL_refuses_372 (v := 14) (by decide) (n := 374) rfl ?_
  refine k_icmp_eq S dL_refuses_374 (tgt := 403) (by decide) (n := 377) rfl (fun _ => ?_) (fun h9 => absurd (by decide) h9)
  refine k_iconst S dL_refuses_403 (v := 1) (by decide) (n := 404) rfl ?_
  refine k_goto S dL_refuses_404 (tgt := 408) (by decide) ?_
  refine k_istore14 S dL_refuses_408 (by decide) rfl (n := 410) rfl ?_
  refine k_iinc15 S dL_refuses_410 (v := 15) (by decide) (by decide) (n := 413) rfl ?_
  refine k_goto S dL_refuses_413 (tgt := 331) (by decide) ?_
  refine k_iload15 S dL_refuses_331 (n := 333) rfl ?_
  refine k_bipush S dL_refuses_333 (v := 17) (by decide) (n := 335) rfl ?_
  refine k_icmp_ge S dL_refuses_335 (tgt := 416) (by decide) (n := 338) rfl (fun h9 => absurd h9 (by decide)) (fun _ => ?_)
  refine k_iload15 S dL_refuses_338 (n := 340) rfl ?_
  refine k_iconst S dL_refuses_340 (v := 5) (by decide) (n := 341) rfl ?_
  refine k_icmp_le S dL_refuses_341 (tgt := 355) (by decide) (n := 344) rfl (fun h9 => absurd h9 (by decide)) (fun _ => ?_)
  refine k_iload15 S dL_refuses_344 (n := 346) rfl ?_
  refine k_bipush S dL_refuses_346 (v := 10) (by decide) (n := 348) rfl ?_
  refine k_icmp_ge S dL_refuses_348 (tgt := 355) (by decide) (n := 351) rfl (fun _ => ?_) (fun h9 => absurd (by decide) h9)
  refine k_iconst S dL_refuses_355 (v := 0) (by decide) (n := 356) rfl ?_
  refine k_istore16 S dL_refuses_356 (by decide) rfl (n := 358) rfl ?_
  refine k_iload14 S dL_refuses_358 (n := 360) rfl ?_
  refine k_if_eq S dL_refuses_360 (tgt := 407) (by decide) (n := 363) rfl (fun h9 => absurd h9 (by decide)) (fun _ => ?_)
  refine k_iload15 S dL_refuses_363 (n := 365) rfl ?_
  refine k_bipush S dL_refuses_365 (v := 12) (by decide) (n := 367) rfl ?_
  refine k_icmp_eq S dL_refuses_367 (tgt := 403) (by decide) (n := 370) rfl (fun h9 => absurd h9 (by decide)) (fun _ => ?_)
  refine k_iload15 S dL_refuses_370 (n := 372) rfl ?_
  refine k_bipush S dL_refuses_372 (v := 14) (by decide) (n := 374) rfl ?_
  refine k_icmp_eq S dL_refuses_374 (tgt := 403) (by decide) (n := 377) rfl (fun h9 => absurd h9 (by decide)) (fun _ => ?_)
  refine k_aload0 S dL_refuses_377 (n := 378) rfl ?_
  refine k_iload15 S dL_refuses_378 (n := 380) rfl ?_
  refine k_iload16 S dL_refuses_380 (n := 382) rfl ?_
  refine k_if_eq S dL_refuses_382 (tgt := 390) (by decide) (n := 385) rfl (fun _ => ?_) (fun h9 => absurd (by decide) h9)
  refine k_iload11 S dL_refuses_390 (n := 392) rfl ?_
  refine k_iconst S dL_refuses_392 (v := 0) (by decide) (n := 393) rfl ?_
  refine k_iconst S dL_refuses_393 (v := 0) (by decide) (n := 394) rfl ?_
  refine k_callH (As := [.ref (za g 0), .int 15, .int ((-1)), .int 0, .int 0]) (rest := []) S (x_act15 (Or.inl rfl) (n_weighted_place V (zin_l V.d60 (by decide)))) mv_L_act m_457 dL_refuses_394 rfl rfl ⟨by decide, by decide⟩ rfl rfl (Nat.le_of_ble_eq_true rfl) ⟨by decide, by decide⟩ (n := 397) rfl (fun _ _ h => h.elim) (fun v9 ν9 h9 => ?_)
  rw [h9.1, h9.2]
  show zK x g ({ frames := 10, cells := 192, slots := 1152, locals := 184 } : Room) 17 30 180 397 [some (.ref (za g 0)), some (.int (nI d)), some (.int (nI c)), some (.int al), some (.long ((-99000011))), none, some (.long ((-99000012))), none, some (.int 2147483647), some (.int 0), some (.int ((-1))), some (.int ((-1))), some (.int ((-1))), some (.int ((-10000))), some (.int 1), some (.int 15), some (.int 0)] [.long ((zcd "java/lang/IndexOutOfBoundsException"))] μ
  refine k_topl (-99000011) zcd_p ?_
  refine k_lload4 S dL_refuses_397 (n := 399) rfl ?_
  refine k_lcmp S dL_refuses_399 (n := 400) rfl ?_
  refine k_top 0 (by decide) ?_
  refine k_if_ne S dL_refuses_400 (tgt := 407) (by decide) (n := 403) rfl (fun h9 => absurd (by decide) h9) (fun _ => ?_)
  refine k_iconst S dL_refuses_403 (v := 1) (by decide) (n := 404) rfl ?_
  refine k_goto S dL_refuses_404 (tgt := 408) (by decide) ?_
  refine k_istore14 S dL_refuses_408 (by decide) rfl (n := 410) rfl ?_
  refine k_iinc15 S dL_refuses_410 (v := 16) (by decide) (by decide) (n := 413) rfl ?_
  refine k_goto S dL_refuses_413 (tgt := 331) (by decide) ?_
  refine k_iload15 S dL_refuses_331 (n := 333) rfl ?_
  refine k_bipush S dL_refuses_333 (v := 17) (by decide) (n := 335) rfl ?_
  refine k_icmp_ge S dL_refuses_335 (tgt := 416) (by decide) (n := 338) rfl (fun h9 => absurd h9 (by decide)) (fun _ => ?_)
  refine k_iload15 S dL_refuses_338 (n := 340) rfl ?_
  refine k_iconst S dL_refuses_340 (v := 5) (by decide) (n := 341) rfl ?_
  refine k_icmp_le S dL_refuses_341 (tgt := 355) (by decide) (n := 344) rfl (fun h9 => absurd h9 (by decide)) (fun _ => ?_)
  refine k_iload15 S dL_refuses_344 (n := 346) rfl ?_
  refine k_bipush S dL_refuses_346 (v := 10) (by decide) (n := 348) rfl ?_
  refine k_icmp_ge S dL_refuses_348 (tgt := 355) (by decide) (n := 351) rfl (fun _ => ?_) (fun h9 => absurd (by decide) h9)
  refine k_iconst S dL_refuses_355 (v := 0) (by decide) (n := 356) rfl ?_
  refine k_istore16 S dL_refuses_356 (by decide) rfl (n := 358) rfl ?_
  refine k_iload14 S dL_refuses_358 (n := 360) rfl ?_
  refine k_if_eq S dL_refuses_360 (tgt := 407) (by decide) (n := 363) rfl (fun h9 => absurd h9 (by decide)) (fun _ => ?_)
  refine k_iload15 S dL_refuses_363 (n := 365) rfl ?_
  refine k_bipush S dL_refuses_365 (v := 12) (by decide) (n := 367) rfl ?_
  refine k_icmp_eq S dL_refuses_367 (tgt := 403) (by decide) (n := 370) rfl (fun h9 => absurd h9 (by decide)) (fun _ => ?_)
  refine k_iload15 S dL_refuses_370 (n := 372) rfl ?_
  refine k_bipush S dL_refuses_372 (v := 14) (by decide) (n := 374) rfl ?_
  refine k_icmp_eq S dL_refuses_374 (tgt := 403) (by decide) (n := 377) rfl (fun h9 => absurd h9 (by decide)) (fun _ => ?_)
  refine k_aload0 S dL_refuses_377 (n := 378) rfl ?_
  refine k_iload15 S dL_refuses_378 (n := 380) rfl ?_
  refine k_iload16 S dL_refuses_380 (n := 382) rfl ?_
  refine k_if_eq S dL_refuses_382 (tgt := 390) (by decide) (n := 385) rfl (fun _ => ?_) (fun h9 => absurd (by decide) h9)
  refine k_iload11 S dL_refuses_390 (n := 392) rfl ?_
  refine k_iconst S dL_refuses_392 (v := 0) (by decide) (n := 393) rfl ?_
  refine k_iconst S dL_refuses_393 (v := 0) (by decide) (n := 394) rfl ?_
  refine k_callH (As := [.ref (za g 0), .int 16, .int ((-1)), .int 0, .int 0]) (rest := []) S (x_act16 (Or.inl rfl) (n_cumulative_place V (zin_l V.d60 (by decide)))) mv_L_act m_457 dL_refuses_394 rfl rfl ⟨by decide, by decide⟩ rfl rfl (Nat.le_of_ble_eq_true rfl) ⟨by decide, by decide⟩ (n := 397) rfl (fun _ _ h => h.elim) (fun v9 ν9 h9 => ?_)
  rw [h9.1, h9.2]
  show zK x g ({ frames := 10, cells := 192, slots := 1152, locals := 184 } : Room) 17 32 192 397 [some (.ref (za g 0)), some (.int (nI d)), some (.int (nI c)), some (.int al), some (.long ((-99000011))), none, some (.long ((-99000012))), none, some (.int 2147483647), some (.int 0), some (.int ((-1))), some (.int ((-1))), some (.int ((-1))), some (.int ((-10000))), some (.int 1), some (.int 16), some (.int 0)] [.long ((zcd "java/lang/IndexOutOfBoundsException"))] μ
  refine k_topl (-99000011) zcd_p ?_
  refine k_lload4 S dL_refuses_397 (n := 399) rfl ?_
  refine k_lcmp S dL_refuses_399 (n := 400) rfl ?_
  refine k_top 0 (by decide) ?_
  refine k_if_ne S dL_refuses_400 (tgt := 407) (by decide) (n := 403) rfl (fun h9 => absurd (by decide) h9) (fun _ => ?_)
  refine k_iconst S dL_refuses_403 (v := 1) (by decide) (n := 404) rfl ?_
  refine k_goto S dL_refuses_404 (tgt := 408) (by decide) ?_
  refine k_istore14 S dL_refuses_408 (by decide) rfl (n := 410) rfl ?_
  refine k_iinc15 S dL_refuses_410 (v := 17) (by decide) (by decide) (n := 413) rfl ?_
  refine k_goto S dL_refuses_413 (tgt := 331) (by decide) ?_
  refine k_iload15 S dL_refuses_331 (n := 333) rfl ?_
  refine k_bipush S dL_refuses_333 (v := 17) (by decide) (n := 335) rfl ?_
  refine k_icmp_ge S dL_refuses_335 (tgt := 416) (by decide) (n := 338) rfl (fun _ => ?_) (fun h9 => absurd (by decide) h9)
  refine k_bipush S dL_refuses_416 (v := 17) (by decide) (n := 418) rfl ?_
  refine k_istore15 S dL_refuses_418 (by decide) rfl (n := 420) rfl ?_
  refine k_iload15 S dL_refuses_420 (n := 422) rfl ?_
  refine k_bipush S dL_refuses_422 (v := 19) (by decide) (n := 424) rfl ?_
  refine k_icmp_ge S dL_refuses_424 (tgt := 508) (by decide) (n := 427) rfl (fun h9 => absurd h9 (by decide)) (fun _ => ?_)
  refine k_iload14 S dL_refuses_427 (n := 429) rfl ?_
  refine k_if_eq S dL_refuses_429 (tgt := 499) (by decide) (n := 432) rfl (fun h9 => absurd h9 (by decide)) (fun _ => ?_)
  refine k_aload0 S dL_refuses_432 (n := 433) rfl ?_
  refine k_iload15 S dL_refuses_433 (n := 435) rfl ?_
  refine k_iload12 S dL_refuses_435 (n := 437) rfl ?_
  refine k_iconst S dL_refuses_437 (v := 0) (by decide) (n := 438) rfl ?_
  refine k_iconst S dL_refuses_438 (v := (-1)) (by decide) (n := 439) rfl ?_
  refine k_callH (As := [.ref (za g 0), .int 17, .int ((-1)), .int 0, .int ((-1))]) (rest := []) S (x_act17 (Or.inl rfl) (n_capability_place V (zin_l (Nat.le_trans V.c10 (by decide)) (by decide)))) mv_L_act m_457 dL_refuses_439 rfl rfl ⟨by decide, by decide⟩ rfl rfl (Nat.le_of_ble_eq_true rfl) ⟨by decide, by decide⟩ (n := 442) rfl (fun _ _ h => h.elim) (fun v9 ν9 h9 => ?_)
  rw [h9.1, h9.2]
  show zK x g ({ frames := 10, cells := 192, slots := 1152, locals := 184 } : Room) 17 34 204 442 [some (.ref (za g 0)), some (.int (nI d)), some (.int (nI c)), some (.int al), some (.long ((-99000011))), none, some (.long ((-99000012))), none, some (.int 2147483647), some (.int 0), some (.int ((-1))), some (.int ((-1))), some (.int ((-1))), some (.int ((-10000))), some (.int 1), some (.int 17), some (.int 0)] [.long ((zcd "java/lang/IndexOutOfBoundsException"))] μ
  refine k_topl (-99000011) zcd_p ?_
  refine k_lload4 S dL_refuses_442 (n := 444) rfl ?_
  refine k_lcmp S dL_refuses_444 (n := 445) rfl ?_
  refine k_top 0 (by decide) ?_
  refine k_if_ne S dL_refuses_445 (tgt := 499) (by decide) (n := 448) rfl (fun h9 => absurd (by decide) h9) (fun _ => ?_)
  refine k_aload0 S dL_refuses_448 (n := 449) rfl ?_
  refine k_iload15 S dL_refuses_449 (n := 451) rfl ?_
  refine k_iconst S dL_refuses_451 (v := 0) (by decide) (n := 452) rfl ?_
  refine k_iload13 S dL_refuses_452 (n := 454) rfl ?_
  refine k_iconst S dL_refuses_454 (v := 0) (by decide) (n := 455) rfl ?_
  refine k_callH (As := [.ref (za g 0), .int 17, .int 0, .int ((-10000)), .int 0]) (rest := []) S (x_act17 (Or.inr (Or.inl rfl)) (n_capability_arg V hc0 (zlh_n (by decide)))) mv_L_act m_457 dL_refuses_455 rfl rfl ⟨by decide, by decide⟩ rfl rfl (Nat.le_of_ble_eq_true rfl) ⟨by decide, by decide⟩ (n := 458) rfl (fun _ _ h => h.elim) (fun v9 ν9 h9 => ?_)
  rw [h9.1, h9.2]
  show zK x g ({ frames := 10, cells := 192, slots := 1152, locals := 184 } : Room) 17 36 216 458 [some (.ref (za g 0)), some (.int (nI d)), some (.int (nI c)), some (.int al), some (.long ((-99000011))), none, some (.long ((-99000012))), none, some (.int 2147483647), some (.int 0), some (.int ((-1))), some (.int ((-1))), some (.int ((-1))), some (.int ((-10000))), some (.int 1), some (.int 17), some (.int 0)] [.long ((zcd "java/lang/IllegalArgumentException"))] μ
  refine k_topl (-99000012) zcd_a ?_
  refine k_lload6 S dL_refuses_458 (n := 460) rfl ?_
  refine k_lcmp S dL_refuses_460 (n := 461) rfl ?_
  refine k_top 0 (by decide) ?_
  refine k_if_ne S dL_refuses_461 (tgt := 499) (by decide) (n := 464) rfl (fun h9 => absurd (by decide) h9) (fun _ => ?_)
  refine k_aload0 S dL_refuses_464 (n := 465) rfl ?_
  refine k_iload15 S dL_refuses_465 (n := 467) rfl ?_
  refine k_iconst S dL_refuses_467 (v := 0) (by decide) (n := 468) rfl ?_
  refine k_iconst S dL_refuses_468 (v := 0) (by decide) (n := 469) rfl ?_
  refine k_iload13 S dL_refuses_469 (n := 471) rfl ?_
  refine k_callH (As := [.ref (za g 0), .int 17, .int 0, .int 0, .int ((-10000))]) (rest := []) S (x_act17 (Or.inr (Or.inl rfl)) (n_capability_arg V hc0 (zlh_n (by decide)))) mv_L_act m_457 dL_refuses_471 rfl rfl ⟨by decide, by decide⟩ rfl rfl (Nat.le_of_ble_eq_true rfl) ⟨by decide, by decide⟩ (n := 474) rfl (fun _ _ h => h.elim) (fun v9 ν9 h9 => ?_)
  rw [h9.1, h9.2]
  show zK x g ({ frames := 10, cells := 192, slots := 1152, locals := 184 } : Room) 17 38 228 474 [some (.ref (za g 0)), some (.int (nI d)), some (.int (nI c)), some (.int al), some (.long ((-99000011))), none, some (.long ((-99000012))), none, some (.int 2147483647), some (.int 0), some (.int ((-1))), some (.int ((-1))), some (.int ((-1))), some (.int ((-10000))), some (.int 1), some (.int 17), some (.int 0)] [.long ((zcd "java/lang/IllegalArgumentException"))] μ
  refine k_topl (-99000012) zcd_a ?_
  refine k_lload6 S dL_refuses_474 (n := 476) rfl ?_
  refine k_lcmp S dL_refuses_476 (n := 477) rfl ?_
  refine k_top 0 (by decide) ?_
  refine k_if_ne S dL_refuses_477 (tgt := 499) (by decide) (n := 480) rfl (fun h9 => absurd (by decide) h9) (fun _ => ?_)
  refine k_aload0 S dL_refuses_480 (n := 481) rfl ?_
  refine k_iload15 S dL_refuses_481 (n := 483) rfl ?_
  refine k_iconst S dL_refuses_483 (v := 0) (by decide) (n := 484) rfl ?_
  refine k_iconst S dL_refuses_484 (v := 5) (by decide) (n := 485) rfl ?_
  refine k_iconst S dL_refuses_485 (v := 4) (by decide) (n := 486) rfl ?_
  refine k_callH (As := [.ref (za g 0), .int 17, .int 0, .int 5, .int 4]) (rest := []) S (x_act17 (Or.inr (Or.inl rfl)) (n_capability_arg V hc0 (zlh_n (by decide)))) mv_L_act m_457 dL_refuses_486 rfl rfl ⟨by decide, by decide⟩ rfl rfl (Nat.le_of_ble_eq_true rfl) ⟨by decide, by decide⟩ (n := 489) rfl (fun _ _ h => h.elim) (fun v9 ν9 h9 => ?_)
  rw [h9.1, h9.2]
  show zK x g ({ frames := 10, cells := 192, slots := 1152, locals := 184 } : Room) 17 40 240 489 [some (.ref (za g 0)), some (.int (nI d)), some (.int (nI c)), some (.int al), some (.long ((-99000011))), none, some (.long ((-99000012))), none, some (.int 2147483647), some (.int 0), some (.int ((-1))), some (.int ((-1))), some (.int ((-1))), some (.int ((-10000))), some (.int 1), some (.int 17), some (.int 0)] [.long ((zcd "java/lang/IllegalArgumentException"))] μ
  refine k_topl (-99000012) zcd_a ?_
  refine k_lload6 S dL_refuses_489 (n := 491) rfl ?_
  refine k_lcmp S dL_refuses_491 (n := 492) rfl ?_
  refine k_top 0 (by decide) ?_
  refine k_if_ne S dL_refuses_492 (tgt := 499) (by decide) (n := 495) rfl (fun h9 => absurd (by decide) h9) (fun _ => ?_)
  refine k_iconst S dL_refuses_495 (v := 1) (by decide) (n := 496) rfl ?_
  refine k_goto S dL_refuses_496 (tgt := 500) (by decide) ?_
  refine k_istore14 S dL_refuses_500 (by decide) rfl (n := 502) rfl ?_
  refine k_iinc15 S dL_refuses_502 (v := 18) (by decide) (by decide) (n := 505) rfl ?_
  refine k_goto S dL_refuses_505 (tgt := 420) (by decide) ?_
  refine k_iload15 S dL_refuses_420 (n := 422) rfl ?_
  refine k_bipush S dL_refuses_422 (v := 19) (by decide) (n := 424) rfl ?_
  refine k_icmp_ge S dL_refuses_424 (tgt := 508) (by decide) (n := 427) rfl (fun h9 => absurd h9 (by decide)) (fun _ => ?_)
  refine k_iload14 S dL_refuses_427 (n := 429) rfl ?_
  refine k_if_eq S dL_refuses_429 (tgt := 499) (by decide) (n := 432) rfl (fun h9 => absurd h9 (by decide)) (fun _ => ?_)
  refine k_aload0 S dL_refuses_432 (n := 433) rfl ?_
  refine k_iload15 S dL_refuses_433 (n := 435) rfl ?_
  refine k_iload12 S dL_refuses_435 (n := 437) rfl ?_
  refine k_iconst S dL_refuses_437 (v := 0) (by decide) (n := 438) rfl ?_
  refine k_iconst S dL_refuses_438 (v := (-1)) (by decide) (n := 439) rfl ?_
  refine k_callH (As := [.ref (za g 0), .int 18, .int ((-1)), .int 0, .int ((-1))]) (rest := []) S (x_act18 (Or.inl rfl) (n_capability_place V (zin_l (Nat.le_trans V.c10 (by decide)) (by decide)))) mv_L_act m_457 dL_refuses_439 rfl rfl ⟨by decide, by decide⟩ rfl rfl (Nat.le_of_ble_eq_true rfl) ⟨by decide, by decide⟩ (n := 442) rfl (fun _ _ h => h.elim) (fun v9 ν9 h9 => ?_)
  rw [h9.1, h9.2]
  show zK x g ({ frames := 10, cells := 192, slots := 1152, locals := 184 } : Room) 17 42 252 442 [some (.ref (za g 0)), some (.int (nI d)), some (.int (nI c)), some (.int al), some (.long ((-99000011))), none, some (.long ((-99000012))), none, some (.int 2147483647), some (.int 0), some (.int ((-1))), some (.int ((-1))), some (.int ((-1))), some (.int ((-10000))), some (.int 1), some (.int 18), some (.int 0)] [.long ((zcd "java/lang/IndexOutOfBoundsException"))] μ
  refine k_topl (-99000011) zcd_p ?_
  refine k_lload4 S dL_refuses_442 (n := 444) rfl ?_
  refine k_lcmp S dL_refuses_444 (n := 445) rfl ?_
  refine k_top 0 (by decide) ?_
  refine k_if_ne S dL_refuses_445 (tgt := 499) (by decide) (n := 448) rfl (fun h9 => absurd (by decide) h9) (fun _ => ?_)
  refine k_aload0 S dL_refuses_448 (n := 449) rfl ?_
  refine k_iload15 S dL_refuses_449 (n := 451) rfl ?_
  refine k_iconst S dL_refuses_451 (v := 0) (by decide) (n := 452) rfl ?_
  refine k_iload13 S dL_refuses_452 (n := 454) rfl ?_
  refine k_iconst S dL_refuses_454 (v := 0) (by decide) (n := 455) rfl ?_
  refine k_callH (As := [.ref (za g 0), .int 18, .int 0, .int ((-10000)), .int 0]) (rest := []) S (x_act18 (Or.inr (Or.inl rfl)) (n_capability_arg V hc0 (zlh_n (by decide)))) mv_L_act m_457 dL_refuses_455 rfl rfl ⟨by decide, by decide⟩ rfl rfl (Nat.le_of_ble_eq_true rfl) ⟨by decide, by decide⟩ (n := 458) rfl (fun _ _ h => h.elim) (fun v9 ν9 h9 => ?_)
  rw [h9.1, h9.2]
  show zK x g ({ frames := 10, cells := 192, slots := 1152, locals := 184 } : Room) 17 44 264 458 [some (.ref (za g 0)), some (.int (nI d)), some (.int (nI c)), some (.int al), some (.long ((-99000011))), none, some (.long ((-99000012))), none, some (.int 2147483647), some (.int 0), some (.int ((-1))), some (.int ((-1))), some (.int ((-1))), some (.int ((-10000))), some (.int 1), some (.int 18), some (.int 0)] [.long ((zcd "java/lang/IllegalArgumentException"))] μ
  refine k_topl (-99000012) zcd_a ?_
  refine k_lload6 S dL_refuses_458 (n := 460) rfl ?_
  refine k_lcmp S dL_refuses_460 (n := 461) rfl ?_
  refine k_top 0 (by decide) ?_
  refine k_if_ne S dL_refuses_461 (tgt := 499) (by decide) (n := 464) rfl (fun h9 => absurd (by decide) h9) (fun _ => ?_)
  refine k_aload0 S dL_refuses_464 (n := 465) rfl ?_
  refine k_iload15 S dL_refuses_465 (n := 467) rfl ?_
  refine k_iconst S dL_refuses_467 (v := 0) (by decide) (n := 468) rfl ?_
  refine k_iconst S dL_refuses_468 (v := 0) (by decide) (n := 469) rfl ?_
  refine k_iload13 S dL_refuses_469 (n := 471) rfl ?_
  refine k_callH (As := [.ref (za g 0), .int 18, .int 0, .int 0, .int ((-10000))]) (rest := []) S (x_act18 (Or.inr (Or.inl rfl)) (n_capability_arg V hc0 (zlh_n (by decide)))) mv_L_act m_457 dL_refuses_471 rfl rfl ⟨by decide, by decide⟩ rfl rfl (Nat.le_of_ble_eq_true rfl) ⟨by decide, by decide⟩ (n := 474) rfl (fun _ _ h => h.elim) (fun v9 ν9 h9 => ?_)
  rw [h9.1, h9.2]
  show zK x g ({ frames := 10, cells := 192, slots := 1152, locals := 184 } : Room) 17 46 276 474 [some (.ref (za g 0)), some (.int (nI d)), some (.int (nI c)), some (.int al), some (.long ((-99000011))), none, some (.long ((-99000012))), none, some (.int 2147483647), some (.int 0), some (.int ((-1))), some (.int ((-1))), some (.int ((-1))), some (.int ((-10000))), some (.int 1), some (.int 18), some (.int 0)] [.long ((zcd "java/lang/IllegalArgumentException"))] μ
  refine k_topl (-99000012) zcd_a ?_
  refine k_lload6 S dL_refuses_474 (n := 476) rfl ?_
  refine k_lcmp S dL_refuses_476 (n := 477) rfl ?_
  refine k_top 0 (by decide) ?_
  refine k_if_ne S dL_refuses_477 (tgt := 499) (by decide) (n := 480) rfl (fun h9 => absurd (by decide) h9) (fun _ => ?_)
  refine k_aload0 S dL_refuses_480 (n := 481) rfl ?_
  refine k_iload15 S dL_refuses_481 (n := 483) rfl ?_
  refine k_iconst S dL_refuses_483 (v := 0) (by decide) (n := 484) rfl ?_
  refine k_iconst S dL_refuses_484 (v := 5) (by decide) (n := 485) rfl ?_
  refine k_iconst S dL_refuses_485 (v := 4) (by decide) (n := 486) rfl ?_
  refine k_callH (As := [.ref (za g 0), .int 18, .int 0, .int 5, .int 4]) (rest := []) S (x_act18 (Or.inr (Or.inl rfl)) (n_capability_arg V hc0 (zlh_n (by decide)))) mv_L_act m_457 dL_refuses_486 rfl rfl ⟨by decide, by decide⟩ rfl rfl (Nat.le_of_ble_eq_true rfl) ⟨by decide, by decide⟩ (n := 489) rfl (fun _ _ h => h.elim) (fun v9 ν9 h9 => ?_)
  rw [h9.1, h9.2]
  show zK x g ({ frames := 10, cells := 192, slots := 1152, locals := 184 } : Room) 17 48 288 489 [some (.ref (za g 0)), some (.int (nI d)), some (.int (nI c)), some (.int al), some (.long ((-99000011))), none, some (.long ((-99000012))), none, some (.int 2147483647), some (.int 0), some (.int ((-1))), some (.int ((-1))), some (.int ((-1))), some (.int ((-10000))), some (.int 1), some (.int 18), some (.int 0)] [.long ((zcd "java/lang/IllegalArgumentException"))] μ
  refine k_topl (-99000012) zcd_a ?_
  refine k_lload6 S dL_refuses_489 (n := 491) rfl ?_
  refine k_lcmp S dL_refuses_491 (n := 492) rfl ?_
  refine k_top 0 (by decide) ?_
  refine k_if_ne S dL_refuses_492 (tgt := 499) (by decide) (n := 495) rfl (fun h9 => absurd (by decide) h9) (fun _ => ?_)
  refine k_iconst S dL_refuses_495 (v := 1) (by decide) (n := 496) rfl ?_
  refine k_goto S dL_refuses_496 (tgt := 500) (by decide) ?_
  refine k_istore14 S dL_refuses_500 (by decide) rfl (n := 502) rfl ?_
  refine k_iinc15 S dL_refuses_502 (v := 19) (by decide) (by decide) (n := 505) rfl ?_
  refine k_goto S dL_refuses_505 (tgt := 420) (by decide) ?_
  refine k_iload15 S dL_refuses_420 (n := 422) rfl ?_
  refine k_bipush S dL_refuses_422 (v := 19) (by decide) (n := 424) rfl ?_
  refine k_icmp_ge S dL_refuses_424 (tgt := 508) (by decide) (n := 427) rfl (fun _ => ?_) (fun h9 => absurd (by decide) h9)
  refine k_iload14 S dL_refuses_508 (n := 510) rfl ?_
  refine k_if_ne S dL_refuses_510 (tgt := 515) (by decide) (n := 513) rfl (fun _ => ?_) (fun h9 => absurd h9 (by decide))
  refine k_iinc9 S dL_refuses_515 (v := 1) (by decide) (by decide) (n := 518) rfl ?_
  refine k_goto S dL_refuses_518 (tgt := 32) (by decide) ?_
  refine k_keep 10 ?_
  exact hN
set_option maxRecDepth 100000 in
set_option maxHeartbeats 4000000 in
theorem l_refA0 {x : zX} {g : zG} {μ : zM} {s d c : Nat} {ph fs : Nat → Nat} {al : Int32} (S : zS x g 17 cL_refuses RL) (V : zV μ s d c ph fs) (hB : zK x g ({ frames := 10, cells := 192, slots := 1152, locals := 184 } : Room) 17 10 60 233 [some (.ref (za g 0)), some (.int (nI d)), some (.int (nI c)), some (.int al), some (.long ((-99000011))), none, some (.long ((-99000012))), none, some (.int 2147483647), some (.int 0), some (.int ((-1))), some (.int ((-1))), some (.int ((-1))), some (.int ((-10000))), none, none, none] [] μ) : zK x g ({ frames := 10, cells := 192, slots := 1152, locals := 184 } : Room) 17 0 0 32 [some (.ref (za g 0)), some (.int (nI d)), some (.int (nI c)), some (.int al), some (.long ((-99000011))), none, some (.long ((-99000012))), none, some (.int 2147483647), some (.int 0), none, none, none, none, none, none, none] [] μ := by
  refine k_iload9 S dL_refuses_32 (n := 34) rfl ?_
  refine k_iconst S dL_refuses_34 (v := 4) (by decide) (n := 35) rfl ?_
  refine k_icmp_ge S dL_refuses_35 (tgt := 521) (by decide) (n := 38) rfl (fun h9 => absurd h9 (by decide)) (fun _ => ?_)
  refine k_iload9 S dL_refuses_38 (n := 40) rfl ?_
  refine k_if_ne S dL_refuses_40 (tgt := 47) (by decide) (n := 43) rfl (fun h9 => absurd (by decide) h9) (fun _ => ?_)
  refine k_iconst S dL_refuses_43 (v := (-1)) (by decide) (n := 44) rfl ?_
  refine k_goto S dL_refuses_44 (tgt := 63) (by decide) ?_
  refine k_istore10 S dL_refuses_63 (by decide) rfl (n := 65) rfl ?_
  refine k_iload9 S dL_refuses_65 (n := 67) rfl ?_
  refine k_iconst S dL_refuses_67 (v := 1) (by decide) (n := 68) rfl ?_
  refine k_icmp_ne S dL_refuses_68 (tgt := 75) (by decide) (n := 71) rfl (fun _ => ?_) (fun h9 => absurd h9 (by decide))
  refine k_iload10 S dL_refuses_75 (n := 77) rfl ?_
  refine k_istore11 S dL_refuses_77 (by decide) rfl (n := 79) rfl ?_
  refine k_iload9 S dL_refuses_79 (n := 81) rfl ?_
  refine k_iconst S dL_refuses_81 (v := 1) (by decide) (n := 82) rfl ?_
  refine k_icmp_ne S dL_refuses_82 (tgt := 89) (by decide) (n := 85) rfl (fun _ => ?_) (fun h9 => absurd h9 (by decide))
  refine k_iload10 S dL_refuses_89 (n := 91) rfl ?_
  refine k_istore12 S dL_refuses_91 (by decide) rfl (n := 93) rfl ?_
  refine k_iload9 S dL_refuses_93 (n := 95) rfl ?_
  refine k_if_ne S dL_refuses_95 (tgt := 104) (by decide) (n := 98) rfl (fun h9 => absurd (by decide) h9) (fun _ => ?_)
  refine k_sipush S dL_refuses_98 (v := (-10000)) (by decide) (n := 101) rfl ?_
  refine k_goto S dL_refuses_101 (tgt := 118) (by decide) ?_
  refine k_istore13 S dL_refuses_118 (by decide) rfl (n := 120) rfl ?_
  refine k_aload0 S dL_refuses_120 (n := 121) rfl ?_
  refine k_iload9 S dL_refuses_121 (n := 123) rfl ?_
  refine k_if_ne S dL_refuses_123 (tgt := 130) (by decide) (n := 126) rfl (fun h9 => absurd (by decide) h9) (fun _ => ?_)
  refine k_iconst S dL_refuses_126 (v := 1) (by decide) (n := 127) rfl ?_
  refine k_goto S dL_refuses_127 (tgt := 143) (by decide) ?_
  refine k_callH (As := [.ref (za g 0), .int 1]) (rest := []) S (x_begin (n_begin (by decide))) mv_L_begin m_335 dL_refuses_143 rfl rfl ⟨by decide, by decide⟩ rfl rfl (Nat.le_of_ble_eq_true rfl) ⟨by decide, by decide⟩ (n := 146) rfl (fun _ _ h => h.elim) (fun v9 ν9 h9 => ?_)
  rw [h9.1, h9.2]
  show zK x g ({ frames := 10, cells := 192, slots := 1152, locals := 184 } : Room) 17 1 6 146 [some (.ref (za g 0)), some (.int (nI d)), some (.int (nI c)), some (.int al), some (.long ((-99000011))), none, some (.long ((-99000012))), none, some (.int 2147483647), some (.int 0), some (.int ((-1))), some (.int ((-1))), some (.int ((-1))), some (.int ((-10000))), none, none, none] [.int ((-12))] μ
  refine k_bipush S dL_refuses_146 (v := (-12)) (by decide) (n := 148) rfl ?_
  refine k_icmp_ne S dL_refuses_148 (tgt := 325) (by decide) (n := 151) rfl (fun h9 => absurd (by decide) h9) (fun _ => ?_)
  refine k_aload0 S dL_refuses_151 (n := 152) rfl ?_
  refine k_iload12 S dL_refuses_152 (n := 154) rfl ?_
  refine k_callH (As := [.ref (za g 0), .int ((-1))]) (rest := []) S (x_holds (Or.inl rfl) (n_freeze_place V (zin_l (Nat.le_trans V.c10 (by decide)) (by decide)))) mv_L_holds m_418 dL_refuses_154 rfl rfl ⟨by decide, by decide⟩ rfl rfl (Nat.le_of_ble_eq_true rfl) ⟨by decide, by decide⟩ (n := 157) rfl (fun _ _ h => h.elim) (fun v9 ν9 h9 => ?_)
  rw [h9.1, h9.2]
  show zK x g ({ frames := 10, cells := 192, slots := 1152, locals := 184 } : Room) 17 3 18 157 [some (.ref (za g 0)), some (.int (nI d)), some (.int (nI c)), some (.int al), some (.long ((-99000011))), none, some (.long ((-99000012))), none, some (.int 2147483647), some (.int 0), some (.int ((-1))), some (.int ((-1))), some (.int ((-1))), some (.int ((-10000))), none, none, none] [.int ((if "java/lang/IndexOutOfBoundsException" = "java/lang/IndexOutOfBoundsException" then (-11 : Int32) else (-13)))] μ
  refine k_top (-11) (if_pos rfl) ?_
  refine k_bipush S dL_refuses_157 (v := (-11)) (by decide) (n := 159) rfl ?_
  refine k_icmp_ne S dL_refuses_159 (tgt := 325) (by decide) (n := 162) rfl (fun h9 => absurd (by decide) h9) (fun _ => ?_)
  refine k_aload0 S dL_refuses_162 (n := 163) rfl ?_
  refine k_iload12 S dL_refuses_163 (n := 165) rfl ?_
  refine k_callH (As := [.ref (za g 0), .int ((-1))]) (rest := []) S (x_thaws (Or.inl rfl) (n_thaw_place V (zin_l (Nat.le_trans V.c10 (by decide)) (by decide)))) mv_L_thaws m_449 dL_refuses_165 rfl rfl ⟨by decide, by decide⟩ rfl rfl (Nat.le_of_ble_eq_true rfl) ⟨by decide, by decide⟩ (n := 168) rfl (fun _ _ h => h.elim) (fun v9 ν9 h9 => ?_)
  rw [h9.1, h9.2]
  show zK x g ({ frames := 10, cells := 192, slots := 1152, locals := 184 } : Room) 17 5 30 168 [some (.ref (za g 0)), some (.int (nI d)), some (.int (nI c)), some (.int al), some (.long ((-99000011))), none, some (.long ((-99000012))), none, some (.int 2147483647), some (.int 0), some (.int ((-1))), some (.int ((-1))), some (.int ((-1))), some (.int ((-10000))), none, none, none] [.int ((if "java/lang/IndexOutOfBoundsException" = "java/lang/IndexOutOfBoundsException" then (-11 : Int32) else (-13)))] μ
  refine k_top (-11) (if_pos rfl) ?_
  refine k_bipush S dL_refuses_168 (v := (-11)) (by decide) (n := 170) rfl ?_
  refine k_icmp_ne S dL_refuses_170 (tgt := 325) (by decide) (n := 173) rfl (fun h9 => absurd (by decide) h9) (fun _ => ?_)
  refine k_aload0 S dL_refuses_173 (n := 174) rfl ?_
  refine k_iconst S dL_refuses_174 (v := 0) (by decide) (n := 175) rfl ?_
  refine k_iload13 S dL_refuses_175 (n := 177) rfl ?_
  refine k_iconst S dL_refuses_177 (v := 0) (by decide) (n := 178) rfl ?_
  refine k_iconst S dL_refuses_178 (v := 0) (by decide) (n := 179) rfl ?_
  refine k_callH (As := [.ref (za g 0), .int 0, .int ((-10000)), .int 0, .int 0]) (rest := []) S (x_act0 (Or.inr (Or.inl rfl)) (n_put_arg V (by decide))) mv_L_act m_457 dL_refuses_179 rfl rfl ⟨by decide, by decide⟩ rfl rfl (Nat.le_of_ble_eq_true rfl) ⟨by decide, by decide⟩ (n := 182) rfl (fun _ _ h => h.elim) (fun v9 ν9 h9 => ?_)
  rw [h9.1, h9.2]
  show zK x g ({ frames := 10, cells := 192, slots := 1152, locals := 184 } : Room) 17 6 36 182 [some (.ref (za g 0)), some (.int (nI d)), some (.int (nI c)), some (.int al), some (.long ((-99000011))), none, some (.long ((-99000012))), none, some (.int 2147483647), some (.int 0), some (.int ((-1))), some (.int ((-1))), some (.int ((-1))), some (.int ((-10000))), none, none, none] [.long ((zcd "java/lang/IllegalArgumentException"))] μ
  refine k_topl (-99000012) zcd_a ?_
  refine k_lload6 S dL_refuses_182 (n := 184) rfl ?_
  refine k_lcmp S dL_refuses_184 (n := 185) rfl ?_
  refine k_top 0 (by decide) ?_
  refine k_if_ne S dL_refuses_185 (tgt := 325) (by decide) (n := 188) rfl (fun h9 => absurd (by decide) h9) (fun _ => ?_)
  refine k_aload0 S dL_refuses_188 (n := 189) rfl ?_
  refine k_iconst S dL_refuses_189 (v := 2) (by decide) (n := 190) rfl ?_
  refine k_iload11 S dL_refuses_190 (n := 192) rfl ?_
  refine k_iconst S dL_refuses_192 (v := (-1)) (by decide) (n := 193) rfl ?_
  refine k_iconst S dL_refuses_193 (v := 0) (by decide) (n := 194) rfl ?_
  refine k_callH (As := [.ref (za g 0), .int 2, .int ((-1)), .int ((-1)), .int 0]) (rest := []) S (x_act2 (Or.inl rfl) (n_exclude_place V (zin_l V.d60 (by decide)))) mv_L_act m_457 dL_refuses_194 rfl rfl ⟨by decide, by decide⟩ rfl rfl (Nat.le_of_ble_eq_true rfl) ⟨by decide, by decide⟩ (n := 197) rfl (fun _ _ h => h.elim) (fun v9 ν9 h9 => ?_)
  rw [h9.1, h9.2]
  show zK x g ({ frames := 10, cells := 192, slots := 1152, locals := 184 } : Room) 17 8 48 197 [some (.ref (za g 0)), some (.int (nI d)), some (.int (nI c)), some (.int al), some (.long ((-99000011))), none, some (.long ((-99000012))), none, some (.int 2147483647), some (.int 0), some (.int ((-1))), some (.int ((-1))), some (.int ((-1))), some (.int ((-10000))), none, none, none] [.long ((zcd "java/lang/IndexOutOfBoundsException"))] μ
  refine k_topl (-99000011) zcd_p ?_
  refine k_lload4 S dL_refuses_197 (n := 199) rfl ?_
  refine k_lcmp S dL_refuses_199 (n := 200) rfl ?_
  refine k_top 0 (by decide) ?_
  refine k_if_ne S dL_refuses_200 (tgt := 325) (by decide) (n := 203) rfl (fun h9 => absurd (by decide) h9) (fun _ => ?_)
  refine k_iload1 S dL_refuses_203 (n := 204) rfl ?_
  refine k_if_eq S dL_refuses_204 (tgt := 233) (by decide) (n := 207) rfl (fun hd0 => ?_) (fun hd0 => ?_)
  ·
    exact k_widen (by decide) (by decide) hB
  ·
    have h0 : zIn 0 d := ⟨0, Nat.pos_of_ne_zero (fun z => hd0 (by rw [z]; rfl)), rfl⟩
    refine k_aload0 S dL_refuses_207 (n := 208) rfl ?_
    refine k_iconst S dL_refuses_208 (v := 2) (by decide) (n := 209) rfl ?_
    refine k_iconst S dL_refuses_209 (v := 0) (by decide) (n := 210) rfl ?_
    refine k_iload9 S dL_refuses_210 (n := 212) rfl ?_
    refine k_iconst S dL_refuses_212 (v := 1) (by decide) (n := 213) rfl ?_
    refine k_icmp_ne S dL_refuses_213 (tgt := 221) (by decide) (n := 216) rfl (fun _ => ?_) (fun h9 => absurd h9 (by decide))
    refine k_iload10 S dL_refuses_221 (n := 223) rfl ?_
    refine k_iconst S dL_refuses_223 (v := 0) (by decide) (n := 224) rfl ?_
    refine k_callH (As := [.ref (za g 0), .int 2, .int 0, .int ((-1)), .int 0]) (rest := []) S (x_act2 (Or.inr (Or.inl rfl)) (n_exclude_arg V h0 (by decide))) mv_L_act m_457 dL_refuses_224 rfl rfl ⟨by decide, by decide⟩ rfl rfl (Nat.le_of_ble_eq_true rfl) ⟨by decide, by decide⟩ (n := 227) rfl (fun _ _ h => h.elim) (fun v9 ν9 h9 => ?_)
    rw [h9.1, h9.2]
    show zK x g ({ frames := 10, cells := 192, slots := 1152, locals := 184 } : Room) 17 10 60 227 [some (.ref (za g 0)), some (.int (nI d)), some (.int (nI c)), some (.int al), some (.long ((-99000011))), none, some (.long ((-99000012))), none, some (.int 2147483647), some (.int 0), some (.int ((-1))), some (.int ((-1))), some (.int ((-1))), some (.int ((-10000))), none, none, none] [.long ((zcd "java/lang/IllegalArgumentException"))] μ
    refine k_topl (-99000012) zcd_a ?_
    refine k_lload6 S dL_refuses_227 (n := 229) rfl ?_
    refine k_lcmp S dL_refuses_229 (n := 230) rfl ?_
    refine k_top 0 (by decide) ?_
    refine k_if_ne S dL_refuses_230 (tgt := 325) (by decide) (n := 233) rfl (fun h9 => absurd (by decide) h9) (fun _ => ?_)
    exact k_widen (by decide) (by decide) hB
set_option maxRecDepth 100000 in
set_option maxHeartbeats 4000000 in
theorem l_refB1 {x : zX} {g : zG} {μ : zM} {s d c : Nat} {ph fs : Nat → Nat} {al : Int32} (S : zS x g 17 cL_refuses RL) (V : zV μ s d c ph fs) (hN : zK x g ({ frames := 10, cells := 192, slots := 1152, locals := 184 } : Room) 17 96 576 32 [some (.ref (za g 0)), some (.int (nI d)), some (.int (nI c)), some (.int al), some (.long ((-99000011))), none, some (.long ((-99000012))), none, some (.int 2147483647), some (.int 2), none, none, none, none, none, none, none] [] μ) : zK x g ({ frames := 10, cells := 192, slots := 1152, locals := 184 } : Room) 17 58 348 233 [some (.ref (za g 0)), some (.int (nI d)), some (.int (nI c)), some (.int al), some (.long ((-99000011))), none, some (.long ((-99000012))), none, some (.int 2147483647), some (.int 1), some (.int ((-2147483648))), some (.int (nI d)), some (.int (nI c)), some (.int 10000), none, none, none] [] μ := by
  have hc0 : zIn 0 c := ⟨0, V.c1, rfl⟩
  refine k_aload0 S dL_refuses_233 (n := 234) rfl ?_
  refine k_bipush S dL_refuses_234 (v := 12) (by decide) (n := 236) rfl ?_
  refine k_iload11 S dL_refuses_236 (n := 238) rfl ?_
  refine k_iconst S dL_refuses_238 (v := 0) (by decide) (n := 239) rfl ?_
  refine k_iconst S dL_refuses_239 (v := 0) (by decide) (n := 240) rfl ?_
  refine k_callH (As := [.ref (za g 0), .int 12, .int (nI d), .int 0, .int 0]) (rest := []) S (x_act12 (Or.inl rfl) (n_firstOf V (fun z => (zin_d V.d60) z.1))) mv_L_act m_457 dL_refuses_240 rfl rfl ⟨by decide, by decide⟩ rfl rfl (Nat.le_of_ble_eq_true rfl) ⟨by decide, by decide⟩ (n := 243) rfl (fun _ _ h => h.elim) (fun v9 ν9 h9 => ?_)
  rw [h9.1, h9.2]
  show zK x g ({ frames := 10, cells := 192, slots := 1152, locals := 184 } : Room) 17 60 360 243 [some (.ref (za g 0)), some (.int (nI d)), some (.int (nI c)), some (.int al), some (.long ((-99000011))), none, some (.long ((-99000012))), none, some (.int 2147483647), some (.int 1), some (.int ((-2147483648))), some (.int (nI d)), some (.int (nI c)), some (.int 10000), none, none, none] [.long ((zcd "java/lang/IndexOutOfBoundsException"))] μ
  refine k_topl (-99000011) zcd_p ?_
  refine k_lload4 S dL_refuses_243 (n := 245) rfl ?_
  refine k_lcmp S dL_refuses_245 (n := 246) rfl ?_
  refine k_top 0 (by decide) ?_
  refine k_if_ne S dL_refuses_246 (tgt := 325) (by decide) (n := 249) rfl (fun h9 => absurd (by decide) h9) (fun _ => ?_)
  refine k_aload0 S dL_refuses_249 (n := 250) rfl ?_
  refine k_bipush S dL_refuses_250 (v := 12) (by decide) (n := 252) rfl ?_
  refine k_iconst S dL_refuses_252 (v := 0) (by decide) (n := 253) rfl ?_
  refine k_iload9 S dL_refuses_253 (n := 255) rfl ?_
  refine k_if_ne S dL_refuses_255 (tgt := 262) (by decide) (n := 258) rfl (fun _ => ?_) (fun h9 => absurd h9 (by decide))
  refine k_iload9 S dL_refuses_262 (n := 264) rfl ?_
  refine k_iconst S dL_refuses_264 (v := 1) (by decide) (n := 265) rfl ?_
  refine k_icmp_ne S dL_refuses_265 (tgt := 273) (by decide) (n := 268) rfl (fun h9 => absurd (by decide) h9) (fun _ => ?_)
  refine k_bipush S dL_refuses_268 (v := 9) (by decide) (n := 270) rfl ?_
  refine k_goto S dL_refuses_270 (tgt := 275) (by decide) ?_
  refine k_iconst S dL_refuses_275 (v := 0) (by decide) (n := 276) rfl ?_
  refine k_callH (As := [.ref (za g 0), .int 12, .int 0, .int 9, .int 0]) (rest := []) S (x_act12 (Or.inl rfl) (n_firstOf V (fun z => absurd z.2 (by decide)))) mv_L_act m_457 dL_refuses_276 rfl rfl ⟨by decide, by decide⟩ rfl rfl (Nat.le_of_ble_eq_true rfl) ⟨by decide, by decide⟩ (n := 279) rfl (fun _ _ h => h.elim) (fun v9 ν9 h9 => ?_)
  rw [h9.1, h9.2]
  show zK x g ({ frames := 10, cells := 192, slots := 1152, locals := 184 } : Room) 17 62 372 279 [some (.ref (za g 0)), some (.int (nI d)), some (.int (nI c)), some (.int al), some (.long ((-99000011))), none, some (.long ((-99000012))), none, some (.int 2147483647), some (.int 1), some (.int ((-2147483648))), some (.int (nI d)), some (.int (nI c)), some (.int 10000), none, none, none] [.long ((zcd "java/lang/IndexOutOfBoundsException"))] μ
  refine k_topl (-99000011) zcd_p ?_
  refine k_lload4 S dL_refuses_279 (n := 281) rfl ?_
  refine k_lcmp S dL_refuses_281 (n := 282) rfl ?_
  refine k_top 0 (by decide) ?_
  refine k_if_ne S dL_refuses_282 (tgt := 325) (by decide) (n := 285) rfl (fun h9 => absurd (by decide) h9) (fun _ => ?_)
  refine k_aload0 S dL_refuses_285 (n := 286) rfl ?_
  refine k_bipush S dL_refuses_286 (v := 14) (by decide) (n := 288) rfl ?_
  refine k_iload9 S dL_refuses_288 (n := 290) rfl ?_
  refine k_if_ne S dL_refuses_290 (tgt := 297) (by decide) (n := 293) rfl (fun _ => ?_) (fun h9 => absurd h9 (by decide))
  refine k_iload9 S dL_refuses_297 (n := 299) rfl ?_
  refine k_iconst S dL_refuses_299 (v := 1) (by decide) (n := 300) rfl ?_
  refine k_icmp_ne S dL_refuses_300 (tgt := 308) (by decide) (n := 303) rfl (fun h9 => absurd (by decide) h9) (fun _ => ?_)
  refine k_bipush S dL_refuses_303 (v := 11) (by decide) (n := 305) rfl ?_
  refine k_goto S dL_refuses_305 (tgt := 310) (by decide) ?_
  refine k_iconst S dL_refuses_310 (v := 0) (by decide) (n := 311) rfl ?_
  refine k_iconst S dL_refuses_311 (v := 0) (by decide) (n := 312) rfl ?_
  refine k_callH (As := [.ref (za g 0), .int 14, .int 11, .int 0, .int 0]) (rest := []) S (x_act14 (Or.inr (Or.inl rfl)) (n_setWeight (by decide))) mv_L_act m_457 dL_refuses_312 rfl rfl ⟨by decide, by decide⟩ rfl rfl (Nat.le_of_ble_eq_true rfl) ⟨by decide, by decide⟩ (n := 315) rfl (fun _ _ h => h.elim) (fun v9 ν9 h9 => ?_)
  rw [h9.1, h9.2]
  show zK x g ({ frames := 10, cells := 192, slots := 1152, locals := 184 } : Room) 17 63 378 315 [some (.ref (za g 0)), some (.int (nI d)), some (.int (nI c)), some (.int al), some (.long ((-99000011))), none, some (.long ((-99000012))), none, some (.int 2147483647), some (.int 1), some (.int ((-2147483648))), some (.int (nI d)), some (.int (nI c)), some (.int 10000), none, none, none] [.long ((zcd "java/lang/IllegalArgumentException"))] μ
  refine k_topl (-99000012) zcd_a ?_
  refine k_lload6 S dL_refuses_315 (n := 317) rfl ?_
  refine k_lcmp S dL_refuses_317 (n := 318) rfl ?_
  refine k_top 0 (by decide) ?_
  refine k_if_ne S dL_refuses_318 (tgt := 325) (by decide) (n := 321) rfl (fun h9 => absurd (by decide) h9) (fun _ => ?_)
  refine k_iconst S dL_refuses_321 (v := 1) (by decide) (n := 322) rfl ?_
  refine k_goto S dL_refuses_322 (tgt := 326) (by decide) ?_
  refine k_istore14 S dL_refuses_326 (by decide) rfl (n := 328) rfl ?_
  refine k_iconst S dL_refuses_328 (v := 3) (by decide) (n := 329) rfl ?_
  refine k_istore15 S dL_refuses_329 (by decide) rfl (n := 331) rfl ?_
  refine k_iload15 S dL_refuses_331 (n := 333) rfl ?_
  refine k_bipush S dL_refuses_333 (v := 17) (by decide) (n := 335) rfl ?_
  refine k_icmp_ge S dL_refuses_335 (tgt := 416) (by decide) (n := 338) rfl (fun h9 => absurd h9 (by decide)) (fun _ => ?_)
  refine k_iload15 S dL_refuses_338 (n := 340) rfl ?_
  refine k_iconst S dL_refuses_340 (v := 5) (by decide) (n := 341) rfl ?_
  refine k_icmp_le S dL_refuses_341 (tgt := 355) (by decide) (n := 344) rfl (fun _ => ?_) (fun h9 => absurd (by decide) h9)
  refine k_iconst S dL_refuses_355 (v := 0) (by decide) (n := 356) rfl ?_
  refine k_istore16 S dL_refuses_356 (by decide) rfl (n := 358) rfl ?_
  refine k_iload14 S dL_refuses_358 (n := 360) rfl ?_
  refine k_if_eq S dL_refuses_360 (tgt := 407) (by decide) (n := 363) rfl (fun h9 => absurd h9 (by decide)) (fun _ => ?_)
  refine k_iload15 S dL_refuses_363 (n := 365) rfl ?_
  refine k_bipush S dL_refuses_365 (v := 12) (by decide) (n := 367) rfl ?_
  refine k_icmp_eq S dL_refuses_367 (tgt := 403) (by decide) (n := 370) rfl (fun h9 => absurd h9 (by decide)) (fun _ => ?_)
  refine k_iload15 S dL_refuses_370 (n := 372) rfl ?_
  refine k_bipush S dL_refuses_372 (v := 14) (by decide) (n := 374) rfl ?_
  refine k_icmp_eq S dL_refuses_374 (tgt := 403) (by decide) (n := 377) rfl (fun h9 => absurd h9 (by decide)) (fun _ => ?_)
  refine k_aload0 S dL_refuses_377 (n := 378) rfl ?_
  refine k_iload15 S dL_refuses_378 (n := 380) rfl ?_
  refine k_iload16 S dL_refuses_380 (n := 382) rfl ?_
  refine k_if_eq S dL_refuses_382 (tgt := 390) (by decide) (n := 385) rfl (fun _ => ?_) (fun h9 => absurd (by decide) h9)
  refine k_iload11 S dL_refuses_390 (n := 392) rfl ?_
  refine k_iconst S dL_refuses_392 (v := 0) (by decide) (n := 393) rfl ?_
  refine k_iconst S dL_refuses_393 (v := 0) (by decide) (n := 394) rfl ?_
  refine k_callH (As := [.ref (za g 0), .int 3, .int (nI d), .int 0, .int 0]) (rest := []) S (x_act3 (Or.inl rfl) (n_mean_place V (zin_d V.d60))) mv_L_act m_457 dL_refuses_394 rfl rfl ⟨by decide, by decide⟩ rfl rfl (Nat.le_of_ble_eq_true rfl) ⟨by decide, by decide⟩ (n := 397) rfl (fun _ _ h => h.elim) (fun v9 ν9 h9 => ?_)
  rw [h9.1, h9.2]
  show zK x g ({ frames := 10, cells := 192, slots := 1152, locals := 184 } : Room) 17 64 384 397 [some (.ref (za g 0)), some (.int (nI d)), some (.int (nI c)), some (.int al), some (.long ((-99000011))), none, some (.long ((-99000012))), none, some (.int 2147483647), some (.int 1), some (.int ((-2147483648))), some (.int (nI d)), some (.int (nI c)), some (.int 10000), some (.int 1), some (.int 3), some (.int 0)] [.long ((zcd "java/lang/IndexOutOfBoundsException"))] μ
  refine k_topl (-99000011) zcd_p ?_
  refine k_lload4 S dL_refuses_397 (n := 399) rfl ?_
  refine k_lcmp S dL_refuses_399 (n := 400) rfl ?_
  refine k_top 0 (by decide) ?_
  refine k_if_ne S dL_refuses_400 (tgt := 407) (by decide) (n := 403) rfl (fun h9 => absurd (by decide) h9) (fun _ => ?_)
  refine k_iconst S dL_refuses_403 (v := 1) (by decide) (n := 404) rfl ?_
  refine k_goto S dL_refuses_404 (tgt := 408) (by decide) ?_
  refine k_istore14 S dL_refuses_408 (by decide) rfl (n := 410) rfl ?_
  refine k_iinc15 S dL_refuses_410 (v := 4) (by decide) (by decide) (n := 413) rfl ?_
  refine k_goto S dL_refuses_413 (tgt := 331) (by decide) ?_
  refine k_iload15 S dL_refuses_331 (n := 333) rfl ?_
  refine k_bipush S dL_refuses_333 (v := 17) (by decide) (n := 335) rfl ?_
  refine k_icmp_ge S dL_refuses_335 (tgt := 416) (by decide) (n := 338) rfl (fun h9 => absurd h9 (by decide)) (fun _ => ?_)
  refine k_iload15 S dL_refuses_338 (n := 340) rfl ?_
  refine k_iconst S dL_refuses_340 (v := 5) (by decide) (n := 341) rfl ?_
  refine k_icmp_le S dL_refuses_341 (tgt := 355) (by decide) (n := 344) rfl (fun _ => ?_) (fun h9 => absurd (by decide) h9)
  refine k_iconst S dL_refuses_355 (v := 0) (by decide) (n := 356) rfl ?_
  refine k_istore16 S dL_refuses_356 (by decide) rfl (n := 358) rfl ?_
  refine k_iload14 S dL_refuses_358 (n := 360) rfl ?_
  refine k_if_eq S dL_refuses_360 (tgt := 407) (by decide) (n := 363) rfl (fun h9 => absurd h9 (by decide)) (fun _ => ?_)
  refine k_iload15 S dL_refuses_363 (n := 365) rfl ?_
  refine k_bipush S dL_refuses_365 (v := 12) (by decide) (n := 367) rfl ?_
  refine k_icmp_eq S dL_refuses_367 (tgt := 403) (by decide) (n := 370) rfl (fun h9 => absurd h9 (by decide)) (fun _ => ?_)
  refine k_iload15 S dL_refuses_370 (n := 372) rfl ?_
  refine k_bipush S dL_refuses_372 (v := 14) (by decide) (n := 374) rfl ?_
  refine k_icmp_eq S dL_refuses_374 (tgt := 403) (by decide) (n := 377) rfl (fun h9 => absurd h9 (by decide)) (fun _ => ?_)
  refine k_aload0 S dL_refuses_377 (n := 378) rfl ?_
  refine k_iload15 S dL_refuses_378 (n := 380) rfl ?_
  refine k_iload16 S dL_refuses_380 (n := 382) rfl ?_
  refine k_if_eq S dL_refuses_382 (tgt := 390) (by decide) (n := 385) rfl (fun _ => ?_) (fun h9 => absurd (by decide) h9)
  refine k_iload11 S dL_refuses_390 (n := 392) rfl ?_
  refine k_iconst S dL_refuses_392 (v := 0) (by decide) (n := 393) rfl ?_
  refine k_iconst S dL_refuses_393 (v := 0) (by decide) (n := 394) rfl ?_
  refine k_callH (As := [.ref (za g 0), .int 4, .int (nI d), .int 0, .int 0]) (rest := []) S (x_act4 (Or.inl rfl) (n_range_place V (zin_d V.d60))) mv_L_act m_457 dL_refuses_394 rfl rfl ⟨by decide, by decide⟩ rfl rfl (Nat.le_of_ble_eq_true rfl) ⟨by decide, by decide⟩ (n := 397) rfl (fun _ _ h => h.elim) (fun v9 ν9 h9 => ?_)
  rw [h9.1, h9.2]
  show zK x g ({ frames := 10, cells := 192, slots := 1152, locals := 184 } : Room) 17 65 390 397 [some (.ref (za g 0)), some (.int (nI d)), some (.int (nI c)), some (.int al), some (.long ((-99000011))), none, some (.long ((-99000012))), none, some (.int 2147483647), some (.int 1), some (.int ((-2147483648))), some (.int (nI d)), some (.int (nI c)), some (.int 10000), some (.int 1), some (.int 4), some (.int 0)] [.long ((zcd "java/lang/IndexOutOfBoundsException"))] μ
  refine k_topl (-99000011) zcd_p ?_
  refine k_lload4 S dL_refuses_397 (n := 399) rfl ?_
  refine k_lcmp S dL_refuses_399 (n := 400) rfl ?_
  refine k_top 0 (by decide) ?_
  refine k_if_ne S dL_refuses_400 (tgt := 407) (by decide) (n := 403) rfl (fun h9 => absurd (by decide) h9) (fun _ => ?_)
  refine k_iconst S dL_refuses_403 (v := 1) (by decide) (n := 404) rfl ?_
  refine k_goto S dL_refuses_404 (tgt := 408) (by decide) ?_
  refine k_istore14 S dL_refuses_408 (by decide) rfl (n := 410) rfl ?_
  refine k_iinc15 S dL_refuses_410 (v := 5) (by decide) (by decide) (n := 413) rfl ?_
  refine k_goto S dL_refuses_413 (tgt := 331) (by decide) ?_
  refine k_iload15 S dL_refuses_331 (n := 333) rfl ?_
  refine k_bipush S dL_refuses_333 (v := 17) (by decide) (n := 335) rfl ?_
  refine k_icmp_ge S dL_refuses_335 (tgt := 416) (by decide) (n := 338) rfl (fun h9 => absurd h9 (by decide)) (fun _ => ?_)
  refine k_iload15 S dL_refuses_338 (n := 340) rfl ?_
  refine k_iconst S dL_refuses_340 (v := 5) (by decide) (n := 341) rfl ?_
  refine k_icmp_le S dL_refuses_341 (tgt := 355) (by decide) (n := 344) rfl (fun _ => ?_) (fun h9 => absurd (by decide) h9)
  refine k_iconst S dL_refuses_355 (v := 0) (by decide) (n := 356) rfl ?_
  refine k_istore16 S dL_refuses_356 (by decide) rfl (n := 358) rfl ?_
  refine k_iload14 S dL_refuses_358 (n := 360) rfl ?_
  refine k_if_eq S dL_refuses_360 (tgt := 407) (by decide) (n := 363) rfl (fun h9 => absurd h9 (by decide)) (fun _ => ?_)
  refine k_iload15 S dL_refuses_363 (n := 365) rfl ?_
  refine k_bipush S dL_refuses_365 (v := 12) (by decide) (n := 367) rfl ?_
  refine k_icmp_eq S dL_refuses_367 (tgt := 403) (by decide) (n := 370) rfl (fun h9 => absurd h9 (by decide)) (fun _ => ?_)
  refine k_iload15 S dL_refuses_370 (n := 372) rfl ?_
  refine k_bipush S dL_refuses_372 (v := 14) (by decide) (n := 374) rfl ?_
  refine k_icmp_eq S dL_refuses_374 (tgt := 403) (by decide) (n := 377) rfl (fun h9 => absurd h9 (by decide)) (fun _ => ?_)
  refine k_aload0 S dL_refuses_377 (n := 378) rfl ?_
  refine k_iload15 S dL_refuses_378 (n := 380) rfl ?_
  refine k_iload16 S dL_refuses_380 (n := 382) rfl ?_
  refine k_if_eq S dL_refuses_382 (tgt := 390) (by decide) (n := 385) rfl (fun _ => ?_) (fun h9 => absurd (by decide) h9)
  refine k_iload11 S dL_refuses_390 (n := 392) rfl ?_
  refine k_iconst S dL_refuses_392 (v := 0) (by decide) (n := 393) rfl ?_
  refine k_iconst S dL_refuses_393 (v := 0) (by decide) (n := 394) rfl ?_
  refine k_callH (As := [.ref (za g 0), .int 5, .int (nI d), .int 0, .int 0]) (rest := []) S (x_act5 (Or.inl rfl) (n_phaseOf_place V (zin_d V.d60))) mv_L_act m_457 dL_refuses_394 rfl rfl ⟨by decide, by decide⟩ rfl rfl (Nat.le_of_ble_eq_true rfl) ⟨by decide, by decide⟩ (n := 397) rfl (fun _ _ h => h.elim) (fun v9 ν9 h9 => ?_)
  rw [h9.1, h9.2]
  show zK x g ({ frames := 10, cells := 192, slots := 1152, locals := 184 } : Room) 17 66 396 397 [some (.ref (za g 0)), some (.int (nI d)), some (.int (nI c)), some (.int al), some (.long ((-99000011))), none, some (.long ((-99000012))), none, some (.int 2147483647), some (.int 1), some (.int ((-2147483648))), some (.int (nI d)), some (.int (nI c)), some (.int 10000), some (.int 1), some (.int 5), some (.int 0)] [.long ((zcd "java/lang/IndexOutOfBoundsException"))] μ
  refine k_topl (-99000011) zcd_p ?_
  refine k_lload4 S dL_refuses_397 (n := 399) rfl ?_
  refine k_lcmp S dL_refuses_399 (n := 400) rfl ?_
  refine k_top 0 (by decide) ?_
  refine k_if_ne S dL_refuses_400 (tgt := 407) (by decide) (n := 403) rfl (fun h9 => absurd (by decide) h9) (fun _ => ?_)
  refine k_iconst S dL_refuses_403 (v := 1) (by decide) (n := 404) rfl ?_
  refine k_goto S dL_refuses_404 (tgt := 408) (by decide) ?_
  refine k_istore14 S dL_refuses_408 (by decide) rfl (n := 410) rfl ?_
  refine k_iinc15 S dL_refuses_410 (v := 6) (by decide) (by decide) (n := 413) rfl ?_
  refine k_goto S dL_refuses_413 (tgt := 331) (by decide) ?_
  refine k_iload15 S dL_refuses_331 (n := 333) rfl ?_
  refine k_bipush S dL_refuses_333 (v := 17) (by decide) (n := 335) rfl ?_
  refine k_icmp_ge S dL_refuses_335 (tgt := 416) (by decide) (n := 338) rfl (fun h9 => absurd h9 (by decide)) (fun _ => ?_)
  refine k_iload15 S dL_refuses_338 (n := 340) rfl ?_
  refine k_iconst S dL_refuses_340 (v := 5) (by decide) (n := 341) rfl ?_
  refine k_icmp_le S dL_refuses_341 (tgt := 355) (by decide) (n := 344) rfl (fun h9 => absurd h9 (by decide)) (fun _ => ?_)
  refine k_iload15 S dL_refuses_344 (n := 346) rfl ?_
  refine k_bipush S dL_refuses_346 (v := 10) (by decide) (n := 348) rfl ?_
  refine k_icmp_ge S dL_refuses_348 (tgt := 355) (by decide) (n := 351) rfl (fun h9 => absurd h9 (by decide)) (fun _ => ?_)
  refine k_iconst S dL_refuses_351 (v := 1) (by decide) (n := 352) rfl ?_
  refine k_goto S dL_refuses_352 (tgt := 356) (by decide) ?_
  refine k_istore16 S dL_refuses_356 (by decide) rfl (n := 358) rfl ?_
  refine k_iload14 S dL_refuses_358 (n := 360) rfl ?_
  refine k_if_eq S dL_refuses_360 (tgt := 407) (by decide) (n := 363) rfl (fun h9 => absurd h9 (by decide)) (fun _ => ?_)
  refine k_iload15 S dL_refuses_363 (n := 365) rfl ?_
  refine k_bipush S dL_refuses_365 (v := 12) (by decide) (n := 367) rfl ?_
  refine k_icmp_eq S dL_refuses_367 (tgt := 403) (by decide) (n := 370) rfl (fun h9 => absurd h9 (by decide)) (fun _ => ?_)
  refine k_iload15 S dL_refuses_370 (n := 372) rfl ?_
  refine k_bipush S dL_refuses_372 (v := 14) (by decide) (n := 374) rfl ?_
  refine k_icmp_eq S dL_refuses_374 (tgt := 403) (by decide) (n := 377) rfl (fun h9 => absurd h9 (by decide)) (fun _ => ?_)
  refine k_aload0 S dL_refuses_377 (n := 378) rfl ?_
  refine k_iload15 S dL_refuses_378 (n := 380) rfl ?_
  refine k_iload16 S dL_refuses_380 (n := 382) rfl ?_
  refine k_if_eq S dL_refuses_382 (tgt := 390) (by decide) (n := 385) rfl (fun h9 => absurd h9 (by decide)) (fun _ => ?_)
  refine k_iload12 S dL_refuses_385 (n := 387) rfl ?_
  refine k_goto S dL_refuses_387 (tgt := 392) (by decide) ?_
  refine k_iconst S dL_refuses_392 (v := 0) (by decide) (n := 393) rfl ?_
  refine k_iconst S dL_refuses_393 (v := 0) (by decide) (n := 394) rfl ?_
  refine k_callH (As := [.ref (za g 0), .int 6, .int (nI c), .int 0, .int 0]) (rest := []) S (x_act6 (Or.inl rfl) (n_points_place V (zin_d (Nat.le_trans V.c10 (by decide))))) mv_L_act m_457 dL_refuses_394 rfl rfl ⟨by decide, by decide⟩ rfl rfl (Nat.le_of_ble_eq_true rfl) ⟨by decide, by decide⟩ (n := 397) rfl (fun _ _ h => h.elim) (fun v9 ν9 h9 => ?_)
  rw [h9.1, h9.2]
  show zK x g ({ frames := 10, cells := 192, slots := 1152, locals := 184 } : Room) 17 67 402 397 [some (.ref (za g 0)), some (.int (nI d)), some (.int (nI c)), some (.int al), some (.long ((-99000011))), none, some (.long ((-99000012))), none, some (.int 2147483647), some (.int 1), some (.int ((-2147483648))), some (.int (nI d)), some (.int (nI c)), some (.int 10000), some (.int 1), some (.int 6), some (.int 1)] [.long ((zcd "java/lang/IndexOutOfBoundsException"))] μ
  refine k_topl (-99000011) zcd_p ?_
  refine k_lload4 S dL_refuses_397 (n := 399) rfl ?_
  refine k_lcmp S dL_refuses_399 (n := 400) rfl ?_
  refine k_top 0 (by decide) ?_
  refine k_if_ne S dL_refuses_400 (tgt := 407) (by decide) (n := 403) rfl (fun h9 => absurd (by decide) h9) (fun _ => ?_)
  refine k_iconst S dL_refuses_403 (v := 1) (by decide) (n := 404) rfl ?_
  refine k_goto S dL_refuses_404 (tgt := 408) (by decide) ?_
  refine k_istore14 S dL_refuses_408 (by decide) rfl (n := 410) rfl ?_
  refine k_iinc15 S dL_refuses_410 (v := 7) (by decide) (by decide) (n := 413) rfl ?_
  refine k_goto S dL_refuses_413 (tgt := 331) (by decide) ?_
  refine k_iload15 S dL_refuses_331 (n := 333) rfl ?_
  refine k_bipush S dL_refuses_333 (v := 17) (by decide) (n := 335) rfl ?_
  refine k_icmp_ge S dL_refuses_335 (tgt := 416) (by decide) (n := 338) rfl (fun h9 => absurd h9 (by decide)) (fun _ => ?_)
  refine k_iload15 S dL_refuses_338 (n := 340) rfl ?_
  refine k_iconst S dL_refuses_340 (v := 5) (by decide) (n := 341) rfl ?_
  refine k_icmp_le S dL_refuses_341 (tgt := 355) (by decide) (n := 344) rfl (fun h9 => absurd h9 (by decide)) (fun _ => ?_)
  refine k_iload15 S dL_refuses_344 (n := 346) rfl ?_
  refine k_bipush S dL_refuses_346 (v := 10) (by decide) (n := 348) rfl ?_
  refine k_icmp_ge S dL_refuses_348 (tgt := 355) (by decide) (n := 351) rfl (fun h9 => absurd h9 (by decide)) (fun _ => ?_)
  refine k_iconst S dL_refuses_351 (v := 1) (by decide) (n := 352) rfl ?_
  refine k_goto S dL_refuses_352 (tgt := 356) (by decide) ?_
  refine k_istore16 S dL_refuses_356 (by decide) rfl (n := 358) rfl ?_
  refine k_iload14 S dL_refuses_358 (n := 360) rfl ?_
  refine k_if_eq S dL_refuses_360 (tgt := 407) (by decide) (n := 363) rfl (fun h9 => absurd h9 (by decide)) (fun _ => ?_)
  refine k_iload15 S dL_refuses_363 (n := 365) rfl ?_
  refine k_bipush S dL_refuses_365 (v := 12) (by decide) (n := 367) rfl ?_
  refine k_icmp_eq S dL_refuses_367 (tgt := 403) (by decide) (n := 370) rfl (fun h9 => absurd h9 (by decide)) (fun _ => ?_)
  refine k_iload15 S dL_refuses_370 (n := 372) rfl ?_
  refine k_bipush S dL_refuses_372 (v := 14) (by decide) (n := 374) rfl ?_
  refine k_icmp_eq S dL_refuses_374 (tgt := 403) (by decide) (n := 377) rfl (fun h9 => absurd h9 (by decide)) (fun _ => ?_)
  refine k_aload0 S dL_refuses_377 (n := 378) rfl ?_
  refine k_iload15 S dL_refuses_378 (n := 380) rfl ?_
  refine k_iload16 S dL_refuses_380 (n := 382) rfl ?_
  refine k_if_eq S dL_refuses_382 (tgt := 390) (by decide) (n := 385) rfl (fun h9 => absurd h9 (by decide)) (fun _ => ?_)
  refine k_iload12 S dL_refuses_385 (n := 387) rfl ?_
  refine k_goto S dL_refuses_387 (tgt := 392) (by decide) ?_
  refine k_iconst S dL_refuses_392 (v := 0) (by decide) (n := 393) rfl ?_
  refine k_iconst S dL_refuses_393 (v := 0) (by decide) (n := 394) rfl ?_
  refine k_callH (As := [.ref (za g 0), .int 7, .int (nI c), .int 0, .int 0]) (rest := []) S (x_act7 (Or.inl rfl) (n_center_place V (zin_d (Nat.le_trans V.c10 (by decide))))) mv_L_act m_457 dL_refuses_394 rfl rfl ⟨by decide, by decide⟩ rfl rfl (Nat.le_of_ble_eq_true rfl) ⟨by decide, by decide⟩ (n := 397) rfl (fun _ _ h => h.elim) (fun v9 ν9 h9 => ?_)
  rw [h9.1, h9.2]
  show zK x g ({ frames := 10, cells := 192, slots := 1152, locals := 184 } : Room) 17 69 414 397 [some (.ref (za g 0)), some (.int (nI d)), some (.int (nI c)), some (.int al), some (.long ((-99000011))), none, some (.long ((-99000012))), none, some (.int 2147483647), some (.int 1), some (.int ((-2147483648))), some (.int (nI d)), some (.int (nI c)), some (.int 10000), some (.int 1), some (.int 7), some (.int 1)] [.long ((zcd "java/lang/IndexOutOfBoundsException"))] μ
  refine k_topl (-99000011) zcd_p ?_
  refine k_lload4 S dL_refuses_397 (n := 399) rfl ?_
  refine k_lcmp S dL_refuses_399 (n := 400) rfl ?_
  refine k_top 0 (by decide) ?_
  refine k_if_ne S dL_refuses_400 (tgt := 407) (by decide) (n := 403) rfl (fun h9 => absurd (by decide) h9) (fun _ => ?_)
  refine k_iconst S dL_refuses_403 (v := 1) (by decide) (n := 404) rfl ?_
  refine k_goto S dL_refuses_404 (tgt := 408) (by decide) ?_
  refine k_istore14 S dL_refuses_408 (by decide) rfl (n := 410) rfl ?_
  refine k_iinc15 S dL_refuses_410 (v := 8) (by decide) (by decide) (n := 413) rfl ?_
  refine k_goto S dL_refuses_413 (tgt := 331) (by decide) ?_
  refine k_iload15 S dL_refuses_331 (n := 333) rfl ?_
  refine k_bipush S dL_refuses_333 (v := 17) (by decide) (n := 335) rfl ?_
  refine k_icmp_ge S dL_refuses_335 (tgt := 416) (by decide) (n := 338) rfl (fun h9 => absurd h9 (by decide)) (fun _ => ?_)
  refine k_iload15 S dL_refuses_338 (n := 340) rfl ?_
  refine k_iconst S dL_refuses_340 (v := 5) (by decide) (n := 341) rfl ?_
  refine k_icmp_le S dL_refuses_341 (tgt := 355) (by decide) (n := 344) rfl (fun h9 => absurd h9 (by decide)) (fun _ => ?_)
  refine k_iload15 S dL_refuses_344 (n := 346) rfl ?_
  refine k_bipush S dL_refuses_346 (v := 10) (by decide) (n := 348) rfl ?_
  refine k_icmp_ge S dL_refuses_348 (tgt := 355) (by decide) (n := 351) rfl (fun h9 => absurd h9 (by decide)) (fun _ => ?_)
  refine k_iconst S dL_refuses_351 (v := 1) (by decide) (n := 352) rfl ?_
  refine k_goto S dL_refuses_352 (tgt := 356) (by decide) ?_
  refine k_istore16 S dL_refuses_356 (by decide) rfl (n := 358) rfl ?_
  refine k_iload14 S dL_refuses_358 (n := 360) rfl ?_
  refine k_if_eq S dL_refuses_360 (tgt := 407) (by decide) (n := 363) rfl (fun h9 => absurd h9 (by decide)) (fun _ => ?_)
  refine k_iload15 S dL_refuses_363 (n := 365) rfl ?_
  refine k_bipush S dL_refuses_365 (v := 12) (by decide) (n := 367) rfl ?_
  refine k_icmp_eq S dL_refuses_367 (tgt := 403) (by decide) (n := 370) rfl (fun h9 => absurd h9 (by decide)) (fun _ => ?_)
  refine k_iload15 S dL_refuses_370 (n := 372) rfl ?_
  refine k_bipush S dL_refuses_372 (v := 14) (by decide) (n := 374) rfl ?_
  refine k_icmp_eq S dL_refuses_374 (tgt := 403) (by decide) (n := 377) rfl (fun h9 => absurd h9 (by decide)) (fun _ => ?_)
  refine k_aload0 S dL_refuses_377 (n := 378) rfl ?_
  refine k_iload15 S dL_refuses_378 (n := 380) rfl ?_
  refine k_iload16 S dL_refuses_380 (n := 382) rfl ?_
  refine k_if_eq S dL_refuses_382 (tgt := 390) (by decide) (n := 385) rfl (fun h9 => absurd h9 (by decide)) (fun _ => ?_)
  refine k_iload12 S dL_refuses_385 (n := 387) rfl ?_
  refine k_goto S dL_refuses_387 (tgt := 392) (by decide) ?_
  refine k_iconst S dL_refuses_392 (v := 0) (by decide) (n := 393) rfl ?_
  refine k_iconst S dL_refuses_393 (v := 0) (by decide) (n := 394) rfl ?_
  refine k_callH (As := [.ref (za g 0), .int 8, .int (nI c), .int 0, .int 0]) (rest := []) S (x_act8 (Or.inl rfl) (n_width_place V (zin_d (Nat.le_trans V.c10 (by decide))))) mv_L_act m_457 dL_refuses_394 rfl rfl ⟨by decide, by decide⟩ rfl rfl (Nat.le_of_ble_eq_true rfl) ⟨by decide, by decide⟩ (n := 397) rfl (fun _ _ h => h.elim) (fun v9 ν9 h9 => ?_)
  rw [h9.1, h9.2]
  show zK x g ({ frames := 10, cells := 192, slots := 1152, locals := 184 } : Room) 17 71 426 397 [some (.ref (za g 0)), some (.int (nI d)), some (.int (nI c)), some (.int al), some (.long ((-99000011))), none, some (.long ((-99000012))), none, some (.int 2147483647), some (.int 1), some (.int ((-2147483648))), some (.int (nI d)), some (.int (nI c)), some (.int 10000), some (.int 1), some (.int 8), some (.int 1)] [.long ((zcd "java/lang/IndexOutOfBoundsException"))] μ
  refine k_topl (-99000011) zcd_p ?_
  refine k_lload4 S dL_refuses_397 (n := 399) rfl ?_
  refine k_lcmp S dL_refuses_399 (n := 400) rfl ?_
  refine k_top 0 (by decide) ?_
  refine k_if_ne S dL_refuses_400 (tgt := 407) (by decide) (n := 403) rfl (fun h9 => absurd (by decide) h9) (fun _ => ?_)
  refine k_iconst S dL_refuses_403 (v := 1) (by decide) (n := 404) rfl ?_
  refine k_goto S dL_refuses_404 (tgt := 408) (by decide) ?_
  refine k_istore14 S dL_refuses_408 (by decide) rfl (n := 410) rfl ?_
  refine k_iinc15 S dL_refuses_410 (v := 9) (by decide) (by decide) (n := 413) rfl ?_
  refine k_goto S dL_refuses_413 (tgt := 331) (by decide) ?_
  refine k_iload15 S dL_refuses_331 (n := 333) rfl ?_
  refine k_bipush S dL_refuses_333 (v := 17) (by decide) (n := 335) rfl ?_
  refine k_icmp_ge S dL_refuses_335 (tgt := 416) (by decide) (n := 338) rfl (fun h9 => absurd h9 (by decide)) (fun _ => ?_)
  refine k_iload15 S dL_refuses_338 (n := 340) rfl ?_
  refine k_iconst S dL_refuses_340 (v := 5) (by decide) (n := 341) rfl ?_
  refine k_icmp_le S dL_refuses_341 (tgt := 355) (by decide) (n := 344) rfl (fun h9 => absurd h9 (by decide)) (fun _ => ?_)
  refine k_iload15 S dL_refuses_344 (n := 346) rfl ?_
  refine k_bipush S dL_refuses_346 (v := 10) (by decide) (n := 348) rfl ?_
  refine k_icmp_ge S dL_refuses_348 (tgt := 355) (by decide) (n := 351) rfl (fun h9 => absurd h9 (by decide)) (fun _ => ?_)
  refine k_iconst S dL_refuses_351 (v := 1) (by decide) (n := 352) rfl ?_
  refine k_goto S dL_refuses_352 (tgt := 356) (by decide) ?_
  refine k_istore16 S dL_refuses_356 (by decide) rfl (n := 358) rfl ?_
  refine k_iload14 S dL_refuses_358 (n := 360) rfl ?_
  refine k_if_eq S dL_refuses_360 (tgt := 407) (by decide) (n := 363) rfl (fun h9 => absurd h9 (by decide)) (fun _ => ?_)
  refine k_iload15 S dL_refuses_363 (n := 365) rfl ?_
  refine k_bipush S dL_refuses_365 (v := 12) (by decide) (n := 367) rfl ?_
  refine k_icmp_eq S dL_refuses_367 (tgt := 403) (by decide) (n := 370) rfl (fun h9 => absurd h9 (by decide)) (fun _ => ?_)
  refine k_iload15 S dL_refuses_370 (n := 372) rfl ?_
  refine k_bipush S dL_refuses_372 (v := 14) (by decide) (n := 374) rfl ?_
  refine k_icmp_eq S dL_refuses_374 (tgt := 403) (by decide) (n := 377) rfl (fun h9 => absurd h9 (by decide)) (fun _ => ?_)
  refine k_aload0 S dL_refuses_377 (n := 378) rfl ?_
  refine k_iload15 S dL_refuses_378 (n := 380) rfl ?_
  refine k_iload16 S dL_refuses_380 (n := 382) rfl ?_
  refine k_if_eq S dL_refuses_382 (tgt := 390) (by decide) (n := 385) rfl (fun h9 => absurd h9 (by decide)) (fun _ => ?_)
  refine k_iload12 S dL_refuses_385 (n := 387) rfl ?_
  refine k_goto S dL_refuses_387 (tgt := 392) (by decide) ?_
  refine k_iconst S dL_refuses_392 (v := 0) (by decide) (n := 393) rfl ?_
  refine k_iconst S dL_refuses_393 (v := 0) (by decide) (n := 394) rfl ?_
  refine k_callH (As := [.ref (za g 0), .int 9, .int (nI c), .int 0, .int 0]) (rest := []) S (x_act9 (Or.inl rfl) (n_rangeLimit_place V (zin_d (Nat.le_trans V.c10 (by decide))))) mv_L_act m_457 dL_refuses_394 rfl rfl ⟨by decide, by decide⟩ rfl rfl (Nat.le_of_ble_eq_true rfl) ⟨by decide, by decide⟩ (n := 397) rfl (fun _ _ h => h.elim) (fun v9 ν9 h9 => ?_)
  rw [h9.1, h9.2]
  show zK x g ({ frames := 10, cells := 192, slots := 1152, locals := 184 } : Room) 17 73 438 397 [some (.ref (za g 0)), some (.int (nI d)), some (.int (nI c)), some (.int al), some (.long ((-99000011))), none, some (.long ((-99000012))), none, some (.int 2147483647), some (.int 1), some (.int ((-2147483648))), some (.int (nI d)), some (.int (nI c)), some (.int 10000), some (.int 1), some (.int 9), some (.int 1)] [.long ((zcd "java/lang/IndexOutOfBoundsException"))] μ
  refine k_topl (-99000011) zcd_p ?_
  refine k_lload4 S dL_refuses_397 (n := 399) rfl ?_
  refine k_lcmp S dL_refuses_399 (n := 400) rfl ?_
  refine k_top 0 (by decide) ?_
  refine k_if_ne S dL_refuses_400 (tgt := 407) (by decide) (n := 403) rfl (fun h9 => absurd (by decide) h9) (fun _ => ?_)
  refine k_iconst S dL_refuses_403 (v := 1) (by decide) (n := 404) rfl ?_
  refine k_goto S dL_refuses_404 (tgt := 408) (by decide) ?_
  refine k_istore14 S dL_refuses_408 (by decide) rfl (n := 410) rfl ?_
  refine k_iinc15 S dL_refuses_410 (v := 10) (by decide) (by decide) (n := 413) rfl ?_
  refine k_goto S dL_refuses_413 (tgt := 331) (by decide) ?_
  refine k_iload15 S dL_refuses_331 (n := 333) rfl ?_
  refine k_bipush S dL_refuses_333 (v := 17) (by decide) (n := 335) rfl ?_
  refine k_icmp_ge S dL_refuses_335 (tgt := 416) (by decide) (n := 338) rfl (fun h9 => absurd h9 (by decide)) (fun _ => ?_)
  refine k_iload15 S dL_refuses_338 (n := 340) rfl ?_
  refine k_iconst S dL_refuses_340 (v := 5) (by decide) (n := 341) rfl ?_
  refine k_icmp_le S dL_refuses_341 (tgt := 355) (by decide) (n := 344) rfl (fun h9 => absurd h9 (by decide)) (fun _ => ?_)
  refine k_iload15 S dL_refuses_344 (n := 346) rfl ?_
  refine k_bipush S dL_refuses_346 (v := 10) (by decide) (n := 348) rfl ?_
  refine k_icmp_ge S dL_refuses_348 (tgt := 355) (by decide) (n := 351) rfl (fun _ => ?_) (fun h9 => absurd (by decide) h9)
  refine k_iconst S dL_refuses_355 (v := 0) (by decide) (n := 356) rfl ?_
  refine k_istore16 S dL_refuses_356 (by decide) rfl (n := 358) rfl ?_
  refine k_iload14 S dL_refuses_358 (n := 360) rfl ?_
  refine k_if_eq S dL_refuses_360 (tgt := 407) (by decide) (n := 363) rfl (fun h9 => absurd h9 (by decide)) (fun _ => ?_)
  refine k_iload15 S dL_refuses_363 (n := 365) rfl ?_
  refine k_bipush S dL_refuses_365 (v := 12) (by decide) (n := 367) rfl ?_
  refine k_icmp_eq S dL_refuses_367 (tgt := 403) (by decide) (n := 370) rfl (fun h9 => absurd h9 (by decide)) (fun _ => ?_)
  refine k_iload15 S dL_refuses_370 (n := 372) rfl ?_
  refine k_bipush S dL_refuses_372 (v := 14) (by decide) (n := 374) rfl ?_
  refine k_icmp_eq S dL_refuses_374 (tgt := 403) (by decide) (n := 377) rfl (fun h9 => absurd h9 (by decide)) (fun _ => ?_)
  refine k_aload0 S dL_refuses_377 (n := 378) rfl ?_
  refine k_iload15 S dL_refuses_378 (n := 380) rfl ?_
  refine k_iload16 S dL_refuses_380 (n := 382) rfl ?_
  refine k_if_eq S dL_refuses_382 (tgt := 390) (by decide) (n := 385) rfl (fun _ => ?_) (fun h9 => absurd (by decide) h9)
  refine k_iload11 S dL_refuses_390 (n := 392) rfl ?_
  refine k_iconst S dL_refuses_392 (v := 0) (by decide) (n := 393) rfl ?_
  refine k_iconst S dL_refuses_393 (v := 0) (by decide) (n := 394) rfl ?_
  refine k_callH (As := [.ref (za g 0), .int 10, .int (nI d), .int 0, .int 0]) (rest := []) S (x_act10 (Or.inl rfl) (n_signals_place V (zin_d V.d60))) mv_L_act m_457 dL_refuses_394 rfl rfl ⟨by decide, by decide⟩ rfl rfl (Nat.le_of_ble_eq_true rfl) ⟨by decide, by decide⟩ (n := 397) rfl (fun _ _ h => h.elim) (fun v9 ν9 h9 => ?_)
  rw [h9.1, h9.2]
  show zK x g ({ frames := 10, cells := 192, slots := 1152, locals := 184 } : Room) 17 74 444 397 [some (.ref (za g 0)), some (.int (nI d)), some (.int (nI c)), some (.int al), some (.long ((-99000011))), none, some (.long ((-99000012))), none, some (.int 2147483647), some (.int 1), some (.int ((-2147483648))), some (.int (nI d)), some (.int (nI c)), some (.int 10000), some (.int 1), some (.int 10), some (.int 0)] [.long ((zcd "java/lang/IndexOutOfBoundsException"))] μ
  refine k_topl (-99000011) zcd_p ?_
  refine k_lload4 S dL_refuses_397 (n := 399) rfl ?_
  refine k_lcmp S dL_refuses_399 (n := 400) rfl ?_
  refine k_top 0 (by decide) ?_
  refine k_if_ne S dL_refuses_400 (tgt := 407) (by decide) (n := 403) rfl (fun h9 => absurd (by decide) h9) (fun _ => ?_)
  refine k_iconst S dL_refuses_403 (v := 1) (by decide) (n := 404) rfl ?_
  refine k_goto S dL_refuses_404 (tgt := 408) (by decide) ?_
  refine k_istore14 S dL_refuses_408 (by decide) rfl (n := 410) rfl ?_
  refine k_iinc15 S dL_refuses_410 (v := 11) (by decide) (by decide) (n := 413) rfl ?_
  refine k_goto S dL_refuses_413 (tgt := 331) (by decide) ?_
  refine k_iload15 S dL_refuses_331 (n := 333) rfl ?_
  refine k_bipush S dL_refuses_333 (v := 17) (by decide) (n := 335) rfl ?_
  refine k_icmp_ge S dL_refuses_335 (tgt := 416) (by decide) (n := 338) rfl (fun h9 => absurd h9 (by decide)) (fun _ => ?_)
  refine k_iload15 S dL_refuses_338 (n := 340) rfl ?_
  refine k_iconst S dL_refuses_340 (v := 5) (by decide) (n := 341) rfl ?_
  refine k_icmp_le S dL_refuses_341 (tgt := 355) (by decide) (n := 344) rfl (fun h9 => absurd h9 (by decide)) (fun _ => ?_)
  refine k_iload15 S dL_refuses_344 (n := 346) rfl ?_
  refine k_bipush S dL_refuses_346 (v := 10) (by decide) (n := 348) rfl ?_
  refine k_icmp_ge S dL_refuses_348 (tgt := 355) (by decide) (n := 351) rfl (fun _ => ?_) (fun h9 => absurd (by decide) h9)
  refine k_iconst S dL_refuses_355 (v := 0) (by decide) (n := 356) rfl ?_
  refine k_istore16 S dL_refuses_356 (by decide) rfl (n := 358) rfl ?_
  refine k_iload14 S dL_refuses_358 (n := 360) rfl ?_
  refine k_if_eq S dL_refuses_360 (tgt := 407) (by decide) (n := 363) rfl (fun h9 => absurd h9 (by decide)) (fun _ => ?_)
  refine k_iload15 S dL_refuses_363 (n := 365) rfl ?_
  refine k_bipush S dL_refuses_365 (v := 12) (by decide) (n := 367) rfl ?_
  refine k_icmp_eq S dL_refuses_367 (tgt := 403) (by decide) (n := 370) rfl (fun h9 => absurd h9 (by decide)) (fun _ => ?_)
  refine k_iload15 S dL_refuses_370 (n := 372) rfl ?_
  refine k_bipush S dL_refuses_372 (v := 14) (by decide) (n := 374) rfl ?_
  refine k_icmp_eq S dL_refuses_374 (tgt := 403) (by decide) (n := 377) rfl (fun h9 => absurd h9 (by decide)) (fun _ => ?_)
  refine k_aload0 S dL_refuses_377 (n := 378) rfl ?_
  refine k_iload15 S dL_refuses_378 (n := 380) rfl ?_
  refine k_iload16 S dL_refuses_380 (n := 382) rfl ?_
  refine k_if_eq S dL_refuses_382 (tgt := 390) (by decide) (n := 385) rfl (fun _ => ?_) (fun h9 => absurd (by decide) h9)
  refine k_iload11 S dL_refuses_390 (n := 392) rfl ?_
  refine k_iconst S dL_refuses_392 (v := 0) (by decide) (n := 393) rfl ?_
  refine k_iconst S dL_refuses_393 (v := 0) (by decide) (n := 394) rfl ?_
  refine k_callH (As := [.ref (za g 0), .int 11, .int (nI d), .int 0, .int 0]) (rest := []) S (x_act11 (Or.inl rfl) (n_signalsByWindows_place V (zin_d V.d60))) mv_L_act m_457 dL_refuses_394 rfl rfl ⟨by decide, by decide⟩ rfl rfl (Nat.le_of_ble_eq_true rfl) ⟨by decide, by decide⟩ (n := 397) rfl (fun _ _ h => h.elim) (fun v9 ν9 h9 => ?_)
  rw [h9.1, h9.2]
  show zK x g ({ frames := 10, cells := 192, slots := 1152, locals := 184 } : Room) 17 75 450 397 [some (.ref (za g 0)), some (.int (nI d)), some (.int (nI c)), some (.int al), some (.long ((-99000011))), none, some (.long ((-99000012))), none, some (.int 2147483647), some (.int 1), some (.int ((-2147483648))), some (.int (nI d)), some (.int (nI c)), some (.int 10000), some (.int 1), some (.int 11), some (.int 0)] [.long ((zcd "java/lang/IndexOutOfBoundsException"))] μ
  refine k_topl (-99000011) zcd_p ?_
  refine k_lload4 S dL_refuses_397 (n := 399) rfl ?_
  refine k_lcmp S dL_refuses_399 (n := 400) rfl ?_
  refine k_top 0 (by decide) ?_
  refine k_if_ne S dL_refuses_400 (tgt := 407) (by decide) (n := 403) rfl (fun h9 => absurd (by decide) h9) (fun _ => ?_)
  refine k_iconst S dL_refuses_403 (v := 1) (by decide) (n := 404) rfl ?_
  refine k_goto S dL_refuses_404 (tgt := 408) (by decide) ?_
  refine k_istore14 S dL_refuses_408 (by decide) rfl (n := 410) rfl ?_
  refine k_iinc15 S dL_refuses_410 (v := 12) (by decide) (by decide) (n := 413) rfl ?_
  refine k_goto S dL_refuses_413 (tgt := 331) (by decide) ?_
  refine k_iload15 S dL_refuses_331 (n := 333) rfl ?_
  refine k_bipush S dL_refuses_333 (v := 17) (by decide) (n := 335) rfl ?_
  refine k_icmp_ge S dL_refuses_335 (tgt := 416) (by decide) (n := 338) rfl (fun h9 => absurd h9 (by decide)) (fun _ => ?_)
  refine k_iload15 S dL_refuses_338 (n := 340) rfl ?_
  refine k_iconst S dL_refuses_340 (v := 5) (by decide) (n := 341) rfl ?_
  refine k_icmp_le S dL_refuses_341 (tgt := 355) (by decide) (n := 344) rfl (fun h9 => absurd h9 (by decide)) (fun _ => ?_)
  refine k_iload15 S dL_refuses_344 (n := 346) rfl ?_
  refine k_bipush S dL_refuses_346 (v := 10) (by decide) (n := 348) rfl ?_
  refine k_icmp_ge S dL_refuses_348 (tgt := 355) (by decide) (n := 351) rfl (fun _ => ?_) (fun h9 => absurd (by decide) h9)
  refine k_iconst S dL_refuses_355 (v := 0) (by decide) (n := 356) rfl ?_
  refine k_istore16 S dL_refuses_356 (by decide) rfl (n := 358) rfl ?_
  refine k_iload14 S dL_refuses_358 (n := 360) rfl ?_
  refine k_if_eq S dL_refuses_360 (tgt := 407) (by decide) (n := 363) rfl (fun h9 => absurd h9 (by decide)) (fun _ => ?_)
  refine k_iload15 S dL_refuses_363 (n := 365) rfl ?_
  refine k_bipush S dL_refuses_365 (v := 12) (by decide) (n := 367) rfl ?_
  refine k_icmp_eq S dL_refuses_367 (tgt := 403) (by decide) (n := 370) rfl (fun _ => ?_) (fun h9 => absurd (by decide) h9)
  refine k_iconst S dL_refuses_403 (v := 1) (by decide) (n := 404) rfl ?_
  refine k_goto S dL_refuses_404 (tgt := 408) (by decide) ?_
  refine k_istore14 S dL_refuses_408 (by decide) rfl (n := 410) rfl ?_
  refine k_iinc15 S dL_refuses_410 (v := 13) (by decide) (by decide) (n := 413) rfl ?_
  refine k_goto S dL_refuses_413 (tgt := 331) (by decide) ?_
  refine k_iload15 S dL_refuses_331 (n := 333) rfl ?_
  refine k_bipush S dL_refuses_333 (v := 17) (by decide) (n := 335) rfl ?_
  refine k_icmp_ge S dL_refuses_335 (tgt := 416) (by decide) (n := 338) rfl (fun h9 => absurd h9 (by decide)) (fun _ => ?_)
  refine k_iload15 S dL_refuses_338 (n := 340) rfl ?_
  refine k_iconst S dL_refuses_340 (v := 5) (by decide) (n := 341) rfl ?_
  refine k_icmp_le S dL_refuses_341 (tgt := 355) (by decide) (n := 344) rfl (fun h9 => absurd h9 (by decide)) (fun _ => ?_)
  refine k_iload15 S dL_refuses_344 (n := 346) rfl ?_
  refine k_bipush S dL_refuses_346 (v := 10) (by decide) (n := 348) rfl ?_
  refine k_icmp_ge S dL_refuses_348 (tgt := 355) (by decide) (n := 351) rfl (fun _ => ?_) (fun h9 => absurd (by decide) h9)
  refine k_iconst S dL_refuses_355 (v := 0) (by decide) (n := 356) rfl ?_
  refine k_istore16 S dL_refuses_356 (by decide) rfl (n := 358) rfl ?_
  refine k_iload14 S dL_refuses_358 (n := 360) rfl ?_
  refine k_if_eq S dL_refuses_360 (tgt := 407) (by decide) (n := 363) rfl (fun h9 => absurd h9 (by decide)) (fun _ => ?_)
  refine k_iload15 S dL_refuses_363 (n := 365) rfl ?_
  refine k_bipush S dL_refuses_365 (v := 12) (by decide) (n := 367) rfl ?_
  refine k_icmp_eq S dL_refuses_367 (tgt := 403) (by decide) (n := 370) rfl (fun h9 => absurd h9 (by decide)) (fun _ => ?_)
  refine k_iload15 S dL_refuses_370 (n := 372) rfl ?_
  refine k_bipush S dL_refuses_372 (v := 14) (by decide) (n := 374) rfl ?_
  refine k_icmp_eq S dL_refuses_374 (tgt := 403) (by decide) (n := 377) rfl (fun h9 => absurd h9 (by decide)) (fun _ => ?_)
  refine k_aload0 S dL_refuses_377 (n := 378) rfl ?_
  refine k_iload15 S dL_refuses_378 (n := 380) rfl ?_
  refine k_iload16 S dL_refuses_380 (n := 382) rfl ?_
  refine k_if_eq S dL_refuses_382 (tgt := 390) (by decide) (n := 385) rfl (fun _ => ?_) (fun h9 => absurd (by decide) h9)
  refine k_iload11 S dL_refuses_390 (n := 392) rfl ?_
  refine k_iconst S dL_refuses_392 (v := 0) (by decide) (n := 393) rfl ?_
  refine k_iconst S dL_refuses_393 (v := 0) (by decide) (n := 394) rfl ?_
  refine k_callH (As := [.ref (za g 0), .int 13, .int (nI d), .int 0, .int 0]) (rest := []) S (x_act13 (Or.inl rfl) (n_isWide_place V (zin_d V.d60))) mv_L_act m_457 dL_refuses_394 rfl rfl ⟨by decide, by decide⟩ rfl rfl (Nat.le_of_ble_eq_true rfl) ⟨by decide, by decide⟩ (n := 397) rfl (fun _ _ h => h.elim) (fun v9 ν9 h9 => ?_)
  rw [h9.1, h9.2]
  show zK x g ({ frames := 10, cells := 192, slots := 1152, locals := 184 } : Room) 17 76 456 397 [some (.ref (za g 0)), some (.int (nI d)), some (.int (nI c)), some (.int al), some (.long ((-99000011))), none, some (.long ((-99000012))), none, some (.int 2147483647), some (.int 1), some (.int ((-2147483648))), some (.int (nI d)), some (.int (nI c)), some (.int 10000), some (.int 1), some (.int 13), some (.int 0)] [.long ((zcd "java/lang/IndexOutOfBoundsException"))] μ
  refine k_topl (-99000011) zcd_p ?_
  refine k_lload4 S dL_refuses_397 (n := 399) rfl ?_
  refine k_lcmp S dL_refuses_399 (n := 400) rfl ?_
  refine k_top 0 (by decide) ?_
  refine k_if_ne S dL_refuses_400 (tgt := 407) (by decide) (n := 403) rfl (fun h9 => absurd (by decide) h9) (fun _ => ?_)
  refine k_iconst S dL_refuses_403 (v := 1) (by decide) (n := 404) rfl ?_
  refine k_goto S dL_refuses_404 (tgt := 408) (by decide) ?_
  refine k_istore14 S dL_refuses_408 (by decide) rfl (n := 410) rfl ?_
  refine k_iinc15 S dL_refuses_410 (v := 14) (by decide) (by decide) (n := 413) rfl ?_
  refine k_goto S dL_refuses_413 (tgt := 331) (by decide) ?_
  refine k_iload15 S dL_refuses_331 (n := 333) rfl ?_
  refine k_bipush S dL_refuses_333 (v := 17) (by decide) (n := 335) rfl ?_
  refine k_icmp_ge S dL_refuses_335 (tgt := 416) (by decide) (n := 338) rfl (fun h9 => absurd h9 (by decide)) (fun _ => ?_)
  refine k_iload15 S dL_refuses_338 (n := 340) rfl ?_
  refine k_iconst S dL_refuses_340 (v := 5) (by decide) (n := 341) rfl ?_
  refine k_icmp_le S dL_refuses_341 (tgt := 355) (by decide) (n := 344) rfl (fun h9 => absurd h9 (by decide)) (fun _ => ?_)
  refine k_iload15 S dL_refuses_344 (n := 346) rfl ?_
  refine k_bipush S dL_refuses_346 (v := 10) (by decide) (n := 348) rfl ?_
  refine k_icmp_ge S dL_refuses_348 (tgt := 355) (by decide) (n := 351) rfl (fun _ => ?_) (fun h9 => absurd (by decide) h9)
  refine k_iconst S dL_refuses_355 (v := 0) (by decide) (n := 356) rfl ?_
  refine k_istore16 S dL_refuses_356 (by decide) rfl (n := 358) rfl ?_
  refine k_iload14 S dL_refuses_358 (n := 360) rfl ?_
  refine k_if_eq S dL_refuses_360 (tgt := 407) (by decide) (n := 363) rfl (fun h9 => absurd h9 (by decide)) (fun _ => ?_)
  refine k_iload15 S dL_refuses_363 (n := 365) rfl ?_
  refine k_bipush S dL_refuses_365 (v := 12) (by decide) (n := 367) rfl ?_
  refine k_icmp_eq S dL_refuses_367 (tgt := 403) (by decide) (n := 370) rfl (fun h9 => absurd h9 (by decide)) (fun _ => ?_)
  refine k_iload15 S dL_refuses_370 (n := 372) rfl ?_
  refine k_bipush S dL_refuses_372 (v := 14) (by decide) (n := 374) rfl ?_
  refine k_icmp_eq S dL_refuses_374 (tgt := 403) (by decide) (n := 377) rfl (fun _ => ?_) (fun h9 => absurd (by decide) h9)
  refine k_iconst S dL_refuses_403 (v := 1) (by decide) (n := 404) rfl ?_
  refine k_goto S dL_refuses_404 (tgt := 408) (by decide) ?_
  refine k_istore14 S dL_refuses_408 (by decide) rfl (n := 410) rfl ?_
  refine k_iinc15 S dL_refuses_410 (v := 15) (by decide) (by decide) (n := 413) rfl ?_
  refine k_goto S dL_refuses_413 (tgt := 331) (by decide) ?_
  refine k_iload15 S dL_refuses_331 (n := 333) rfl ?_
  refine k_bipush S dL_refuses_333 (v := 17) (by decide) (n := 335) rfl ?_
  refine k_icmp_ge S dL_refuses_335 (tgt := 416) (by decide) (n := 338) rfl (fun h9 => absurd h9 (by decide)) (fun _ => ?_)
  refine k_iload15 S dL_refuses_338 (n := 340) rfl ?_
  refine k_iconst S dL_refuses_340 (v := 5) (by decide) (n := 341) rfl ?_
  refine k_icmp_le S dL_refuses_341 (tgt := 355) (by decide) (n := 344) rfl (fun h9 => absurd h9 (by decide)) (fun _ => ?_)
  refine k_iload15 S dL_refuses_344 (n := 346) rfl ?_
  refine k_bipush S dL_refuses_346 (v := 10) (by decide) (n := 348) rfl ?_
  refine k_icmp_ge S dL_refuses_348 (tgt := 355) (by decide) (n := 351) rfl (fun _ => ?_) (fun h9 => absurd (by decide) h9)
  refine k_iconst S dL_refuses_355 (v := 0) (by decide) (n := 356) rfl ?_
  refine k_istore16 S dL_refuses_356 (by decide) rfl (n := 358) rfl ?_
  refine k_iload14 S dL_refuses_358 (n := 360) rfl ?_
  refine k_if_eq S dL_refuses_360 (tgt := 407) (by decide) (n := 363) rfl (fun h9 => absurd h9 (by decide)) (fun _ => ?_)
  refine k_iload15 S dL_refuses_363 (n := 365) rfl ?_
  refine k_bipush S dL_refuses_365 (v := 12) (by decide) (n := 367) rfl ?_
  refine k_icmp_eq S dL_refuses_367 (tgt := 403) (by decide) (n := 370) rfl (fun h9 => absurd h9 (by decide)) (fun _ => ?_)
  refine k_iload15 S dL_refuses_370 (n := 372) rfl ?_
  refine k_bipush S dL_refuses_372 (v := 14) (by decide) (n := 374) rfl ?_
  refine k_icmp_eq S dL_refuses_374 (tgt := 403) (by decide) (n := 377) rfl (fun h9 => absurd h9 (by decide)) (fun _ => ?_)
  refine k_aload0 S dL_refuses_377 (n := 378) rfl ?_
  refine k_iload15 S dL_refuses_378 (n := 380) rfl ?_
  refine k_iload16 S dL_refuses_380 (n := 382) rfl ?_
  refine k_if_eq S dL_refuses_382 (tgt := 390) (by decide) (n := 385) rfl (fun _ => ?_) (fun h9 => absurd (by decide) h9)
  refine k_iload11 S dL_refuses_390 (n := 392) rfl ?_
  refine k_iconst S dL_refuses_392 (v := 0) (by decide) (n := 393) rfl ?_
  refine k_iconst S dL_refuses_393 (v := 0) (by decide) (n := 394) rfl ?_
  refine k_callH (As := [.ref (za g 0), .int 15, .int (nI d), .int 0, .int 0]) (rest := []) S (x_act15 (Or.inl rfl) (n_weighted_place V (zin_d V.d60))) mv_L_act m_457 dL_refuses_394 rfl rfl ⟨by decide, by decide⟩ rfl rfl (Nat.le_of_ble_eq_true rfl) ⟨by decide, by decide⟩ (n := 397) rfl (fun _ _ h => h.elim) (fun v9 ν9 h9 => ?_)
  rw [h9.1, h9.2]
  show zK x g ({ frames := 10, cells := 192, slots := 1152, locals := 184 } : Room) 17 78 468 397 [some (.ref (za g 0)), some (.int (nI d)), some (.int (nI c)), some (.int al), some (.long ((-99000011))), none, some (.long ((-99000012))), none, some (.int 2147483647), some (.int 1), some (.int ((-2147483648))), some (.int (nI d)), some (.int (nI c)), some (.int 10000), some (.int 1), some (.int 15), some (.int 0)] [.long ((zcd "java/lang/IndexOutOfBoundsException"))] μ
  refine k_topl (-99000011) zcd_p ?_
  refine k_lload4 S dL_refuses_397 (n := 399) rfl ?_
  refine k_lcmp S dL_refuses_399 (n := 400) rfl ?_
  refine k_top 0 (by decide) ?_
  refine k_if_ne S dL_refuses_400 (tgt := 407) (by decide) (n := 403) rfl (fun h9 => absurd (by decide) h9) (fun _ => ?_)
  refine k_iconst S dL_refuses_403 (v := 1) (by decide) (n := 404) rfl ?_
  refine k_goto S dL_refuses_404 (tgt := 408) (by decide) ?_
  refine k_istore14 S dL_refuses_408 (by decide) rfl (n := 410) rfl ?_
  refine k_iinc15 S dL_refuses_410 (v := 16) (by decide) (by decide) (n := 413) rfl ?_
  refine k_goto S dL_refuses_413 (tgt := 331) (by decide) ?_
  refine k_iload15 S dL_refuses_331 (n := 333) rfl ?_
  refine k_bipush S dL_refuses_333 (v := 17) (by decide) (n := 335) rfl ?_
  refine k_icmp_ge S dL_refuses_335 (tgt := 416) (by decide) (n := 338) rfl (fun h9 => absurd h9 (by decide)) (fun _ => ?_)
  refine k_iload15 S dL_refuses_338 (n := 340) rfl ?_
  refine k_iconst S dL_refuses_340 (v := 5) (by decide) (n := 341) rfl ?_
  refine k_icmp_le S dL_refuses_341 (tgt := 355) (by decide) (n := 344) rfl (fun h9 => absurd h9 (by decide)) (fun _ => ?_)
  refine k_iload15 S dL_refuses_344 (n := 346) rfl ?_
  refine k_bipush S dL_refuses_346 (v := 10) (by decide) (n := 348) rfl ?_
  refine k_icmp_ge S dL_refuses_348 (tgt := 355) (by decide) (n := 351) rfl (fun _ => ?_) (fun h9 => absurd (by decide) h9)
  refine k_iconst S dL_refuses_355 (v := 0) (by decide) (n := 356) rfl ?_
  refine k_istore16 S dL_refuses_356 (by decide) rfl (n := 358) rfl ?_
  refine k_iload14 S dL_refuses_358 (n := 360) rfl ?_
  refine k_if_eq S dL_refuses_360 (tgt := 407) (by decide) (n := 363) rfl (fun h9 => absurd h9 (by decide)) (fun _ => ?_)
  refine k_iload15 S dL_refuses_363 (n := 365) rfl ?_
  refine k_bipush S dL_refuses_365 (v := 12) (by decide) (n := 367) rfl ?_
  refine k_icmp_eq S dL_refuses_367 (tgt := 403) (by decide) (n := 370) rfl (fun h9 => absurd h9 (by decide)) (fun _ => ?_)
  refine k_iload15 S dL_refuses_370 (n := 372) rfl ?_
  refine k_bipush S dL_refuses_372 (v := 14) (by decide) (n := 374) rfl ?_
  refine k_icmp_eq S dL_refuses_374 (tgt := 403) (by decide) (n := 377) rfl (fun h9 => absurd h9 (by decide)) (fun _ => ?_)
  refine k_aload0 S dL_refuses_377 (n := 378) rfl ?_
  refine k_iload15 S dL_refuses_378 (n := 380) rfl ?_
  refine k_iload16 S dL_refuses_380 (n := 382) rfl ?_
  refine k_if_eq S dL_refuses_382 (tgt := 390) (by decide) (n := 385) rfl (fun _ => ?_) (fun h9 => absurd (by decide) h9)
  refine k_iload11 S dL_refuses_390 (n := 392) rfl ?_
  refine k_iconst S dL_refuses_392 (v := 0) (by decide) (n := 393) rfl ?_
  refine k_iconst S dL_refuses_393 (v := 0) (by decide) (n := 394) rfl ?_
  refine k_callH (As := [.ref (za g 0), .int 16, .int (nI d), .int 0, .int 0]) (rest := []) S (x_act16 (Or.inl rfl) (n_cumulative_place V (zin_d V.d60))) mv_L_act m_457 dL_refuses_394 rfl rfl ⟨by decide, by decide⟩ rfl rfl (Nat.le_of_ble_eq_true rfl) ⟨by decide, by decide⟩ (n := 397) rfl (fun _ _ h => h.elim) (fun v9 ν9 h9 => ?_)
  rw [h9.1, h9.2]
  show zK x g ({ frames := 10, cells := 192, slots := 1152, locals := 184 } : Room) 17 80 480 397 [some (.ref (za g 0)), some (.int (nI d)), some (.int (nI c)), some (.int al), some (.long ((-99000011))), none, some (.long ((-99000012))), none, some (.int 2147483647), some (.int 1), some (.int ((-2147483648))), some (.int (nI d)), some (.int (nI c)), some (.int 10000), some (.int 1), some (.int 16), some (.int 0)] [.long ((zcd "java/lang/IndexOutOfBoundsException"))] μ
  refine k_topl (-99000011) zcd_p ?_
  refine k_lload4 S dL_refuses_397 (n := 399) rfl ?_
  refine k_lcmp S dL_refuses_399 (n := 400) rfl ?_
  refine k_top 0 (by decide) ?_
  refine k_if_ne S dL_refuses_400 (tgt := 407) (by decide) (n := 403) rfl (fun h9 => absurd (by decide) h9) (fun _ => ?_)
  refine k_iconst S dL_refuses_403 (v := 1) (by decide) (n := 404) rfl ?_
  refine k_goto S dL_refuses_404 (tgt := 408) (by decide) ?_
  refine k_istore14 S dL_refuses_408 (by decide) rfl (n := 410) rfl ?_
  refine k_iinc15 S dL_refuses_410 (v := 17) (by decide) (by decide) (n := 413) rfl ?_
  refine k_goto S dL_refuses_413 (tgt := 331) (by decide) ?_
  refine k_iload15 S dL_refuses_331 (n := 333) rfl ?_
  refine k_bipush S dL_refuses_333 (v := 17) (by decide) (n := 335) rfl ?_
  refine k_icmp_ge S dL_refuses_335 (tgt := 416) (by decide) (n := 338) rfl (fun _ => ?_) (fun h9 => absurd (by decide) h9)
  refine k_bipush S dL_refuses_416 (v := 17) (by decide) (n := 418) rfl ?_
  refine k_istore15 S dL_refuses_418 (by decide) rfl (n := 420) rfl ?_
  refine k_iload15 S dL_refuses_420 (n := 422) rfl ?_
  refine k_bipush S dL_refuses_422 (v := 19) (by decide) (n := 424) rfl ?_
  refine k_icmp_ge S dL_refuses_424 (tgt := 508) (by decide) (n := 427) rfl (fun h9 => absurd h9 (by decide)) (fun _ => ?_)
  refine k_iload14 S dL_refuses_427 (n := 429) rfl ?_
  refine k_if_eq S dL_refuses_429 (tgt := 499) (by decide) (n := 432) rfl (fun h9 => absurd h9 (by decide)) (fun _ => ?_)
  refine k_aload0 S dL_refuses_432 (n := 433) rfl ?_
  refine k_iload15 S dL_refuses_433 (n := 435) rfl ?_
  refine k_iload12 S dL_refuses_435 (n := 437) rfl ?_
  refine k_iconst S dL_refuses_437 (v := 0) (by decide) (n := 438) rfl ?_
  refine k_iconst S dL_refuses_438 (v := (-1)) (by decide) (n := 439) rfl ?_
  refine k_callH (As := [.ref (za g 0), .int 17, .int (nI c), .int 0, .int ((-1))]) (rest := []) S (x_act17 (Or.inl rfl) (n_capability_place V (zin_d (Nat.le_trans V.c10 (by decide))))) mv_L_act m_457 dL_refuses_439 rfl rfl ⟨by decide, by decide⟩ rfl rfl (Nat.le_of_ble_eq_true rfl) ⟨by decide, by decide⟩ (n := 442) rfl (fun _ _ h => h.elim) (fun v9 ν9 h9 => ?_)
  rw [h9.1, h9.2]
  show zK x g ({ frames := 10, cells := 192, slots := 1152, locals := 184 } : Room) 17 82 492 442 [some (.ref (za g 0)), some (.int (nI d)), some (.int (nI c)), some (.int al), some (.long ((-99000011))), none, some (.long ((-99000012))), none, some (.int 2147483647), some (.int 1), some (.int ((-2147483648))), some (.int (nI d)), some (.int (nI c)), some (.int 10000), some (.int 1), some (.int 17), some (.int 0)] [.long ((zcd "java/lang/IndexOutOfBoundsException"))] μ
  refine k_topl (-99000011) zcd_p ?_
  refine k_lload4 S dL_refuses_442 (n := 444) rfl ?_
  refine k_lcmp S dL_refuses_444 (n := 445) rfl ?_
  refine k_top 0 (by decide) ?_
  refine k_if_ne S dL_refuses_445 (tgt := 499) (by decide) (n := 448) rfl (fun h9 => absurd (by decide) h9) (fun _ => ?_)
  refine k_aload0 S dL_refuses_448 (n := 449) rfl ?_
  refine k_iload15 S dL_refuses_449 (n := 451) rfl ?_
  refine k_iconst S dL_refuses_451 (v := 0) (by decide) (n := 452) rfl ?_
  refine k_iload13 S dL_refuses_452 (n := 454) rfl ?_
  refine k_iconst S dL_refuses_454 (v := 0) (by decide) (n := 455) rfl ?_
  refine k_callH (As := [.ref (za g 0), .int 17, .int 0, .int 10000, .int 0]) (rest := []) S (x_act17 (Or.inr (Or.inl rfl)) (n_capability_arg V hc0 (zlh_n (by decide)))) mv_L_act m_457 dL_refuses_455 rfl rfl ⟨by decide, by decide⟩ rfl rfl (Nat.le_of_ble_eq_true rfl) ⟨by decide, by decide⟩ (n := 458) rfl (fun _ _ h => h.elim) (fun v9 ν9 h9 => ?_)
  rw [h9.1, h9.2]
  show zK x g ({ frames := 10, cells := 192, slots := 1152, locals := 184 } : Room) 17 84 504 458 [some (.ref (za g 0)), some (.int (nI d)), some (.int (nI c)), some (.int al), some (.long ((-99000011))), none, some (.long ((-99000012))), none, some (.int 2147483647), some (.int 1), some (.int ((-2147483648))), some (.int (nI d)), some (.int (nI c)), some (.int 10000), some (.int 1), some (.int 17), some (.int 0)] [.long ((zcd "java/lang/IllegalArgumentException"))] μ
  refine k_topl (-99000012) zcd_a ?_
  refine k_lload6 S dL_refuses_458 (n := 460) rfl ?_
  refine k_lcmp S dL_refuses_460 (n := 461) rfl ?_
  refine k_top 0 (by decide) ?_
  refine k_if_ne S dL_refuses_461 (tgt := 499) (by decide) (n := 464) rfl (fun h9 => absurd (by decide) h9) (fun _ => ?_)
  refine k_aload0 S dL_refuses_464 (n := 465) rfl ?_
  refine k_iload15 S dL_refuses_465 (n := 467) rfl ?_
  refine k_iconst S dL_refuses_467 (v := 0) (by decide) (n := 468) rfl ?_
  refine k_iconst S dL_refuses_468 (v := 0) (by decide) (n := 469) rfl ?_
  refine k_iload13 S dL_refuses_469 (n := 471) rfl ?_
  refine k_callH (As := [.ref (za g 0), .int 17, .int 0, .int 0, .int 10000]) (rest := []) S (x_act17 (Or.inr (Or.inl rfl)) (n_capability_arg V hc0 (zlh_n (by decide)))) mv_L_act m_457 dL_refuses_471 rfl rfl ⟨by decide, by decide⟩ rfl rfl (Nat.le_of_ble_eq_true rfl) ⟨by decide, by decide⟩ (n := 474) rfl (fun _ _ h => h.elim) (fun v9 ν9 h9 => ?_)
  rw [h9.1, h9.2]
  show zK x g ({ frames := 10, cells := 192, slots := 1152, locals := 184 } : Room) 17 86 516 474 [some (.ref (za g 0)), some (.int (nI d)), some (.int (nI c)), some (.int al), some (.long ((-99000011))), none, some (.long ((-99000012))), none, some (.int 2147483647), some (.int 1), some (.int ((-2147483648))), some (.int (nI d)), some (.int (nI c)), some (.int 10000), some (.int 1), some (.int 17), some (.int 0)] [.long ((zcd "java/lang/IllegalArgumentException"))] μ
  refine k_topl (-99000012) zcd_a ?_
  refine k_lload6 S dL_refuses_474 (n := 476) rfl ?_
  refine k_lcmp S dL_refuses_476 (n := 477) rfl ?_
  refine k_top 0 (by decide) ?_
  refine k_if_ne S dL_refuses_477 (tgt := 499) (by decide) (n := 480) rfl (fun h9 => absurd (by decide) h9) (fun _ => ?_)
  refine k_aload0 S dL_refuses_480 (n := 481) rfl ?_
  refine k_iload15 S dL_refuses_481 (n := 483) rfl ?_
  refine k_iconst S dL_refuses_483 (v := 0) (by decide) (n := 484) rfl ?_
  refine k_iconst S dL_refuses_484 (v := 5) (by decide) (n := 485) rfl ?_
  refine k_iconst S dL_refuses_485 (v := 4) (by decide) (n := 486) rfl ?_
  refine k_callH (As := [.ref (za g 0), .int 17, .int 0, .int 5, .int 4]) (rest := []) S (x_act17 (Or.inr (Or.inl rfl)) (n_capability_arg V hc0 (zlh_n (by decide)))) mv_L_act m_457 dL_refuses_486 rfl rfl ⟨by decide, by decide⟩ rfl rfl (Nat.le_of_ble_eq_true rfl) ⟨by decide, by decide⟩ (n := 489) rfl (fun _ _ h => h.elim) (fun v9 ν9 h9 => ?_)
  rw [h9.1, h9.2]
  show zK x g ({ frames := 10, cells := 192, slots := 1152, locals := 184 } : Room) 17 88 528 489 [some (.ref (za g 0)), some (.int (nI d)), some (.int (nI c)), some (.int al), some (.long ((-99000011))), none, some (.long ((-99000012))), none, some (.int 2147483647), some (.int 1), some (.int ((-2147483648))), some (.int (nI d)), some (.int (nI c)), some (.int 10000), some (.int 1), some (.int 17), some (.int 0)] [.long ((zcd "java/lang/IllegalArgumentException"))] μ
  refine k_topl (-99000012) zcd_a ?_
  refine k_lload6 S dL_refuses_489 (n := 491) rfl ?_
  refine k_lcmp S dL_refuses_491 (n := 492) rfl ?_
  refine k_top 0 (by decide) ?_
  refine k_if_ne S dL_refuses_492 (tgt := 499) (by decide) (n := 495) rfl (fun h9 => absurd (by decide) h9) (fun _ => ?_)
  refine k_iconst S dL_refuses_495 (v := 1) (by decide) (n := 496) rfl ?_
  refine k_goto S dL_refuses_496 (tgt := 500) (by decide) ?_
  refine k_istore14 S dL_refuses_500 (by decide) rfl (n := 502) rfl ?_
  refine k_iinc15 S dL_refuses_502 (v := 18) (by decide) (by decide) (n := 505) rfl ?_
  refine k_goto S dL_refuses_505 (tgt := 420) (by decide) ?_
  refine k_iload15 S dL_refuses_420 (n := 422) rfl ?_
  refine k_bipush S dL_refuses_422 (v := 19) (by decide) (n := 424) rfl ?_
  refine k_icmp_ge S dL_refuses_424 (tgt := 508) (by decide) (n := 427) rfl (fun h9 => absurd h9 (by decide)) (fun _ => ?_)
  refine k_iload14 S dL_refuses_427 (n := 429) rfl ?_
  refine k_if_eq S dL_refuses_429 (tgt := 499) (by decide) (n := 432) rfl (fun h9 => absurd h9 (by decide)) (fun _ => ?_)
  refine k_aload0 S dL_refuses_432 (n := 433) rfl ?_
  refine k_iload15 S dL_refuses_433 (n := 435) rfl ?_
  refine k_iload12 S dL_refuses_435 (n := 437) rfl ?_
  refine k_iconst S dL_refuses_437 (v := 0) (by decide) (n := 438) rfl ?_
  refine k_iconst S dL_refuses_438 (v := (-1)) (by decide) (n := 439) rfl ?_
  refine k_callH (As := [.ref (za g 0), .int 18, .int (nI c), .int 0, .int ((-1))]) (rest := []) S (x_act18 (Or.inl rfl) (n_capability_place V (zin_d (Nat.le_trans V.c10 (by decide))))) mv_L_act m_457 dL_refuses_439 rfl rfl ⟨by decide, by decide⟩ rfl rfl (Nat.le_of_ble_eq_true rfl) ⟨by decide, by decide⟩ (n := 442) rfl (fun _ _ h => h.elim) (fun v9 ν9 h9 => ?_)
  rw [h9.1, h9.2]
  show zK x g ({ frames := 10, cells := 192, slots := 1152, locals := 184 } : Room) 17 90 540 442 [some (.ref (za g 0)), some (.int (nI d)), some (.int (nI c)), some (.int al), some (.long ((-99000011))), none, some (.long ((-99000012))), none, some (.int 2147483647), some (.int 1), some (.int ((-2147483648))), some (.int (nI d)), some (.int (nI c)), some (.int 10000), some (.int 1), some (.int 18), some (.int 0)] [.long ((zcd "java/lang/IndexOutOfBoundsException"))] μ
  refine k_topl (-99000011) zcd_p ?_
  refine k_lload4 S dL_refuses_442 (n := 444) rfl ?_
  refine k_lcmp S dL_refuses_444 (n := 445) rfl ?_
  refine k_top 0 (by decide) ?_
  refine k_if_ne S dL_refuses_445 (tgt := 499) (by decide) (n := 448) rfl (fun h9 => absurd (by decide) h9) (fun _ => ?_)
  refine k_aload0 S dL_refuses_448 (n := 449) rfl ?_
  refine k_iload15 S dL_refuses_449 (n := 451) rfl ?_
  refine k_iconst S dL_refuses_451 (v := 0) (by decide) (n := 452) rfl ?_
  refine k_iload13 S dL_refuses_452 (n := 454) rfl ?_
  refine k_iconst S dL_refuses_454 (v := 0) (by decide) (n := 455) rfl ?_
  refine k_callH (As := [.ref (za g 0), .int 18, .int 0, .int 10000, .int 0]) (rest := []) S (x_act18 (Or.inr (Or.inl rfl)) (n_capability_arg V hc0 (zlh_n (by decide)))) mv_L_act m_457 dL_refuses_455 rfl rfl ⟨by decide, by decide⟩ rfl rfl (Nat.le_of_ble_eq_true rfl) ⟨by decide, by decide⟩ (n := 458) rfl (fun _ _ h => h.elim) (fun v9 ν9 h9 => ?_)
  rw [h9.1, h9.2]
  show zK x g ({ frames := 10, cells := 192, slots := 1152, locals := 184 } : Room) 17 92 552 458 [some (.ref (za g 0)), some (.int (nI d)), some (.int (nI c)), some (.int al), some (.long ((-99000011))), none, some (.long ((-99000012))), none, some (.int 2147483647), some (.int 1), some (.int ((-2147483648))), some (.int (nI d)), some (.int (nI c)), some (.int 10000), some (.int 1), some (.int 18), some (.int 0)] [.long ((zcd "java/lang/IllegalArgumentException"))] μ
  refine k_topl (-99000012) zcd_a ?_
  refine k_lload6 S dL_refuses_458 (n := 460) rfl ?_
  refine k_lcmp S dL_refuses_460 (n := 461) rfl ?_
  refine k_top 0 (by decide) ?_
  refine k_if_ne S dL_refuses_461 (tgt := 499) (by decide) (n := 464) rfl (fun h9 => absurd (by decide) h9) (fun _ => ?_)
  refine k_aload0 S dL_refuses_464 (n := 465) rfl ?_
  refine k_iload15 S dL_refuses_465 (n := 467) rfl ?_
  refine k_iconst S dL_refuses_467 (v := 0) (by decide) (n := 468) rfl ?_
  refine k_iconst S dL_refuses_468 (v := 0) (by decide) (n := 469) rfl ?_
  refine k_iload13 S dL_refuses_469 (n := 471) rfl ?_
  refine k_callH (As := [.ref (za g 0), .int 18, .int 0, .int 0, .int 10000]) (rest := []) S (x_act18 (Or.inr (Or.inl rfl)) (n_capability_arg V hc0 (zlh_n (by decide)))) mv_L_act m_457 dL_refuses_471 rfl rfl ⟨by decide, by decide⟩ rfl rfl (Nat.le_of_ble_eq_true rfl) ⟨by decide, by decide⟩ (n := 474) rfl (fun _ _ h => h.elim) (fun v9 ν9 h9 => ?_)
  rw [h9.1, h9.2]
  show zK x g ({ frames := 10, cells := 192, slots := 1152, locals := 184 } : Room) 17 94 564 474 [some (.ref (za g 0)), some (.int (nI d)), some (.int (nI c)), some (.int al), some (.long ((-99000011))), none, some (.long ((-99000012))), none, some (.int 2147483647), some (.int 1), some (.int ((-2147483648))), some (.int (nI d)), some (.int (nI c)), some (.int 10000), some (.int 1), some (.int 18), some (.int 0)] [.long ((zcd "java/lang/IllegalArgumentException"))] μ
  refine k_topl (-99000012) zcd_a ?_
  refine k_lload6 S dL_refuses_474 (n := 476) rfl ?_
  refine k_lcmp S dL_refuses_476 (n := 477) rfl ?_
  refine k_top 0 (by decide) ?_
  refine k_if_ne S dL_refuses_477 (tgt := 499) (by decide) (n := 480) rfl (fun h9 => absurd (by decide) h9) (fun _ => ?_)
  refine k_aload0 S dL_refuses_480 (n := 481) rfl ?_
  refine k_iload15 S dL_refuses_481 (n := 483) rfl ?_
  refine k_iconst S dL_refuses_483 (v := 0) (by decide) (n := 484) rfl ?_
  refine k_iconst S dL_refuses_484 (v := 5) (by decide) (n := 485) rfl ?_
  refine k_iconst S dL_refuses_485 (v := 4) (by decide) (n := 486) rfl ?_
  refine k_callH (As := [.ref (za g 0), .int 18, .int 0, .int 5, .int 4]) (rest := []) S (x_act18 (Or.inr (Or.inl rfl)) (n_capability_arg V hc0 (zlh_n (by decide)))) mv_L_act m_457 dL_refuses_486 rfl rfl ⟨by decide, by decide⟩ rfl rfl (Nat.le_of_ble_eq_true rfl) ⟨by decide, by decide⟩ (n := 489) rfl (fun _ _ h => h.elim) (fun v9 ν9 h9 => ?_)
  rw [h9.1, h9.2]
  show zK x g ({ frames := 10, cells := 192, slots := 1152, locals := 184 } : Room) 17 96 576 489 [some (.ref (za g 0)), some (.int (nI d)), some (.int (nI c)), some (.int al), some (.long ((-99000011))), none, some (.long ((-99000012))), none, some (.int 2147483647), some (.int 1), some (.int ((-2147483648))), some (.int (nI d)), some (.int (nI c)), some (.int 10000), some (.int 1), some (.int 18), some (.int 0)] [.long ((zcd "java/lang/IllegalArgumentException"))] μ
  refine k_topl (-99000012) zcd_a ?_
  refine k_lload6 S dL_refuses_489 (n := 491) rfl ?_
  refine k_lcmp S dL_refuses_491 (n := 492) rfl ?_
  refine k_top 0 (by decide) ?_
  refine k_if_ne S dL_refuses_492 (tgt := 499) (by decide) (n := 495) rfl (fun h9 => absurd (by decide) h9) (fun _ => ?_)
  refine k_iconst S dL_refuses_495 (v := 1) (by decide) (n := 496) rfl ?_
  refine k_goto S dL_refuses_496 (tgt := 500) (by decide) ?_
  refine k_istore14 S dL_refuses_500 (by decide) rfl (n := 502) rfl ?_
  refine k_iinc15 S dL_refuses_502 (v := 19) (by decide) (by decide) (n := 505) rfl ?_
  refine k_goto S dL_refuses_505 (tgt := 420) (by decide) ?_
  refine k_iload15 S dL_refuses_420 (n := 422) rfl ?_
  refine k_bipush S dL_refuses_422 (v := 19) (by decide) (n := 424) rfl ?_
  refine k_icmp_ge S dL_refuses_424 (tgt := 508) (by decide) (n := 427) rfl (fun _ => ?_) (fun h9 => absurd (by decide) h9)
  refine k_iload14 S dL_refuses_508 (n := 510) rfl ?_
  refine k_if_ne S dL_refuses_510 (tgt := 515) (by decide) (n := 513) rfl (fun _ => ?_) (fun h9 => absurd h9 (by decide))
  refine k_iinc9 S dL_refuses_515 (v := 2) (by decide) (by decide) (n := 518) rfl ?_
  refine k_goto S dL_refuses_518 (tgt := 32) (by decide) ?_
  refine k_keep 10 ?_
  exact hN
set_option maxRecDepth 100000 in
set_option maxHeartbeats 4000000 in
theorem l_refA1 {x : zX} {g : zG} {μ : zM} {s d c : Nat} {ph fs : Nat → Nat} {al : Int32} (S : zS x g 17 cL_refuses RL) (V : zV μ s d c ph fs) (hB : zK x g ({ frames := 10, cells := 192, slots := 1152, locals := 184 } : Room) 17 58 348 233 [some (.ref (za g 0)), some (.int (nI d)), some (.int (nI c)), some (.int al), some (.long ((-99000011))), none, some (.long ((-99000012))), none, some (.int 2147483647), some (.int 1), some (.int ((-2147483648))), some (.int (nI d)), some (.int (nI c)), some (.int 10000), none, none, none] [] μ) : zK x g ({ frames := 10, cells := 192, slots := 1152, locals := 184 } : Room) 17 48 288 32 [some (.ref (za g 0)), some (.int (nI d)), some (.int (nI c)), some (.int al), some (.long ((-99000011))), none, some (.long ((-99000012))), none, some (.int 2147483647), some (.int 1), none, none, none, none, none, none, none] [] μ := by
  refine k_iload9 S dL_refuses_32 (n := 34) rfl ?_
  refine k_iconst S dL_refuses_34 (v := 4) (by decide) (n := 35) rfl ?_
  refine k_icmp_ge S dL_refuses_35 (tgt := 521) (by decide) (n := 38) rfl (fun h9 => absurd h9 (by decide)) (fun _ => ?_)
  refine k_iload9 S dL_refuses_38 (n := 40) rfl ?_
  refine k_if_ne S dL_refuses_40 (tgt := 47) (by decide) (n := 43) rfl (fun _ => ?_) (fun h9 => absurd h9 (by decide))
  refine k_iload9 S dL_refuses_47 (n := 49) rfl ?_
  refine k_iconst S dL_refuses_49 (v := 2) (by decide) (n := 50) rfl ?_
  refine k_icmp_ne S dL_refuses_50 (tgt := 58) (by decide) (n := 53) rfl (fun _ => ?_) (fun h9 => absurd h9 (by decide))
  refine k_iload8 S dL_refuses_58 (n := 60) rfl ?_
  refine k_ineg S dL_refuses_60 (n := 61) rfl ?_
  refine k_top (-2147483647) (by decide) ?_
  refine k_iconst S dL_refuses_61 (v := 1) (by decide) (n := 62) rfl ?_
  refine k_isub S dL_refuses_62 (n := 63) rfl ?_
  refine k_top (-2147483648) (by decide) ?_
  refine k_istore10 S dL_refuses_63 (by decide) rfl (n := 65) rfl ?_
  refine k_iload9 S dL_refuses_65 (n := 67) rfl ?_
  refine k_iconst S dL_refuses_67 (v := 1) (by decide) (n := 68) rfl ?_
  refine k_icmp_ne S dL_refuses_68 (tgt := 75) (by decide) (n := 71) rfl (fun h9 => absurd (by decide) h9) (fun _ => ?_)
  refine k_iload1 S dL_refuses_71 (n := 72) rfl ?_
  refine k_goto S dL_refuses_72 (tgt := 77) (by decide) ?_
  refine k_istore11 S dL_refuses_77 (by decide) rfl (n := 79) rfl ?_
  refine k_iload9 S dL_refuses_79 (n := 81) rfl ?_
  refine k_iconst S dL_refuses_81 (v := 1) (by decide) (n := 82) rfl ?_
  refine k_icmp_ne S dL_refuses_82 (tgt := 89) (by decide) (n := 85) rfl (fun h9 => absurd (by decide) h9) (fun _ => ?_)
  refine k_iload2 S dL_refuses_85 (n := 86) rfl ?_
  refine k_goto S dL_refuses_86 (tgt := 91) (by decide) ?_
  refine k_istore12 S dL_refuses_91 (by decide) rfl (n := 93) rfl ?_
  refine k_iload9 S dL_refuses_93 (n := 95) rfl ?_
  refine k_if_ne S dL_refuses_95 (tgt := 104) (by decide) (n := 98) rfl (fun _ => ?_) (fun h9 => absurd h9 (by decide))
  refine k_iload9 S dL_refuses_104 (n := 106) rfl ?_
  refine k_iconst S dL_refuses_106 (v := 1) (by decide) (n := 107) rfl ?_
  refine k_icmp_ne S dL_refuses_107 (tgt := 116) (by decide) (n := 110) rfl (fun h9 => absurd (by decide) h9) (fun _ => ?_)
  refine k_sipush S dL_refuses_110 (v := 10000) (by decide) (n := 113) rfl ?_
  refine k_goto S dL_refuses_113 (tgt := 118) (by decide) ?_
  refine k_istore13 S dL_refuses_118 (by decide) rfl (n := 120) rfl ?_
  refine k_aload0 S dL_refuses_120 (n := 121) rfl ?_
  refine k_iload9 S dL_refuses_121 (n := 123) rfl ?_
  refine k_if_ne S dL_refuses_123 (tgt := 130) (by decide) (n := 126) rfl (fun _ => ?_) (fun h9 => absurd h9 (by decide))
  refine k_iload9 S dL_refuses_130 (n := 132) rfl ?_
  refine k_iconst S dL_refuses_132 (v := 1) (by decide) (n := 133) rfl ?_
  refine k_icmp_ne S dL_refuses_133 (tgt := 141) (by decide) (n := 136) rfl (fun h9 => absurd (by decide) h9) (fun _ => ?_)
  refine k_bipush S dL_refuses_136 (v := 7) (by decide) (n := 138) rfl ?_
  refine k_goto S dL_refuses_138 (tgt := 143) (by decide) ?_
  refine k_callH (As := [.ref (za g 0), .int 7]) (rest := []) S (x_begin (n_begin (by decide))) mv_L_begin m_335 dL_refuses_143 rfl rfl ⟨by decide, by decide⟩ rfl rfl (Nat.le_of_ble_eq_true rfl) ⟨by decide, by decide⟩ (n := 146) rfl (fun _ _ h => h.elim) (fun v9 ν9 h9 => ?_)
  rw [h9.1, h9.2]
  show zK x g ({ frames := 10, cells := 192, slots := 1152, locals := 184 } : Room) 17 49 294 146 [some (.ref (za g 0)), some (.int (nI d)), some (.int (nI c)), some (.int al), some (.long ((-99000011))), none, some (.long ((-99000012))), none, some (.int 2147483647), some (.int 1), some (.int ((-2147483648))), some (.int (nI d)), some (.int (nI c)), some (.int 10000), none, none, none] [.int ((-12))] μ
  refine k_bipush S dL_refuses_146 (v := (-12)) (by decide) (n := 148) rfl ?_
  refine k_icmp_ne S dL_refuses_148 (tgt := 325) (by decide) (n := 151) rfl (fun h9 => absurd (by decide) h9) (fun _ => ?_)
  refine k_aload0 S dL_refuses_151 (n := 152) rfl ?_
  refine k_iload12 S dL_refuses_152 (n := 154) rfl ?_
  refine k_callH (As := [.ref (za g 0), .int (nI c)]) (rest := []) S (x_holds (Or.inl rfl) (n_freeze_place V (zin_d (Nat.le_trans V.c10 (by decide))))) mv_L_holds m_418 dL_refuses_154 rfl rfl ⟨by decide, by decide⟩ rfl rfl (Nat.le_of_ble_eq_true rfl) ⟨by decide, by decide⟩ (n := 157) rfl (fun _ _ h => h.elim) (fun v9 ν9 h9 => ?_)
  rw [h9.1, h9.2]
  show zK x g ({ frames := 10, cells := 192, slots := 1152, locals := 184 } : Room) 17 51 306 157 [some (.ref (za g 0)), some (.int (nI d)), some (.int (nI c)), some (.int al), some (.long ((-99000011))), none, some (.long ((-99000012))), none, some (.int 2147483647), some (.int 1), some (.int ((-2147483648))), some (.int (nI d)), some (.int (nI c)), some (.int 10000), none, none, none] [.int ((if "java/lang/IndexOutOfBoundsException" = "java/lang/IndexOutOfBoundsException" then (-11 : Int32) else (-13)))] μ
  refine k_top (-11) (if_pos rfl) ?_
  refine k_bipush S dL_refuses_157 (v := (-11)) (by decide) (n := 159) rfl ?_
  refine k_icmp_ne S dL_refuses_159 (tgt := 325) (by decide) (n := 162) rfl (fun h9 => absurd (by decide) h9) (fun _ => ?_)
  refine k_aload0 S dL_refuses_162 (n := 163) rfl ?_
  refine k_iload12 S dL_refuses_163 (n := 165) rfl ?_
  refine k_callH (As := [.ref (za g 0), .int (nI c)]) (rest := []) S (x_thaws (Or.inl rfl) (n_thaw_place V (zin_d (Nat.le_trans V.c10 (by decide))))) mv_L_thaws m_449 dL_refuses_165 rfl rfl ⟨by decide, by decide⟩ rfl rfl (Nat.le_of_ble_eq_true rfl) ⟨by decide, by decide⟩ (n := 168) rfl (fun _ _ h => h.elim) (fun v9 ν9 h9 => ?_)
  rw [h9.1, h9.2]
  show zK x g ({ frames := 10, cells := 192, slots := 1152, locals := 184 } : Room) 17 53 318 168 [some (.ref (za g 0)), some (.int (nI d)), some (.int (nI c)), some (.int al), some (.long ((-99000011))), none, some (.long ((-99000012))), none, some (.int 2147483647), some (.int 1), some (.int ((-2147483648))), some (.int (nI d)), some (.int (nI c)), some (.int 10000), none, none, none] [.int ((if "java/lang/IndexOutOfBoundsException" = "java/lang/IndexOutOfBoundsException" then (-11 : Int32) else (-13)))] μ
  refine k_top (-11) (if_pos rfl) ?_
  refine k_bipush S dL_refuses_168 (v := (-11)) (by decide) (n := 170) rfl ?_
  refine k_icmp_ne S dL_refuses_170 (tgt := 325) (by decide) (n := 173) rfl (fun h9 => absurd (by decide) h9) (fun _ => ?_)
  refine k_aload0 S dL_refuses_173 (n := 174) rfl ?_
  refine k_iconst S dL_refuses_174 (v := 0) (by decide) (n := 175) rfl ?_
  refine k_iload13 S dL_refuses_175 (n := 177) rfl ?_
  refine k_iconst S dL_refuses_177 (v := 0) (by decide) (n := 178) rfl ?_
  refine k_iconst S dL_refuses_178 (v := 0) (by decide) (n := 179) rfl ?_
  refine k_callH (As := [.ref (za g 0), .int 0, .int 10000, .int 0, .int 0]) (rest := []) S (x_act0 (Or.inr (Or.inl rfl)) (n_put_arg V (by decide))) mv_L_act m_457 dL_refuses_179 rfl rfl ⟨by decide, by decide⟩ rfl rfl (Nat.le_of_ble_eq_true rfl) ⟨by decide, by decide⟩ (n := 182) rfl (fun _ _ h => h.elim) (fun v9 ν9 h9 => ?_)
  rw [h9.1, h9.2]
  show zK x g ({ frames := 10, cells := 192, slots := 1152, locals := 184 } : Room) 17 54 324 182 [some (.ref (za g 0)), some (.int (nI d)), some (.int (nI c)), some (.int al), some (.long ((-99000011))), none, some (.long ((-99000012))), none, some (.int 2147483647), some (.int 1), some (.int ((-2147483648))), some (.int (nI d)), some (.int (nI c)), some (.int 10000), none, none, none] [.long ((zcd "java/lang/IllegalArgumentException"))] μ
  refine k_topl (-99000012) zcd_a ?_
  refine k_lload6 S dL_refuses_182 (n := 184) rfl ?_
  refine k_lcmp S dL_refuses_184 (n := 185) rfl ?_
  refine k_top 0 (by decide) ?_
  refine k_if_ne S dL_refuses_185 (tgt := 325) (by decide) (n := 188) rfl (fun h9 => absurd (by decide) h9) (fun _ => ?_)
  refine k_aload0 S dL_refuses_188 (n := 189) rfl ?_
  refine k_iconst S dL_refuses_189 (v := 2) (by decide) (n := 190) rfl ?_
  refine k_iload11 S dL_refuses_190 (n := 192) rfl ?_
  refine k_iconst S dL_refuses_192 (v := (-1)) (by decide) (n := 193) rfl ?_
  refine k_iconst S dL_refuses_193 (v := 0) (by decide) (n := 194) rfl ?_
  refine k_callH (As := [.ref (za g 0), .int 2, .int (nI d), .int ((-1)), .int 0]) (rest := []) S (x_act2 (Or.inl rfl) (n_exclude_place V (zin_d V.d60))) mv_L_act m_457 dL_refuses_194 rfl rfl ⟨by decide, by decide⟩ rfl rfl (Nat.le_of_ble_eq_true rfl) ⟨by decide, by decide⟩ (n := 197) rfl (fun _ _ h => h.elim) (fun v9 ν9 h9 => ?_)
  rw [h9.1, h9.2]
  show zK x g ({ frames := 10, cells := 192, slots := 1152, locals := 184 } : Room) 17 56 336 197 [some (.ref (za g 0)), some (.int (nI d)), some (.int (nI c)), some (.int al), some (.long ((-99000011))), none, some (.long ((-99000012))), none, some (.int 2147483647), some (.int 1), some (.int ((-2147483648))), some (.int (nI d)), some (.int (nI c)), some (.int 10000), none, none, none] [.long ((zcd "java/lang/IndexOutOfBoundsException"))] μ
  refine k_topl (-99000011) zcd_p ?_
  refine k_lload4 S dL_refuses_197 (n := 199) rfl ?_
  refine k_lcmp S dL_refuses_199 (n := 200) rfl ?_
  refine k_top 0 (by decide) ?_
  refine k_if_ne S dL_refuses_200 (tgt := 325) (by decide) (n := 203) rfl (fun h9 => absurd (by decide) h9) (fun _ => ?_)
  refine k_iload1 S dL_refuses_203 (n := 204) rfl ?_
  refine k_if_eq S dL_refuses_204 (tgt := 233) (by decide) (n := 207) rfl (fun hd0 => ?_) (fun hd0 => ?_)
  ·
    exact k_widen (by decide) (by decide) hB
  ·
    have h0 : zIn 0 d := ⟨0, Nat.pos_of_ne_zero (fun z => hd0 (by rw [z]; rfl)), rfl⟩
    refine k_aload0 S dL_refuses_207 (n := 208) rfl ?_
    refine k_iconst S dL_refuses_208 (v := 2) (by decide) (n := 209) rfl ?_
    refine k_iconst S dL_refuses_209 (v := 0) (by decide) (n := 210) rfl ?_
    refine k_iload9 S dL_refuses_210 (n := 212) rfl ?_
    refine k_iconst S dL_refuses_212 (v := 1) (by decide) (n := 213) rfl ?_
    refine k_icmp_ne S dL_refuses_213 (tgt := 221) (by decide) (n := 216) rfl (fun h9 => absurd (by decide) h9) (fun _ => ?_)
    refine k_bipush S dL_refuses_216 (v := 10) (by decide) (n := 218) rfl ?_
    refine k_goto S dL_refuses_218 (tgt := 223) (by decide) ?_
    refine k_iconst S dL_refuses_223 (v := 0) (by decide) (n := 224) rfl ?_
    refine k_callH (As := [.ref (za g 0), .int 2, .int 0, .int 10, .int 0]) (rest := []) S (x_act2 (Or.inr (Or.inl rfl)) (n_exclude_arg V h0 (by decide))) mv_L_act m_457 dL_refuses_224 rfl rfl ⟨by decide, by decide⟩ rfl rfl (Nat.le_of_ble_eq_true rfl) ⟨by decide, by decide⟩ (n := 227) rfl (fun _ _ h => h.elim) (fun v9 ν9 h9 => ?_)
    rw [h9.1, h9.2]
    show zK x g ({ frames := 10, cells := 192, slots := 1152, locals := 184 } : Room) 17 58 348 227 [some (.ref (za g 0)), some (.int (nI d)), some (.int (nI c)), some (.int al), some (.long ((-99000011))), none, some (.long ((-99000012))), none, some (.int 2147483647), some (.int 1), some (.int ((-2147483648))), some (.int (nI d)), some (.int (nI c)), some (.int 10000), none, none, none] [.long ((zcd "java/lang/IllegalArgumentException"))] μ
    refine k_topl (-99000012) zcd_a ?_
    refine k_lload6 S dL_refuses_227 (n := 229) rfl ?_
    refine k_lcmp S dL_refuses_229 (n := 230) rfl ?_
    refine k_top 0 (by decide) ?_
    refine k_if_ne S dL_refuses_230 (tgt := 325) (by decide) (n := 233) rfl (fun h9 => absurd (by decide) h9) (fun _ => ?_)
    exact k_widen (by decide) (by decide) hB
set_option maxRecDepth 100000 in
set_option maxHeartbeats 4000000 in
theorem l_refB2 {x : zX} {g : zG} {μ : zM} {s d c : Nat} {ph fs : Nat → Nat} {al : Int32} (S : zS x g 17 cL_refuses RL) (V : zV μ s d c ph fs) (hN : zK x g ({ frames := 10, cells := 192, slots := 1152, locals := 184 } : Room) 17 144 864 32 [some (.ref (za g 0)), some (.int (nI d)), some (.int (nI c)), some (.int al), some (.long ((-99000011))), none, some (.long ((-99000012))), none, some (.int 2147483647), some (.int 3), none, none, none, none, none, none, none] [] μ) : zK x g ({ frames := 10, cells := 192, slots := 1152, locals := 184 } : Room) 17 106 636 233 [some (.ref (za g 0)), some (.int (nI d)), some (.int (nI c)), some (.int al), some (.long ((-99000011))), none, some (.long ((-99000012))), none, some (.int 2147483647), some (.int 2), some (.int 2147483647), some (.int 2147483647), some (.int 2147483647), some (.int 2147483647), none, none, none] [] μ := by
  have hc0 : zIn 0 c := ⟨0, V.c1, rfl⟩
  refine k_aload0 S dL_refuses_233 (n := 234) rfl ?_
  refine k_bipush S dL_refuses_234 (v := 12) (by decide) (n := 236) rfl ?_
  refine k_iload11 S dL_refuses_236 (n := 238) rfl ?_
  refine k_iconst S dL_refuses_238 (v := 0) (by decide) (n := 239) rfl ?_
  refine k_iconst S dL_refuses_239 (v := 0) (by decide) (n := 240) rfl ?_
  refine k_callH (As := [.ref (za g 0), .int 12, .int 2147483647, .int 0, .int 0]) (rest := []) S (x_act12 (Or.inl rfl) (n_firstOf V (fun z => (zin_m V.d60) z.1))) mv_L_act m_457 dL_refuses_240 rfl rfl ⟨by decide, by decide⟩ rfl rfl (Nat.le_of_ble_eq_true rfl) ⟨by decide, by decide⟩ (n := 243) rfl (fun _ _ h => h.elim) (fun v9 ν9 h9 => ?_)
  rw [h9.1, h9.2]
  show zK x g ({ frames := 10, cells := 192, slots := 1152, locals := 184 } : Room) 17 108 648 243 [some (.ref (za g 0)), some (.int (nI d)), some (.int (nI c)), some (.int al), some (.long ((-99000011))), none, some (.long ((-99000012))), none, some (.int 2147483647), some (.int 2), some (.int 2147483647), some (.int 2147483647), some (.int 2147483647), some (.int 2147483647), none, none, none] [.long ((zcd "java/lang/IndexOutOfBoundsException"))] μ
  refine k_topl (-99000011) zcd_p ?_
  refine k_lload4 S dL_refuses_243 (n := 245) rfl ?_
  refine k_lcmp S dL_refuses_245 (n := 246) rfl ?_
  refine k_top 0 (by decide) ?_
  refine k_if_ne S dL_refuses_246 (tgt := 325) (by decide) (n := 249) rfl (fun h9 => absurd (by decide) h9) (fun _ => ?_)
  refine k_aload0 S dL_refuses_249 (n := 250) rfl ?_
  refine k_bipush S dL_refuses_250 (v := 12) (by decide) (n := 252) rfl ?_
  refine k_iconst S dL_refuses_252 (v := 0) (by decide) (n := 253) rfl ?_
  refine k_iload9 S dL_refuses_253 (n := 255) rfl ?_
  refine k_if_ne S dL_refuses_255 (tgt := 262) (by decide) (n := 258) rfl (fun _ => ?_) (fun h9 => absurd h9 (by decide))
  refine k_iload9 S dL_refuses_262 (n := 264) rfl ?_
  refine k_iconst S dL_refuses_264 (v := 1) (by decide) (n := 265) rfl ?_
  refine k_icmp_ne S dL_refuses_265 (tgt := 273) (by decide) (n := 268) rfl (fun _ => ?_) (fun h9 => absurd h9 (by decide))
  refine k_iload10 S dL_refuses_273 (n := 275) rfl ?_
  refine k_iconst S dL_refuses_275 (v := 0) (by decide) (n := 276) rfl ?_
  refine k_callH (As := [.ref (za g 0), .int 12, .int 0, .int 2147483647, .int 0]) (rest := []) S (x_act12 (Or.inl rfl) (n_firstOf V (fun z => absurd z.2 (by decide)))) mv_L_act m_457 dL_refuses_276 rfl rfl ⟨by decide, by decide⟩ rfl rfl (Nat.le_of_ble_eq_true rfl) ⟨by decide, by decide⟩ (n := 279) rfl (fun _ _ h => h.elim) (fun v9 ν9 h9 => ?_)
  rw [h9.1, h9.2]
  show zK x g ({ frames := 10, cells := 192, slots := 1152, locals := 184 } : Room) 17 110 660 279 [some (.ref (za g 0)), some (.int (nI d)), some (.int (nI c)), some (.int al), some (.long ((-99000011))), none, some (.long ((-99000012))), none, some (.int 2147483647), some (.int 2), some (.int 2147483647), some (.int 2147483647), some (.int 2147483647), some (.int 2147483647), none, none, none] [.long ((zcd "java/lang/IndexOutOfBoundsException"))] μ
  refine k_topl (-99000011) zcd_p ?_
  refine k_lload4 S dL_refuses_279 (n := 281) rfl ?_
  refine k_lcmp S dL_refuses_281 (n := 282) rfl ?_
  refine k_top 0 (by decide) ?_
  refine k_if_ne S dL_refuses_282 (tgt := 325) (by decide) (n := 285) rfl (fun h9 => absurd (by decide) h9) (fun _ => ?_)
  refine k_aload0 S dL_refuses_285 (n := 286) rfl ?_
  refine k_bipush S dL_refuses_286 (v := 14) (by decide) (n := 288) rfl ?_
  refine k_iload9 S dL_refuses_288 (n := 290) rfl ?_
  refine k_if_ne S dL_refuses_290 (tgt := 297) (by decide) (n := 293) rfl (fun _ => ?_) (fun h9 => absurd h9 (by decide))
  refine k_iload9 S dL_refuses_297 (n := 299) rfl ?_
  refine k_iconst S dL_refuses_299 (v := 1) (by decide) (n := 300) rfl ?_
  refine k_icmp_ne S dL_refuses_300 (tgt := 308) (by decide) (n := 303) rfl (fun _ => ?_) (fun h9 => absurd h9 (by decide))
  refine k_iload10 S dL_refuses_308 (n := 310) rfl ?_
  refine k_iconst S dL_refuses_310 (v := 0) (by decide) (n := 311) rfl ?_
  refine k_iconst S dL_refuses_311 (v := 0) (by decide) (n := 312) rfl ?_
  refine k_callH (As := [.ref (za g 0), .int 14, .int 2147483647, .int 0, .int 0]) (rest := []) S (x_act14 (Or.inr (Or.inl rfl)) (n_setWeight (by decide))) mv_L_act m_457 dL_refuses_312 rfl rfl ⟨by decide, by decide⟩ rfl rfl (Nat.le_of_ble_eq_true rfl) ⟨by decide, by decide⟩ (n := 315) rfl (fun _ _ h => h.elim) (fun v9 ν9 h9 => ?_)
  rw [h9.1, h9.2]
  show zK x g ({ frames := 10, cells := 192, slots := 1152, locals := 184 } : Room) 17 111 666 315 [some (.ref (za g 0)), some (.int (nI d)), some (.int (nI c)), some (.int al), some (.long ((-99000011))), none, some (.long ((-99000012))), none, some (.int 2147483647), some (.int 2), some (.int 2147483647), some (.int 2147483647), some (.int 2147483647), some (.int 2147483647), none, none, none] [.long ((zcd "java/lang/IllegalArgumentException"))] μ
  refine k_topl (-99000012) zcd_a ?_
  refine k_lload6 S dL_refuses_315 (n := 317) rfl ?_
  refine k_lcmp S dL_refuses_317 (n := 318) rfl ?_
  refine k_top 0 (by decide) ?_
  refine k_if_ne S dL_refuses_318 (tgt := 325) (by decide) (n := 321) rfl (fun h9 => absurd (by decide) h9) (fun _ => ?_)
  refine k_iconst S dL_refuses_321 (v := 1) (by decide) (n := 322) rfl ?_
  refine k_goto S dL_refuses_322 (tgt := 326) (by decide) ?_
  refine k_istore14 S dL_refuses_326 (by decide) rfl (n := 328) rfl ?_
  refine k_iconst S dL_refuses_328 (v := 3) (by decide) (n := 329) rfl ?_
  refine k_istore15 S dL_refuses_329 (by decide) rfl (n := 331) rfl ?_
  refine k_iload15 S dL_refuses_331 (n := 333) rfl ?_
  refine k_bipush S dL_refuses_333 (v := 17) (by decide) (n := 335) rfl ?_
  refine k_icmp_ge S dL_refuses_335 (tgt := 416) (by decide) (n := 338) rfl (fun h9 => absurd h9 (by decide)) (fun _ => ?_)
  refine k_iload15 S dL_refuses_338 (n := 340) rfl ?_
  refine k_iconst S dL_refuses_340 (v := 5) (by decide) (n := 341) rfl ?_
  refine k_icmp_le S dL_refuses_341 (tgt := 355) (by decide) (n := 344) rfl (fun _ => ?_) (fun h9 => absurd (by decide) h9)
  refine k_iconst S dL_refuses_355 (v := 0) (by decide) (n := 356) rfl ?_
  refine k_istore16 S dL_refuses_356 (by decide) rfl (n := 358) rfl ?_
  refine k_iload14 S dL_refuses_358 (n := 360) rfl ?_
  refine k_if_eq S dL_refuses_360 (tgt := 407) (by decide) (n := 363) rfl (fun h9 => absurd h9 (by decide)) (fun _ => ?_)
  refine k_iload15 S dL_refuses_363 (n := 365) rfl ?_
  refine k_bipush S dL_refuses_365 (v := 12) (by decide) (n := 367) rfl ?_
  refine k_icmp_eq S dL_refuses_367 (tgt := 403) (by decide) (n := 370) rfl (fun h9 => absurd h9 (by decide)) (fun _ => ?_)
  refine k_iload15 S dL_refuses_370 (n := 372) rfl ?_
  refine k_bipush S dL_refuses_372 (v := 14) (by decide) (n := 374) rfl ?_
  refine k_icmp_eq S dL_refuses_374 (tgt := 403) (by decide) (n := 377) rfl (fun h9 => absurd h9 (by decide)) (fun _ => ?_)
  refine k_aload0 S dL_refuses_377 (n := 378) rfl ?_
  refine k_iload15 S dL_refuses_378 (n := 380) rfl ?_
  refine k_iload16 S dL_refuses_380 (n := 382) rfl ?_
  refine k_if_eq S dL_refuses_382 (tgt := 390) (by decide) (n := 385) rfl (fun _ => ?_) (fun h9 => absurd (by decide) h9)
  refine k_iload11 S dL_refuses_390 (n := 392) rfl ?_
  refine k_iconst S dL_refuses_392 (v := 0) (by decide) (n := 393) rfl ?_
  refine k_iconst S dL_refuses_393 (v := 0) (by decide) (n := 394) rfl ?_
  refine k_callH (As := [.ref (za g 0), .int 3, .int 2147483647, .int 0, .int 0]) (rest := []) S (x_act3 (Or.inl rfl) (n_mean_place V (zin_m V.d60))) mv_L_act m_457 dL_refuses_394 rfl rfl ⟨by decide, by decide⟩ rfl rfl (Nat.le_of_ble_eq_true rfl) ⟨by decide, by decide⟩ (n := 397) rfl (fun _ _ h => h.elim) (fun v9 ν9 h9 => ?_)
  rw [h9.1, h9.2]
  show zK x g ({ frames := 10, cells := 192, slots := 1152, locals := 184 } : Room) 17 112 672 397 [some (.ref (za g 0)), some (.int (nI d)), some (.int (nI c)), some (.int al), some (.long ((-99000011))), none, some (.long ((-99000012))), none, some (.int 2147483647), some (.int 2), some (.int 2147483647), some (.int 2147483647), some (.int 2147483647), some (.int 2147483647), some (.int 1), some (.int 3), some (.int 0)] [.long ((zcd "java/lang/IndexOutOfBoundsException"))] μ
  refine k_topl (-99000011) zcd_p ?_
  refine k_lload4 S dL_refuses_397 (n := 399) rfl ?_
  refine k_lcmp S dL_refuses_399 (n := 400) rfl ?_
  refine k_top 0 (by decide) ?_
  refine k_if_ne S dL_refuses_400 (tgt := 407) (by decide) (n := 403) rfl (fun h9 => absurd (by decide) h9) (fun _ => ?_)
  refine k_iconst S dL_refuses_403 (v := 1) (by decide) (n := 404) rfl ?_
  refine k_goto S dL_refuses_404 (tgt := 408) (by decide) ?_
  refine k_istore14 S dL_refuses_408 (by decide) rfl (n := 410) rfl ?_
  refine k_iinc15 S dL_refuses_410 (v := 4) (by decide) (by decide) (n := 413) rfl ?_
  refine k_goto S dL_refuses_413 (tgt := 331) (by decide) ?_
  refine k_iload15 S dL_refuses_331 (n := 333) rfl ?_
  refine k_bipush S dL_refuses_333 (v := 17) (by decide) (n := 335) rfl ?_
  refine k_icmp_ge S dL_refuses_335 (tgt := 416) (by decide) (n := 338) rfl (fun h9 => absurd h9 (by decide)) (fun _ => ?_)
  refine k_iload15 S dL_refuses_338 (n := 340) rfl ?_
  refine k_iconst S dL_refuses_340 (v := 5) (by decide) (n := 341) rfl ?_
  refine k_icmp_le S dL_refuses_341 (tgt := 355) (by decide) (n := 344) rfl (fun _ => ?_) (fun h9 => absurd (by decide) h9)
  refine k_iconst S dL_refuses_355 (v := 0) (by decide) (n := 356) rfl ?_
  refine k_istore16 S dL_refuses_356 (by decide) rfl (n := 358) rfl ?_
  refine k_iload14 S dL_refuses_358 (n := 360) rfl ?_
  refine k_if_eq S dL_refuses_360 (tgt := 407) (by decide) (n := 363) rfl (fun h9 => absurd h9 (by decide)) (fun _ => ?_)
  refine k_iload15 S dL_refuses_363 (n := 365) rfl ?_
  refine k_bipush S dL_refuses_365 (v := 12) (by decide) (n := 367) rfl ?_
  refine k_icmp_eq S dL_refuses_367 (tgt := 403) (by decide) (n := 370) rfl (fun h9 => absurd h9 (by decide)) (fun _ => ?_)
  refine k_iload15 S dL_refuses_370 (n := 372) rfl ?_
  refine k_bipush S dL_refuses_372 (v := 14) (by decide) (n := 374) rfl ?_
  refine k_icmp_eq S dL_refuses_374 (tgt := 403) (by decide) (n := 377) rfl (fun h9 => absurd h9 (by decide)) (fun _ => ?_)
  refine k_aload0 S dL_refuses_377 (n := 378) rfl ?_
  refine k_iload15 S dL_refuses_378 (n := 380) rfl ?_
  refine k_iload16 S dL_refuses_380 (n := 382) rfl ?_
  refine k_if_eq S dL_refuses_382 (tgt := 390) (by decide) (n := 385) rfl (fun _ => ?_) (fun h9 => absurd (by decide) h9)
  refine k_iload11 S dL_refuses_390 (n := 392) rfl ?_
  refine k_iconst S dL_refuses_392 (v := 0) (by decide) (n := 393) rfl ?_
  refine k_iconst S dL_refuses_393 (v := 0) (by decide) (n := 394) rfl ?_
  refine k_callH (As := [.ref (za g 0), .int 4, .int 2147483647, .int 0, .int 0]) (rest := []) S (x_act4 (Or.inl rfl) (n_range_place V (zin_m V.d60))) mv_L_act m_457 dL_refuses_394 rfl rfl ⟨by decide, by decide⟩ rfl rfl (Nat.le_of_ble_eq_true rfl) ⟨by decide, by decide⟩ (n := 397) rfl (fun _ _ h => h.elim) (fun v9 ν9 h9 => ?_)
  rw [h9.1, h9.2]
  show zK x g ({ frames := 10, cells := 192, slots := 1152, locals := 184 } : Room) 17 113 678 397 [some (.ref (za g 0)), some (.int (nI d)), some (.int (nI c)), some (.int al), some (.long ((-99000011))), none, some (.long ((-99000012))), none, some (.int 2147483647), some (.int 2), some (.int 2147483647), some (.int 2147483647), some (.int 2147483647), some (.int 2147483647), some (.int 1), some (.int 4), some (.int 0)] [.long ((zcd "java/lang/IndexOutOfBoundsException"))] μ
  refine k_topl (-99000011) zcd_p ?_
  refine k_lload4 S dL_refuses_397 (n := 399) rfl ?_
  refine k_lcmp S dL_refuses_399 (n := 400) rfl ?_
  refine k_top 0 (by decide) ?_
  refine k_if_ne S dL_refuses_400 (tgt := 407) (by decide) (n := 403) rfl (fun h9 => absurd (by decide) h9) (fun _ => ?_)
  refine k_iconst S dL_refuses_403 (v := 1) (by decide) (n := 404) rfl ?_
  refine k_goto S dL_refuses_404 (tgt := 408) (by decide) ?_
  refine k_istore14 S dL_refuses_408 (by decide) rfl (n := 410) rfl ?_
  refine k_iinc15 S dL_refuses_410 (v := 5) (by decide) (by decide) (n := 413) rfl ?_
  refine k_goto S dL_refuses_413 (tgt := 331) (by decide) ?_
  refine k_iload15 S dL_refuses_331 (n := 333) rfl ?_
  refine k_bipush S dL_refuses_333 (v := 17) (by decide) (n := 335) rfl ?_
  refine k_icmp_ge S dL_refuses_335 (tgt := 416) (by decide) (n := 338) rfl (fun h9 => absurd h9 (by decide)) (fun _ => ?_)
  refine k_iload15 S dL_refuses_338 (n := 340) rfl ?_
  refine k_iconst S dL_refuses_340 (v := 5) (by decide) (n := 341) rfl ?_
  refine k_icmp_le S dL_refuses_341 (tgt := 355) (by decide) (n := 344) rfl (fun _ => ?_) (fun h9 => absurd (by decide) h9)
  refine k_iconst S dL_refuses_355 (v := 0) (by decide) (n := 356) rfl ?_
  refine k_istore16 S dL_refuses_356 (by decide) rfl (n := 358) rfl ?_
  refine k_iload14 S dL_refuses_358 (n := 360) rfl ?_
  refine k_if_eq S dL_refuses_360 (tgt := 407) (by decide) (n := 363) rfl (fun h9 => absurd h9 (by decide)) (fun _ => ?_)
  refine k_iload15 S dL_refuses_363 (n := 365) rfl ?_
  refine k_bipush S dL_refuses_365 (v := 12) (by decide) (n := 367) rfl ?_
  refine k_icmp_eq S dL_refuses_367 (tgt := 403) (by decide) (n := 370) rfl (fun h9 => absurd h9 (by decide)) (fun _ => ?_)
  refine k_iload15 S dL_refuses_370 (n := 372) rfl ?_
  refine k_bipush S dL_refuses_372 (v := 14) (by decide) (n := 374) rfl ?_
  refine k_icmp_eq S dL_refuses_374 (tgt := 403) (by decide) (n := 377) rfl (fun h9 => absurd h9 (by decide)) (fun _ => ?_)
  refine k_aload0 S dL_refuses_377 (n := 378) rfl ?_
  refine k_iload15 S dL_refuses_378 (n := 380) rfl ?_
  refine k_iload16 S dL_refuses_380 (n := 382) rfl ?_
  refine k_if_eq S dL_refuses_382 (tgt := 390) (by decide) (n := 385) rfl (fun _ => ?_) (fun h9 => absurd (by decide) h9)
  refine k_iload11 S dL_refuses_390 (n := 392) rfl ?_
  refine k_iconst S dL_refuses_392 (v := 0) (by decide) (n := 393) rfl ?_
  refine k_iconst S dL_refuses_393 (v := 0) (by decide) (n := 394) rfl ?_
  refine k_callH (As := [.ref (za g 0), .int 5, .int 2147483647, .int 0, .int 0]) (rest := []) S (x_act5 (Or.inl rfl) (n_phaseOf_place V (zin_m V.d60))) mv_L_act m_457 dL_refuses_394 rfl rfl ⟨by decide, by decide⟩ rfl rfl (Nat.le_of_ble_eq_true rfl) ⟨by decide, by decide⟩ (n := 397) rfl (fun _ _ h => h.elim) (fun v9 ν9 h9 => ?_)
  rw [h9.1, h9.2]
  show zK x g ({ frames := 10, cells := 192, slots := 1152, locals := 184 } : Room) 17 114 684 397 [some (.ref (za g 0)), some (.int (nI d)), some (.int (nI c)), some (.int al), some (.long ((-99000011))), none, some (.long ((-99000012))), none, some (.int 2147483647), some (.int 2), some (.int 2147483647), some (.int 2147483647), some (.int 2147483647), some (.int 2147483647), some (.int 1), some (.int 5), some (.int 0)] [.long ((zcd "java/lang/IndexOutOfBoundsException"))] μ
  refine k_topl (-99000011) zcd_p ?_
  refine k_lload4 S dL_refuses_397 (n := 399) rfl ?_
  refine k_lcmp S dL_refuses_399 (n := 400) rfl ?_
  refine k_top 0 (by decide) ?_
  refine k_if_ne S dL_refuses_400 (tgt := 407) (by decide) (n := 403) rfl (fun h9 => absurd (by decide) h9) (fun _ => ?_)
  refine k_iconst S dL_refuses_403 (v := 1) (by decide) (n := 404) rfl ?_
  refine k_goto S dL_refuses_404 (tgt := 408) (by decide) ?_
  refine k_istore14 S dL_refuses_408 (by decide) rfl (n := 410) rfl ?_
  refine k_iinc15 S dL_refuses_410 (v := 6) (by decide) (by decide) (n := 413) rfl ?_
  refine k_goto S dL_refuses_413 (tgt := 331) (by decide) ?_
  refine k_iload15 S dL_refuses_331 (n := 333) rfl ?_
  refine k_bipush S dL_refuses_333 (v := 17) (by decide) (n := 335) rfl ?_
  refine k_icmp_ge S dL_refuses_335 (tgt := 416) (by decide) (n := 338) rfl (fun h9 => absurd h9 (by decide)) (fun _ => ?_)
  refine k_iload15 S dL_refuses_338 (n := 340) rfl ?_
  refine k_iconst S dL_refuses_340 (v := 5) (by decide) (n := 341) rfl ?_
  refine k_icmp_le S dL_refuses_341 (tgt := 355) (by decide) (n := 344) rfl (fun h9 => absurd h9 (by decide)) (fun _ => ?_)
  refine k_iload15 S dL_refuses_344 (n := 346) rfl ?_
  refine k_bipush S dL_refuses_346 (v := 10) (by decide) (n := 348) rfl ?_
  refine k_icmp_ge S dL_refuses_348 (tgt := 355) (by decide) (n := 351) rfl (fun h9 => absurd h9 (by decide)) (fun _ => ?_)
  refine k_iconst S dL_refuses_351 (v := 1) (by decide) (n := 352) rfl ?_
  refine k_goto S dL_refuses_352 (tgt := 356) (by decide) ?_
  refine k_istore16 S dL_refuses_356 (by decide) rfl (n := 358) rfl ?_
  refine k_iload14 S dL_refuses_358 (n := 360) rfl ?_
  refine k_if_eq S dL_refuses_360 (tgt := 407) (by decide) (n := 363) rfl (fun h9 => absurd h9 (by decide)) (fun _ => ?_)
  refine k_iload15 S dL_refuses_363 (n := 365) rfl ?_
  refine k_bipush S dL_refuses_365 (v := 12) (by decide) (n := 367) rfl ?_
  refine k_icmp_eq S dL_refuses_367 (tgt := 403) (by decide) (n := 370) rfl (fun h9 => absurd h9 (by decide)) (fun _ => ?_)
  refine k_iload15 S dL_refuses_370 (n := 372) rfl ?_
  refine k_bipush S dL_refuses_372 (v := 14) (by decide) (n := 374) rfl ?_
  refine k_icmp_eq S dL_refuses_374 (tgt := 403) (by decide) (n := 377) rfl (fun h9 => absurd h9 (by decide)) (fun _ => ?_)
  refine k_aload0 S dL_refuses_377 (n := 378) rfl ?_
  refine k_iload15 S dL_refuses_378 (n := 380) rfl ?_
  refine k_iload16 S dL_refuses_380 (n := 382) rfl ?_
  refine k_if_eq S dL_refuses_382 (tgt := 390) (by decide) (n := 385) rfl (fun h9 => absurd h9 (by decide)) (fun _ => ?_)
  refine k_iload12 S dL_refuses_385 (n := 387) rfl ?_
  refine k_goto S dL_refuses_387 (tgt := 392) (by decide) ?_
  refine k_iconst S dL_refuses_392 (v := 0) (by decide) (n := 393) rfl ?_
  refine k_iconst S dL_refuses_393 (v := 0) (by decide) (n := 394) rfl ?_
  refine k_callH (As := [.ref (za g 0), .int 6, .int 2147483647, .int 0, .int 0]) (rest := []) S (x_act6 (Or.inl rfl) (n_points_place V (zin_m (Nat.le_trans V.c10 (by decide))))) mv_L_act m_457 dL_refuses_394 rfl rfl ⟨by decide, by decide⟩ rfl rfl (Nat.le_of_ble_eq_true rfl) ⟨by decide, by decide⟩ (n := 397) rfl (fun _ _ h => h.elim) (fun v9 ν9 h9 => ?_)
  rw [h9.1, h9.2]
  show zK x g ({ frames := 10, cells := 192, slots := 1152, locals := 184 } : Room) 17 115 690 397 [some (.ref (za g 0)), some (.int (nI d)), some (.int (nI c)), some (.int al), some (.long ((-99000011))), none, some (.long ((-99000012))), none, some (.int 2147483647), some (.int 2), some (.int 2147483647), some (.int 2147483647), some (.int 2147483647), some (.int 2147483647), some (.int 1), some (.int 6), some (.int 1)] [.long ((zcd "java/lang/IndexOutOfBoundsException"))] μ
  refine k_topl (-99000011) zcd_p ?_
  refine k_lload4 S dL_refuses_397 (n := 399) rfl ?_
  refine k_lcmp S dL_refuses_399 (n := 400) rfl ?_
  refine k_top 0 (by decide) ?_
  refine k_if_ne S dL_refuses_400 (tgt := 407) (by decide) (n := 403) rfl (fun h9 => absurd (by decide) h9) (fun _ => ?_)
  refine k_iconst S dL_refuses_403 (v := 1) (by decide) (n := 404) rfl ?_
  refine k_goto S dL_refuses_404 (tgt := 408) (by decide) ?_
  refine k_istore14 S dL_refuses_408 (by decide) rfl (n := 410) rfl ?_
  refine k_iinc15 S dL_refuses_410 (v := 7) (by decide) (by decide) (n := 413) rfl ?_
  refine k_goto S dL_refuses_413 (tgt := 331) (by decide) ?_
  refine k_iload15 S dL_refuses_331 (n := 333) rfl ?_
  refine k_bipush S dL_refuses_333 (v := 17) (by decide) (n := 335) rfl ?_
  refine k_icmp_ge S dL_refuses_335 (tgt := 416) (by decide) (n := 338) rfl (fun h9 => absurd h9 (by decide)) (fun _ => ?_)
  refine k_iload15 S dL_refuses_338 (n := 340) rfl ?_
  refine k_iconst S dL_refuses_340 (v := 5) (by decide) (n := 341) rfl ?_
  refine k_icmp_le S dL_refuses_341 (tgt := 355) (by decide) (n := 344) rfl (fun h9 => absurd h9 (by decide)) (fun _ => ?_)
  refine k_iload15 S dL_refuses_344 (n := 346) rfl ?_
  refine k_bipush S dL_refuses_346 (v := 10) (by decide) (n := 348) rfl ?_
  refine k_icmp_ge S dL_refuses_348 (tgt := 355) (by decide) (n := 351) rfl (fun h9 => absurd h9 (by decide)) (fun _ => ?_)
  refine k_iconst S dL_refuses_351 (v := 1) (by decide) (n := 352) rfl ?_
  refine k_goto S dL_refuses_352 (tgt := 356) (by decide) ?_
  refine k_istore16 S dL_refuses_356 (by decide) rfl (n := 358) rfl ?_
  refine k_iload14 S dL_refuses_358 (n := 360) rfl ?_
  refine k_if_eq S dL_refuses_360 (tgt := 407) (by decide) (n := 363) rfl (fun h9 => absurd h9 (by decide)) (fun _ => ?_)
  refine k_iload15 S dL_refuses_363 (n := 365) rfl ?_
  refine k_bipush S dL_refuses_365 (v := 12) (by decide) (n := 367) rfl ?_
  refine k_icmp_eq S dL_refuses_367 (tgt := 403) (by decide) (n := 370) rfl (fun h9 => absurd h9 (by decide)) (fun _ => ?_)
  refine k_iload15 S dL_refuses_370 (n := 372) rfl ?_
  refine k_bipush S dL_refuses_372 (v := 14) (by decide) (n := 374) rfl ?_
  refine k_icmp_eq S dL_refuses_374 (tgt := 403) (by decide) (n := 377) rfl (fun h9 => absurd h9 (by decide)) (fun _ => ?_)
  refine k_aload0 S dL_refuses_377 (n := 378) rfl ?_
  refine k_iload15 S dL_refuses_378 (n := 380) rfl ?_
  refine k_iload16 S dL_refuses_380 (n := 382) rfl ?_
  refine k_if_eq S dL_refuses_382 (tgt := 390) (by decide) (n := 385) rfl (fun h9 => absurd h9 (by decide)) (fun _ => ?_)
  refine k_iload12 S dL_refuses_385 (n := 387) rfl ?_
  refine k_goto S dL_refuses_387 (tgt := 392) (by decide) ?_
  refine k_iconst S dL_refuses_392 (v := 0) (by decide) (n := 393) rfl ?_
  refine k_iconst S dL_refuses_393 (v := 0) (by decide) (n := 394) rfl ?_
  refine k_callH (As := [.ref (za g 0), .int 7, .int 2147483647, .int 0, .int 0]) (rest := []) S (x_act7 (Or.inl rfl) (n_center_place V (zin_m (Nat.le_trans V.c10 (by decide))))) mv_L_act m_457 dL_refuses_394 rfl rfl ⟨by decide, by decide⟩ rfl rfl (Nat.le_of_ble_eq_true rfl) ⟨by decide, by decide⟩ (n := 397) rfl (fun _ _ h => h.elim) (fun v9 ν9 h9 => ?_)
  rw [h9.1, h9.2]
  show zK x g ({ frames := 10, cells := 192, slots := 1152, locals := 184 } : Room) 17 117 702 397 [some (.ref (za g 0)), some (.int (nI d)), some (.int (nI c)), some (.int al), some (.long ((-99000011))), none, some (.long ((-99000012))), none, some (.int 2147483647), some (.int 2), some (.int 2147483647), some (.int 2147483647), some (.int 2147483647), some (.int 2147483647), some (.int 1), some (.int 7), some (.int 1)] [.long ((zcd "java/lang/IndexOutOfBoundsException"))] μ
  refine k_topl (-99000011) zcd_p ?_
  refine k_lload4 S dL_refuses_397 (n := 399) rfl ?_
  refine k_lcmp S dL_refuses_399 (n := 400) rfl ?_
  refine k_top 0 (by decide) ?_
  refine k_if_ne S dL_refuses_400 (tgt := 407) (by decide) (n := 403) rfl (fun h9 => absurd (by decide) h9) (fun _ => ?_)
  refine k_iconst S dL_refuses_403 (v := 1) (by decide) (n := 404) rfl ?_
  refine k_goto S dL_refuses_404 (tgt := 408) (by decide) ?_
  refine k_istore14 S dL_refuses_408 (by decide) rfl (n := 410) rfl ?_
  refine k_iinc15 S dL_refuses_410 (v := 8) (by decide) (by decide) (n := 413) rfl ?_
  refine k_goto S dL_refuses_413 (tgt := 331) (by decide) ?_
  refine k_iload15 S dL_refuses_331 (n := 333) rfl ?_
  refine k_bipush S dL_refuses_333 (v := 17) (by decide) (n := 335) rfl ?_
  refine k_icmp_ge S dL_refuses_335 (tgt := 416) (by decide) (n := 338) rfl (fun h9 => absurd h9 (by decide)) (fun _ => ?_)
  refine k_iload15 S dL_refuses_338 (n := 340) rfl ?_
  refine k_iconst S dL_refuses_340 (v := 5) (by decide) (n := 341) rfl ?_
  refine k_icmp_le S dL_refuses_341 (tgt := 355) (by decide) (n := 344) rfl (fun h9 => absurd h9 (by decide)) (fun _ => ?_)
  refine k_iload15 S dL_refuses_344 (n := 346) rfl ?_
  refine k_bipush S dL_refuses_346 (v := 10) (by decide) (n := 348) rfl ?_
  refine k_icmp_ge S dL_refuses_348 (tgt := 355) (by decide) (n := 351) rfl (fun h9 => absurd h9 (by decide)) (fun _ => ?_)
  refine k_iconst S dL_refuses_351 (v := 1) (by decide) (n := 352) rfl ?_
  refine k_goto S dL_refuses_352 (tgt := 356) (by decide) ?_
  refine k_istore16 S dL_refuses_356 (by decide) rfl (n := 358) rfl ?_
  refine k_iload14 S dL_refuses_358 (n := 360) rfl ?_
  refine k_if_eq S dL_refuses_360 (tgt := 407) (by decide) (n := 363) rfl (fun h9 => absurd h9 (by decide)) (fun _ => ?_)
  refine k_iload15 S dL_refuses_363 (n := 365) rfl ?_
  refine k_bipush S dL_refuses_365 (v := 12) (by decide) (n := 367) rfl ?_
  refine k_icmp_eq S dL_refuses_367 (tgt := 403) (by decide) (n := 370) rfl (fun h9 => absurd h9 (by decide)) (fun _ => ?_)
  refine k_iload15 S dL_refuses_370 (n := 372) rfl ?_
  refine k_bipush S dL_refuses_372 (v := 14) (by decide) (n := 374) rfl ?_
  refine k_icmp_eq S dL_refuses_374 (tgt := 403) (by decide) (n := 377) rfl (fun h9 => absurd h9 (by decide)) (fun _ => ?_)
  refine k_aload0 S dL_refuses_377 (n := 378) rfl ?_
  refine k_iload15 S dL_refuses_378 (n := 380) rfl ?_
  refine k_iload16 S dL_refuses_380 (n := 382) rfl ?_
  refine k_if_eq S dL_refuses_382 (tgt := 390) (by decide) (n := 385) rfl (fun h9 => absurd h9 (by decide)) (fun _ => ?_)
  refine k_iload12 S dL_refuses_385 (n := 387) rfl ?_
  refine k_goto S dL_refuses_387 (tgt := 392) (by decide) ?_
  refine k_iconst S dL_refuses_392 (v := 0) (by decide) (n := 393) rfl ?_
  refine k_iconst S dL_refuses_393 (v := 0) (by decide) (n := 394) rfl ?_
  refine k_callH (As := [.ref (za g 0), .int 8, .int 2147483647, .int 0, .int 0]) (rest := []) S (x_act8 (Or.inl rfl) (n_width_place V (zin_m (Nat.le_trans V.c10 (by decide))))) mv_L_act m_457 dL_refuses_394 rfl rfl ⟨by decide, by decide⟩ rfl rfl (Nat.le_of_ble_eq_true rfl) ⟨by decide, by decide⟩ (n := 397) rfl (fun _ _ h => h.elim) (fun v9 ν9 h9 => ?_)
  rw [h9.1, h9.2]
  show zK x g ({ frames := 10, cells := 192, slots := 1152, locals := 184 } : Room) 17 119 714 397 [some (.ref (za g 0)), some (.int (nI d)), some (.int (nI c)), some (.int al), some (.long ((-99000011))), none, some (.long ((-99000012))), none, some (.int 2147483647), some (.int 2), some (.int 2147483647), some (.int 2147483647), some (.int 2147483647), some (.int 2147483647), some (.int 1), some (.int 8), some (.int 1)] [.long ((zcd "java/lang/IndexOutOfBoundsException"))] μ
  refine k_topl (-99000011) zcd_p ?_
  refine k_lload4 S dL_refuses_397 (n := 399) rfl ?_
  refine k_lcmp S dL_refuses_399 (n := 400) rfl ?_
  refine k_top 0 (by decide) ?_
  refine k_if_ne S dL_refuses_400 (tgt := 407) (by decide) (n := 403) rfl (fun h9 => absurd (by decide) h9) (fun _ => ?_)
  refine k_iconst S dL_refuses_403 (v := 1) (by decide) (n := 404) rfl ?_
  refine k_goto S dL_refuses_404 (tgt := 408) (by decide) ?_
  refine k_istore14 S dL_refuses_408 (by decide) rfl (n := 410) rfl ?_
  refine k_iinc15 S dL_refuses_410 (v := 9) (by decide) (by decide) (n := 413) rfl ?_
  refine k_goto S dL_refuses_413 (tgt := 331) (by decide) ?_
  refine k_iload15 S dL_refuses_331 (n := 333) rfl ?_
  refine k_bipush S dL_refuses_333 (v := 17) (by decide) (n := 335) rfl ?_
  refine k_icmp_ge S dL_refuses_335 (tgt := 416) (by decide) (n := 338) rfl (fun h9 => absurd h9 (by decide)) (fun _ => ?_)
  refine k_iload15 S dL_refuses_338 (n := 340) rfl ?_
  refine k_iconst S dL_refuses_340 (v := 5) (by decide) (n := 341) rfl ?_
  refine k_icmp_le S dL_refuses_341 (tgt := 355) (by decide) (n := 344) rfl (fun h9 => absurd h9 (by decide)) (fun _ => ?_)
  refine k_iload15 S dL_refuses_344 (n := 346) rfl ?_
  refine k_bipush S dL_refuses_346 (v := 10) (by decide) (n := 348) rfl ?_
  refine k_icmp_ge S dL_refuses_348 (tgt := 355) (by decide) (n := 351) rfl (fun h9 => absurd h9 (by decide)) (fun _ => ?_)
  refine k_iconst S dL_refuses_351 (v := 1) (by decide) (n := 352) rfl ?_
  refine k_goto S dL_refuses_352 (tgt := 356) (by decide) ?_
  refine k_istore16 S dL_refuses_356 (by decide) rfl (n := 358) rfl ?_
  refine k_iload14 S dL_refuses_358 (n := 360) rfl ?_
  refine k_if_eq S dL_refuses_360 (tgt := 407) (by decide) (n := 363) rfl (fun h9 => absurd h9 (by decide)) (fun _ => ?_)
  refine k_iload15 S dL_refuses_363 (n := 365) rfl ?_
  refine k_bipush S dL_refuses_365 (v := 12) (by decide) (n := 367) rfl ?_
  refine k_icmp_eq S dL_refuses_367 (tgt := 403) (by decide) (n := 370) rfl (fun h9 => absurd h9 (by decide)) (fun _ => ?_)
  refine k_iload15 S dL_refuses_370 (n := 372) rfl ?_
  refine k_bipush S dL_refuses_372 (v := 14) (by decide) (n := 374) rfl ?_
  refine k_icmp_eq S dL_refuses_374 (tgt := 403) (by decide) (n := 377) rfl (fun h9 => absurd h9 (by decide)) (fun _ => ?_)
  refine k_aload0 S dL_refuses_377 (n := 378) rfl ?_
  refine k_iload15 S dL_refuses_378 (n := 380) rfl ?_
  refine k_iload16 S dL_refuses_380 (n := 382) rfl ?_
  refine k_if_eq S dL_refuses_382 (tgt := 390) (by decide) (n := 385) rfl (fun h9 => absurd h9 (by decide)) (fun _ => ?_)
  refine k_iload12 S dL_refuses_385 (n := 387) rfl ?_
  refine k_goto S dL_refuses_387 (tgt := 392) (by decide) ?_
  refine k_iconst S dL_refuses_392 (v := 0) (by decide) (n := 393) rfl ?_
  refine k_iconst S dL_refuses_393 (v := 0) (by decide) (n := 394) rfl ?_
  refine k_callH (As := [.ref (za g 0), .int 9, .int 2147483647, .int 0, .int 0]) (rest := []) S (x_act9 (Or.inl rfl) (n_rangeLimit_place V (zin_m (Nat.le_trans V.c10 (by decide))))) mv_L_act m_457 dL_refuses_394 rfl rfl ⟨by decide, by decide⟩ rfl rfl (Nat.le_of_ble_eq_true rfl) ⟨by decide, by decide⟩ (n := 397) rfl (fun _ _ h => h.elim) (fun v9 ν9 h9 => ?_)
  rw [h9.1, h9.2]
  show zK x g ({ frames := 10, cells := 192, slots := 1152, locals := 184 } : Room) 17 121 726 397 [some (.ref (za g 0)), some (.int (nI d)), some (.int (nI c)), some (.int al), some (.long ((-99000011))), none, some (.long ((-99000012))), none, some (.int 2147483647), some (.int 2), some (.int 2147483647), some (.int 2147483647), some (.int 2147483647), some (.int 2147483647), some (.int 1), some (.int 9), some (.int 1)] [.long ((zcd "java/lang/IndexOutOfBoundsException"))] μ
  refine k_topl (-99000011) zcd_p ?_
  refine k_lload4 S dL_refuses_397 (n := 399) rfl ?_
  refine k_lcmp S dL_refuses_399 (n := 400) rfl ?_
  refine k_top 0 (by decide) ?_
  refine k_if_ne S dL_refuses_400 (tgt := 407) (by decide) (n := 403) rfl (fun h9 => absurd (by decide) h9) (fun _ => ?_)
  refine k_iconst S dL_refuses_403 (v := 1) (by decide) (n := 404) rfl ?_
  refine k_goto S dL_refuses_404 (tgt := 408) (by decide) ?_
  refine k_istore14 S dL_refuses_408 (by decide) rfl (n := 410) rfl ?_
  refine k_iinc15 S dL_refuses_410 (v := 10) (by decide) (by decide) (n := 413) rfl ?_
  refine k_goto S dL_refuses_413 (tgt := 331) (by decide) ?_
  refine k_iload15 S dL_refuses_331 (n := 333) rfl ?_
  refine k_bipush S dL_refuses_333 (v := 17) (by decide) (n := 335) rfl ?_
  refine k_icmp_ge S dL_refuses_335 (tgt := 416) (by decide) (n := 338) rfl (fun h9 => absurd h9 (by decide)) (fun _ => ?_)
  refine k_iload15 S dL_refuses_338 (n := 340) rfl ?_
  refine k_iconst S dL_refuses_340 (v := 5) (by decide) (n := 341) rfl ?_
  refine k_icmp_le S dL_refuses_341 (tgt := 355) (by decide) (n := 344) rfl (fun h9 => absurd h9 (by decide)) (fun _ => ?_)
  refine k_iload15 S dL_refuses_344 (n := 346) rfl ?_
  refine k_bipush S dL_refuses_346 (v := 10) (by decide) (n := 348) rfl ?_
  refine k_icmp_ge S dL_refuses_348 (tgt := 355) (by decide) (n := 351) rfl (fun _ => ?_) (fun h9 => absurd (by decide) h9)
  refine k_iconst S dL_refuses_355 (v := 0) (by decide) (n := 356) rfl ?_
  refine k_istore16 S dL_refuses_356 (by decide) rfl (n := 358) rfl ?_
  refine k_iload14 S dL_refuses_358 (n := 360) rfl ?_
  refine k_if_eq S dL_refuses_360 (tgt := 407) (by decide) (n := 363) rfl (fun h9 => absurd h9 (by decide)) (fun _ => ?_)
  refine k_iload15 S dL_refuses_363 (n := 365) rfl ?_
  refine k_bipush S dL_refuses_365 (v := 12) (by decide) (n := 367) rfl ?_
  refine k_icmp_eq S dL_refuses_367 (tgt := 403) (by decide) (n := 370) rfl (fun h9 => absurd h9 (by decide)) (fun _ => ?_)
  refine k_iload15 S dL_refuses_370 (n := 372) rfl ?_
  refine k_bipush S dL_refuses_372 (v := 14) (by decide) (n := 374) rfl ?_
  refine k_icmp_eq S dL_refuses_374 (tgt := 403) (by decide) (n := 377) rfl (fun h9 => absurd h9 (by decide)) (fun _ => ?_)
  refine k_aload0 S dL_refuses_377 (n := 378) rfl ?_
  refine k_iload15 S dL_refuses_378 (n := 380) rfl ?_
  refine k_iload16 S dL_refuses_380 (n := 382) rfl ?_
  refine k_if_eq S dL_refuses_382 (tgt := 390) (by decide) (n := 385) rfl (fun _ => ?_) (fun h9 => absurd (by decide) h9)
  refine k_iload11 S dL_refuses_390 (n := 392) rfl ?_
  refine k_iconst S dL_refuses_392 (v := 0) (by decide) (n := 393) rfl ?_
  refine k_iconst S dL_refuses_393 (v := 0) (by decide) (n := 394) rfl ?_
  refine k_callH (As := [.ref (za g 0), .int 10, .int 2147483647, .int 0, .int 0]) (rest := []) S (x_act10 (Or.inl rfl) (n_signals_place V (zin_m V.d60))) mv_L_act m_457 dL_refuses_394 rfl rfl ⟨by decide, by decide⟩ rfl rfl (Nat.le_of_ble_eq_true rfl) ⟨by decide, by decide⟩ (n := 397) rfl (fun _ _ h => h.elim) (fun v9 ν9 h9 => ?_)
  rw [h9.1, h9.2]
  show zK x g ({ frames := 10, cells := 192, slots := 1152, locals := 184 } : Room) 17 122 732 397 [some (.ref (za g 0)), some (.int (nI d)), some (.int (nI c)), some (.int al), some (.long ((-99000011))), none, some (.long ((-99000012))), none, some (.int 2147483647), some (.int 2), some (.int 2147483647), some (.int 2147483647), some (.int 2147483647), some (.int 2147483647), some (.int 1), some (.int 10), some (.int 0)] [.long ((zcd "java/lang/IndexOutOfBoundsException"))] μ
  refine k_topl (-99000011) zcd_p ?_
  refine k_lload4 S dL_refuses_397 (n := 399) rfl ?_
  refine k_lcmp S dL_refuses_399 (n := 400) rfl ?_
  refine k_top 0 (by decide) ?_
  refine k_if_ne S dL_refuses_400 (tgt := 407) (by decide) (n := 403) rfl (fun h9 => absurd (by decide) h9) (fun _ => ?_)
  refine k_iconst S dL_refuses_403 (v := 1) (by decide) (n := 404) rfl ?_
  refine k_goto S dL_refuses_404 (tgt := 408) (by decide) ?_
  refine k_istore14 S dL_refuses_408 (by decide) rfl (n := 410) rfl ?_
  refine k_iinc15 S dL_refuses_410 (v := 11) (by decide) (by decide) (n := 413) rfl ?_
  refine k_goto S dL_refuses_413 (tgt := 331) (by decide) ?_
  refine k_iload15 S dL_refuses_331 (n := 333) rfl ?_
  refine k_bipush S dL_refuses_333 (v := 17) (by decide) (n := 335) rfl ?_
  refine k_icmp_ge S dL_refuses_335 (tgt := 416) (by decide) (n := 338) rfl (fun h9 => absurd h9 (by decide)) (fun _ => ?_)
  refine k_iload15 S dL_refuses_338 (n := 340) rfl ?_
  refine k_iconst S dL_refuses_340 (v := 5) (by decide) (n := 341) rfl ?_
  refine k_icmp_le S dL_refuses_341 (tgt := 355) (by decide) (n := 344) rfl (fun h9 => absurd h9 (by decide)) (fun _ => ?_)
  refine k_iload15 S dL_refuses_344 (n := 346) rfl ?_
  refine k_bipush S dL_refuses_346 (v := 10) (by decide) (n := 348) rfl ?_
  refine k_icmp_ge S dL_refuses_348 (tgt := 355) (by decide) (n := 351) rfl (fun _ => ?_) (fun h9 => absurd (by decide) h9)
  refine k_iconst S dL_refuses_355 (v := 0) (by decide) (n := 356) rfl ?_
  refine k_istore16 S dL_refuses_356 (by decide) rfl (n := 358) rfl ?_
  refine k_iload14 S dL_refuses_358 (n := 360) rfl ?_
  refine k_if_eq S dL_refuses_360 (tgt := 407) (by decide) (n := 363) rfl (fun h9 => absurd h9 (by decide)) (fun _ => ?_)
  refine k_iload15 S dL_refuses_363 (n := 365) rfl ?_
  refine k_bipush S dL_refuses_365 (v := 12) (by decide) (n := 367) rfl ?_
  refine k_icmp_eq S dL_refuses_367 (tgt := 403) (by decide) (n := 370) rfl (fun h9 => absurd h9 (by decide)) (fun _ => ?_)
  refine k_iload15 S dL_refuses_370 (n := 372) rfl ?_
  refine k_bipush S dL_refuses_372 (v := 14) (by decide) (n := 374) rfl ?_
  refine k_icmp_eq S dL_refuses_374 (tgt := 403) (by decide) (n := 377) rfl (fun h9 => absurd h9 (by decide)) (fun _ => ?_)
  refine k_aload0 S dL_refuses_377 (n := 378) rfl ?_
  refine k_iload15 S dL_refuses_378 (n := 380) rfl ?_
  refine k_iload16 S dL_refuses_380 (n := 382) rfl ?_
  refine k_if_eq S dL_refuses_382 (tgt := 390) (by decide) (n := 385) rfl (fun _ => ?_) (fun h9 => absurd (by decide) h9)
  refine k_iload11 S dL_refuses_390 (n := 392) rfl ?_
  refine k_iconst S dL_refuses_392 (v := 0) (by decide) (n := 393) rfl ?_
  refine k_iconst S dL_refuses_393 (v := 0) (by decide) (n := 394) rfl ?_
  refine k_callH (As := [.ref (za g 0), .int 11, .int 2147483647, .int 0, .int 0]) (rest := []) S (x_act11 (Or.inl rfl) (n_signalsByWindows_place V (zin_m V.d60))) mv_L_act m_457 dL_refuses_394 rfl rfl ⟨by decide, by decide⟩ rfl rfl (Nat.le_of_ble_eq_true rfl) ⟨by decide, by decide⟩ (n := 397) rfl (fun _ _ h => h.elim) (fun v9 ν9 h9 => ?_)
  rw [h9.1, h9.2]
  show zK x g ({ frames := 10, cells := 192, slots := 1152, locals := 184 } : Room) 17 123 738 397 [some (.ref (za g 0)), some (.int (nI d)), some (.int (nI c)), some (.int al), some (.long ((-99000011))), none, some (.long ((-99000012))), none, some (.int 2147483647), some (.int 2), some (.int 2147483647), some (.int 2147483647), some (.int 2147483647), some (.int 2147483647), some (.int 1), some (.int 11), some (.int 0)] [.long ((zcd "java/lang/IndexOutOfBoundsException"))] μ
  refine k_topl (-99000011) zcd_p ?_
  refine k_lload4 S dL_refuses_397 (n := 399) rfl ?_
  refine k_lcmp S dL_refuses_399 (n := 400) rfl ?_
  refine k_top 0 (by decide) ?_
  refine k_if_ne S dL_refuses_400 (tgt := 407) (by decide) (n := 403) rfl (fun h9 => absurd (by decide) h9) (fun _ => ?_)
  refine k_iconst S dL_refuses_403 (v := 1) (by decide) (n := 404) rfl ?_
  refine k_goto S dL_refuses_404 (tgt := 408) (by decide) ?_
  refine k_istore14 S dL_refuses_408 (by decide) rfl (n := 410) rfl ?_
  refine k_iinc15 S dL_refuses_410 (v := 12) (by decide) (by decide) (n := 413) rfl ?_
  refine k_goto S dL_refuses_413 (tgt := 331) (by decide) ?_
  refine k_iload15 S dL_refuses_331 (n := 333) rfl ?_
  refine k_bipush S dL_refuses_333 (v := 17) (by decide) (n := 335) rfl ?_
  refine k_icmp_ge S dL_refuses_335 (tgt := 416) (by decide) (n := 338) rfl (fun h9 => absurd h9 (by decide)) (fun _ => ?_)
  refine k_iload15 S dL_refuses_338 (n := 340) rfl ?_
  refine k_iconst S dL_refuses_340 (v := 5) (by decide) (n := 341) rfl ?_
  refine k_icmp_le S dL_refuses_341 (tgt := 355) (by decide) (n := 344) rfl (fun h9 => absurd h9 (by decide)) (fun _ => ?_)
  refine k_iload15 S dL_refuses_344 (n := 346) rfl ?_
  refine k_bipush S dL_refuses_346 (v := 10) (by decide) (n := 348) rfl ?_
  refine k_icmp_ge S dL_refuses_348 (tgt := 355) (by decide) (n := 351) rfl (fun _ => ?_) (fun h9 => absurd (by decide) h9)
  refine k_iconst S dL_refuses_355 (v := 0) (by decide) (n := 356) rfl ?_
  refine k_istore16 S dL_refuses_356 (by decide) rfl (n := 358) rfl ?_
  refine k_iload14 S dL_refuses_358 (n := 360) rfl ?_
  refine k_if_eq S dL_refuses_360 (tgt := 407) (by decide) (n := 363) rfl (fun h9 => absurd h9 (by decide)) (fun _ => ?_)
  refine k_iload15 S dL_refuses_363 (n := 365) rfl ?_
  refine k_bipush S dL_refuses_365 (v := 12) (by decide) (n := 367) rfl ?_
  refine k_icmp_eq S dL_refuses_367 (tgt := 403) (by decide) (n := 370) rfl (fun _ => ?_) (fun h9 => absurd (by decide) h9)
  refine k_iconst S dL_refuses_403 (v := 1) (by decide) (n := 404) rfl ?_
  refine k_goto S dL_refuses_404 (tgt := 408) (by decide) ?_
  refine k_istore14 S dL_refuses_408 (by decide) rfl (n := 410) rfl ?_
  refine k_iinc15 S dL_refuses_410 (v := 13) (by decide) (by decide) (n := 413) rfl ?_
  refine k_goto S dL_refuses_413 (tgt := 331) (by decide) ?_
  refine k_iload15 S dL_refuses_331 (n := 333) rfl ?_
  refine k_bipush S dL_refuses_333 (v := 17) (by decide) (n := 335) rfl ?_
  refine k_icmp_ge S dL_refuses_335 (tgt := 416) (by decide) (n := 338) rfl (fun h9 => absurd h9 (by decide)) (fun _ => ?_)
  refine k_iload15 S dL_refuses_338 (n := 340) rfl ?_
  refine k_iconst S dL_refuses_340 (v := 5) (by decide) (n := 341) rfl ?_
  refine k_icmp_le S dL_refuses_341 (tgt := 355) (by decide) (n := 344) rfl (fun h9 => absurd h9 (by decide)) (fun _ => ?_)
  refine k_iload15 S dL_refuses_344 (n := 346) rfl ?_
  refine k_bipush S dL_refuses_346 (v := 10) (by decide) (n := 348) rfl ?_
  refine k_icmp_ge S dL_refuses_348 (tgt := 355) (by decide) (n := 351) rfl (fun _ => ?_) (fun h9 => absurd (by decide) h9)
  refine k_iconst S dL_refuses_355 (v := 0) (by decide) (n := 356) rfl ?_
  refine k_istore16 S dL_refuses_356 (by decide) rfl (n := 358) rfl ?_
  refine k_iload14 S dL_refuses_358 (n := 360) rfl ?_
  refine k_if_eq S dL_refuses_360 (tgt := 407) (by decide) (n := 363) rfl (fun h9 => absurd h9 (by decide)) (fun _ => ?_)
  refine k_iload15 S dL_refuses_363 (n := 365) rfl ?_
  refine k_bipush S dL_refuses_365 (v := 12) (by decide) (n := 367) rfl ?_
  refine k_icmp_eq S dL_refuses_367 (tgt := 403) (by decide) (n := 370) rfl (fun h9 => absurd h9 (by decide)) (fun _ => ?_)
  refine k_iload15 S dL_refuses_370 (n := 372) rfl ?_
  refine k_bipush S dL_refuses_372 (v := 14) (by decide) (n := 374) rfl ?_
  refine k_icmp_eq S dL_refuses_374 (tgt := 403) (by decide) (n := 377) rfl (fun h9 => absurd h9 (by decide)) (fun _ => ?_)
  refine k_aload0 S dL_refuses_377 (n := 378) rfl ?_
  refine k_iload15 S dL_refuses_378 (n := 380) rfl ?_
  refine k_iload16 S dL_refuses_380 (n := 382) rfl ?_
  refine k_if_eq S dL_refuses_382 (tgt := 390) (by decide) (n := 385) rfl (fun _ => ?_) (fun h9 => absurd (by decide) h9)
  refine k_iload11 S dL_refuses_390 (n := 392) rfl ?_
  refine k_iconst S dL_refuses_392 (v := 0) (by decide) (n := 393) rfl ?_
  refine k_iconst S dL_refuses_393 (v := 0) (by decide) (n := 394) rfl ?_
  refine k_callH (As := [.ref (za g 0), .int 13, .int 2147483647, .int 0, .int 0]) (rest := []) S (x_act13 (Or.inl rfl) (n_isWide_place V (zin_m V.d60))) mv_L_act m_457 dL_refuses_394 rfl rfl ⟨by decide, by decide⟩ rfl rfl (Nat.le_of_ble_eq_true rfl) ⟨by decide, by decide⟩ (n := 397) rfl (fun _ _ h => h.elim) (fun v9 ν9 h9 => ?_)
  rw [h9.1, h9.2]
  show zK x g ({ frames := 10, cells := 192, slots := 1152, locals := 184 } : Room) 17 124 744 397 [some (.ref (za g 0)), some (.int (nI d)), some (.int (nI c)), some (.int al), some (.long ((-99000011))), none, some (.long ((-99000012))), none, some (.int 2147483647), some (.int 2), some (.int 2147483647), some (.int 2147483647), some (.int 2147483647), some (.int 2147483647), some (.int 1), some (.int 13), some (.int 0)] [.long ((zcd "java/lang/IndexOutOfBoundsException"))] μ
  refine k_topl (-99000011) zcd_p ?_
  refine k_lload4 S dL_refuses_397 (n := 399) rfl ?_
  refine k_lcmp S dL_refuses_399 (n := 400) rfl ?_
  refine k_top 0 (by decide) ?_
  refine k_if_ne S dL_refuses_400 (tgt := 407) (by decide) (n := 403) rfl (fun h9 => absurd (by decide) h9) (fun _ => ?_)
  refine k_iconst S dL_refuses_403 (v := 1) (by decide) (n := 404) rfl ?_
  refine k_goto S dL_refuses_404 (tgt := 408) (by decide) ?_
  refine k_istore14 S dL_refuses_408 (by decide) rfl (n := 410) rfl ?_
  refine k_iinc15 S dL_refuses_410 (v := 14) (by decide) (by decide) (n := 413) rfl ?_
  refine k_goto S dL_refuses_413 (tgt := 331) (by decide) ?_
  refine k_iload15 S dL_refuses_331 (n := 333) rfl ?_
  refine k_bipush S dL_refuses_333 (v := 17) (by decide) (n := 335) rfl ?_
  refine k_icmp_ge S dL_refuses_335 (tgt := 416) (by decide) (n := 338) rfl (fun h9 => absurd h9 (by decide)) (fun _ => ?_)
  refine k_iload15 S dL_refuses_338 (n := 340) rfl ?_
  refine k_iconst S dL_refuses_340 (v := 5) (by decide) (n := 341) rfl ?_
  refine k_icmp_le S dL_refuses_341 (tgt := 355) (by decide) (n := 344) rfl (fun h9 => absurd h9 (by decide)) (fun _ => ?_)
  refine k_iload15 S dL_refuses_344 (n := 346) rfl ?_
  refine k_bipush S dL_refuses_346 (v := 10) (by decide) (n := 348) rfl ?_
  refine k_icmp_ge S dL_refuses_348 (tgt := 355) (by decide) (n := 351) rfl (fun _ => ?_) (fun h9 => absurd (by decide) h9)
  refine k_iconst S dL_refuses_355 (v := 0) (by decide) (n := 356) rfl ?_
  refine k_istore16 S dL_refuses_356 (by decide) rfl (n := 358) rfl ?_
  refine k_iload14 S dL_refuses_358 (n := 360) rfl ?_
  refine k_if_eq S dL_refuses_360 (tgt := 407) (by decide) (n := 363) rfl (fun h9 => absurd h9 (by decide)) (fun _ => ?_)
  refine k_iload15 S dL_refuses_363 (n := 365) rfl ?_
  refine k_bipush S dL_refuses_365 (v := 12) (by decide) (n := 367) rfl ?_
  refine k_icmp_eq S dL_refuses_367 (tgt := 403) (by decide) (n := 370) rfl (fun h9 => absurd h9 (by decide)) (fun _ => ?_)
  refine k_iload15 S dL_refuses_370 (n := 372) rfl ?_
  refine k_bipush S dL_refuses_372 (v := 14) (by decide) (n := 374) rfl ?_
  refine k_icmp_eq S dL_refuses_374 (tgt := 403) (by decide) (n := 377) rfl (fun _ => ?_) (fun h9 => absurd (by decide) h9)
  refine k_iconst S dL_refuses_403 (v := 1) (by decide) (n := 404) rfl ?_
  refine k_goto S dL_refuses_404 (tgt := 408) (by decide) ?_
  refine k_istore14 S dL_refuses_408 (by decide) rfl (n := 410) rfl ?_
  refine k_iinc15 S dL_refuses_410 (v := 15) (by decide) (by decide) (n := 413) rfl ?_
  refine k_goto S dL_refuses_413 (tgt := 331) (by decide) ?_
  refine k_iload15 S dL_refuses_331 (n := 333) rfl ?_
  refine k_bipush S dL_refuses_333 (v := 17) (by decide) (n := 335) rfl ?_
  refine k_icmp_ge S dL_refuses_335 (tgt := 416) (by decide) (n := 338) rfl (fun h9 => absurd h9 (by decide)) (fun _ => ?_)
  refine k_iload15 S dL_refuses_338 (n := 340) rfl ?_
  refine k_iconst S dL_refuses_340 (v := 5) (by decide) (n := 341) rfl ?_
  refine k_icmp_le S dL_refuses_341 (tgt := 355) (by decide) (n := 344) rfl (fun h9 => absurd h9 (by decide)) (fun _ => ?_)
  refine k_iload15 S dL_refuses_344 (n := 346) rfl ?_
  refine k_bipush S dL_refuses_346 (v := 10) (by decide) (n := 348) rfl ?_
  refine k_icmp_ge S dL_refuses_348 (tgt := 355) (by decide) (n := 351) rfl (fun _ => ?_) (fun h9 => absurd (by decide) h9)
  refine k_iconst S dL_refuses_355 (v := 0) (by decide) (n := 356) rfl ?_
  refine k_istore16 S dL_refuses_356 (by decide) rfl (n := 358) rfl ?_
  refine k_iload14 S dL_refuses_358 (n := 360) rfl ?_
  refine k_if_eq S dL_refuses_360 (tgt := 407) (by decide) (n := 363) rfl (fun h9 => absurd h9 (by decide)) (fun _ => ?_)
  refine k_iload15 S dL_refuses_363 (n := 365) rfl ?_
  refine k_bipush S dL_refuses_365 (v := 12) (by decide) (n := 367) rfl ?_
  refine k_icmp_eq S dL_refuses_367 (tgt := 403) (by decide) (n := 370) rfl (fun h9 => absurd h9 (by decide)) (fun _ => ?_)
  refine k_iload15 S dL_refuses_370 (n := 372) rfl ?_
  refine k_bipush S dL_refuses_372 (v := 14) (by decide) (n := 374) rfl ?_
  refine k_icmp_eq S dL_refuses_374 (tgt := 403) (by decide) (n := 377) rfl (fun h9 => absurd h9 (by decide)) (fun _ => ?_)
  refine k_aload0 S dL_refuses_377 (n := 378) rfl ?_
  refine k_iload15 S dL_refuses_378 (n := 380) rfl ?_
  refine k_iload16 S dL_refuses_380 (n := 382) rfl ?_
  refine k_if_eq S dL_refuses_382 (tgt := 390) (by decide) (n := 385) rfl (fun _ => ?_) (fun h9 => absurd (by decide) h9)
  refine k_iload11 S dL_refuses_390 (n := 392) rfl ?_
  refine k_iconst S dL_refuses_392 (v := 0) (by decide) (n := 393) rfl ?_
  refine k_iconst S dL_refuses_393 (v := 0) (by decide) (n := 394) rfl ?_
  refine k_callH (As := [.ref (za g 0), .int 15, .int 2147483647, .int 0, .int 0]) (rest := []) S (x_act15 (Or.inl rfl) (n_weighted_place V (zin_m V.d60))) mv_L_act m_457 dL_refuses_394 rfl rfl ⟨by decide, by decide⟩ rfl rfl (Nat.le_of_ble_eq_true rfl) ⟨by decide, by decide⟩ (n := 397) rfl (fun _ _ h => h.elim) (fun v9 ν9 h9 => ?_)
  rw [h9.1, h9.2]
  show zK x g ({ frames := 10, cells := 192, slots := 1152, locals := 184 } : Room) 17 126 756 397 [some (.ref (za g 0)), some (.int (nI d)), some (.int (nI c)), some (.int al), some (.long ((-99000011))), none, some (.long ((-99000012))), none, some (.int 2147483647), some (.int 2), some (.int 2147483647), some (.int 2147483647), some (.int 2147483647), some (.int 2147483647), some (.int 1), some (.int 15), some (.int 0)] [.long ((zcd "java/lang/IndexOutOfBoundsException"))] μ
  refine k_topl (-99000011) zcd_p ?_
  refine k_lload4 S dL_refuses_397 (n := 399) rfl ?_
  refine k_lcmp S dL_refuses_399 (n := 400) rfl ?_
  refine k_top 0 (by decide) ?_
  refine k_if_ne S dL_refuses_400 (tgt := 407) (by decide) (n := 403) rfl (fun h9 => absurd (by decide) h9) (fun _ => ?_)
  refine k_iconst S dL_refuses_403 (v := 1) (by decide) (n := 404) rfl ?_
  refine k_goto S dL_refuses_404 (tgt := 408) (by decide) ?_
  refine k_istore14 S dL_refuses_408 (by decide) rfl (n := 410) rfl ?_
  refine k_iinc15 S dL_refuses_410 (v := 16) (by decide) (by decide) (n := 413) rfl ?_
  refine k_goto S dL_refuses_413 (tgt := 331) (by decide) ?_
  refine k_iload15 S dL_refuses_331 (n := 333) rfl ?_
  refine k_bipush S dL_refuses_333 (v := 17) (by decide) (n := 335) rfl ?_
  refine k_icmp_ge S dL_refuses_335 (tgt := 416) (by decide) (n := 338) rfl (fun h9 => absurd h9 (by decide)) (fun _ => ?_)
  refine k_iload15 S dL_refuses_338 (n := 340) rfl ?_
  refine k_iconst S dL_refuses_340 (v := 5) (by decide) (n := 341) rfl ?_
  refine k_icmp_le S dL_refuses_341 (tgt := 355) (by decide) (n := 344) rfl (fun h9 => absurd h9 (by decide)) (fun _ => ?_)
  refine k_iload15 S dL_refuses_344 (n := 346) rfl ?_
  refine k_bipush S dL_refuses_346 (v := 10) (by decide) (n := 348) rfl ?_
  refine k_icmp_ge S dL_refuses_348 (tgt := 355) (by decide) (n := 351) rfl (fun _ => ?_) (fun h9 => absurd (by decide) h9)
  refine k_iconst S dL_refuses_355 (v := 0) (by decide) (n := 356) rfl ?_
  refine k_istore16 S dL_refuses_356 (by decide) rfl (n := 358) rfl ?_
  refine k_iload14 S dL_refuses_358 (n := 360) rfl ?_
  refine k_if_eq S dL_refuses_360 (tgt := 407) (by decide) (n := 363) rfl (fun h9 => absurd h9 (by decide)) (fun _ => ?_)
  refine k_iload15 S dL_refuses_363 (n := 365) rfl ?_
  refine k_bipush S dL_refuses_365 (v := 12) (by decide) (n := 367) rfl ?_
  refine k_icmp_eq S dL_refuses_367 (tgt := 403) (by decide) (n := 370) rfl (fun h9 => absurd h9 (by decide)) (fun _ => ?_)
  refine k_iload15 S dL_refuses_370 (n := 372) rfl ?_
  refine k_bipush S dL_refuses_372 (v := 14) (by decide) (n := 374) rfl ?_
  refine k_icmp_eq S dL_refuses_374 (tgt := 403) (by decide) (n := 377) rfl (fun h9 => absurd h9 (by decide)) (fun _ => ?_)
  refine k_aload0 S dL_refuses_377 (n := 378) rfl ?_
  refine k_iload15 S dL_refuses_378 (n := 380) rfl ?_
  refine k_iload16 S dL_refuses_380 (n := 382) rfl ?_
  refine k_if_eq S dL_refuses_382 (tgt := 390) (by decide) (n := 385) rfl (fun _ => ?_) (fun h9 => absurd (by decide) h9)
  refine k_iload11 S dL_refuses_390 (n := 392) rfl ?_
  refine k_iconst S dL_refuses_392 (v := 0) (by decide) (n := 393) rfl ?_
  refine k_iconst S dL_refuses_393 (v := 0) (by decide) (n := 394) rfl ?_
  refine k_callH (As := [.ref (za g 0), .int 16, .int 2147483647, .int 0, .int 0]) (rest := []) S (x_act16 (Or.inl rfl) (n_cumulative_place V (zin_m V.d60))) mv_L_act m_457 dL_refuses_394 rfl rfl ⟨by decide, by decide⟩ rfl rfl (Nat.le_of_ble_eq_true rfl) ⟨by decide, by decide⟩ (n := 397) rfl (fun _ _ h => h.elim) (fun v9 ν9 h9 => ?_)
  rw [h9.1, h9.2]
  show zK x g ({ frames := 10, cells := 192, slots := 1152, locals := 184 } : Room) 17 128 768 397 [some (.ref (za g 0)), some (.int (nI d)), some (.int (nI c)), some (.int al), some (.long ((-99000011))), none, some (.long ((-99000012))), none, some (.int 2147483647), some (.int 2), some (.int 2147483647), some (.int 2147483647), some (.int 2147483647), some (.int 2147483647), some (.int 1), some (.int 16), some (.int 0)] [.long ((zcd "java/lang/IndexOutOfBoundsException"))] μ
  refine k_topl (-99000011) zcd_p ?_
  refine k_lload4 S dL_refuses_397 (n := 399) rfl ?_
  refine k_lcmp S dL_refuses_399 (n := 400) rfl ?_
  refine k_top 0 (by decide) ?_
  refine k_if_ne S dL_refuses_400 (tgt := 407) (by decide) (n := 403) rfl (fun h9 => absurd (by decide) h9) (fun _ => ?_)
  refine k_iconst S dL_refuses_403 (v := 1) (by decide) (n := 404) rfl ?_
  refine k_goto S dL_refuses_404 (tgt := 408) (by decide) ?_
  refine k_istore14 S dL_refuses_408 (by decide) rfl (n := 410) rfl ?_
  refine k_iinc15 S dL_refuses_410 (v := 17) (by decide) (by decide) (n := 413) rfl ?_
  refine k_goto S dL_refuses_413 (tgt := 331) (by decide) ?_
  refine k_iload15 S dL_refuses_331 (n := 333) rfl ?_
  refine k_bipush S dL_refuses_333 (v := 17) (by decide) (n := 335) rfl ?_
  refine k_icmp_ge S dL_refuses_335 (tgt := 416) (by decide) (n := 338) rfl (fun _ => ?_) (fun h9 => absurd (by decide) h9)
  refine k_bipush S dL_refuses_416 (v := 17) (by decide) (n := 418) rfl ?_
  refine k_istore15 S dL_refuses_418 (by decide) rfl (n := 420) rfl ?_
  refine k_iload15 S dL_refuses_420 (n := 422) rfl ?_
  refine k_bipush S dL_refuses_422 (v := 19) (by decide) (n := 424) rfl ?_
  refine k_icmp_ge S dL_refuses_424 (tgt := 508) (by decide) (n := 427) rfl (fun h9 => absurd h9 (by decide)) (fun _ => ?_)
  refine k_iload14 S dL_refuses_427 (n := 429) rfl ?_
  refine k_if_eq S dL_refuses_429 (tgt := 499) (by decide) (n := 432) rfl (fun h9 => absurd h9 (by decide)) (fun _ => ?_)
  refine k_aload0 S dL_refuses_432 (n := 433) rfl ?_
  refine k_iload15 S dL_refuses_433 (n := 435) rfl ?_
  refine k_iload12 S dL_refuses_435 (n := 437) rfl ?_
  refine k_iconst S dL_refuses_437 (v := 0) (by decide) (n := 438) rfl ?_
  refine k_iconst S dL_refuses_438 (v := (-1)) (by decide) (n := 439) rfl ?_
  refine k_callH (As := [.ref (za g 0), .int 17, .int 2147483647, .int 0, .int ((-1))]) (rest := []) S (x_act17 (Or.inl rfl) (n_capability_place V (zin_m (Nat.le_trans V.c10 (by decide))))) mv_L_act m_457 dL_refuses_439 rfl rfl ⟨by decide, by decide⟩ rfl rfl (Nat.le_of_ble_eq_true rfl) ⟨by decide, by decide⟩ (n := 442) rfl (fun _ _ h => h.elim) (fun v9 ν9 h9 => ?_)
  rw [h9.1, h9.2]
  show zK x g ({ frames := 10, cells := 192, slots := 1152, locals := 184 } : Room) 17 130 780 442 [some (.ref (za g 0)), some (.int (nI d)), some (.int (nI c)), some (.int al), some (.long ((-99000011))), none, some (.long ((-99000012))), none, some (.int 2147483647), some (.int 2), some (.int 2147483647), some (.int 2147483647), some (.int 2147483647), some (.int 2147483647), some (.int 1), some (.int 17), some (.int 0)] [.long ((zcd "java/lang/IndexOutOfBoundsException"))] μ
  refine k_topl (-99000011) zcd_p ?_
  refine k_lload4 S dL_refuses_442 (n := 444) rfl ?_
  refine k_lcmp S dL_refuses_444 (n := 445) rfl ?_
  refine k_top 0 (by decide) ?_
  refine k_if_ne S dL_refuses_445 (tgt := 499) (by decide) (n := 448) rfl (fun h9 => absurd (by decide) h9) (fun _ => ?_)
  refine k_aload0 S dL_refuses_448 (n := 449) rfl ?_
  refine k_iload15 S dL_refuses_449 (n := 451) rfl ?_
  refine k_iconst S dL_refuses_451 (v := 0) (by decide) (n := 452) rfl ?_
  refine k_iload13 S dL_refuses_452 (n := 454) rfl ?_
  refine k_iconst S dL_refuses_454 (v := 0) (by decide) (n := 455) rfl ?_
  refine k_callH (As := [.ref (za g 0), .int 17, .int 0, .int 2147483647, .int 0]) (rest := []) S (x_act17 (Or.inr (Or.inl rfl)) (n_capability_arg V hc0 (zlh_n (by decide)))) mv_L_act m_457 dL_refuses_455 rfl rfl ⟨by decide, by decide⟩ rfl rfl (Nat.le_of_ble_eq_true rfl) ⟨by decide, by decide⟩ (n := 458) rfl (fun _ _ h => h.elim) (fun v9 ν9 h9 => ?_)
  rw [h9.1, h9.2]
  show zK x g ({ frames := 10, cells := 192, slots := 1152, locals := 184 } : Room) 17 132 792 458 [some (.ref (za g 0)), some (.int (nI d)), some (.int (nI c)), some (.int al), some (.long ((-99000011))), none, some (.long ((-99000012))), none, some (.int 2147483647), some (.int 2), some (.int 2147483647), some (.int 2147483647), some (.int 2147483647), some (.int 2147483647), some (.int 1), some (.int 17), some (.int 0)] [.long ((zcd "java/lang/IllegalArgumentException"))] μ
  refine k_topl (-99000012) zcd_a ?_
  refine k_lload6 S dL_refuses_458 (n := 460) rfl ?_
  refine k_lcmp S dL_refuses_460 (n := 461) rfl ?_
  refine k_top 0 (by decide) ?_
  refine k_if_ne S dL_refuses_461 (tgt := 499) (by decide) (n := 464) rfl (fun h9 => absurd (by decide) h9) (fun _ => ?_)
  refine k_aload0 S dL_refuses_464 (n := 465) rfl ?_
  refine k_iload15 S dL_refuses_465 (n := 467) rfl ?_
  refine k_iconst S dL_refuses_467 (v := 0) (by decide) (n := 468) rfl ?_
  refine k_iconst S dL_refuses_468 (v := 0) (by decide) (n := 469) rfl ?_
  refine k_iload13 S dL_refuses_469 (n := 471) rfl ?_
  refine k_callH (As := [.ref (za g 0), .int 17, .int 0, .int 0, .int 2147483647]) (rest := []) S (x_act17 (Or.inr (Or.inl rfl)) (n_capability_arg V hc0 (zlh_n (by decide)))) mv_L_act m_457 dL_refuses_471 rfl rfl ⟨by decide, by decide⟩ rfl rfl (Nat.le_of_ble_eq_true rfl) ⟨by decide, by decide⟩ (n := 474) rfl (fun _ _ h => h.elim) (fun v9 ν9 h9 => ?_)
  rw [h9.1, h9.2]
  show zK x g ({ frames := 10, cells := 192, slots := 1152, locals := 184 } : Room) 17 134 804 474 [some (.ref (za g 0)), some (.int (nI d)), some (.int (nI c)), some (.int al), some (.long ((-99000011))), none, some (.long ((-99000012))), none, some (.int 2147483647), some (.int 2), some (.int 2147483647), some (.int 2147483647), some (.int 2147483647), some (.int 2147483647), some (.int 1), some (.int 17), some (.int 0)] [.long ((zcd "java/lang/IllegalArgumentException"))] μ
  refine k_topl (-99000012) zcd_a ?_
  refine k_lload6 S dL_refuses_474 (n := 476) rfl ?_
  refine k_lcmp S dL_refuses_476 (n := 477) rfl ?_
  refine k_top 0 (by decide) ?_
  refine k_if_ne S dL_refuses_477 (tgt := 499) (by decide) (n := 480) rfl (fun h9 => absurd (by decide) h9) (fun _ => ?_)
  refine k_aload0 S dL_refuses_480 (n := 481) rfl ?_
  refine k_iload15 S dL_refuses_481 (n := 483) rfl ?_
  refine k_iconst S dL_refuses_483 (v := 0) (by decide) (n := 484) rfl ?_
  refine k_iconst S dL_refuses_484 (v := 5) (by decide) (n := 485) rfl ?_
  refine k_iconst S dL_refuses_485 (v := 4) (by decide) (n := 486) rfl ?_
  refine k_callH (As := [.ref (za g 0), .int 17, .int 0, .int 5, .int 4]) (rest := []) S (x_act17 (Or.inr (Or.inl rfl)) (n_capability_arg V hc0 (zlh_n (by decide)))) mv_L_act m_457 dL_refuses_486 rfl rfl ⟨by decide, by decide⟩ rfl rfl (Nat.le_of_ble_eq_true rfl) ⟨by decide, by decide⟩ (n := 489) rfl (fun _ _ h => h.elim) (fun v9 ν9 h9 => ?_)
  rw [h9.1, h9.2]
  show zK x g ({ frames := 10, cells := 192, slots := 1152, locals := 184 } : Room) 17 136 816 489 [some (.ref (za g 0)), some (.int (nI d)), some (.int (nI c)), some (.int al), some (.long ((-99000011))), none, some (.long ((-99000012))), none, some (.int 2147483647), some (.int 2), some (.int 2147483647), some (.int 2147483647), some (.int 2147483647), some (.int 2147483647), some (.int 1), some (.int 17), some (.int 0)] [.long ((zcd "java/lang/IllegalArgumentException"))] μ
  refine k_topl (-99000012) zcd_a ?_
  refine k_lload6 S dL_refuses_489 (n := 491) rfl ?_
  refine k_lcmp S dL_refuses_491 (n := 492) rfl ?_
  refine k_top 0 (by decide) ?_
  refine k_if_ne S dL_refuses_492 (tgt := 499) (by decide) (n := 495) rfl (fun h9 => absurd (by decide) h9) (fun _ => ?_)
  refine k_iconst S dL_refuses_495 (v := 1) (by decide) (n := 496) rfl ?_
  refine k_goto S dL_refuses_496 (tgt := 500) (by decide) ?_
  refine k_istore14 S dL_refuses_500 (by decide) rfl (n := 502) rfl ?_
  refine k_iinc15 S dL_refuses_502 (v := 18) (by decide) (by decide) (n := 505) rfl ?_
  refine k_goto S dL_refuses_505 (tgt := 420) (by decide) ?_
  refine k_iload15 S dL_refuses_420 (n := 422) rfl ?_
  refine k_bipush S dL_refuses_422 (v := 19) (by decide) (n := 424) rfl ?_
  refine k_icmp_ge S dL_refuses_424 (tgt := 508) (by decide) (n := 427) rfl (fun h9 => absurd h9 (by decide)) (fun _ => ?_)
  refine k_iload14 S dL_refuses_427 (n := 429) rfl ?_
  refine k_if_eq S dL_refuses_429 (tgt := 499) (by decide) (n := 432) rfl (fun h9 => absurd h9 (by decide)) (fun _ => ?_)
  refine k_aload0 S dL_refuses_432 (n := 433) rfl ?_
  refine k_iload15 S dL_refuses_433 (n := 435) rfl ?_
  refine k_iload12 S dL_refuses_435 (n := 437) rfl ?_
  refine k_iconst S dL_refuses_437 (v := 0) (by decide) (n := 438) rfl ?_
  refine k_iconst S dL_refuses_438 (v := (-1)) (by decide) (n := 439) rfl ?_
  refine k_callH (As := [.ref (za g 0), .int 18, .int 2147483647, .int 0, .int ((-1))]) (rest := []) S (x_act18 (Or.inl rfl) (n_capability_place V (zin_m (Nat.le_trans V.c10 (by decide))))) mv_L_act m_457 dL_refuses_439 rfl rfl ⟨by decide, by decide⟩ rfl rfl (Nat.le_of_ble_eq_true rfl) ⟨by decide, by decide⟩ (n := 442) rfl (fun _ _ h => h.elim) (fun v9 ν9 h9 => ?_)
  rw [h9.1, h9.2]
  show zK x g ({ frames := 10, cells := 192, slots := 1152, locals := 184 } : Room) 17 138 828 442 [some (.ref (za g 0)), some (.int (nI d)), some (.int (nI c)), some (.int al), some (.long ((-99000011))), none, some (.long ((-99000012))), none, some (.int 2147483647), some (.int 2), some (.int 2147483647), some (.int 2147483647), some (.int 2147483647), some (.int 2147483647), some (.int 1), some (.int 18), some (.int 0)] [.long ((zcd "java/lang/IndexOutOfBoundsException"))] μ
  refine k_topl (-99000011) zcd_p ?_
  refine k_lload4 S dL_refuses_442 (n := 444) rfl ?_
  refine k_lcmp S dL_refuses_444 (n := 445) rfl ?_
  refine k_top 0 (by decide) ?_
  refine k_if_ne S dL_refuses_445 (tgt := 499) (by decide) (n := 448) rfl (fun h9 => absurd (by decide) h9) (fun _ => ?_)
  refine k_aload0 S dL_refuses_448 (n := 449) rfl ?_
  refine k_iload15 S dL_refuses_449 (n := 451) rfl ?_
  refine k_iconst S dL_refuses_451 (v := 0) (by decide) (n := 452) rfl ?_
  refine k_iload13 S dL_refuses_452 (n := 454) rfl ?_
  refine k_iconst S dL_refuses_454 (v := 0) (by decide) (n := 455) rfl ?_
  refine k_callH (As := [.ref (za g 0), .int 18, .int 0, .int 2147483647, .int 0]) (rest := []) S (x_act18 (Or.inr (Or.inl rfl)) (n_capability_arg V hc0 (zlh_n (by decide)))) mv_L_act m_457 dL_refuses_455 rfl rfl ⟨by decide, by decide⟩ rfl rfl (Nat.le_of_ble_eq_true rfl) ⟨by decide, by decide⟩ (n := 458) rfl (fun _ _ h => h.elim) (fun v9 ν9 h9 => ?_)
  rw [h9.1, h9.2]
  show zK x g ({ frames := 10, cells := 192, slots := 1152, locals := 184 } : Room) 17 140 840 458 [some (.ref (za g 0)), some (.int (nI d)), some (.int (nI c)), some (.int al), some (.long ((-99000011))), none, some (.long ((-99000012))), none, some (.int 2147483647), some (.int 2), some (.int 2147483647), some (.int 2147483647), some (.int 2147483647), some (.int 2147483647), some (.int 1), some (.int 18), some (.int 0)] [.long ((zcd "java/lang/IllegalArgumentException"))] μ
  refine k_topl (-99000012) zcd_a ?_
  refine k_lload6 S dL_refuses_458 (n := 460) rfl ?_
  refine k_lcmp S dL_refuses_460 (n := 461) rfl ?_
  refine k_top 0 (by decide) ?_
  refine k_if_ne S dL_refuses_461 (tgt := 499) (by decide) (n := 464) rfl (fun h9 => absurd (by decide) h9) (fun _ => ?_)
  refine k_aload0 S dL_refuses_464 (n := 465) rfl ?_
  refine k_iload15 S dL_refuses_465 (n := 467) rfl ?_
  refine k_iconst S dL_refuses_467 (v := 0) (by decide) (n := 468) rfl ?_
  refine k_iconst S dL_refuses_468 (v := 0) (by decide) (n := 469) rfl ?_
  refine k_iload13 S dL_refuses_469 (n := 471) rfl ?_
  refine k_callH (As := [.ref (za g 0), .int 18, .int 0, .int 0, .int 2147483647]) (rest := []) S (x_act18 (Or.inr (Or.inl rfl)) (n_capability_arg V hc0 (zlh_n (by decide)))) mv_L_act m_457 dL_refuses_471 rfl rfl ⟨by decide, by decide⟩ rfl rfl (Nat.le_of_ble_eq_true rfl) ⟨by decide, by decide⟩ (n := 474) rfl (fun _ _ h => h.elim) (fun v9 ν9 h9 => ?_)
  rw [h9.1, h9.2]
  show zK x g ({ frames := 10, cells := 192, slots := 1152, locals := 184 } : Room) 17 142 852 474 [some (.ref (za g 0)), some (.int (nI d)), some (.int (nI c)), some (.int al), some (.long ((-99000011))), none, some (.long ((-99000012))), none, some (.int 2147483647), some (.int 2), some (.int 2147483647), some (.int 2147483647), some (.int 2147483647), some (.int 2147483647), some (.int 1), some (.int 18), some (.int 0)] [.long ((zcd "java/lang/IllegalArgumentException"))] μ
  refine k_topl (-99000012) zcd_a ?_
  refine k_lload6 S dL_refuses_474 (n := 476) rfl ?_
  refine k_lcmp S dL_refuses_476 (n := 477) rfl ?_
  refine k_top 0 (by decide) ?_
  refine k_if_ne S dL_refuses_477 (tgt := 499) (by decide) (n := 480) rfl (fun h9 => absurd (by decide) h9) (fun _ => ?_)
  refine k_aload0 S dL_refuses_480 (n := 481) rfl ?_
  refine k_iload15 S dL_refuses_481 (n := 483) rfl ?_
  refine k_iconst S dL_refuses_483 (v := 0) (by decide) (n := 484) rfl ?_
  refine k_iconst S dL_refuses_484 (v := 5) (by decide) (n := 485) rfl ?_
  refine k_iconst S dL_refuses_485 (v := 4) (by decide) (n := 486) rfl ?_
  refine k_callH (As := [.ref (za g 0), .int 18, .int 0, .int 5, .int 4]) (rest := []) S (x_act18 (Or.inr (Or.inl rfl)) (n_capability_arg V hc0 (zlh_n (by decide)))) mv_L_act m_457 dL_refuses_486 rfl rfl ⟨by decide, by decide⟩ rfl rfl (Nat.le_of_ble_eq_true rfl) ⟨by decide, by decide⟩ (n := 489) rfl (fun _ _ h => h.elim) (fun v9 ν9 h9 => ?_)
  rw [h9.1, h9.2]
  show zK x g ({ frames := 10, cells := 192, slots := 1152, locals := 184 } : Room) 17 144 864 489 [some (.ref (za g 0)), some (.int (nI d)), some (.int (nI c)), some (.int al), some (.long ((-99000011))), none, some (.long ((-99000012))), none, some (.int 2147483647), some (.int 2), some (.int 2147483647), some (.int 2147483647), some (.int 2147483647), some (.int 2147483647), some (.int 1), some (.int 18), some (.int 0)] [.long ((zcd "java/lang/IllegalArgumentException"))] μ
  refine k_topl (-99000012) zcd_a ?_
  refine k_lload6 S dL_refuses_489 (n := 491) rfl ?_
  refine k_lcmp S dL_refuses_491 (n := 492) rfl ?_
  refine k_top 0 (by decide) ?_
  refine k_if_ne S dL_refuses_492 (tgt := 499) (by decide) (n := 495) rfl (fun h9 => absurd (by decide) h9) (fun _ => ?_)
  refine k_iconst S dL_refuses_495 (v := 1) (by decide) (n := 496) rfl ?_
  refine k_goto S dL_refuses_496 (tgt := 500) (by decide) ?_
  refine k_istore14 S dL_refuses_500 (by decide) rfl (n := 502) rfl ?_
  refine k_iinc15 S dL_refuses_502 (v := 19) (by decide) (by decide) (n := 505) rfl ?_
  refine k_goto S dL_refuses_505 (tgt := 420) (by decide) ?_
  refine k_iload15 S dL_refuses_420 (n := 422) rfl ?_
  refine k_bipush S dL_refuses_422 (v := 19) (by decide) (n := 424) rfl ?_
  refine k_icmp_ge S dL_refuses_424 (tgt := 508) (by decide) (n := 427) rfl (fun _ => ?_) (fun h9 => absurd (by decide) h9)
  refine k_iload14 S dL_refuses_508 (n := 510) rfl ?_
  refine k_if_ne S dL_refuses_510 (tgt := 515) (by decide) (n := 513) rfl (fun _ => ?_) (fun h9 => absurd h9 (by decide))
  refine k_iinc9 S dL_refuses_515 (v := 3) (by decide) (by decide) (n := 518) rfl ?_
  refine k_goto S dL_refuses_518 (tgt := 32) (by decide) ?_
  refine k_keep 10 ?_
  exact hN
set_option maxRecDepth 100000 in
set_option maxHeartbeats 4000000 in
theorem l_refA2 {x : zX} {g : zG} {μ : zM} {s d c : Nat} {ph fs : Nat → Nat} {al : Int32} (S : zS x g 17 cL_refuses RL) (V : zV μ s d c ph fs) (hB : zK x g ({ frames := 10, cells := 192, slots := 1152, locals := 184 } : Room) 17 106 636 233 [some (.ref (za g 0)), some (.int (nI d)), some (.int (nI c)), some (.int al), some (.long ((-99000011))), none, some (.long ((-99000012))), none, some (.int 2147483647), some (.int 2), some (.int 2147483647), some (.int 2147483647), some (.int 2147483647), some (.int 2147483647), none, none, none] [] μ) : zK x g ({ frames := 10, cells := 192, slots := 1152, locals := 184 } : Room) 17 96 576 32 [some (.ref (za g 0)), some (.int (nI d)), some (.int (nI c)), some (.int al), some (.long ((-99000011))), none, some (.long ((-99000012))), none, some (.int 2147483647), some (.int 2), none, none, none, none, none, none, none] [] μ := by
  refine k_iload9 S dL_refuses_32 (n := 34) rfl ?_
  refine k_iconst S dL_refuses_34 (v := 4) (by decide) (n := 35) rfl ?_
  refine k_icmp_ge S dL_refuses_35 (tgt := 521) (by decide) (n := 38) rfl (fun h9 => absurd h9 (by decide)) (fun _ => ?_)
  refine k_iload9 S dL_refuses_38 (n := 40) rfl ?_
  refine k_if_ne S dL_refuses_40 (tgt := 47) (by decide) (n := 43) rfl (fun _ => ?_) (fun h9 => absurd h9 (by decide))
  refine k_iload9 S dL_refuses_47 (n := 49) rfl ?_
  refine k_iconst S dL_refuses_49 (v := 2) (by decide) (n := 50) rfl ?_
  refine k_icmp_ne S dL_refuses_50 (tgt := 58) (by decide) (n := 53) rfl (fun h9 => absurd (by decide) h9) (fun _ => ?_)
  refine k_iload8 S dL_refuses_53 (n := 55) rfl ?_
  refine k_goto S dL_refuses_55 (tgt := 63) (by decide) ?_
  refine k_istore10 S dL_refuses_63 (by decide) rfl (n := 65) rfl ?_
  refine k_iload9 S dL_refuses_65 (n := 67) rfl ?_
  refine k_iconst S dL_refuses_67 (v := 1) (by decide) (n := 68) rfl ?_
  refine k_icmp_ne S dL_refuses_68 (tgt := 75) (by decide) (n := 71) rfl (fun _ => ?_) (fun h9 => absurd h9 (by decide))
  refine k_iload10 S dL_refuses_75 (n := 77) rfl ?_
  refine k_istore11 S dL_refuses_77 (by decide) rfl (n := 79) rfl ?_
  refine k_iload9 S dL_refuses_79 (n := 81) rfl ?_
  refine k_iconst S dL_refuses_81 (v := 1) (by decide) (n := 82) rfl ?_
  refine k_icmp_ne S dL_refuses_82 (tgt := 89) (by decide) (n := 85) rfl (fun _ => ?_) (fun h9 => absurd h9 (by decide))
  refine k_iload10 S dL_refuses_89 (n := 91) rfl ?_
  refine k_istore12 S dL_refuses_91 (by decide) rfl (n := 93) rfl ?_
  refine k_iload9 S dL_refuses_93 (n := 95) rfl ?_
  refine k_if_ne S dL_refuses_95 (tgt := 104) (by decide) (n := 98) rfl (fun _ => ?_) (fun h9 => absurd h9 (by decide))
  refine k_iload9 S dL_refuses_104 (n := 106) rfl ?_
  refine k_iconst S dL_refuses_106 (v := 1) (by decide) (n := 107) rfl ?_
  refine k_icmp_ne S dL_refuses_107 (tgt := 116) (by decide) (n := 110) rfl (fun _ => ?_) (fun h9 => absurd h9 (by decide))
  refine k_iload10 S dL_refuses_116 (n := 118) rfl ?_
  refine k_istore13 S dL_refuses_118 (by decide) rfl (n := 120) rfl ?_
  refine k_aload0 S dL_refuses_120 (n := 121) rfl ?_
  refine k_iload9 S dL_refuses_121 (n := 123) rfl ?_
  refine k_if_ne S dL_refuses_123 (tgt := 130) (by decide) (n := 126) rfl (fun _ => ?_) (fun h9 => absurd h9 (by decide))
  refine k_iload9 S dL_refuses_130 (n := 132) rfl ?_
  refine k_iconst S dL_refuses_132 (v := 1) (by decide) (n := 133) rfl ?_
  refine k_icmp_ne S dL_refuses_133 (tgt := 141) (by decide) (n := 136) rfl (fun _ => ?_) (fun h9 => absurd h9 (by decide))
  refine k_iload10 S dL_refuses_141 (n := 143) rfl ?_
  refine k_callH (As := [.ref (za g 0), .int 2147483647]) (rest := []) S (x_begin (n_begin (by decide))) mv_L_begin m_335 dL_refuses_143 rfl rfl ⟨by decide, by decide⟩ rfl rfl (Nat.le_of_ble_eq_true rfl) ⟨by decide, by decide⟩ (n := 146) rfl (fun _ _ h => h.elim) (fun v9 ν9 h9 => ?_)
  rw [h9.1, h9.2]
  show zK x g ({ frames := 10, cells := 192, slots := 1152, locals := 184 } : Room) 17 97 582 146 [some (.ref (za g 0)), some (.int (nI d)), some (.int (nI c)), some (.int al), some (.long ((-99000011))), none, some (.long ((-99000012))), none, some (.int 2147483647), some (.int 2), some (.int 2147483647), some (.int 2147483647), some (.int 2147483647), some (.int 2147483647), none, none, none] [.int ((-12))] μ
  refine k_bipush S dL_refuses_146 (v := (-12)) (by decide) (n := 148) rfl ?_
  refine k_icmp_ne S dL_refuses_148 (tgt := 325) (by decide) (n := 151) rfl (fun h9 => absurd (by decide) h9) (fun _ => ?_)
  refine k_aload0 S dL_refuses_151 (n := 152) rfl ?_
  refine k_iload12 S dL_refuses_152 (n := 154) rfl ?_
  refine k_callH (As := [.ref (za g 0), .int 2147483647]) (rest := []) S (x_holds (Or.inl rfl) (n_freeze_place V (zin_m (Nat.le_trans V.c10 (by decide))))) mv_L_holds m_418 dL_refuses_154 rfl rfl ⟨by decide, by decide⟩ rfl rfl (Nat.le_of_ble_eq_true rfl) ⟨by decide, by decide⟩ (n := 157) rfl (fun _ _ h => h.elim) (fun v9 ν9 h9 => ?_)
  rw [h9.1, h9.2]
  show zK x g ({ frames := 10, cells := 192, slots := 1152, locals := 184 } : Room) 17 99 594 157 [some (.ref (za g 0)), some (.int (nI d)), some (.int (nI c)), some (.int al), some (.long ((-99000011))), none, some (.long ((-99000012))), none, some (.int 2147483647), some (.int 2), some (.int 2147483647), some (.int 2147483647), some (.int 2147483647), some (.int 2147483647), none, none, none] [.int ((if "java/lang/IndexOutOfBoundsException" = "java/lang/IndexOutOfBoundsException" then (-11 : Int32) else (-13)))] μ
  refine k_top (-11) (if_pos rfl) ?_
  refine k_bipush S dL_refuses_157 (v := (-11)) (by decide) (n := 159) rfl ?_
  refine k_icmp_ne S dL_refuses_159 (tgt := 325) (by decide) (n := 162) rfl (fun h9 => absurd (by decide) h9) (fun _ => ?_)
  refine k_aload0 S dL_refuses_162 (n := 163) rfl ?_
  refine k_iload12 S dL_refuses_163 (n := 165) rfl ?_
  refine k_callH (As := [.ref (za g 0), .int 2147483647]) (rest := []) S (x_thaws (Or.inl rfl) (n_thaw_place V (zin_m (Nat.le_trans V.c10 (by decide))))) mv_L_thaws m_449 dL_refuses_165 rfl rfl ⟨by decide, by decide⟩ rfl rfl (Nat.le_of_ble_eq_true rfl) ⟨by decide, by decide⟩ (n := 168) rfl (fun _ _ h => h.elim) (fun v9 ν9 h9 => ?_)
  rw [h9.1, h9.2]
  show zK x g ({ frames := 10, cells := 192, slots := 1152, locals := 184 } : Room) 17 101 606 168 [some (.ref (za g 0)), some (.int (nI d)), some (.int (nI c)), some (.int al), some (.long ((-99000011))), none, some (.long ((-99000012))), none, some (.int 2147483647), some (.int 2), some (.int 2147483647), some (.int 2147483647), some (.int 2147483647), some (.int 2147483647), none, none, none] [.int ((if "java/lang/IndexOutOfBoundsException" = "java/lang/IndexOutOfBoundsException" then (-11 : Int32) else (-13)))] μ
  refine k_top (-11) (if_pos rfl) ?_
  refine k_bipush S dL_refuses_168 (v := (-11)) (by decide) (n := 170) rfl ?_
  refine k_icmp_ne S dL_refuses_170 (tgt := 325) (by decide) (n := 173) rfl (fun h9 => absurd (by decide) h9) (fun _ => ?_)
  refine k_aload0 S dL_refuses_173 (n := 174) rfl ?_
  refine k_iconst S dL_refuses_174 (v := 0) (by decide) (n := 175) rfl ?_
  refine k_iload13 S dL_refuses_175 (n := 177) rfl ?_
  refine k_iconst S dL_refuses_177 (v := 0) (by decide) (n := 178) rfl ?_
  refine k_iconst S dL_refuses_178 (v := 0) (by decide) (n := 179) rfl ?_
  refine k_callH (As := [.ref (za g 0), .int 0, .int 2147483647, .int 0, .int 0]) (rest := []) S (x_act0 (Or.inr (Or.inl rfl)) (n_put_arg V (by decide))) mv_L_act m_457 dL_refuses_179 rfl rfl ⟨by decide, by decide⟩ rfl rfl (Nat.le_of_ble_eq_true rfl) ⟨by decide, by decide⟩ (n := 182) rfl (fun _ _ h => h.elim) (fun v9 ν9 h9 => ?_)
  rw [h9.1, h9.2]
  show zK x g ({ frames := 10, cells := 192, slots := 1152, locals := 184 } : Room) 17 102 612 182 [some (.ref (za g 0)), some (.int (nI d)), some (.int (nI c)), some (.int al), some (.long ((-99000011))), none, some (.long ((-99000012))), none, some (.int 2147483647), some (.int 2), some (.int 2147483647), some (.int 2147483647), some (.int 2147483647), some (.int 2147483647), none, none, none] [.long ((zcd "java/lang/IllegalArgumentException"))] μ
  refine k_topl (-99000012) zcd_a ?_
  refine k_lload6 S dL_refuses_182 (n := 184) rfl ?_
  refine k_lcmp S dL_refuses_184 (n := 185) rfl ?_
  refine k_top 0 (by decide) ?_
  refine k_if_ne S dL_refuses_185 (tgt := 325) (by decide) (n := 188) rfl (fun h9 => absurd (by decide) h9) (fun _ => ?_)
  refine k_aload0 S dL_refuses_188 (n := 189) rfl ?_
  refine k_iconst S dL_refuses_189 (v := 2) (by decide) (n := 190) rfl ?_
  refine k_iload11 S dL_refuses_190 (n := 192) rfl ?_
  refine k_iconst S dL_refuses_192 (v := (-1)) (by decide) (n := 193) rfl ?_
  refine k_iconst S dL_refuses_193 (v := 0) (by decide) (n := 194) rfl ?_
  refine k_callH (As := [.ref (za g 0), .int 2, .int 2147483647, .int ((-1)), .int 0]) (rest := []) S (x_act2 (Or.inl rfl) (n_exclude_place V (zin_m V.d60))) mv_L_act m_457 dL_refuses_194 rfl rfl ⟨by decide, by decide⟩ rfl rfl (Nat.le_of_ble_eq_true rfl) ⟨by decide, by decide⟩ (n := 197) rfl (fun _ _ h => h.elim) (fun v9 ν9 h9 => ?_)
  rw [h9.1, h9.2]
  show zK x g ({ frames := 10, cells := 192, slots := 1152, locals := 184 } : Room) 17 104 624 197 [some (.ref (za g 0)), some (.int (nI d)), some (.int (nI c)), some (.int al), some (.long ((-99000011))), none, some (.long ((-99000012))), none, some (.int 2147483647), some (.int 2), some (.int 2147483647), some (.int 2147483647), some (.int 2147483647), some (.int 2147483647), none, none, none] [.long ((zcd "java/lang/IndexOutOfBoundsException"))] μ
  refine k_topl (-99000011) zcd_p ?_
  refine k_lload4 S dL_refuses_197 (n := 199) rfl ?_
  refine k_lcmp S dL_refuses_199 (n := 200) rfl ?_
  refine k_top 0 (by decide) ?_
  refine k_if_ne S dL_refuses_200 (tgt := 325) (by decide) (n := 203) rfl (fun h9 => absurd (by decide) h9) (fun _ => ?_)
  refine k_iload1 S dL_refuses_203 (n := 204) rfl ?_
  refine k_if_eq S dL_refuses_204 (tgt := 233) (by decide) (n := 207) rfl (fun hd0 => ?_) (fun hd0 => ?_)
  ·
    exact k_widen (by decide) (by decide) hB
  ·
    have h0 : zIn 0 d := ⟨0, Nat.pos_of_ne_zero (fun z => hd0 (by rw [z]; rfl)), rfl⟩
    refine k_aload0 S dL_refuses_207 (n := 208) rfl ?_
    refine k_iconst S dL_refuses_208 (v := 2) (by decide) (n := 209) rfl ?_
    refine k_iconst S dL_refuses_209 (v := 0) (by decide) (n := 210) rfl ?_
    refine k_iload9 S dL_refuses_210 (n := 212) rfl ?_
    refine k_iconst S dL_refuses_212 (v := 1) (by decide) (n := 213) rfl ?_
    refine k_icmp_ne S dL_refuses_213 (tgt := 221) (by decide) (n := 216) rfl (fun _ => ?_) (fun h9 => absurd h9 (by decide))
    refine k_iload10 S dL_refuses_221 (n := 223) rfl ?_
    refine k_iconst S dL_refuses_223 (v := 0) (by decide) (n := 224) rfl ?_
    refine k_callH (As := [.ref (za g 0), .int 2, .int 0, .int 2147483647, .int 0]) (rest := []) S (x_act2 (Or.inr (Or.inl rfl)) (n_exclude_arg V h0 (by decide))) mv_L_act m_457 dL_refuses_224 rfl rfl ⟨by decide, by decide⟩ rfl rfl (Nat.le_of_ble_eq_true rfl) ⟨by decide, by decide⟩ (n := 227) rfl (fun _ _ h => h.elim) (fun v9 ν9 h9 => ?_)
    rw [h9.1, h9.2]
    show zK x g ({ frames := 10, cells := 192, slots := 1152, locals := 184 } : Room) 17 106 636 227 [some (.ref (za g 0)), some (.int (nI d)), some (.int (nI c)), some (.int al), some (.long ((-99000011))), none, some (.long ((-99000012))), none, some (.int 2147483647), some (.int 2), some (.int 2147483647), some (.int 2147483647), some (.int 2147483647), some (.int 2147483647), none, none, none] [.long ((zcd "java/lang/IllegalArgumentException"))] μ
    refine k_topl (-99000012) zcd_a ?_
    refine k_lload6 S dL_refuses_227 (n := 229) rfl ?_
    refine k_lcmp S dL_refuses_229 (n := 230) rfl ?_
    refine k_top 0 (by decide) ?_
    refine k_if_ne S dL_refuses_230 (tgt := 325) (by decide) (n := 233) rfl (fun h9 => absurd (by decide) h9) (fun _ => ?_)
    exact k_widen (by decide) (by decide) hB
set_option maxRecDepth 100000 in
set_option maxHeartbeats 4000000 in
theorem l_refB3 {x : zX} {g : zG} {μ : zM} {s d c : Nat} {ph fs : Nat → Nat} {al : Int32} (S : zS x g 17 cL_refuses RL) (V : zV μ s d c ph fs) (hN : zK x g ({ frames := 10, cells := 192, slots := 1152, locals := 184 } : Room) 17 192 1152 32 [some (.ref (za g 0)), some (.int (nI d)), some (.int (nI c)), some (.int al), some (.long ((-99000011))), none, some (.long ((-99000012))), none, some (.int 2147483647), some (.int 4), none, none, none, none, none, none, none] [] μ) : zK x g ({ frames := 10, cells := 192, slots := 1152, locals := 184 } : Room) 17 154 924 233 [some (.ref (za g 0)), some (.int (nI d)), some (.int (nI c)), some (.int al), some (.long ((-99000011))), none, some (.long ((-99000012))), none, some (.int 2147483647), some (.int 3), some (.int ((-2147483648))), some (.int ((-2147483648))), some (.int ((-2147483648))), some (.int ((-2147483648))), none, none, none] [] μ := by
  have hc0 : zIn 0 c := ⟨0, V.c1, rfl⟩
  refine k_aload0 S dL_refuses_233 (n := 234) rfl ?_
  refine k_bipush S dL_refuses_234 (v := 12) (by decide) (n := 236) rfl ?_
  refine k_iload11 S dL_refuses_236 (n := 238) rfl ?_
  refine k_iconst S dL_refuses_238 (v := 0) (by decide) (n := 239) rfl ?_
  refine k_iconst S dL_refuses_239 (v := 0) (by decide) (n := 240) rfl ?_
  refine k_callH (As := [.ref (za g 0), .int 12, .int ((-2147483648)), .int 0, .int 0]) (rest := []) S (x_act12 (Or.inl rfl) (n_firstOf V (fun z => (zin_l V.d60 (by decide)) z.1))) mv_L_act m_457 dL_refuses_240 rfl rfl ⟨by decide, by decide⟩ rfl rfl (Nat.le_of_ble_eq_true rfl) ⟨by decide, by decide⟩ (n := 243) rfl (fun _ _ h => h.elim) (fun v9 ν9 h9 => ?_)
  rw [h9.1, h9.2]
  show zK x g ({ frames := 10, cells := 192, slots := 1152, locals := 184 } : Room) 17 156 936 243 [some (.ref (za g 0)), some (.int (nI d)), some (.int (nI c)), some (.int al), some (.long ((-99000011))), none, some (.long ((-99000012))), none, some (.int 2147483647), some (.int 3), some (.int ((-2147483648))), some (.int ((-2147483648))), some (.int ((-2147483648))), some (.int ((-2147483648))), none, none, none] [.long ((zcd "java/lang/IndexOutOfBoundsException"))] μ
  refine k_topl (-99000011) zcd_p ?_
  refine k_lload4 S dL_refuses_243 (n := 245) rfl ?_
  refine k_lcmp S dL_refuses_245 (n := 246) rfl ?_
  refine k_top 0 (by decide) ?_
  refine k_if_ne S dL_refuses_246 (tgt := 325) (by decide) (n := 249) rfl (fun h9 => absurd (by decide) h9) (fun _ => ?_)
  refine k_aload0 S dL_refuses_249 (n := 250) rfl ?_
  refine k_bipush S dL_refuses_250 (v := 12) (by decide) (n := 252) rfl ?_
  refine k_iconst S dL_refuses_252 (v := 0) (by decide) (n := 253) rfl ?_
  refine k_iload9 S dL_refuses_253 (n := 255) rfl ?_
  refine k_if_ne S dL_refuses_255 (tgt := 262) (by decide) (n := 258) rfl (fun _ => ?_) (fun h9 => absurd h9 (by decide))
  refine k_iload9 S dL_refuses_262 (n := 264) rfl ?_
  refine k_iconst S dL_refuses_264 (v := 1) (by decide) (n := 265) rfl ?_
  refine k_icmp_ne S dL_refuses_265 (tgt := 273) (by decide) (n := 268) rfl (fun _ => ?_) (fun h9 => absurd h9 (by decide))
  refine k_iload10 S dL_refuses_273 (n := 275) rfl ?_
  refine k_iconst S dL_refuses_275 (v := 0) (by decide) (n := 276) rfl ?_
  refine k_callH (As := [.ref (za g 0), .int 12, .int 0, .int ((-2147483648)), .int 0]) (rest := []) S (x_act12 (Or.inl rfl) (n_firstOf V (fun z => absurd z.2 (by decide)))) mv_L_act m_457 dL_refuses_276 rfl rfl ⟨by decide, by decide⟩ rfl rfl (Nat.le_of_ble_eq_true rfl) ⟨by decide, by decide⟩ (n := 279) rfl (fun _ _ h => h.elim) (fun v9 ν9 h9 => ?_)
  rw [h9.1, h9.2]
  show zK x g ({ frames := 10, cells := 192, slots := 1152, locals := 184 } : Room) 17 158 948 279 [some (.ref (za g 0)), some (.int (nI d)), some (.int (nI c)), some (.int al), some (.long ((-99000011))), none, some (.long ((-99000012))), none, some (.int 2147483647), some (.int 3), some (.int ((-2147483648))), some (.int ((-2147483648))), some (.int ((-2147483648))), some (.int ((-2147483648))), none, none, none] [.long ((zcd "java/lang/IndexOutOfBoundsException"))] μ
  refine k_topl (-99000011) zcd_p ?_
  refine k_lload4 S dL_refuses_279 (n := 281) rfl ?_
  refine k_lcmp S dL_refuses_281 (n := 282) rfl ?_
  refine k_top 0 (by decide) ?_
  refine k_if_ne S dL_refuses_282 (tgt := 325) (by decide) (n := 285) rfl (fun h9 => absurd (by decide) h9) (fun _ => ?_)
  refine k_aload0 S dL_refuses_285 (n := 286) rfl ?_
  refine k_bipush S dL_refuses_286 (v := 14) (by decide) (n := 288) rfl ?_
  refine k_iload9 S dL_refuses_288 (n := 290) rfl ?_
  refine k_if_ne S dL_refuses_290 (tgt := 297) (by decide) (n := 293) rfl (fun _ => ?_) (fun h9 => absurd h9 (by decide))
  refine k_iload9 S dL_refuses_297 (n := 299) rfl ?_
  refine k_iconst S dL_refuses_299 (v := 1) (by decide) (n := 300) rfl ?_
  refine k_icmp_ne S dL_refuses_300 (tgt := 308) (by decide) (n := 303) rfl (fun _ => ?_) (fun h9 => absurd h9 (by decide))
  refine k_iload10 S dL_refuses_308 (n := 310) rfl ?_
  refine k_iconst S dL_refuses_310 (v := 0) (by decide) (n := 311) rfl ?_
  refine k_iconst S dL_refuses_311 (v := 0) (by decide) (n := 312) rfl ?_
  refine k_callH (As := [.ref (za g 0), .int 14, .int ((-2147483648)), .int 0, .int 0]) (rest := []) S (x_act14 (Or.inr (Or.inl rfl)) (n_setWeight (by decide))) mv_L_act m_457 dL_refuses_312 rfl rfl ⟨by decide, by decide⟩ rfl rfl (Nat.le_of_ble_eq_true rfl) ⟨by decide, by decide⟩ (n := 315) rfl (fun _ _ h => h.elim) (fun v9 ν9 h9 => ?_)
  rw [h9.1, h9.2]
  show zK x g ({ frames := 10, cells := 192, slots := 1152, locals := 184 } : Room) 17 159 954 315 [some (.ref (za g 0)), some (.int (nI d)), some (.int (nI c)), some (.int al), some (.long ((-99000011))), none, some (.long ((-99000012))), none, some (.int 2147483647), some (.int 3), some (.int ((-2147483648))), some (.int ((-2147483648))), some (.int ((-2147483648))), some (.int ((-2147483648))), none, none, none] [.long ((zcd "java/lang/IllegalArgumentException"))] μ
  refine k_topl (-99000012) zcd_a ?_
  refine k_lload6 S dL_refuses_315 (n := 317) rfl ?_
  refine k_lcmp S dL_refuses_317 (n := 318) rfl ?_
  refine k_top 0 (by decide) ?_
  refine k_if_ne S dL_refuses_318 (tgt := 325) (by decide) (n := 321) rfl (fun h9 => absurd (by decide) h9) (fun _ => ?_)
  refine k_iconst S dL_refuses_321 (v := 1) (by decide) (n := 322) rfl ?_
  refine k_goto S dL_refuses_322 (tgt := 326) (by decide) ?_
  refine k_istore14 S dL_refuses_326 (by decide) rfl (n := 328) rfl ?_
  refine k_iconst S dL_refuses_328 (v := 3) (by decide) (n := 329) rfl ?_
  refine k_istore15 S dL_refuses_329 (by decide) rfl (n := 331) rfl ?_
  refine k_iload15 S dL_refuses_331 (n := 333) rfl ?_
  refine k_bipush S dL_refuses_333 (v := 17) (by decide) (n := 335) rfl ?_
  refine k_icmp_ge S dL_refuses_335 (tgt := 416) (by decide) (n := 338) rfl (fun h9 => absurd h9 (by decide)) (fun _ => ?_)
  refine k_iload15 S dL_refuses_338 (n := 340) rfl ?_
  refine k_iconst S dL_refuses_340 (v := 5) (by decide) (n := 341) rfl ?_
  refine k_icmp_le S dL_refuses_341 (tgt := 355) (by decide) (n := 344) rfl (fun _ => ?_) (fun h9 => absurd (by decide) h9)
  refine k_iconst S dL_refuses_355 (v := 0) (by decide) (n := 356) rfl ?_
  refine k_istore16 S dL_refuses_356 (by decide) rfl (n := 358) rfl ?_
  refine k_iload14 S dL_refuses_358 (n := 360) rfl ?_
  refine k_if_eq S dL_refuses_360 (tgt := 407) (by decide) (n := 363) rfl (fun h9 => absurd h9 (by decide)) (fun _ => ?_)
  refine k_iload15 S dL_refuses_363 (n := 365) rfl ?_
  refine k_bipush S dL_refuses_365 (v := 12) (by decide) (n := 367) rfl ?_
  refine k_icmp_eq S dL_refuses_367 (tgt := 403) (by decide) (n := 370) rfl (fun h9 => absurd h9 (by decide)) (fun _ => ?_)
  refine k_iload15 S dL_refuses_370 (n := 372) rfl ?_
  refine k_bipush S dL_refuses_372 (v := 14) (by decide) (n := 374) rfl ?_
  refine k_icmp_eq S dL_refuses_374 (tgt := 403) (by decide) (n := 377) rfl (fun h9 => absurd h9 (by decide)) (fun _ => ?_)
  refine k_aload0 S dL_refuses_377 (n := 378) rfl ?_
  refine k_iload15 S dL_refuses_378 (n := 380) rfl ?_
  refine k_iload16 S dL_refuses_380 (n := 382) rfl ?_
  refine k_if_eq S dL_refuses_382 (tgt := 390) (by decide) (n := 385) rfl (fun _ => ?_) (fun h9 => absurd (by decide) h9)
  refine k_iload11 S dL_refuses_390 (n := 392) rfl ?_
  refine k_iconst S dL_refuses_392 (v := 0) (by decide) (n := 393) rfl ?_
  refine k_iconst S dL_refuses_393 (v := 0) (by decide) (n := 394) rfl ?_
  refine k_callH (As := [.ref (za g 0), .int 3, .int ((-2147483648)), .int 0, .int 0]) (rest := []) S (x_act3 (Or.inl rfl) (n_mean_place V (zin_l V.d60 (by decide)))) mv_L_act m_457 dL_refuses_394 rfl rfl ⟨by decide, by decide⟩ rfl rfl (Nat.le_of_ble_eq_true rfl) ⟨by decide, by decide⟩ (n := 397) rfl (fun _ _ h => h.elim) (fun v9 ν9 h9 => ?_)
  rw [h9.1, h9.2]
  show zK x g ({ frames := 10, cells := 192, slots := 1152, locals := 184 } : Room) 17 160 960 397 [some (.ref (za g 0)), some (.int (nI d)), some (.int (nI c)), some (.int al), some (.long ((-99000011))), none, some (.long ((-99000012))), none, some (.int 2147483647), some (.int 3), some (.int ((-2147483648))), some (.int ((-2147483648))), some (.int ((-2147483648))), some (.int ((-2147483648))), some (.int 1), some (.int 3), some (.int 0)] [.long ((zcd "java/lang/IndexOutOfBoundsException"))] μ
  refine k_topl (-99000011) zcd_p ?_
  refine k_lload4 S dL_refuses_397 (n := 399) rfl ?_
  refine k_lcmp S dL_refuses_399 (n := 400) rfl ?_
  refine k_top 0 (by decide) ?_
  refine k_if_ne S dL_refuses_400 (tgt := 407) (by decide) (n := 403) rfl (fun h9 => absurd (by decide) h9) (fun _ => ?_)
  refine k_iconst S dL_refuses_403 (v := 1) (by decide) (n := 404) rfl ?_
  refine k_goto S dL_refuses_404 (tgt := 408) (by decide) ?_
  refine k_istore14 S dL_refuses_408 (by decide) rfl (n := 410) rfl ?_
  refine k_iinc15 S dL_refuses_410 (v := 4) (by decide) (by decide) (n := 413) rfl ?_
  refine k_goto S dL_refuses_413 (tgt := 331) (by decide) ?_
  refine k_iload15 S dL_refuses_331 (n := 333) rfl ?_
  refine k_bipush S dL_refuses_333 (v := 17) (by decide) (n := 335) rfl ?_
  refine k_icmp_ge S dL_refuses_335 (tgt := 416) (by decide) (n := 338) rfl (fun h9 => absurd h9 (by decide)) (fun _ => ?_)
  refine k_iload15 S dL_refuses_338 (n := 340) rfl ?_
  refine k_iconst S dL_refuses_340 (v := 5) (by decide) (n := 341) rfl ?_
  refine k_icmp_le S dL_refuses_341 (tgt := 355) (by decide) (n := 344) rfl (fun _ => ?_) (fun h9 => absurd (by decide) h9)
  refine k_iconst S dL_refuses_355 (v := 0) (by decide) (n := 356) rfl ?_
  refine k_istore16 S dL_refuses_356 (by decide) rfl (n := 358) rfl ?_
  refine k_iload14 S dL_refuses_358 (n := 360) rfl ?_
  refine k_if_eq S dL_refuses_360 (tgt := 407) (by decide) (n := 363) rfl (fun h9 => absurd h9 (by decide)) (fun _ => ?_)
  refine k_iload15 S dL_refuses_363 (n := 365) rfl ?_
  refine k_bipush S dL_refuses_365 (v := 12) (by decide) (n := 367) rfl ?_
  refine k_icmp_eq S dL_refuses_367 (tgt := 403) (by decide) (n := 370) rfl (fun h9 => absurd h9 (by decide)) (fun _ => ?_)
  refine k_iload15 S dL_refuses_370 (n := 372) rfl ?_
  refine k_bipush S dL_refuses_372 (v := 14) (by decide) (n := 374) rfl ?_
  refine k_icmp_eq S dL_refuses_374 (tgt := 403) (by decide) (n := 377) rfl (fun h9 => absurd h9 (by decide)) (fun _ => ?_)
  refine k_aload0 S dL_refuses_377 (n := 378) rfl ?_
  refine k_iload15 S dL_refuses_378 (n := 380) rfl ?_
  refine k_iload16 S dL_refuses_380 (n := 382) rfl ?_
  refine k_if_eq S dL_refuses_382 (tgt := 390) (by decide) (n := 385) rfl (fun _ => ?_) (fun h9 => absurd (by decide) h9)
  refine k_iload11 S dL_refuses_390 (n := 392) rfl ?_
  refine k_iconst S dL_refuses_392 (v := 0) (by decide) (n := 393) rfl ?_
  refine k_iconst S dL_refuses_393 (v := 0) (by decide) (n := 394) rfl ?_
  refine k_callH (As := [.ref (za g 0), .int 4, .int ((-2147483648)), .int 0, .int 0]) (rest := []) S (x_act4 (Or.inl rfl) (n_range_place V (zin_l V.d60 (by decide)))) mv_L_act m_457 dL_refuses_394 rfl rfl ⟨by decide, by decide⟩ rfl rfl (Nat.le_of_ble_eq_true rfl) ⟨by decide, by decide⟩ (n := 397) rfl (fun _ _ h => h.elim) (fun v9 ν9 h9 => ?_)
  rw [h9.1, h9.2]
  show zK x g ({ frames := 10, cells := 192, slots := 1152, locals := 184 } : Room) 17 161 966 397 [some (.ref (za g 0)), some (.int (nI d)), some (.int (nI c)), some (.int al), some (.long ((-99000011))), none, some (.long ((-99000012))), none, some (.int 2147483647), some (.int 3), some (.int ((-2147483648))), some (.int ((-2147483648))), some (.int ((-2147483648))), some (.int ((-2147483648))), some (.int 1), some (.int 4), some (.int 0)] [.long ((zcd "java/lang/IndexOutOfBoundsException"))] μ
  refine k_topl (-99000011) zcd_p ?_
  refine k_lload4 S dL_refuses_397 (n := 399) rfl ?_
  refine k_lcmp S dL_refuses_399 (n := 400) rfl ?_
  refine k_top 0 (by decide) ?_
  refine k_if_ne S dL_refuses_400 (tgt := 407) (by decide) (n := 403) rfl (fun h9 => absurd (by decide) h9) (fun _ => ?_)
  refine k_iconst S dL_refuses_403 (v := 1) (by decide) (n := 404) rfl ?_
  refine k_goto S dL_refuses_404 (tgt := 408) (by decide) ?_
  refine k_istore14 S dL_refuses_408 (by decide) rfl (n := 410) rfl ?_
  refine k_iinc15 S dL_refuses_410 (v := 5) (by decide) (by decide) (n := 413) rfl ?_
  refine k_goto S dL_refuses_413 (tgt := 331) (by decide) ?_
  refine k_iload15 S dL_refuses_331 (n := 333) rfl ?_
  refine k_bipush S dL_refuses_333 (v := 17) (by decide) (n := 335) rfl ?_
  refine k_icmp_ge S dL_refuses_335 (tgt := 416) (by decide) (n := 338) rfl (fun h9 => absurd h9 (by decide)) (fun _ => ?_)
  refine k_iload15 S dL_refuses_338 (n := 340) rfl ?_
  refine k_iconst S dL_refuses_340 (v := 5) (by decide) (n := 341) rfl ?_
  refine k_icmp_le S dL_refuses_341 (tgt := 355) (by decide) (n := 344) rfl (fun _ => ?_) (fun h9 => absurd (by decide) h9)
  refine k_iconst S dL_refuses_355 (v := 0) (by decide) (n := 356) rfl ?_
  refine k_istore16 S dL_refuses_356 (by decide) rfl (n := 358) rfl ?_
  refine k_iload14 S dL_refuses_358 (n := 360) rfl ?_
  refine k_if_eq S dL_refuses_360 (tgt := 407) (by decide) (n := 363) rfl (fun h9 => absurd h9 (by decide)) (fun _ => ?_)
  refine k_iload15 S dL_refuses_363 (n := 365) rfl ?_
  refine k_bipush S dL_refuses_365 (v := 12) (by decide) (n := 367) rfl ?_
  refine k_icmp_eq S dL_refuses_367 (tgt := 403) (by decide) (n := 370) rfl (fun h9 => absurd h9 (by decide)) (fun _ => ?_)
  refine k_iload15 S dL_refuses_370 (n := 372) rfl ?_
  refine k_bipush S dL_refuses_372 (v := 14) (by decide) (n := 374) rfl ?_
  refine k_icmp_eq S dL_refuses_374 (tgt := 403) (by decide) (n := 377) rfl (fun h9 => absurd h9 (by decide)) (fun _ => ?_)
  refine k_aload0 S dL_refuses_377 (n := 378) rfl ?_
  refine k_iload15 S dL_refuses_378 (n := 380) rfl ?_
  refine k_iload16 S dL_refuses_380 (n := 382) rfl ?_
  refine k_if_eq S dL_refuses_382 (tgt := 390) (by decide) (n := 385) rfl (fun _ => ?_) (fun h9 => absurd (by decide) h9)
  refine k_iload11 S dL_refuses_390 (n := 392) rfl ?_
  refine k_iconst S dL_refuses_392 (v := 0) (by decide) (n := 393) rfl ?_
  refine k_iconst S dL_refuses_393 (v := 0) (by decide) (n := 394) rfl ?_
  refine k_callH (As := [.ref (za g 0), .int 5, .int ((-2147483648)), .int 0, .int 0]) (rest := []) S (x_act5 (Or.inl rfl) (n_phaseOf_place V (zin_l V.d60 (by decide)))) mv_L_act m_457 dL_refuses_394 rfl rfl ⟨by decide, by decide⟩ rfl rfl (Nat.le_of_ble_eq_true rfl) ⟨by decide, by decide⟩ (n := 397) rfl (fun _ _ h => h.elim) (fun v9 ν9 h9 => ?_)
  rw [h9.1, h9.2]
  show zK x g ({ frames := 10, cells := 192, slots := 1152, locals := 184 } : Room) 17 162 972 397 [some (.ref (za g 0)), some (.int (nI d)), some (.int (nI c)), some (.int al), some (.long ((-99000011))), none, some (.long ((-99000012))), none, some (.int 2147483647), some (.int 3), some (.int ((-2147483648))), some (.int ((-2147483648))), some (.int ((-2147483648))), some (.int ((-2147483648))), some (.int 1), some (.int 5), some (.int 0)] [.long ((zcd "java/lang/IndexOutOfBoundsException"))] μ
  refine k_topl (-99000011) zcd_p ?_
  refine k_lload4 S dL_refuses_397 (n := 399) rfl ?_
  refine k_lcmp S dL_refuses_399 (n := 400) rfl ?_
  refine k_top 0 (by decide) ?_
  refine k_if_ne S dL_refuses_400 (tgt := 407) (by decide) (n := 403) rfl (fun h9 => absurd (by decide) h9) (fun _ => ?_)
  refine k_iconst S dL_refuses_403 (v := 1) (by decide) (n := 404) rfl ?_
  refine k_goto S dL_refuses_404 (tgt := 408) (by decide) ?_
  refine k_istore14 S dL_refuses_408 (by decide) rfl (n := 410) rfl ?_
  refine k_iinc15 S dL_refuses_410 (v := 6) (by decide) (by decide) (n := 413) rfl ?_
  refine k_goto S dL_refuses_413 (tgt := 331) (by decide) ?_
  refine k_iload15 S dL_refuses_331 (n := 333) rfl ?_
  refine k_bipush S dL_refuses_333 (v := 17) (by decide) (n := 335) rfl ?_
  refine k_icmp_ge S dL_refuses_335 (tgt := 416) (by decide) (n := 338) rfl (fun h9 => absurd h9 (by decide)) (fun _ => ?_)
  refine k_iload15 S dL_refuses_338 (n := 340) rfl ?_
  refine k_iconst S dL_refuses_340 (v := 5) (by decide) (n := 341) rfl ?_
  refine k_icmp_le S dL_refuses_341 (tgt := 355) (by decide) (n := 344) rfl (fun h9 => absurd h9 (by decide)) (fun _ => ?_)
  refine k_iload15 S dL_refuses_344 (n := 346) rfl ?_
  refine k_bipush S dL_refuses_346 (v := 10) (by decide) (n := 348) rfl ?_
  refine k_icmp_ge S dL_refuses_348 (tgt := 355) (by decide) (n := 351) rfl (fun h9 => absurd h9 (by decide)) (fun _ => ?_)
  refine k_iconst S dL_refuses_351 (v := 1) (by decide) (n := 352) rfl ?_
  refine k_goto S dL_refuses_352 (tgt := 356) (by decide) ?_
  refine k_istore16 S dL_refuses_356 (by decide) rfl (n := 358) rfl ?_
  refine k_iload14 S dL_refuses_358 (n := 360) rfl ?_
  refine k_if_eq S dL_refuses_360 (tgt := 407) (by decide) (n := 363) rfl (fun h9 => absurd h9 (by decide)) (fun _ => ?_)
  refine k_iload15 S dL_refuses_363 (n := 365) rfl ?_
  refine k_bipush S dL_refuses_365 (v := 12) (by decide) (n := 367) rfl ?_
  refine k_icmp_eq S dL_refuses_367 (tgt := 403) (by decide) (n := 370) rfl (fun h9 => absurd h9 (by decide)) (fun _ => ?_)
  refine k_iload15 S dL_refuses_370 (n := 372) rfl ?_
  refine k_bipush S dL_refuses_372 (v := 14) (by decide) (n := 374) rfl ?_
  refine k_icmp_eq S dL_refuses_374 (tgt := 403) (by decide) (n := 377) rfl (fun h9 => absurd h9 (by decide)) (fun _ => ?_)
  refine k_aload0 S dL_refuses_377 (n := 378) rfl ?_
  refine k_iload15 S dL_refuses_378 (n := 380) rfl ?_
  refine k_iload16 S dL_refuses_380 (n := 382) rfl ?_
  refine k_if_eq S dL_refuses_382 (tgt := 390) (by decide) (n := 385) rfl (fun h9 => absurd h9 (by decide)) (fun _ => ?_)
  refine k_iload12 S dL_refuses_385 (n := 387) rfl ?_
  refine k_goto S dL_refuses_387 (tgt := 392) (by decide) ?_
  refine k_iconst S dL_refuses_392 (v := 0) (by decide) (n := 393) rfl ?_
  refine k_iconst S dL_refuses_393 (v := 0) (by decide) (n := 394) rfl ?_
  refine k_callH (As := [.ref (za g 0), .int 6, .int ((-2147483648)), .int 0, .int 0]) (rest := []) S (x_act6 (Or.inl rfl) (n_points_place V (zin_l (Nat.le_trans V.c10 (by decide)) (by decide)))) mv_L_act m_457 dL_refuses_394 rfl rfl ⟨by decide, by decide⟩ rfl rfl (Nat.le_of_ble_eq_true rfl) ⟨by decide, by decide⟩ (n := 397) rfl (fun _ _ h => h.elim) (fun v9 ν9 h9 => ?_)
  rw [h9.1, h9.2]
  show zK x g ({ frames := 10, cells := 192, slots := 1152, locals := 184 } : Room) 17 163 978 397 [some (.ref (za g 0)), some (.int (nI d)), some (.int (nI c)), some (.int al), some (.long ((-99000011))), none, some (.long ((-99000012))), none, some (.int 2147483647), some (.int 3), some (.int ((-2147483648))), some (.int ((-2147483648))), some (.int ((-2147483648))), some (.int ((-2147483648))), some (.int 1), some (.int 6), some (.int 1)] [.long ((zcd "java/lang/IndexOutOfBoundsException"))] μ
  refine k_topl (-99000011) zcd_p ?_
  refine k_lload4 S dL_refuses_397 (n := 399) rfl ?_
  refine k_lcmp S dL_refuses_399 (n := 400) rfl ?_
  refine k_top 0 (by decide) ?_
  refine k_if_ne S dL_refuses_400 (tgt := 407) (by decide) (n := 403) rfl (fun h9 => absurd (by decide) h9) (fun _ => ?_)
  refine k_iconst S dL_refuses_403 (v := 1) (by decide) (n := 404) rfl ?_
  refine k_goto S dL_refuses_404 (tgt := 408) (by decide) ?_
  refine k_istore14 S dL_refuses_408 (by decide) rfl (n := 410) rfl ?_
  refine k_iinc15 S dL_refuses_410 (v := 7) (by decide) (by decide) (n := 413) rfl ?_
  refine k_goto S dL_refuses_413 (tgt := 331) (by decide) ?_
  refine k_iload15 S dL_refuses_331 (n := 333) rfl ?_
  refine k_bipush S dL_refuses_333 (v := 17) (by decide) (n := 335) rfl ?_
  refine k_icmp_ge S dL_refuses_335 (tgt := 416) (by decide) (n := 338) rfl (fun h9 => absurd h9 (by decide)) (fun _ => ?_)
  refine k_iload15 S dL_refuses_338 (n := 340) rfl ?_
  refine k_iconst S dL_refuses_340 (v := 5) (by decide) (n := 341) rfl ?_
  refine k_icmp_le S dL_refuses_341 (tgt := 355) (by decide) (n := 344) rfl (fun h9 => absurd h9 (by decide)) (fun _ => ?_)
  refine k_iload15 S dL_refuses_344 (n := 346) rfl ?_
  refine k_bipush S dL_refuses_346 (v := 10) (by decide) (n := 348) rfl ?_
  refine k_icmp_ge S dL_refuses_348 (tgt := 355) (by decide) (n := 351) rfl (fun h9 => absurd h9 (by decide)) (fun _ => ?_)
  refine k_iconst S dL_refuses_351 (v := 1) (by decide) (n := 352) rfl ?_
  refine k_goto S dL_refuses_352 (tgt := 356) (by decide) ?_
  refine k_istore16 S dL_refuses_356 (by decide) rfl (n := 358) rfl ?_
  refine k_iload14 S dL_refuses_358 (n := 360) rfl ?_
  refine k_if_eq S dL_refuses_360 (tgt := 407) (by decide) (n := 363) rfl (fun h9 => absurd h9 (by decide)) (fun _ => ?_)
  refine k_iload15 S dL_refuses_363 (n := 365) rfl ?_
  refine k_bipush S dL_refuses_365 (v := 12) (by decide) (n := 367) rfl ?_
  refine k_icmp_eq S dL_refuses_367 (tgt := 403) (by decide) (n := 370) rfl (fun h9 => absurd h9 (by decide)) (fun _ => ?_)
  refine k_iload15 S dL_refuses_370 (n := 372) rfl ?_
  refine k_bipush S dL_refuses_372 (v := 14) (by decide) (n := 374) rfl ?_
  refine k_icmp_eq S dL_refuses_374 (tgt := 403) (by decide) (n := 377) rfl (fun h9 => absurd h9 (by decide)) (fun _ => ?_)
  refine k_aload0 S dL_refuses_377 (n := 378) rfl ?_
  refine k_iload15 S dL_refuses_378 (n := 380) rfl ?_
  refine k_iload16 S dL_refuses_380 (n := 382) rfl ?_
  refine k_if_eq S dL_refuses_382 (tgt := 390) (by decide) (n := 385) rfl (fun h9 => absurd h9 (by decide)) (fun _ => ?_)
  refine k_iload12 S dL_refuses_385 (n := 387) rfl ?_
  refine k_goto S dL_refuses_387 (tgt := 392) (by decide) ?_
  refine k_iconst S dL_refuses_392 (v := 0) (by decide) (n := 393) rfl ?_
  refine k_iconst S dL_refuses_393 (v := 0) (by decide) (n := 394) rfl ?_
  refine k_callH (As := [.ref (za g 0), .int 7, .int ((-2147483648)), .int 0, .int 0]) (rest := []) S (x_act7 (Or.inl rfl) (n_center_place V (zin_l (Nat.le_trans V.c10 (by decide)) (by decide)))) mv_L_act m_457 dL_refuses_394 rfl rfl ⟨by decide, by decide⟩ rfl rfl (Nat.le_of_ble_eq_true rfl) ⟨by decide, by decide⟩ (n := 397) rfl (fun _ _ h => h.elim) (fun v9 ν9 h9 => ?_)
  rw [h9.1, h9.2]
  show zK x g ({ frames := 10, cells := 192, slots := 1152, locals := 184 } : Room) 17 165 990 397 [some (.ref (za g 0)), some (.int (nI d)), some (.int (nI c)), some (.int al), some (.long ((-99000011))), none, some (.long ((-99000012))), none, some (.int 2147483647), some (.int 3), some (.int ((-2147483648))), some (.int ((-2147483648))), some (.int ((-2147483648))), some (.int ((-2147483648))), some (.int 1), some (.int 7), some (.int 1)] [.long ((zcd "java/lang/IndexOutOfBoundsException"))] μ
  refine k_topl (-99000011) zcd_p ?_
  refine k_lload4 S dL_refuses_397 (n := 399) rfl ?_
  refine k_lcmp S dL_refuses_399 (n := 400) rfl ?_
  refine k_top 0 (by decide) ?_
  refine k_if_ne S dL_refuses_400 (tgt := 407) (by decide) (n := 403) rfl (fun h9 => absurd (by decide) h9) (fun _ => ?_)
  refine k_iconst S dL_refuses_403 (v := 1) (by decide) (n := 404) rfl ?_
  refine k_goto S dL_refuses_404 (tgt := 408) (by decide) ?_
  refine k_istore14 S dL_refuses_408 (by decide) rfl (n := 410) rfl ?_
  refine k_iinc15 S dL_refuses_410 (v := 8) (by decide) (by decide) (n := 413) rfl ?_
  refine k_goto S dL_refuses_413 (tgt := 331) (by decide) ?_
  refine k_iload15 S dL_refuses_331 (n := 333) rfl ?_
  refine k_bipush S dL_refuses_333 (v := 17) (by decide) (n := 335) rfl ?_
  refine k_icmp_ge S dL_refuses_335 (tgt := 416) (by decide) (n := 338) rfl (fun h9 => absurd h9 (by decide)) (fun _ => ?_)
  refine k_iload15 S dL_refuses_338 (n := 340) rfl ?_
  refine k_iconst S dL_refuses_340 (v := 5) (by decide) (n := 341) rfl ?_
  refine k_icmp_le S dL_refuses_341 (tgt := 355) (by decide) (n := 344) rfl (fun h9 => absurd h9 (by decide)) (fun _ => ?_)
  refine k_iload15 S dL_refuses_344 (n := 346) rfl ?_
  refine k_bipush S dL_refuses_346 (v := 10) (by decide) (n := 348) rfl ?_
  refine k_icmp_ge S dL_refuses_348 (tgt := 355) (by decide) (n := 351) rfl (fun h9 => absurd h9 (by decide)) (fun _ => ?_)
  refine k_iconst S dL_refuses_351 (v := 1) (by decide) (n := 352) rfl ?_
  refine k_goto S dL_refuses_352 (tgt := 356) (by decide) ?_
  refine k_istore16 S dL_refuses_356 (by decide) rfl (n := 358) rfl ?_
  refine k_iload14 S dL_refuses_358 (n := 360) rfl ?_
  refine k_if_eq S dL_refuses_360 (tgt := 407) (by decide) (n := 363) rfl (fun h9 => absurd h9 (by decide)) (fun _ => ?_)
  refine k_iload15 S dL_refuses_363 (n := 365) rfl ?_
  refine k_bipush S dL_refuses_365 (v := 12) (by decide) (n := 367) rfl ?_
  refine k_icmp_eq S dL_refuses_367 (tgt := 403) (by decide) (n := 370) rfl (fun h9 => absurd h9 (by decide)) (fun _ => ?_)
  refine k_iload15 S dL_refuses_370 (n := 372) rfl ?_
  refine k_bipush S dL_refuses_372 (v := 14) (by decide) (n := 374) rfl ?_
  refine k_icmp_eq S dL_refuses_374 (tgt := 403) (by decide) (n := 377) rfl (fun h9 => absurd h9 (by decide)) (fun _ => ?_)
  refine k_aload0 S dL_refuses_377 (n := 378) rfl ?_
  refine k_iload15 S dL_refuses_378 (n := 380) rfl ?_
  refine k_iload16 S dL_refuses_380 (n := 382) rfl ?_
  refine k_if_eq S dL_refuses_382 (tgt := 390) (by decide) (n := 385) rfl (fun h9 => absurd h9 (by decide)) (fun _ => ?_)
  refine k_iload12 S dL_refuses_385 (n := 387) rfl ?_
  refine k_goto S dL_refuses_387 (tgt := 392) (by decide) ?_
  refine k_iconst S dL_refuses_392 (v := 0) (by decide) (n := 393) rfl ?_
  refine k_iconst S dL_refuses_393 (v := 0) (by decide) (n := 394) rfl ?_
  refine k_callH (As := [.ref (za g 0), .int 8, .int ((-2147483648)), .int 0, .int 0]) (rest := []) S (x_act8 (Or.inl rfl) (n_width_place V (zin_l (Nat.le_trans V.c10 (by decide)) (by decide)))) mv_L_act m_457 dL_refuses_394 rfl rfl ⟨by decide, by decide⟩ rfl rfl (Nat.le_of_ble_eq_true rfl) ⟨by decide, by decide⟩ (n := 397) rfl (fun _ _ h => h.elim) (fun v9 ν9 h9 => ?_)
  rw [h9.1, h9.2]
  show zK x g ({ frames := 10, cells := 192, slots := 1152, locals := 184 } : Room) 17 167 1002 397 [some (.ref (za g 0)), some (.int (nI d)), some (.int (nI c)), some (.int al), some (.long ((-99000011))), none, some (.long ((-99000012))), none, some (.int 2147483647), some (.int 3), some (.int ((-2147483648))), some (.int ((-2147483648))), some (.int ((-2147483648))), some (.int ((-2147483648))), some (.int 1), some (.int 8), some (.int 1)] [.long ((zcd "java/lang/IndexOutOfBoundsException"))] μ
  refine k_topl (-99000011) zcd_p ?_
  refine k_lload4 S dL_refuses_397 (n := 399) rfl ?_
  refine k_lcmp S dL_refuses_399 (n := 400) rfl ?_
  refine k_top 0 (by decide) ?_
  refine k_if_ne S dL_refuses_400 (tgt := 407) (by decide) (n := 403) rfl (fun h9 => absurd (by decide) h9) (fun _ => ?_)
  refine k_iconst S dL_refuses_403 (v := 1) (by decide) (n := 404) rfl ?_
  refine k_goto S dL_refuses_404 (tgt := 408) (by decide) ?_
  refine k_istore14 S dL_refuses_408 (by decide) rfl (n := 410) rfl ?_
  refine k_iinc15 S dL_refuses_410 (v := 9) (by decide) (by decide) (n := 413) rfl ?_
  refine k_goto S dL_refuses_413 (tgt := 331) (by decide) ?_
  refine k_iload15 S dL_refuses_331 (n := 333) rfl ?_
  refine k_bipush S dL_refuses_333 (v := 17) (by decide) (n := 335) rfl ?_
  refine k_icmp_ge S dL_refuses_335 (tgt := 416) (by decide) (n := 338) rfl (fun h9 => absurd h9 (by decide)) (fun _ => ?_)
  refine k_iload15 S dL_refuses_338 (n := 340) rfl ?_
  refine k_iconst S dL_refuses_340 (v := 5) (by decide) (n := 341) rfl ?_
  refine k_icmp_le S dL_refuses_341 (tgt := 355) (by decide) (n := 344) rfl (fun h9 => absurd h9 (by decide)) (fun _ => ?_)
  refine k_iload15 S dL_refuses_344 (n := 346) rfl ?_
  refine k_bipush S dL_refuses_346 (v := 10) (by decide) (n := 348) rfl ?_
  refine k_icmp_ge S dL_refuses_348 (tgt := 355) (by decide) (n := 351) rfl (fun h9 => absurd h9 (by decide)) (fun _ => ?_)
  refine k_iconst S dL_refuses_351 (v := 1) (by decide) (n := 352) rfl ?_
  refine k_goto S dL_refuses_352 (tgt := 356) (by decide) ?_
  refine k_istore16 S dL_refuses_356 (by decide) rfl (n := 358) rfl ?_
  refine k_iload14 S dL_refuses_358 (n := 360) rfl ?_
  refine k_if_eq S dL_refuses_360 (tgt := 407) (by decide) (n := 363) rfl (fun h9 => absurd h9 (by decide)) (fun _ => ?_)
  refine k_iload15 S dL_refuses_363 (n := 365) rfl ?_
  refine k_bipush S dL_refuses_365 (v := 12) (by decide) (n := 367) rfl ?_
  refine k_icmp_eq S dL_refuses_367 (tgt := 403) (by decide) (n := 370) rfl (fun h9 => absurd h9 (by decide)) (fun _ => ?_)
  refine k_iload15 S dL_refuses_370 (n := 372) rfl ?_
  refine k_bipush S dL_refuses_372 (v := 14) (by decide) (n := 374) rfl ?_
  refine k_icmp_eq S dL_refuses_374 (tgt := 403) (by decide) (n := 377) rfl (fun h9 => absurd h9 (by decide)) (fun _ => ?_)
  refine k_aload0 S dL_refuses_377 (n := 378) rfl ?_
  refine k_iload15 S dL_refuses_378 (n := 380) rfl ?_
  refine k_iload16 S dL_refuses_380 (n := 382) rfl ?_
  refine k_if_eq S dL_refuses_382 (tgt := 390) (by decide) (n := 385) rfl (fun h9 => absurd h9 (by decide)) (fun _ => ?_)
  refine k_iload12 S dL_refuses_385 (n := 387) rfl ?_
  refine k_goto S dL_refuses_387 (tgt := 392) (by decide) ?_
  refine k_iconst S dL_refuses_392 (v := 0) (by decide) (n := 393) rfl ?_
  refine k_iconst S dL_refuses_393 (v := 0) (by decide) (n := 394) rfl ?_
  refine k_callH (As := [.ref (za g 0), .int 9, .int ((-2147483648)), .int 0, .int 0]) (rest := []) S (x_act9 (Or.inl rfl) (n_rangeLimit_place V (zin_l (Nat.le_trans V.c10 (by decide)) (by decide)))) mv_L_act m_457 dL_refuses_394 rfl rfl ⟨by decide, by decide⟩ rfl rfl (Nat.le_of_ble_eq_true rfl) ⟨by decide, by decide⟩ (n := 397) rfl (fun _ _ h => h.elim) (fun v9 ν9 h9 => ?_)
  rw [h9.1, h9.2]
  show zK x g ({ frames := 10, cells := 192, slots := 1152, locals := 184 } : Room) 17 169 1014 397 [some (.ref (za g 0)), some (.int (nI d)), some (.int (nI c)), some (.int al), some (.long ((-99000011))), none, some (.long ((-99000012))), none, some (.int 2147483647), some (.int 3), some (.int ((-2147483648))), some (.int ((-2147483648))), some (.int ((-2147483648))), some (.int ((-2147483648))), some (.int 1), some (.int 9), some (.int 1)] [.long ((zcd "java/lang/IndexOutOfBoundsException"))] μ
  refine k_topl (-99000011) zcd_p ?_
  refine k_lload4 S dL_refuses_397 (n := 399) rfl ?_
  refine k_lcmp S dL_refuses_399 (n := 400) rfl ?_
  refine k_top 0 (by decide) ?_
  refine k_if_ne S dL_refuses_400 (tgt := 407) (by decide) (n := 403) rfl (fun h9 => absurd (by decide) h9) (fun _ => ?_)
  refine k_iconst S dL_refuses_403 (v := 1) (by decide) (n := 404) rfl ?_
  refine k_goto S dL_refuses_404 (tgt := 408) (by decide) ?_
  refine k_istore14 S dL_refuses_408 (by decide) rfl (n := 410) rfl ?_
  refine k_iinc15 S dL_refuses_410 (v := 10) (by decide) (by decide) (n := 413) rfl ?_
  refine k_goto S dL_refuses_413 (tgt := 331) (by decide) ?_
  refine k_iload15 S dL_refuses_331 (n := 333) rfl ?_
  refine k_bipush S dL_refuses_333 (v := 17) (by decide) (n := 335) rfl ?_
  refine k_icmp_ge S dL_refuses_335 (tgt := 416) (by decide) (n := 338) rfl (fun h9 => absurd h9 (by decide)) (fun _ => ?_)
  refine k_iload15 S dL_refuses_338 (n := 340) rfl ?_
  refine k_iconst S dL_refuses_340 (v := 5) (by decide) (n := 341) rfl ?_
  refine k_icmp_le S dL_refuses_341 (tgt := 355) (by decide) (n := 344) rfl (fun h9 => absurd h9 (by decide)) (fun _ => ?_)
  refine k_iload15 S dL_refuses_344 (n := 346) rfl ?_
  refine k_bipush S dL_refuses_346 (v := 10) (by decide) (n := 348) rfl ?_
  refine k_icmp_ge S dL_refuses_348 (tgt := 355) (by decide) (n := 351) rfl (fun _ => ?_) (fun h9 => absurd (by decide) h9)
  refine k_iconst S dL_refuses_355 (v := 0) (by decide) (n := 356) rfl ?_
  refine k_istore16 S dL_refuses_356 (by decide) rfl (n := 358) rfl ?_
  refine k_iload14 S dL_refuses_358 (n := 360) rfl ?_
  refine k_if_eq S dL_refuses_360 (tgt := 407) (by decide) (n := 363) rfl (fun h9 => absurd h9 (by decide)) (fun _ => ?_)
  refine k_iload15 S dL_refuses_363 (n := 365) rfl ?_
  refine k_bipush S dL_refuses_365 (v := 12) (by decide) (n := 367) rfl ?_
  refine k_icmp_eq S dL_refuses_367 (tgt := 403) (by decide) (n := 370) rfl (fun h9 => absurd h9 (by decide)) (fun _ => ?_)
  refine k_iload15 S dL_refuses_370 (n := 372) rfl ?_
  refine k_bipush S dL_refuses_372 (v := 14) (by decide) (n := 374) rfl ?_
  refine k_icmp_eq S dL_refuses_374 (tgt := 403) (by decide) (n := 377) rfl (fun h9 => absurd h9 (by decide)) (fun _ => ?_)
  refine k_aload0 S dL_refuses_377 (n := 378) rfl ?_
  refine k_iload15 S dL_refuses_378 (n := 380) rfl ?_
  refine k_iload16 S dL_refuses_380 (n := 382) rfl ?_
  refine k_if_eq S dL_refuses_382 (tgt := 390) (by decide) (n := 385) rfl (fun _ => ?_) (fun h9 => absurd (by decide) h9)
  refine k_iload11 S dL_refuses_390 (n := 392) rfl ?_
  refine k_iconst S dL_refuses_392 (v := 0) (by decide) (n := 393) rfl ?_
  refine k_iconst S dL_refuses_393 (v := 0) (by decide) (n := 394) rfl ?_
  refine k_callH (As := [.ref (za g 0), .int 10, .int ((-2147483648)), .int 0, .int 0]) (rest := []) S (x_act10 (Or.inl rfl) (n_signals_place V (zin_l V.d60 (by decide)))) mv_L_act m_457 dL_refuses_394 rfl rfl ⟨by decide, by decide⟩ rfl rfl (Nat.le_of_ble_eq_true rfl) ⟨by decide, by decide⟩ (n := 397) rfl (fun _ _ h => h.elim) (fun v9 ν9 h9 => ?_)
  rw [h9.1, h9.2]
  show zK x g ({ frames := 10, cells := 192, slots := 1152, locals := 184 } : Room) 17 170 1020 397 [some (.ref (za g 0)), some (.int (nI d)), some (.int (nI c)), some (.int al), some (.long ((-99000011))), none, some (.long ((-99000012))), none, some (.int 2147483647), some (.int 3), some (.int ((-2147483648))), some (.int ((-2147483648))), some (.int ((-2147483648))), some (.int ((-2147483648))), some (.int 1), some (.int 10), some (.int 0)] [.long ((zcd "java/lang/IndexOutOfBoundsException"))] μ
  refine k_topl (-99000011) zcd_p ?_
  refine k_lload4 S dL_refuses_397 (n := 399) rfl ?_
  refine k_lcmp S dL_refuses_399 (n := 400) rfl ?_
  refine k_top 0 (by decide) ?_
  refine k_if_ne S dL_refuses_400 (tgt := 407) (by decide) (n := 403) rfl (fun h9 => absurd (by decide) h9) (fun _ => ?_)
  refine k_iconst S dL_refuses_403 (v := 1) (by decide) (n := 404) rfl ?_
  refine k_goto S dL_refuses_404 (tgt := 408) (by decide) ?_
  refine k_istore14 S dL_refuses_408 (by decide) rfl (n := 410) rfl ?_
  refine k_iinc15 S dL_refuses_410 (v := 11) (by decide) (by decide) (n := 413) rfl ?_
  refine k_goto S dL_refuses_413 (tgt := 331) (by decide) ?_
  refine k_iload15 S dL_refuses_331 (n := 333) rfl ?_
  refine k_bipush S dL_refuses_333 (v := 17) (by decide) (n := 335) rfl ?_
  refine k_icmp_ge S dL_refuses_335 (tgt := 416) (by decide) (n := 338) rfl (fun h9 => absurd h9 (by decide)) (fun _ => ?_)
  refine k_iload15 S dL_refuses_338 (n := 340) rfl ?_
  refine k_iconst S dL_refuses_340 (v := 5) (by decide) (n := 341) rfl ?_
  refine k_icmp_le S dL_refuses_341 (tgt := 355) (by decide) (n := 344) rfl (fun h9 => absurd h9 (by decide)) (fun _ => ?_)
  refine k_iload15 S dL_refuses_344 (n := 346) rfl ?_
  refine k_bipush S dL_refuses_346 (v := 10) (by decide) (n := 348) rfl ?_
  refine k_icmp_ge S dL_refuses_348 (tgt := 355) (by decide) (n := 351) rfl (fun _ => ?_) (fun h9 => absurd (by decide) h9)
  refine k_iconst S dL_refuses_355 (v := 0) (by decide) (n := 356) rfl ?_
  refine k_istore16 S dL_refuses_356 (by decide) rfl (n := 358) rfl ?_
  refine k_iload14 S dL_refuses_358 (n := 360) rfl ?_
  refine k_if_eq S dL_refuses_360 (tgt := 407) (by decide) (n := 363) rfl (fun h9 => absurd h9 (by decide)) (fun _ => ?_)
  refine k_iload15 S dL_refuses_363 (n := 365) rfl ?_
  refine k_bipush S dL_refuses_365 (v := 12) (by decide) (n := 367) rfl ?_
  refine k_icmp_eq S dL_refuses_367 (tgt := 403) (by decide) (n := 370) rfl (fun h9 => absurd h9 (by decide)) (fun _ => ?_)
  refine k_iload15 S dL_refuses_370 (n := 372) rfl ?_
  refine k_bipush S dL_refuses_372 (v := 14) (by decide) (n := 374) rfl ?_
  refine k_icmp_eq S dL_refuses_374 (tgt := 403) (by decide) (n := 377) rfl (fun h9 => absurd h9 (by decide)) (fun _ => ?_)
  refine k_aload0 S dL_refuses_377 (n := 378) rfl ?_
  refine k_iload15 S dL_refuses_378 (n := 380) rfl ?_
  refine k_iload16 S dL_refuses_380 (n := 382) rfl ?_
  refine k_if_eq S dL_refuses_382 (tgt := 390) (by decide) (n := 385) rfl (fun _ => ?_) (fun h9 => absurd (by decide) h9)
  refine k_iload11 S dL_refuses_390 (n := 392) rfl ?_
  refine k_iconst S dL_refuses_392 (v := 0) (by decide) (n := 393) rfl ?_
  refine k_iconst S dL_refuses_393 (v := 0) (by decide) (n := 394) rfl ?_
  refine k_callH (As := [.ref (za g 0), .int 11, .int ((-2147483648)), .int 0, .int 0]) (rest := []) S (x_act11 (Or.inl rfl) (n_signalsByWindows_place V (zin_l V.d60 (by decide)))) mv_L_act m_457 dL_refuses_394 rfl rfl ⟨by decide, by decide⟩ rfl rfl (Nat.le_of_ble_eq_true rfl) ⟨by decide, by decide⟩ (n := 397) rfl (fun _ _ h => h.elim) (fun v9 ν9 h9 => ?_)
  rw [h9.1, h9.2]
  show zK x g ({ frames := 10, cells := 192, slots := 1152, locals := 184 } : Room) 17 171 1026 397 [some (.ref (za g 0)), some (.int (nI d)), some (.int (nI c)), some (.int al), some (.long ((-99000011))), none, some (.long ((-99000012))), none, some (.int 2147483647), some (.int 3), some (.int ((-2147483648))), some (.int ((-2147483648))), some (.int ((-2147483648))), some (.int ((-2147483648))), some (.int 1), some (.int 11), some (.int 0)] [.long ((zcd "java/lang/IndexOutOfBoundsException"))] μ
  refine k_topl (-99000011) zcd_p ?_
  refine k_lload4 S dL_refuses_397 (n := 399) rfl ?_
  refine k_lcmp S dL_refuses_399 (n := 400) rfl ?_
  refine k_top 0 (by decide) ?_
  refine k_if_ne S dL_refuses_400 (tgt := 407) (by decide) (n := 403) rfl (fun h9 => absurd (by decide) h9) (fun _ => ?_)
  refine k_iconst S dL_refuses_403 (v := 1) (by decide) (n := 404) rfl ?_
  refine k_goto S dL_refuses_404 (tgt := 408) (by decide) ?_
  refine k_istore14 S dL_refuses_408 (by decide) rfl (n := 410) rfl ?_
  refine k_iinc15 S dL_refuses_410 (v := 12) (by decide) (by decide) (n := 413) rfl ?_
  refine k_goto S dL_refuses_413 (tgt := 331) (by decide) ?_
  refine k_iload15 S dL_refuses_331 (n := 333) rfl ?_
  refine k_bipush S dL_refuses_333 (v := 17) (by decide) (n := 335) rfl ?_
  refine k_icmp_ge S dL_refuses_335 (tgt := 416) (by decide) (n := 338) rfl (fun h9 => absurd h9 (by decide)) (fun _ => ?_)
  refine k_iload15 S dL_refuses_338 (n := 340) rfl ?_
  refine k_iconst S dL_refuses_340 (v := 5) (by decide) (n := 341) rfl ?_
  refine k_icmp_le S dL_refuses_341 (tgt := 355) (by decide) (n := 344) rfl (fun h9 => absurd h9 (by decide)) (fun _ => ?_)
  refine k_iload15 S dL_refuses_344 (n := 346) rfl ?_
  refine k_bipush S dL_refuses_346 (v := 10) (by decide) (n := 348) rfl ?_
  refine k_icmp_ge S dL_refuses_348 (tgt := 355) (by decide) (n := 351) rfl (fun _ => ?_) (fun h9 => absurd (by decide) h9)
  refine k_iconst S dL_refuses_355 (v := 0) (by decide) (n := 356) rfl ?_
  refine k_istore16 S dL_refuses_356 (by decide) rfl (n := 358) rfl ?_
  refine k_iload14 S dL_refuses_358 (n := 360) rfl ?_
  refine k_if_eq S dL_refuses_360 (tgt := 407) (by decide) (n := 363) rfl (fun h9 => absurd h9 (by decide)) (fun _ => ?_)
  refine k_iload15 S dL_refuses_363 (n := 365) rfl ?_
  refine k_bipush S dL_refuses_365 (v := 12) (by decide) (n := 367) rfl ?_
  refine k_icmp_eq S dL_refuses_367 (tgt := 403) (by decide) (n := 370) rfl (fun _ => ?_) (fun h9 => absurd (by decide) h9)
  refine k_iconst S dL_refuses_403 (v := 1) (by decide) (n := 404) rfl ?_
  refine k_goto S dL_refuses_404 (tgt := 408) (by decide) ?_
  refine k_istore14 S dL_refuses_408 (by decide) rfl (n := 410) rfl ?_
  refine k_iinc15 S dL_refuses_410 (v := 13) (by decide) (by decide) (n := 413) rfl ?_
  refine k_goto S dL_refuses_413 (tgt := 331) (by decide) ?_
  refine k_iload15 S dL_refuses_331 (n := 333) rfl ?_
  refine k_bipush S dL_refuses_333 (v := 17) (by decide) (n := 335) rfl ?_
  refine k_icmp_ge S dL_refuses_335 (tgt := 416) (by decide) (n := 338) rfl (fun h9 => absurd h9 (by decide)) (fun _ => ?_)
  refine k_iload15 S dL_refuses_338 (n := 340) rfl ?_
  refine k_iconst S dL_refuses_340 (v := 5) (by decide) (n := 341) rfl ?_
  refine k_icmp_le S dL_refuses_341 (tgt := 355) (by decide) (n := 344) rfl (fun h9 => absurd h9 (by decide)) (fun _ => ?_)
  refine k_iload15 S dL_refuses_344 (n := 346) rfl ?_
  refine k_bipush S dL_refuses_346 (v := 10) (by decide) (n := 348) rfl ?_
  refine k_icmp_ge S dL_refuses_348 (tgt := 355) (by decide) (n := 351) rfl (fun _ => ?_) (fun h9 => absurd (by decide) h9)
  refine k_iconst S dL_refuses_355 (v := 0) (by decide) (n := 356) rfl ?_
  refine k_istore16 S dL_refuses_356 (by decide) rfl (n := 358) rfl ?_
  refine k_iload14 S dL_refuses_358 (n := 360) rfl ?_
  refine k_if_eq S dL_refuses_360 (tgt := 407) (by decide) (n := 363) rfl (fun h9 => absurd h9 (by decide)) (fun _ => ?_)
  refine k_iload15 S dL_refuses_363 (n := 365) rfl ?_
  refine k_bipush S dL_refuses_365 (v := 12) (by decide) (n := 367) rfl ?_
  refine k_icmp_eq S dL_refuses_367 (tgt := 403) (by decide) (n := 370) rfl (fun h9 => absurd h9 (by decide)) (fun _ => ?_)
  refine k_iload15 S dL_refuses_370 (n := 372) rfl ?_
  refine k_bipush S dL_refuses_372 (v := 14) (by decide) (n := 374) rfl ?_
  refine k_icmp_eq S dL_refuses_374 (tgt := 403) (by decide) (n := 377) rfl (fun h9 => absurd h9 (by decide)) (fun _ => ?_)
  refine k_aload0 S dL_refuses_377 (n := 378) rfl ?_
  refine k_iload15 S dL_refuses_378 (n := 380) rfl ?_
  refine k_iload16 S dL_refuses_380 (n := 382) rfl ?_
  refine k_if_eq S dL_refuses_382 (tgt := 390) (by decide) (n := 385) rfl (fun _ => ?_) (fun h9 => absurd (by decide) h9)
  refine k_iload11 S dL_refuses_390 (n := 392) rfl ?_
  refine k_iconst S dL_refuses_392 (v := 0) (by decide) (n := 393) rfl ?_
  refine k_iconst S dL_refuses_393 (v := 0) (by decide) (n := 394) rfl ?_
  refine k_callH (As := [.ref (za g 0), .int 13, .int ((-2147483648)), .int 0, .int 0]) (rest := []) S (x_act13 (Or.inl rfl) (n_isWide_place V (zin_l V.d60 (by decide)))) mv_L_act m_457 dL_refuses_394 rfl rfl ⟨by decide, by decide⟩ rfl rfl (Nat.le_of_ble_eq_true rfl) ⟨by decide, by decide⟩ (n := 397) rfl (fun _ _ h => h.elim) (fun v9 ν9 h9 => ?_)
  rw [h9.1, h9.2]
  show zK x g ({ frames := 10, cells := 192, slots := 1152, locals := 184 } : Room) 17 172 1032 397 [some (.ref (za g 0)), some (.int (nI d)), some (.int (nI c)), some (.int al), some (.long ((-99000011))), none, some (.long ((-99000012))), none, some (.int 2147483647), some (.int 3), some (.int ((-2147483648))), some (.int ((-2147483648))), some (.int ((-2147483648))), some (.int ((-2147483648))), some (.int 1), some (.int 13), some (.int 0)] [.long ((zcd "java/lang/IndexOutOfBoundsException"))] μ
  refine k_topl (-99000011) zcd_p ?_
  refine k_lload4 S dL_refuses_397 (n := 399) rfl ?_
  refine k_lcmp S dL_refuses_399 (n := 400) rfl ?_
  refine k_top 0 (by decide) ?_
  refine k_if_ne S dL_refuses_400 (tgt := 407) (by decide) (n := 403) rfl (fun h9 => absurd (by decide) h9) (fun _ => ?_)
  refine k_iconst S dL_refuses_403 (v := 1) (by decide) (n := 404) rfl ?_
  refine k_goto S dL_refuses_404 (tgt := 408) (by decide) ?_
  refine k_istore14 S dL_refuses_408 (by decide) rfl (n := 410) rfl ?_
  refine k_iinc15 S dL_refuses_410 (v := 14) (by decide) (by decide) (n := 413) rfl ?_
  refine k_goto S dL_refuses_413 (tgt := 331) (by decide) ?_
  refine k_iload15 S dL_refuses_331 (n := 333) rfl ?_
  refine k_bipush S dL_refuses_333 (v := 17) (by decide) (n := 335) rfl ?_
  refine k_icmp_ge S dL_refuses_335 (tgt := 416) (by decide) (n := 338) rfl (fun h9 => absurd h9 (by decide)) (fun _ => ?_)
  refine k_iload15 S dL_refuses_338 (n := 340) rfl ?_
  refine k_iconst S dL_refuses_340 (v := 5) (by decide) (n := 341) rfl ?_
  refine k_icmp_le S dL_refuses_341 (tgt := 355) (by decide) (n := 344) rfl (fun h9 => absurd h9 (by decide)) (fun _ => ?_)
  refine k_iload15 S dL_refuses_344 (n := 346) rfl ?_
  refine k_bipush S dL_refuses_346 (v := 10) (by decide) (n := 348) rfl ?_
  refine k_icmp_ge S dL_refuses_348 (tgt := 355) (by decide) (n := 351) rfl (fun _ => ?_) (fun h9 => absurd (by decide) h9)
  refine k_iconst S dL_refuses_355 (v := 0) (by decide) (n := 356) rfl ?_
  refine k_istore16 S dL_refuses_356 (by decide) rfl (n := 358) rfl ?_
  refine k_iload14 S dL_refuses_358 (n := 360) rfl ?_
  refine k_if_eq S dL_refuses_360 (tgt := 407) (by decide) (n := 363) rfl (fun h9 => absurd h9 (by decide)) (fun _ => ?_)
  refine k_iload15 S dL_refuses_363 (n := 365) rfl ?_
  refine k_bipush S dL_refuses_365 (v := 12) (by decide) (n := 367) rfl ?_
  refine k_icmp_eq S dL_refuses_367 (tgt := 403) (by decide) (n := 370) rfl (fun h9 => absurd h9 (by decide)) (fun _ => ?_)
  refine k_iload15 S dL_refuses_370 (n := 372) rfl ?_
  refine k_bipush S dL_refuses_372 (v := 14) (by decide) (n := 374) rfl ?_
  refine k_icmp_eq S dL_refuses_374 (tgt := 403) (by decide) (n := 377) rfl (fun _ => ?_) (fun h9 => absurd (by decide) h9)
  refine k_iconst S dL_refuses_403 (v := 1) (by decide) (n := 404) rfl ?_
  refine k_goto S dL_refuses_404 (tgt := 408) (by decide) ?_
  refine k_istore14 S dL_refuses_408 (by decide) rfl (n := 410) rfl ?_
  refine k_iinc15 S dL_refuses_410 (v := 15) (by decide) (by decide) (n := 413) rfl ?_
  refine k_goto S dL_refuses_413 (tgt := 331) (by decide) ?_
  refine k_iload15 S dL_refuses_331 (n := 333) rfl ?_
  refine k_bipush S dL_refuses_333 (v := 17) (by decide) (n := 335) rfl ?_
  refine k_icmp_ge S dL_refuses_335 (tgt := 416) (by decide) (n := 338) rfl (fun h9 => absurd h9 (by decide)) (fun _ => ?_)
  refine k_iload15 S dL_refuses_338 (n := 340) rfl ?_
  refine k_iconst S dL_refuses_340 (v := 5) (by decide) (n := 341) rfl ?_
  refine k_icmp_le S dL_refuses_341 (tgt := 355) (by decide) (n := 344) rfl (fun h9 => absurd h9 (by decide)) (fun _ => ?_)
  refine k_iload15 S dL_refuses_344 (n := 346) rfl ?_
  refine k_bipush S dL_refuses_346 (v := 10) (by decide) (n := 348) rfl ?_
  refine k_icmp_ge S dL_refuses_348 (tgt := 355) (by decide) (n := 351) rfl (fun _ => ?_) (fun h9 => absurd (by decide) h9)
  refine k_iconst S dL_refuses_355 (v := 0) (by decide) (n := 356) rfl ?_
  refine k_istore16 S dL_refuses_356 (by decide) rfl (n := 358) rfl ?_
  refine k_iload14 S dL_refuses_358 (n := 360) rfl ?_
  refine k_if_eq S dL_refuses_360 (tgt := 407) (by decide) (n := 363) rfl (fun h9 => absurd h9 (by decide)) (fun _ => ?_)
  refine k_iload15 S dL_refuses_363 (n := 365) rfl ?_
  refine k_bipush S dL_refuses_365 (v := 12) (by decide) (n := 367) rfl ?_
  refine k_icmp_eq S dL_refuses_367 (tgt := 403) (by decide) (n := 370) rfl (fun h9 => absurd h9 (by decide)) (fun _ => ?_)
  refine k_iload15 S dL_refuses_370 (n := 372) rfl ?_
  refine k_bipush S dL_refuses_372 (v := 14) (by decide) (n := 374) rfl ?_
  refine k_icmp_eq S dL_refuses_374 (tgt := 403) (by decide) (n := 377) rfl (fun h9 => absurd h9 (by decide)) (fun _ => ?_)
  refine k_aload0 S dL_refuses_377 (n := 378) rfl ?_
  refine k_iload15 S dL_refuses_378 (n := 380) rfl ?_
  refine k_iload16 S dL_refuses_380 (n := 382) rfl ?_
  refine k_if_eq S dL_refuses_382 (tgt := 390) (by decide) (n := 385) rfl (fun _ => ?_) (fun h9 => absurd (by decide) h9)
  refine k_iload11 S dL_refuses_390 (n := 392) rfl ?_
  refine k_iconst S dL_refuses_392 (v := 0) (by decide) (n := 393) rfl ?_
  refine k_iconst S dL_refuses_393 (v := 0) (by decide) (n := 394) rfl ?_
  refine k_callH (As := [.ref (za g 0), .int 15, .int ((-2147483648)), .int 0, .int 0]) (rest := []) S (x_act15 (Or.inl rfl) (n_weighted_place V (zin_l V.d60 (by decide)))) mv_L_act m_457 dL_refuses_394 rfl rfl ⟨by decide, by decide⟩ rfl rfl (Nat.le_of_ble_eq_true rfl) ⟨by decide, by decide⟩ (n := 397) rfl (fun _ _ h => h.elim) (fun v9 ν9 h9 => ?_)
  rw [h9.1, h9.2]
  show zK x g ({ frames := 10, cells := 192, slots := 1152, locals := 184 } : Room) 17 174 1044 397 [some (.ref (za g 0)), some (.int (nI d)), some (.int (nI c)), some (.int al), some (.long ((-99000011))), none, some (.long ((-99000012))), none, some (.int 2147483647), some (.int 3), some (.int ((-2147483648))), some (.int ((-2147483648))), some (.int ((-2147483648))), some (.int ((-2147483648))), some (.int 1), some (.int 15), some (.int 0)] [.long ((zcd "java/lang/IndexOutOfBoundsException"))] μ
  refine k_topl (-99000011) zcd_p ?_
  refine k_lload4 S dL_refuses_397 (n := 399) rfl ?_
  refine k_lcmp S dL_refuses_399 (n := 400) rfl ?_
  refine k_top 0 (by decide) ?_
  refine k_if_ne S dL_refuses_400 (tgt := 407) (by decide) (n := 403) rfl (fun h9 => absurd (by decide) h9) (fun _ => ?_)
  refine k_iconst S dL_refuses_403 (v := 1) (by decide) (n := 404) rfl ?_
  refine k_goto S dL_refuses_404 (tgt := 408) (by decide) ?_
  refine k_istore14 S dL_refuses_408 (by decide) rfl (n := 410) rfl ?_
  refine k_iinc15 S dL_refuses_410 (v := 16) (by decide) (by decide) (n := 413) rfl ?_
  refine k_goto S dL_refuses_413 (tgt := 331) (by decide) ?_
  refine k_iload15 S dL_refuses_331 (n := 333) rfl ?_
  refine k_bipush S dL_refuses_333 (v := 17) (by decide) (n := 335) rfl ?_
  refine k_icmp_ge S dL_refuses_335 (tgt := 416) (by decide) (n := 338) rfl (fun h9 => absurd h9 (by decide)) (fun _ => ?_)
  refine k_iload15 S dL_refuses_338 (n := 340) rfl ?_
  refine k_iconst S dL_refuses_340 (v := 5) (by decide) (n := 341) rfl ?_
  refine k_icmp_le S dL_refuses_341 (tgt := 355) (by decide) (n := 344) rfl (fun h9 => absurd h9 (by decide)) (fun _ => ?_)
  refine k_iload15 S dL_refuses_344 (n := 346) rfl ?_
  refine k_bipush S dL_refuses_346 (v := 10) (by decide) (n := 348) rfl ?_
  refine k_icmp_ge S dL_refuses_348 (tgt := 355) (by decide) (n := 351) rfl (fun _ => ?_) (fun h9 => absurd (by decide) h9)
  refine k_iconst S dL_refuses_355 (v := 0) (by decide) (n := 356) rfl ?_
  refine k_istore16 S dL_refuses_356 (by decide) rfl (n := 358) rfl ?_
  refine k_iload14 S dL_refuses_358 (n := 360) rfl ?_
  refine k_if_eq S dL_refuses_360 (tgt := 407) (by decide) (n := 363) rfl (fun h9 => absurd h9 (by decide)) (fun _ => ?_)
  refine k_iload15 S dL_refuses_363 (n := 365) rfl ?_
  refine k_bipush S dL_refuses_365 (v := 12) (by decide) (n := 367) rfl ?_
  refine k_icmp_eq S dL_refuses_367 (tgt := 403) (by decide) (n := 370) rfl (fun h9 => absurd h9 (by decide)) (fun _ => ?_)
  refine k_iload15 S dL_refuses_370 (n := 372) rfl ?_
  refine k_bipush S dL_refuses_372 (v := 14) (by decide) (n := 374) rfl ?_
  refine k_icmp_eq S dL_refuses_374 (tgt := 403) (by decide) (n := 377) rfl (fun h9 => absurd h9 (by decide)) (fun _ => ?_)
  refine k_aload0 S dL_refuses_377 (n := 378) rfl ?_
  refine k_iload15 S dL_refuses_378 (n := 380) rfl ?_
  refine k_iload16 S dL_refuses_380 (n := 382) rfl ?_
  refine k_if_eq S dL_refuses_382 (tgt := 390) (by decide) (n := 385) rfl (fun _ => ?_) (fun h9 => absurd (by decide) h9)
  refine k_iload11 S dL_refuses_390 (n := 392) rfl ?_
  refine k_iconst S dL_refuses_392 (v := 0) (by decide) (n := 393) rfl ?_
  refine k_iconst S dL_refuses_393 (v := 0) (by decide) (n := 394) rfl ?_
  refine k_callH (As := [.ref (za g 0), .int 16, .int ((-2147483648)), .int 0, .int 0]) (rest := []) S (x_act16 (Or.inl rfl) (n_cumulative_place V (zin_l V.d60 (by decide)))) mv_L_act m_457 dL_refuses_394 rfl rfl ⟨by decide, by decide⟩ rfl rfl (Nat.le_of_ble_eq_true rfl) ⟨by decide, by decide⟩ (n := 397) rfl (fun _ _ h => h.elim) (fun v9 ν9 h9 => ?_)
  rw [h9.1, h9.2]
  show zK x g ({ frames := 10, cells := 192, slots := 1152, locals := 184 } : Room) 17 176 1056 397 [some (.ref (za g 0)), some (.int (nI d)), some (.int (nI c)), some (.int al), some (.long ((-99000011))), none, some (.long ((-99000012))), none, some (.int 2147483647), some (.int 3), some (.int ((-2147483648))), some (.int ((-2147483648))), some (.int ((-2147483648))), some (.int ((-2147483648))), some (.int 1), some (.int 16), some (.int 0)] [.long ((zcd "java/lang/IndexOutOfBoundsException"))] μ
  refine k_topl (-99000011) zcd_p ?_
  refine k_lload4 S dL_refuses_397 (n := 399) rfl ?_
  refine k_lcmp S dL_refuses_399 (n := 400) rfl ?_
  refine k_top 0 (by decide) ?_
  refine k_if_ne S dL_refuses_400 (tgt := 407) (by decide) (n := 403) rfl (fun h9 => absurd (by decide) h9) (fun _ => ?_)
  refine k_iconst S dL_refuses_403 (v := 1) (by decide) (n := 404) rfl ?_
  refine k_goto S dL_refuses_404 (tgt := 408) (by decide) ?_
  refine k_istore14 S dL_refuses_408 (by decide) rfl (n := 410) rfl ?_
  refine k_iinc15 S dL_refuses_410 (v := 17) (by decide) (by decide) (n := 413) rfl ?_
  refine k_goto S dL_refuses_413 (tgt := 331) (by decide) ?_
  refine k_iload15 S dL_refuses_331 (n := 333) rfl ?_
  refine k_bipush S dL_refuses_333 (v := 17) (by decide) (n := 335) rfl ?_
  refine k_icmp_ge S dL_refuses_335 (tgt := 416) (by decide) (n := 338) rfl (fun _ => ?_) (fun h9 => absurd (by decide) h9)
  refine k_bipush S dL_refuses_416 (v := 17) (by decide) (n := 418) rfl ?_
  refine k_istore15 S dL_refuses_418 (by decide) rfl (n := 420) rfl ?_
  refine k_iload15 S dL_refuses_420 (n := 422) rfl ?_
  refine k_bipush S dL_refuses_422 (v := 19) (by decide) (n := 424) rfl ?_
  refine k_icmp_ge S dL_refuses_424 (tgt := 508) (by decide) (n := 427) rfl (fun h9 => absurd h9 (by decide)) (fun _ => ?_)
  refine k_iload14 S dL_refuses_427 (n := 429) rfl ?_
  refine k_if_eq S dL_refuses_429 (tgt := 499) (by decide) (n := 432) rfl (fun h9 => absurd h9 (by decide)) (fun _ => ?_)
  refine k_aload0 S dL_refuses_432 (n := 433) rfl ?_
  refine k_iload15 S dL_refuses_433 (n := 435) rfl ?_
  refine k_iload12 S dL_refuses_435 (n := 437) rfl ?_
  refine k_iconst S dL_refuses_437 (v := 0) (by decide) (n := 438) rfl ?_
  refine k_iconst S dL_refuses_438 (v := (-1)) (by decide) (n := 439) rfl ?_
  refine k_callH (As := [.ref (za g 0), .int 17, .int ((-2147483648)), .int 0, .int ((-1))]) (rest := []) S (x_act17 (Or.inl rfl) (n_capability_place V (zin_l (Nat.le_trans V.c10 (by decide)) (by decide)))) mv_L_act m_457 dL_refuses_439 rfl rfl ⟨by decide, by decide⟩ rfl rfl (Nat.le_of_ble_eq_true rfl) ⟨by decide, by decide⟩ (n := 442) rfl (fun _ _ h => h.elim) (fun v9 ν9 h9 => ?_)
  rw [h9.1, h9.2]
  show zK x g ({ frames := 10, cells := 192, slots := 1152, locals := 184 } : Room) 17 178 1068 442 [some (.ref (za g 0)), some (.int (nI d)), some (.int (nI c)), some (.int al), some (.long ((-99000011))), none, some (.long ((-99000012))), none, some (.int 2147483647), some (.int 3), some (.int ((-2147483648))), some (.int ((-2147483648))), some (.int ((-2147483648))), some (.int ((-2147483648))), some (.int 1), some (.int 17), some (.int 0)] [.long ((zcd "java/lang/IndexOutOfBoundsException"))] μ
  refine k_topl (-99000011) zcd_p ?_
  refine k_lload4 S dL_refuses_442 (n := 444) rfl ?_
  refine k_lcmp S dL_refuses_444 (n := 445) rfl ?_
  refine k_top 0 (by decide) ?_
  refine k_if_ne S dL_refuses_445 (tgt := 499) (by decide) (n := 448) rfl (fun h9 => absurd (by decide) h9) (fun _ => ?_)
  refine k_aload0 S dL_refuses_448 (n := 449) rfl ?_
  refine k_iload15 S dL_refuses_449 (n := 451) rfl ?_
  refine k_iconst S dL_refuses_451 (v := 0) (by decide) (n := 452) rfl ?_
  refine k_iload13 S dL_refuses_452 (n := 454) rfl ?_
  refine k_iconst S dL_refuses_454 (v := 0) (by decide) (n := 455) rfl ?_
  refine k_callH (As := [.ref (za g 0), .int 17, .int 0, .int ((-2147483648)), .int 0]) (rest := []) S (x_act17 (Or.inr (Or.inl rfl)) (n_capability_arg V hc0 (zlh_n (by decide)))) mv_L_act m_457 dL_refuses_455 rfl rfl ⟨by decide, by decide⟩ rfl rfl (Nat.le_of_ble_eq_true rfl) ⟨by decide, by decide⟩ (n := 458) rfl (fun _ _ h => h.elim) (fun v9 ν9 h9 => ?_)
  rw [h9.1, h9.2]
  show zK x g ({ frames := 10, cells := 192, slots := 1152, locals := 184 } : Room) 17 180 1080 458 [some (.ref (za g 0)), some (.int (nI d)), some (.int (nI c)), some (.int al), some (.long ((-99000011))), none, some (.long ((-99000012))), none, some (.int 2147483647), some (.int 3), some (.int ((-2147483648))), some (.int ((-2147483648))), some (.int ((-2147483648))), some (.int ((-2147483648))), some (.int 1), some (.int 17), some (.int 0)] [.long ((zcd "java/lang/IllegalArgumentException"))] μ
  refine k_topl (-99000012) zcd_a ?_
  refine k_lload6 S dL_refuses_458 (n := 460) rfl ?_
  refine k_lcmp S dL_refuses_460 (n := 461) rfl ?_
  refine k_top 0 (by decide) ?_
  refine k_if_ne S dL_refuses_461 (tgt := 499) (by decide) (n := 464) rfl (fun h9 => absurd (by decide) h9) (fun _ => ?_)
  refine k_aload0 S dL_refuses_464 (n := 465) rfl ?_
  refine k_iload15 S dL_refuses_465 (n := 467) rfl ?_
  refine k_iconst S dL_refuses_467 (v := 0) (by decide) (n := 468) rfl ?_
  refine k_iconst S dL_refuses_468 (v := 0) (by decide) (n := 469) rfl ?_
  refine k_iload13 S dL_refuses_469 (n := 471) rfl ?_
  refine k_callH (As := [.ref (za g 0), .int 17, .int 0, .int 0, .int ((-2147483648))]) (rest := []) S (x_act17 (Or.inr (Or.inl rfl)) (n_capability_arg V hc0 (zlh_n (by decide)))) mv_L_act m_457 dL_refuses_471 rfl rfl ⟨by decide, by decide⟩ rfl rfl (Nat.le_of_ble_eq_true rfl) ⟨by decide, by decide⟩ (n := 474) rfl (fun _ _ h => h.elim) (fun v9 ν9 h9 => ?_)
  rw [h9.1, h9.2]
  show zK x g ({ frames := 10, cells := 192, slots := 1152, locals := 184 } : Room) 17 182 1092 474 [some (.ref (za g 0)), some (.int (nI d)), some (.int (nI c)), some (.int al), some (.long ((-99000011))), none, some (.long ((-99000012))), none, some (.int 2147483647), some (.int 3), some (.int ((-2147483648))), some (.int ((-2147483648))), some (.int ((-2147483648))), some (.int ((-2147483648))), some (.int 1), some (.int 17), some (.int 0)] [.long ((zcd "java/lang/IllegalArgumentException"))] μ
  refine k_topl (-99000012) zcd_a ?_
  refine k_lload6 S dL_refuses_474 (n := 476) rfl ?_
  refine k_lcmp S dL_refuses_476 (n := 477) rfl ?_
  refine k_top 0 (by decide) ?_
  refine k_if_ne S dL_refuses_477 (tgt := 499) (by decide) (n := 480) rfl (fun h9 => absurd (by decide) h9) (fun _ => ?_)
  refine k_aload0 S dL_refuses_480 (n := 481) rfl ?_
  refine k_iload15 S dL_refuses_481 (n := 483) rfl ?_
  refine k_iconst S dL_refuses_483 (v := 0) (by decide) (n := 484) rfl ?_
  refine k_iconst S dL_refuses_484 (v := 5) (by decide) (n := 485) rfl ?_
  refine k_iconst S dL_refuses_485 (v := 4) (by decide) (n := 486) rfl ?_
  refine k_callH (As := [.ref (za g 0), .int 17, .int 0, .int 5, .int 4]) (rest := []) S (x_act17 (Or.inr (Or.inl rfl)) (n_capability_arg V hc0 (zlh_n (by decide)))) mv_L_act m_457 dL_refuses_486 rfl rfl ⟨by decide, by decide⟩ rfl rfl (Nat.le_of_ble_eq_true rfl) ⟨by decide, by decide⟩ (n := 489) rfl (fun _ _ h => h.elim) (fun v9 ν9 h9 => ?_)
  rw [h9.1, h9.2]
  show zK x g ({ frames := 10, cells := 192, slots := 1152, locals := 184 } : Room) 17 184 1104 489 [some (.ref (za g 0)), some (.int (nI d)), some (.int (nI c)), some (.int al), some (.long ((-99000011))), none, some (.long ((-99000012))), none, some (.int 2147483647), some (.int 3), some (.int ((-2147483648))), some (.int ((-2147483648))), some (.int ((-2147483648))), some (.int ((-2147483648))), some (.int 1), some (.int 17), some (.int 0)] [.long ((zcd "java/lang/IllegalArgumentException"))] μ
  refine k_topl (-99000012) zcd_a ?_
  refine k_lload6 S dL_refuses_489 (n := 491) rfl ?_
  refine k_lcmp S dL_refuses_491 (n := 492) rfl ?_
  refine k_top 0 (by decide) ?_
  refine k_if_ne S dL_refuses_492 (tgt := 499) (by decide) (n := 495) rfl (fun h9 => absurd (by decide) h9) (fun _ => ?_)
  refine k_iconst S dL_refuses_495 (v := 1) (by decide) (n := 496) rfl ?_
  refine k_goto S dL_refuses_496 (tgt := 500) (by decide) ?_
  refine k_istore14 S dL_refuses_500 (by decide) rfl (n := 502) rfl ?_
  refine k_iinc15 S dL_refuses_502 (v := 18) (by decide) (by decide) (n := 505) rfl ?_
  refine k_goto S dL_refuses_505 (tgt := 420) (by decide) ?_
  refine k_iload15 S dL_refuses_420 (n := 422) rfl ?_
  refine k_bipush S dL_refuses_422 (v := 19) (by decide) (n := 424) rfl ?_
  refine k_icmp_ge S dL_refuses_424 (tgt := 508) (by decide) (n := 427) rfl (fun h9 => absurd h9 (by decide)) (fun _ => ?_)
  refine k_iload14 S dL_refuses_427 (n := 429) rfl ?_
  refine k_if_eq S dL_refuses_429 (tgt := 499) (by decide) (n := 432) rfl (fun h9 => absurd h9 (by decide)) (fun _ => ?_)
  refine k_aload0 S dL_refuses_432 (n := 433) rfl ?_
  refine k_iload15 S dL_refuses_433 (n := 435) rfl ?_
  refine k_iload12 S dL_refuses_435 (n := 437) rfl ?_
  refine k_iconst S dL_refuses_437 (v := 0) (by decide) (n := 438) rfl ?_
  refine k_iconst S dL_refuses_438 (v := (-1)) (by decide) (n := 439) rfl ?_
  refine k_callH (As := [.ref (za g 0), .int 18, .int ((-2147483648)), .int 0, .int ((-1))]) (rest := []) S (x_act18 (Or.inl rfl) (n_capability_place V (zin_l (Nat.le_trans V.c10 (by decide)) (by decide)))) mv_L_act m_457 dL_refuses_439 rfl rfl ⟨by decide, by decide⟩ rfl rfl (Nat.le_of_ble_eq_true rfl) ⟨by decide, by decide⟩ (n := 442) rfl (fun _ _ h => h.elim) (fun v9 ν9 h9 => ?_)
  rw [h9.1, h9.2]
  show zK x g ({ frames := 10, cells := 192, slots := 1152, locals := 184 } : Room) 17 186 1116 442 [some (.ref (za g 0)), some (.int (nI d)), some (.int (nI c)), some (.int al), some (.long ((-99000011))), none, some (.long ((-99000012))), none, some (.int 2147483647), some (.int 3), some (.int ((-2147483648))), some (.int ((-2147483648))), some (.int ((-2147483648))), some (.int ((-2147483648))), some (.int 1), some (.int 18), some (.int 0)] [.long ((zcd "java/lang/IndexOutOfBoundsException"))] μ
  refine k_topl (-99000011) zcd_p ?_
  refine k_lload4 S dL_refuses_442 (n := 444) rfl ?_
  refine k_lcmp S dL_refuses_444 (n := 445) rfl ?_
  refine k_top 0 (by decide) ?_
  refine k_if_ne S dL_refuses_445 (tgt := 499) (by decide) (n := 448) rfl (fun h9 => absurd (by decide) h9) (fun _ => ?_)
  refine k_aload0 S dL_refuses_448 (n := 449) rfl ?_
  refine k_iload15 S dL_refuses_449 (n := 451) rfl ?_
  refine k_iconst S dL_refuses_451 (v := 0) (by decide) (n := 452) rfl ?_
  refine k_iload13 S dL_refuses_452 (n := 454) rfl ?_
  refine k_iconst S dL_refuses_454 (v := 0) (by decide) (n := 455) rfl ?_
  refine k_callH (As := [.ref (za g 0), .int 18, .int 0, .int ((-2147483648)), .int 0]) (rest := []) S (x_act18 (Or.inr (Or.inl rfl)) (n_capability_arg V hc0 (zlh_n (by decide)))) mv_L_act m_457 dL_refuses_455 rfl rfl ⟨by decide, by decide⟩ rfl rfl (Nat.le_of_ble_eq_true rfl) ⟨by decide, by decide⟩ (n := 458) rfl (fun _ _ h => h.elim) (fun v9 ν9 h9 => ?_)
  rw [h9.1, h9.2]
  show zK x g ({ frames := 10, cells := 192, slots := 1152, locals := 184 } : Room) 17 188 1128 458 [some (.ref (za g 0)), some (.int (nI d)), some (.int (nI c)), some (.int al), some (.long ((-99000011))), none, some (.long ((-99000012))), none, some (.int 2147483647), some (.int 3), some (.int ((-2147483648))), some (.int ((-2147483648))), some (.int ((-2147483648))), some (.int ((-2147483648))), some (.int 1), some (.int 18), some (.int 0)] [.long ((zcd "java/lang/IllegalArgumentException"))] μ
  refine k_topl (-99000012) zcd_a ?_
  refine k_lload6 S dL_refuses_458 (n := 460) rfl ?_
  refine k_lcmp S dL_refuses_460 (n := 461) rfl ?_
  refine k_top 0 (by decide) ?_
  refine k_if_ne S dL_refuses_461 (tgt := 499) (by decide) (n := 464) rfl (fun h9 => absurd (by decide) h9) (fun _ => ?_)
  refine k_aload0 S dL_refuses_464 (n := 465) rfl ?_
  refine k_iload15 S dL_refuses_465 (n := 467) rfl ?_
  refine k_iconst S dL_refuses_467 (v := 0) (by decide) (n := 468) rfl ?_
  refine k_iconst S dL_refuses_468 (v := 0) (by decide) (n := 469) rfl ?_
  refine k_iload13 S dL_refuses_469 (n := 471) rfl ?_
  refine k_callH (As := [.ref (za g 0), .int 18, .int 0, .int 0, .int ((-2147483648))]) (rest := []) S (x_act18 (Or.inr (Or.inl rfl)) (n_capability_arg V hc0 (zlh_n (by decide)))) mv_L_act m_457 dL_refuses_471 rfl rfl ⟨by decide, by decide⟩ rfl rfl (Nat.le_of_ble_eq_true rfl) ⟨by decide, by decide⟩ (n := 474) rfl (fun _ _ h => h.elim) (fun v9 ν9 h9 => ?_)
  rw [h9.1, h9.2]
  show zK x g ({ frames := 10, cells := 192, slots := 1152, locals := 184 } : Room) 17 190 1140 474 [some (.ref (za g 0)), some (.int (nI d)), some (.int (nI c)), some (.int al), some (.long ((-99000011))), none, some (.long ((-99000012))), none, some (.int 2147483647), some (.int 3), some (.int ((-2147483648))), some (.int ((-2147483648))), some (.int ((-2147483648))), some (.int ((-2147483648))), some (.int 1), some (.int 18), some (.int 0)] [.long ((zcd "java/lang/IllegalArgumentException"))] μ
  refine k_topl (-99000012) zcd_a ?_
  refine k_lload6 S dL_refuses_474 (n := 476) rfl ?_
  refine k_lcmp S dL_refuses_476 (n := 477) rfl ?_
  refine k_top 0 (by decide) ?_
  refine k_if_ne S dL_refuses_477 (tgt := 499) (by decide) (n := 480) rfl (fun h9 => absurd (by decide) h9) (fun _ => ?_)
  refine k_aload0 S dL_refuses_480 (n := 481) rfl ?_
  refine k_iload15 S dL_refuses_481 (n := 483) rfl ?_
  refine k_iconst S dL_refuses_483 (v := 0) (by decide) (n := 484) rfl ?_
  refine k_iconst S dL_refuses_484 (v := 5) (by decide) (n := 485) rfl ?_
  refine k_iconst S dL_refuses_485 (v := 4) (by decide) (n := 486) rfl ?_
  refine k_callH (As := [.ref (za g 0), .int 18, .int 0, .int 5, .int 4]) (rest := []) S (x_act18 (Or.inr (Or.inl rfl)) (n_capability_arg V hc0 (zlh_n (by decide)))) mv_L_act m_457 dL_refuses_486 rfl rfl ⟨by decide, by decide⟩ rfl rfl (Nat.le_of_ble_eq_true rfl) ⟨by decide, by decide⟩ (n := 489) rfl (fun _ _ h => h.elim) (fun v9 ν9 h9 => ?_)
  rw [h9.1, h9.2]
  show zK x g ({ frames := 10, cells := 192, slots := 1152, locals := 184 } : Room) 17 192 1152 489 [some (.ref (za g 0)), some (.int (nI d)), some (.int (nI c)), some (.int al), some (.long ((-99000011))), none, some (.long ((-99000012))), none, some (.int 2147483647), some (.int 3), some (.int ((-2147483648))), some (.int ((-2147483648))), some (.int ((-2147483648))), some (.int ((-2147483648))), some (.int 1), some (.int 18), some (.int 0)] [.long ((zcd "java/lang/IllegalArgumentException"))] μ
  refine k_topl (-99000012) zcd_a ?_
  refine k_lload6 S dL_refuses_489 (n := 491) rfl ?_
  refine k_lcmp S dL_refuses_491 (n := 492) rfl ?_
  refine k_top 0 (by decide) ?_
  refine k_if_ne S dL_refuses_492 (tgt := 499) (by decide) (n := 495) rfl (fun h9 => absurd (by decide) h9) (fun _ => ?_)
  refine k_iconst S dL_refuses_495 (v := 1) (by decide) (n := 496) rfl ?_
  refine k_goto S dL_refuses_496 (tgt := 500) (by decide) ?_
  refine k_istore14 S dL_refuses_500 (by decide) rfl (n := 502) rfl ?_
  refine k_iinc15 S dL_refuses_502 (v := 19) (by decide) (by decide) (n := 505) rfl ?_
  refine k_goto S dL_refuses_505 (tgt := 420) (by decide) ?_
  refine k_iload15 S dL_refuses_420 (n := 422) rfl ?_
  refine k_bipush S dL_refuses_422 (v := 19) (by decide) (n := 424) rfl ?_
  refine k_icmp_ge S dL_refuses_424 (tgt := 508) (by decide) (n := 427) rfl (fun _ => ?_) (fun h9 => absurd (by decide) h9)
  refine k_iload14 S dL_refuses_508 (n := 510) rfl ?_
  refine k_if_ne S dL_refuses_510 (tgt := 515) (by decide) (n := 513) rfl (fun _ => ?_) (fun h9 => absurd h9 (by decide))
  refine k_iinc9 S dL_refuses_515 (v := 4) (by decide) (by decide) (n := 518) rfl ?_
  refine k_goto S dL_refuses_518 (tgt := 32) (by decide) ?_
  refine k_keep 10 ?_
  exact hN
set_option maxRecDepth 100000 in
set_option maxHeartbeats 4000000 in
theorem l_refA3 {x : zX} {g : zG} {μ : zM} {s d c : Nat} {ph fs : Nat → Nat} {al : Int32} (S : zS x g 17 cL_refuses RL) (V : zV μ s d c ph fs) (hB : zK x g ({ frames := 10, cells := 192, slots := 1152, locals := 184 } : Room) 17 154 924 233 [some (.ref (za g 0)), some (.int (nI d)), some (.int (nI c)), some (.int al), some (.long ((-99000011))), none, some (.long ((-99000012))), none, some (.int 2147483647), some (.int 3), some (.int ((-2147483648))), some (.int ((-2147483648))), some (.int ((-2147483648))), some (.int ((-2147483648))), none, none, none] [] μ) : zK x g ({ frames := 10, cells := 192, slots := 1152, locals := 184 } : Room) 17 144 864 32 [some (.ref (za g 0)), some (.int (nI d)), some (.int (nI c)), some (.int al), some (.long ((-99000011))), none, some (.long ((-99000012))), none, some (.int 2147483647), some (.int 3), none, none, none, none, none, none, none] [] μ := by
  refine k_iload9 S dL_refuses_32 (n := 34) rfl ?_
  refine k_iconst S dL_refuses_34 (v := 4) (by decide) (n := 35) rfl ?_
  refine k_icmp_ge S dL_refuses_35 (tgt := 521) (by decide) (n := 38) rfl (fun h9 => absurd h9 (by decide)) (fun _ => ?_)
  refine k_iload9 S dL_refuses_38 (n := 40) rfl ?_
  refine k_if_ne S dL_refuses_40 (tgt := 47) (by decide) (n := 43) rfl (fun _ => ?_) (fun h9 => absurd h9 (by decide))
  refine k_iload9 S dL_refuses_47 (n := 49) rfl ?_
  refine k_iconst S dL_refuses_49 (v := 2) (by decide) (n := 50) rfl ?_
  refine k_icmp_ne S dL_refuses_50 (tgt := 58) (by decide) (n := 53) rfl (fun _ => ?_) (fun h9 => absurd h9 (by decide))
  refine k_iload8 S dL_refuses_58 (n := 60) rfl ?_
  refine k_ineg S dL_refuses_60 (n := 61) rfl ?_
  refine k_top (-2147483647) (by decide) ?_
  refine k_iconst S dL_refuses_61 (v := 1) (by decide) (n := 62) rfl ?_
  refine k_isub S dL_refuses_62 (n := 63) rfl ?_
  refine k_top (-2147483648) (by decide) ?_
  refine k_istore10 S dL_refuses_63 (by decide) rfl (n := 65) rfl ?_
  refine k_iload9 S dL_refuses_65 (n := 67) rfl ?_
  refine k_iconst S dL_refuses_67 (v := 1) (by decide) (n := 68) rfl ?_
  refine k_icmp_ne S dL_refuses_68 (tgt := 75) (by decide) (n := 71) rfl (fun _ => ?_) (fun h9 => absurd h9 (by decide))
  refine k_iload10 S dL_refuses_75 (n := 77) rfl ?_
  refine k_istore11 S dL_refuses_77 (by decide) rfl (n := 79) rfl ?_
  refine k_iload9 S dL_refuses_79 (n := 81) rfl ?_
  refine k_iconst S dL_refuses_81 (v := 1) (by decide) (n := 82) rfl ?_
  refine k_icmp_ne S dL_refuses_82 (tgt := 89) (by decide) (n := 85) rfl (fun _ => ?_) (fun h9 => absurd h9 (by decide))
  refine k_iload10 S dL_refuses_89 (n := 91) rfl ?_
  refine k_istore12 S dL_refuses_91 (by decide) rfl (n := 93) rfl ?_
  refine k_iload9 S dL_refuses_93 (n := 95) rfl ?_
  refine k_if_ne S dL_refuses_95 (tgt := 104) (by decide) (n := 98) rfl (fun _ => ?_) (fun h9 => absurd h9 (by decide))
  refine k_iload9 S dL_refuses_104 (n := 106) rfl ?_
  refine k_iconst S dL_refuses_106 (v := 1) (by decide) (n := 107) rfl ?_
  refine k_icmp_ne S dL_refuses_107 (tgt := 116) (by decide) (n := 110) rfl (fun _ => ?_) (fun h9 => absurd h9 (by decide))
  refine k_iload10 S dL_refuses_116 (n := 118) rfl ?_
  refine k_istore13 S dL_refuses_118 (by decide) rfl (n := 120) rfl ?_
  refine k_aload0 S dL_refuses_120 (n := 121) rfl ?_
  refine k_iload9 S dL_refuses_121 (n := 123) rfl ?_
  refine k_if_ne S dL_refuses_123 (tgt := 130) (by decide) (n := 126) rfl (fun _ => ?_) (fun h9 => absurd h9 (by decide))
  refine k_iload9 S dL_refuses_130 (n := 132) rfl ?_
  refine k_iconst S dL_refuses_132 (v := 1) (by decide) (n := 133) rfl ?_
  refine k_icmp_ne S dL_refuses_133 (tgt := 141) (by decide) (n := 136) rfl (fun _ => ?_) (fun h9 => absurd h9 (by decide))
  refine k_iload10 S dL_refuses_141 (n := 143) rfl ?_
  refine k_callH (As := [.ref (za g 0), .int ((-2147483648))]) (rest := []) S (x_begin (n_begin (by decide))) mv_L_begin m_335 dL_refuses_143 rfl rfl ⟨by decide, by decide⟩ rfl rfl (Nat.le_of_ble_eq_true rfl) ⟨by decide, by decide⟩ (n := 146) rfl (fun _ _ h => h.elim) (fun v9 ν9 h9 => ?_)
  rw [h9.1, h9.2]
  show zK x g ({ frames := 10, cells := 192, slots := 1152, locals := 184 } : Room) 17 145 870 146 [some (.ref (za g 0)), some (.int (nI d)), some (.int (nI c)), some (.int al), some (.long ((-99000011))), none, some (.long ((-99000012))), none, some (.int 2147483647), some (.int 3), some (.int ((-2147483648))), some (.int ((-2147483648))), some (.int ((-2147483648))), some (.int ((-2147483648))), none, none, none] [.int ((-12))] μ
  refine k_bipush S dL_refuses_146 (v := (-12)) (by decide) (n := 148) rfl ?_
  refine k_icmp_ne S dL_refuses_148 (tgt := 325) (by decide) (n := 151) rfl (fun h9 => absurd (by decide) h9) (fun _ => ?_)
  refine k_aload0 S dL_refuses_151 (n := 152) rfl ?_
  refine k_iload12 S dL_refuses_152 (n := 154) rfl ?_
  refine k_callH (As := [.ref (za g 0), .int ((-2147483648))]) (rest := []) S (x_holds (Or.inl rfl) (n_freeze_place V (zin_l (Nat.le_trans V.c10 (by decide)) (by decide)))) mv_L_holds m_418 dL_refuses_154 rfl rfl ⟨by decide, by decide⟩ rfl rfl (Nat.le_of_ble_eq_true rfl) ⟨by decide, by decide⟩ (n := 157) rfl (fun _ _ h => h.elim) (fun v9 ν9 h9 => ?_)
  rw [h9.1, h9.2]
  show zK x g ({ frames := 10, cells := 192, slots := 1152, locals := 184 } : Room) 17 147 882 157 [some (.ref (za g 0)), some (.int (nI d)), some (.int (nI c)), some (.int al), some (.long ((-99000011))), none, some (.long ((-99000012))), none, some (.int 2147483647), some (.int 3), some (.int ((-2147483648))), some (.int ((-2147483648))), some (.int ((-2147483648))), some (.int ((-2147483648))), none, none, none] [.int ((if "java/lang/IndexOutOfBoundsException" = "java/lang/IndexOutOfBoundsException" then (-11 : Int32) else (-13)))] μ
  refine k_top (-11) (if_pos rfl) ?_
  refine k_bipush S dL_refuses_157 (v := (-11)) (by decide) (n := 159) rfl ?_
  refine k_icmp_ne S dL_refuses_159 (tgt := 325) (by decide) (n := 162) rfl (fun h9 => absurd (by decide) h9) (fun _ => ?_)
  refine k_aload0 S dL_refuses_162 (n := 163) rfl ?_
  refine k_iload12 S dL_refuses_163 (n := 165) rfl ?_
  refine k_callH (As := [.ref (za g 0), .int ((-2147483648))]) (rest := []) S (x_thaws (Or.inl rfl) (n_thaw_place V (zin_l (Nat.le_trans V.c10 (by decide)) (by decide)))) mv_L_thaws m_449 dL_refuses_165 rfl rfl ⟨by decide, by decide⟩ rfl rfl (Nat.le_of_ble_eq_true rfl) ⟨by decide, by decide⟩ (n := 168) rfl (fun _ _ h => h.elim) (fun v9 ν9 h9 => ?_)
  rw [h9.1, h9.2]
  show zK x g ({ frames := 10, cells := 192, slots := 1152, locals := 184 } : Room) 17 149 894 168 [some (.ref (za g 0)), some (.int (nI d)), some (.int (nI c)), some (.int al), some (.long ((-99000011))), none, some (.long ((-99000012))), none, some (.int 2147483647), some (.int 3), some (.int ((-2147483648))), some (.int ((-2147483648))), some (.int ((-2147483648))), some (.int ((-2147483648))), none, none, none] [.int ((if "java/lang/IndexOutOfBoundsException" = "java/lang/IndexOutOfBoundsException" then (-11 : Int32) else (-13)))] μ
  refine k_top (-11) (if_pos rfl) ?_
  refine k_bipush S dL_refuses_168 (v := (-11)) (by decide) (n := 170) rfl ?_
  refine k_icmp_ne S dL_refuses_170 (tgt := 325) (by decide) (n := 173) rfl (fun h9 => absurd (by decide) h9) (fun _ => ?_)
  refine k_aload0 S dL_refuses_173 (n := 174) rfl ?_
  refine k_iconst S dL_refuses_174 (v := 0) (by decide) (n := 175) rfl ?_
  refine k_iload13 S dL_refuses_175 (n := 177) rfl ?_
  refine k_iconst S dL_refuses_177 (v := 0) (by decide) (n := 178) rfl ?_
  refine k_iconst S dL_refuses_178 (v := 0) (by decide) (n := 179) rfl ?_
  refine k_callH (As := [.ref (za g 0), .int 0, .int ((-2147483648)), .int 0, .int 0]) (rest := []) S (x_act0 (Or.inr (Or.inl rfl)) (n_put_arg V (by decide))) mv_L_act m_457 dL_refuses_179 rfl rfl ⟨by decide, by decide⟩ rfl rfl (Nat.le_of_ble_eq_true rfl) ⟨by decide, by decide⟩ (n := 182) rfl (fun _ _ h => h.elim) (fun v9 ν9 h9 => ?_)
  rw [h9.1, h9.2]
  show zK x g ({ frames := 10, cells := 192, slots := 1152, locals := 184 } : Room) 17 150 900 182 [some (.ref (za g 0)), some (.int (nI d)), some (.int (nI c)), some (.int al), some (.long ((-99000011))), none, some (.long ((-99000012))), none, some (.int 2147483647), some (.int 3), some (.int ((-2147483648))), some (.int ((-2147483648))), some (.int ((-2147483648))), some (.int ((-2147483648))), none, none, none] [.long ((zcd "java/lang/IllegalArgumentException"))] μ
  refine k_topl (-99000012) zcd_a ?_
  refine k_lload6 S dL_refuses_182 (n := 184) rfl ?_
  refine k_lcmp S dL_refuses_184 (n := 185) rfl ?_
  refine k_top 0 (by decide) ?_
  refine k_if_ne S dL_refuses_185 (tgt := 325) (by decide) (n := 188) rfl (fun h9 => absurd (by decide) h9) (fun _ => ?_)
  refine k_aload0 S dL_refuses_188 (n := 189) rfl ?_
  refine k_iconst S dL_refuses_189 (v := 2) (by decide) (n := 190) rfl ?_
  refine k_iload11 S dL_refuses_190 (n := 192) rfl ?_
  refine k_iconst S dL_refuses_192 (v := (-1)) (by decide) (n := 193) rfl ?_
  refine k_iconst S dL_refuses_193 (v := 0) (by decide) (n := 194) rfl ?_
  refine k_callH (As := [.ref (za g 0), .int 2, .int ((-2147483648)), .int ((-1)), .int 0]) (rest := []) S (x_act2 (Or.inl rfl) (n_exclude_place V (zin_l V.d60 (by decide)))) mv_L_act m_457 dL_refuses_194 rfl rfl ⟨by decide, by decide⟩ rfl rfl (Nat.le_of_ble_eq_true rfl) ⟨by decide, by decide⟩ (n := 197) rfl (fun _ _ h => h.elim) (fun v9 ν9 h9 => ?_)
  rw [h9.1, h9.2]
  show zK x g ({ frames := 10, cells := 192, slots := 1152, locals := 184 } : Room) 17 152 912 197 [some (.ref (za g 0)), some (.int (nI d)), some (.int (nI c)), some (.int al), some (.long ((-99000011))), none, some (.long ((-99000012))), none, some (.int 2147483647), some (.int 3), some (.int ((-2147483648))), some (.int ((-2147483648))), some (.int ((-2147483648))), some (.int ((-2147483648))), none, none, none] [.long ((zcd "java/lang/IndexOutOfBoundsException"))] μ
  refine k_topl (-99000011) zcd_p ?_
  refine k_lload4 S dL_refuses_197 (n := 199) rfl ?_
  refine k_lcmp S dL_refuses_199 (n := 200) rfl ?_
  refine k_top 0 (by decide) ?_
  refine k_if_ne S dL_refuses_200 (tgt := 325) (by decide) (n := 203) rfl (fun h9 => absurd (by decide) h9) (fun _ => ?_)
  refine k_iload1 S dL_refuses_203 (n := 204) rfl ?_
  refine k_if_eq S dL_refuses_204 (tgt := 233) (by decide) (n := 207) rfl (fun hd0 => ?_) (fun hd0 => ?_)
  ·
    exact k_widen (by decide) (by decide) hB
  ·
    have h0 : zIn 0 d := ⟨0, Nat.pos_of_ne_zero (fun z => hd0 (by rw [z]; rfl)), rfl⟩
    refine k_aload0 S dL_refuses_207 (n := 208) rfl ?_
    refine k_iconst S dL_refuses_208 (v := 2) (by decide) (n := 209) rfl ?_
    refine k_iconst S dL_refuses_209 (v := 0) (by decide) (n := 210) rfl ?_
    refine k_iload9 S dL_refuses_210 (n := 212) rfl ?_
    refine k_iconst S dL_refuses_212 (v := 1) (by decide) (n := 213) rfl ?_
    refine k_icmp_ne S dL_refuses_213 (tgt := 221) (by decide) (n := 216) rfl (fun _ => ?_) (fun h9 => absurd h9 (by decide))
    refine k_iload10 S dL_refuses_221 (n := 223) rfl ?_
    refine k_iconst S dL_refuses_223 (v := 0) (by decide) (n := 224) rfl ?_
    refine k_callH (As := [.ref (za g 0), .int 2, .int 0, .int ((-2147483648)), .int 0]) (rest := []) S (x_act2 (Or.inr (Or.inl rfl)) (n_exclude_arg V h0 (by decide))) mv_L_act m_457 dL_refuses_224 rfl rfl ⟨by decide, by decide⟩ rfl rfl (Nat.le_of_ble_eq_true rfl) ⟨by decide, by decide⟩ (n := 227) rfl (fun _ _ h => h.elim) (fun v9 ν9 h9 => ?_)
    rw [h9.1, h9.2]
    show zK x g ({ frames := 10, cells := 192, slots := 1152, locals := 184 } : Room) 17 154 924 227 [some (.ref (za g 0)), some (.int (nI d)), some (.int (nI c)), some (.int al), some (.long ((-99000011))), none, some (.long ((-99000012))), none, some (.int 2147483647), some (.int 3), some (.int ((-2147483648))), some (.int ((-2147483648))), some (.int ((-2147483648))), some (.int ((-2147483648))), none, none, none] [.long ((zcd "java/lang/IllegalArgumentException"))] μ
    refine k_topl (-99000012) zcd_a ?_
    refine k_lload6 S dL_refuses_227 (n := 229) rfl ?_
    refine k_lcmp S dL_refuses_229 (n := 230) rfl ?_
    refine k_top 0 (by decide) ?_
    refine k_if_ne S dL_refuses_230 (tgt := 325) (by decide) (n := 233) rfl (fun h9 => absurd (by decide) h9) (fun _ => ?_)
    exact k_widen (by decide) (by decide) hB
set_option maxRecDepth 100000 in
set_option maxHeartbeats 4000000 in
theorem c_L_refuses {l : Launch} {g : zG} {μ : zM} {s d c : Nat} {ph fs : Nat → Nat} (V : zV μ s d c ph fs) : zC l g yL_refuses cL_refuses 17 (some .boolean) ({ frames := 10, cells := 192, slots := 1152, locals := 184 } : Room) 192 1152 [.ref (za g 0)] μ (zRv (some (.int 1)) (zset (zset μ 7 (zaA μ ph d)) 7 (zaA (zset μ 7 (zaA μ ph d)) ph d))) zNX := by
  refine zC_of (L0 := [some (.ref (za g 0)), none, none, none, none, none, none, none, none, none, none, none, none, none, none, none, none]) (plainFor_of_name (by decide)) (Nat.le_of_ble_eq_true rfl) rfl ?_
  intro x S Y hxl
  subst hxl
  have V1 := V.row7 (zaA μ ph d)
  obtain ⟨al, eal⟩ : ∃ y, y = zaK μ ph d := ⟨_, rfl⟩
  have hal : zaK (zset μ 7 (zaA μ ph d)) ph d = al := by rw [eal]; exact zaK_again V _
  have hE : zK x g ({ frames := 10, cells := 192, slots := 1152, locals := 184 } : Room) 17 192 1152 32 [some (.ref (za g 0)), some (.int (nI d)), some (.int (nI c)), some (.int al), some (.long ((-99000011))), none, some (.long ((-99000012))), none, some (.int 2147483647), some (.int 4), none, none, none, none, none, none, none] [] (zset μ 7 (zaA μ ph d)) := by
    have W := V1
    refine k_iload9 S dL_refuses_32 (n := 34) rfl ?_
    refine k_iconst S dL_refuses_34 (v := 4) (by decide) (n := 35) rfl ?_
    refine k_icmp_ge S dL_refuses_35 (tgt := 521) (by decide) (n := 38) rfl (fun _ => ?_) (fun h9 => absurd (by decide) h9)
    refine k_aload0 S dL_refuses_521 (n := 522) rfl ?_
    refine k_callV (As := []) (rest := []) (p := 0) S (c_X3_subgroups) mv_X3_subgroups m_331 dL_refuses_522 rfl rfl ⟨by decide, by decide⟩ (zlt S (by decide)) (by decide) (ci := 3) rfl rfl rfl (Nat.le_of_ble_eq_true rfl) ⟨by decide, by decide⟩ (n := 525) rfl (fun _ _ h => h.elim) (fun v9 ν9 h9 => ?_)
    rw [h9.1, h9.2, W.hd]
    show zK x g ({ frames := 10, cells := 192, slots := 1152, locals := 184 } : Room) 17 192 1152 525 [some (.ref (za g 0)), some (.int (nI d)), some (.int (nI c)), some (.int al), some (.long ((-99000011))), none, some (.long ((-99000012))), none, some (.int 2147483647), some (.int 4), none, none, none, none, none, none, none] [.int (nI d)] (zset μ 7 (zaA μ ph d))
    refine k_iload1 S dL_refuses_525 (n := 526) rfl ?_
    refine k_icmp_ne S dL_refuses_526 (tgt := 549) (by decide) (n := 529) rfl (fun h9 => absurd (rfl) h9) (fun _ => ?_)
    refine k_aload0 S dL_refuses_529 (n := 530) rfl ?_
    refine k_callV (As := []) (rest := []) (p := 0) S (c_X3_phases) mv_X3_phases m_347 dL_refuses_530 rfl rfl ⟨by decide, by decide⟩ (zlt S (by decide)) (by decide) (ci := 3) rfl rfl rfl (Nat.le_of_ble_eq_true rfl) ⟨by decide, by decide⟩ (n := 533) rfl (fun _ _ h => h.elim) (fun v9 ν9 h9 => ?_)
    rw [h9.1, h9.2, W.hc]
    show zK x g ({ frames := 10, cells := 192, slots := 1152, locals := 184 } : Room) 17 192 1152 533 [some (.ref (za g 0)), some (.int (nI d)), some (.int (nI c)), some (.int al), some (.long ((-99000011))), none, some (.long ((-99000012))), none, some (.int 2147483647), some (.int 4), none, none, none, none, none, none, none] [.int (nI c)] (zset μ 7 (zaA μ ph d))
    refine k_iload2 S dL_refuses_533 (n := 534) rfl ?_
    refine k_icmp_ne S dL_refuses_534 (tgt := 549) (by decide) (n := 537) rfl (fun h9 => absurd (rfl) h9) (fun _ => ?_)
    refine k_aload0 S dL_refuses_537 (n := 538) rfl ?_
    refine k_callV (As := []) (rest := []) (p := 0) S (c_X3_alarms W.hd W.d60 W.hph W.hc W.c10) mv_X3_alarms m_351 dL_refuses_538 rfl rfl ⟨by decide, by decide⟩ (zlt S (by decide)) (by decide) (ci := 3) rfl rfl rfl (Nat.le_of_ble_eq_true rfl) ⟨by decide, by decide⟩ (n := 541) rfl (fun _ _ h => h.elim) (fun v9 ν9 h9 => ?_)
    rw [h9.1, h9.2]
    show zK x g ({ frames := 10, cells := 192, slots := 1152, locals := 184 } : Room) 17 192 1152 541 [some (.ref (za g 0)), some (.int (nI d)), some (.int (nI c)), some (.int al), some (.long ((-99000011))), none, some (.long ((-99000012))), none, some (.int 2147483647), some (.int 4), none, none, none, none, none, none, none] [.int (zaK (zset μ 7 (zaA μ ph d)) ph d)] (zset (zset μ 7 (zaA μ ph d)) 7 (zaA (zset μ 7 (zaA μ ph d)) ph d))
    refine k_iload3 S dL_refuses_541 (n := 542) rfl ?_
    refine k_icmp_ne S dL_refuses_542 (tgt := 549) (by decide) (n := 545) rfl (fun h9 => absurd (hal) h9) (fun _ => ?_)
    refine k_iconst S dL_refuses_545 (v := 1) (by decide) (n := 546) rfl ?_
    refine k_goto S dL_refuses_546 (tgt := 550) (by decide) ?_
    exact k_iret S Y dL_refuses_550 (by decide) (by decide) rfl (⟨rfl, rfl⟩)
  have hL : zK x g ({ frames := 10, cells := 192, slots := 1152, locals := 184 } : Room) 17 0 0 32 [some (.ref (za g 0)), some (.int (nI d)), some (.int (nI c)), some (.int al), some (.long ((-99000011))), none, some (.long ((-99000012))), none, some (.int 2147483647), some (.int 0), none, none, none, none, none, none, none] [] (zset μ 7 (zaA μ ph d)) := (l_refA0 S V1 (l_refB0 S V1 (l_refA1 S V1 (l_refB1 S V1 (l_refA2 S V1 (l_refB2 S V1 (l_refA3 S V1 (l_refB3 S V1 hE))))))))
  have W := V
  refine k_aload0 S dL_refuses_0 (n := 1) rfl ?_
  refine k_callV (As := []) (rest := []) (p := 0) S (c_X3_subgroups) mv_X3_subgroups m_331 dL_refuses_1 rfl rfl ⟨by decide, by decide⟩ (zlt S (by decide)) (by decide) (ci := 3) rfl rfl rfl (Nat.le_of_ble_eq_true rfl) ⟨by decide, by decide⟩ (n := 4) rfl (fun _ _ h => h.elim) (fun v9 ν9 h9 => ?_)
  rw [h9.1, h9.2, W.hd]
  show zK x g ({ frames := 10, cells := 192, slots := 1152, locals := 184 } : Room) 17 0 0 4 [some (.ref (za g 0)), none, none, none, none, none, none, none, none, none, none, none, none, none, none, none, none] [.int (nI d)] μ
  refine k_istore1 S dL_refuses_4 (by decide) rfl (n := 5) rfl ?_
  refine k_aload0 S dL_refuses_5 (n := 6) rfl ?_
  refine k_callV (As := []) (rest := []) (p := 0) S (c_X3_phases) mv_X3_phases m_347 dL_refuses_6 rfl rfl ⟨by decide, by decide⟩ (zlt S (by decide)) (by decide) (ci := 3) rfl rfl rfl (Nat.le_of_ble_eq_true rfl) ⟨by decide, by decide⟩ (n := 9) rfl (fun _ _ h => h.elim) (fun v9 ν9 h9 => ?_)
  rw [h9.1, h9.2, W.hc]
  show zK x g ({ frames := 10, cells := 192, slots := 1152, locals := 184 } : Room) 17 0 0 9 [some (.ref (za g 0)), some (.int (nI d)), none, none, none, none, none, none, none, none, none, none, none, none, none, none, none] [.int (nI c)] μ
  refine k_istore2 S dL_refuses_9 (by decide) rfl (n := 10) rfl ?_
  refine k_aload0 S dL_refuses_10 (n := 11) rfl ?_
  refine k_callV (As := []) (rest := []) (p := 0) S (c_X3_alarms W.hd W.d60 W.hph W.hc W.c10) mv_X3_alarms m_351 dL_refuses_11 rfl rfl ⟨by decide, by decide⟩ (zlt S (by decide)) (by decide) (ci := 3) rfl rfl rfl (Nat.le_of_ble_eq_true rfl) ⟨by decide, by decide⟩ (n := 14) rfl (fun _ _ h => h.elim) (fun v9 ν9 h9 => ?_)
  rw [h9.1, h9.2, ← eal]
  show zK x g ({ frames := 10, cells := 192, slots := 1152, locals := 184 } : Room) 17 0 0 14 [some (.ref (za g 0)), some (.int (nI d)), some (.int (nI c)), none, none, none, none, none, none, none, none, none, none, none, none, none, none] [.int al] (zset μ 7 (zaA μ ph d))
  refine k_istore3 S dL_refuses_14 (by decide) rfl (n := 15) rfl ?_
  refine k_ldc2 S dL_refuses_15 (v := (-99000011)) m_415 (n := 18) rfl ?_
  refine k_lstore4 S dL_refuses_18 (by decide) rfl (n := 20) rfl ?_
  refine k_ldc2 S dL_refuses_20 (v := (-99000012)) m_416 (n := 23) rfl ?_
  refine k_lstore6 S dL_refuses_23 (by decide) rfl (n := 25) rfl ?_
  refine k_ldc S dL_refuses_25 (v := 2147483647) m_417 (n := 27) rfl ?_
  refine k_istore8 S dL_refuses_27 (by decide) rfl (n := 29) rfl ?_
  refine k_iconst S dL_refuses_29 (v := 0) (by decide) (n := 30) rfl ?_
  refine k_istore9 S dL_refuses_30 (by decide) rfl (n := 32) rfl ?_
  exact hL
