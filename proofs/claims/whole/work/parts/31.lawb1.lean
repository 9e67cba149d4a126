/-! the law, case by case -/
section LC
variable {p : Program} {l : Launch} {e : Env} {s : State} {m : MethodId} {below : List Frame} {meth : Method} {c : Code} {b L : Nat} {xs : Nat → Int32} {D : va_G} {cI cZ : ClassId} {g a : Nat → Nat} {Q : State → Prop} {cells slots : Nat}
set_option maxHeartbeats 1000000 in
set_option maxRecDepth 100000 in
theorem lc_steer (E : lwE p s m c b L xs D cI cZ g cells slots) {G : va_W} {H : Heap} {locs : List Loc} {ls : Array Slot} {i : Nat} (hi : i + 5 ≤ L) (hInv : gInv cI cZ a G) (hP : va_P D vwCl G H) (hD : va_D (fun q : Nat => s.heap.size ≤ q) G) (hS : va_S (fun q : Nat => s.heap.size ≤ q) s.heap H locs) (hl : lv_has ls 4 [(0, .ref b), (1, .ref (a 0)), (2, .ref (a 22)), (3, .int (nI i))]) (cont : ∀ (G : va_W) (H : Heap) (locs : List Loc), va_P D vwCl G H → va_D (fun q : Nat => s.heap.size ≤ q) G → va_S (fun q : Nat => s.heap.size ≤ q) s.heap H locs → gInv cI cZ a G → W p l e room_1 s m #[Value.ref b] below meth c H locs cells slots Q (F0 m 779 ls [])) : W p l e room_1 s m #[Value.ref b] below meth c H locs cells slots Q (F0 m 334 ls []) := by
  obtain ⟨hx, hb, hml, hown, hts, hX, hbl, hL, hK, hN, hZ, hce, hsl⟩ := E
  have hbA : ¬ (fun q : Nat => s.heap.size ≤ q) b := Nat.not_le.mpr hbl
  obtain ⟨fs0, w0⟩ := gInv_0 hInv
  by_cases h0 : xs (i + 1) = 0
  · skip
    obtain ⟨r7, r8, Rv, B7, B8, k7, k8, kI, ⟨f7, l7, c7, s7⟩, ⟨f8, l8, c8, s8⟩⟩ := pi_steer (l := l) (D := D) (A := (fun q : Nat => s.heap.size ≤ q)) (g := g) hInv false
    refine lv_aload_n (pc := 334) hx hb dL_law_334 rfl (lv_at hl 1 rfl) ?_
    refine lv_aload_n (pc := 335) hx hb dL_law_335 rfl (lv_at hl 0 rfl) ?_
    refine lv_iload_n (pc := 336) hx hb dL_law_336 rfl (lv_at hl 3 rfl) ?_
    refine lv_iconst (v := nI 1) (pc := 337) hx hb dL_law_337 (by decide) ?_
    refine mx_iadd (pc := 338) hx hb dL_law_338 ?_
    refine mx_sld (pc := 339) hx hb hX hbl hbA hS (i + 1) (by omega) (by omega) dL_law_339 ?_
    refine lv_if_eq (tgt := 347) (pc := 340) hx hb dL_law_340 (by decide) (fun _ => ?_) (fun q => absurd h0 q)
    refine lv_iconst (v := nI 0) (pc := 347) hx hb dL_law_347 (by decide) ?_
    refine mx_cVi (As := [.int (gB false)]) (rest := []) (pc := 348) ⟨hx, hb, hml, hown, hts⟩ (k7 hD) (cwV 1 hts hL_X7_steer rfl c7 s7 (by decide +kernel) ⟨by show r7.frames + 1 ≤ 8; omega, by show 8 + (3 + 11) + r7.locals ≤ 278; omega⟩) 0 rfl rfl w0 hK hN hZ hP hS rfl hl.1 rfl (Nat.le_of_ble_eq_true rfl) dL_law_348 ⟨hce, hsl⟩ (fun G1 H locs hP hD hS hB7 => ?_)
    refine lv_aload_n (pc := 351) hx hb dL_law_351 rfl (lv_at hl 2 rfl) ?_
    refine lv_aload_n (pc := 352) hx hb dL_law_352 rfl (lv_at hl 0 rfl) ?_
    refine lv_iload_n (pc := 353) hx hb dL_law_353 rfl (lv_at hl 3 rfl) ?_
    refine lv_iconst (v := nI 1) (pc := 354) hx hb dL_law_354 (by decide) ?_
    refine mx_iadd (pc := 355) hx hb dL_law_355 ?_
    refine mx_sld (pc := 356) hx hb hX hbl hbA hS (i + 1) (by omega) (by omega) dL_law_356 ?_
    refine lv_if_eq (tgt := 364) (pc := 357) hx hb dL_law_357 (by decide) (fun _ => ?_) (fun q => absurd h0 q)
    refine lv_iconst (v := nI 0) (pc := 364) hx hb dL_law_364 (by decide) ?_
    obtain ⟨⟨fs1, w22⟩, k9⟩ := k8 G1 hB7 hD
    refine mx_cVi (As := [.int (gB false)]) (rest := [.int Rv]) (pc := 365) ⟨hx, hb, hml, hown, hts⟩ k9 (cwV 1 hts hL_X8_steer rfl c8 s8 (by decide +kernel) ⟨by show r8.frames + 1 ≤ 8; omega, by show 8 + (3 + 11) + r8.locals ≤ 278; omega⟩) 22 rfl rfl w22 hK hN hZ hP hS rfl hl.1 rfl (Nat.le_of_ble_eq_true rfl) dL_law_365 ⟨hce, hsl⟩ (fun G2 H locs hP hD hS hB8 => ?_)
    refine lv_icmp_eq (tgt := 779) (pc := 368) hx hb dL_law_368 (by decide) (fun _ => ?_) (fun q => absurd rfl q)
    exact cont G2 H locs hP hD hS (kI G1 G2 hB7 hB8)
  · skip
    obtain ⟨r7, r8, Rv, B7, B8, k7, k8, kI, ⟨f7, l7, c7, s7⟩, ⟨f8, l8, c8, s8⟩⟩ := pi_steer (l := l) (D := D) (A := (fun q : Nat => s.heap.size ≤ q)) (g := g) hInv true
    refine lv_aload_n (pc := 334) hx hb dL_law_334 rfl (lv_at hl 1 rfl) ?_
    refine lv_aload_n (pc := 335) hx hb dL_law_335 rfl (lv_at hl 0 rfl) ?_
    refine lv_iload_n (pc := 336) hx hb dL_law_336 rfl (lv_at hl 3 rfl) ?_
    refine lv_iconst (v := nI 1) (pc := 337) hx hb dL_law_337 (by decide) ?_
    refine mx_iadd (pc := 338) hx hb dL_law_338 ?_
    refine mx_sld (pc := 339) hx hb hX hbl hbA hS (i + 1) (by omega) (by omega) dL_law_339 ?_
    refine lv_if_eq (tgt := 347) (pc := 340) hx hb dL_law_340 (by decide) (fun q => absurd q h0) (fun _ => ?_)
    refine lv_iconst (v := nI 1) (pc := 343) hx hb dL_law_343 (by decide) ?_
    refine lv_goto (tgt := 348) (pc := 344) hx hb dL_law_344 (by decide) ?_
    refine mx_cVi (As := [.int (gB true)]) (rest := []) (pc := 348) ⟨hx, hb, hml, hown, hts⟩ (k7 hD) (cwV 1 hts hL_X7_steer rfl c7 s7 (by decide +kernel) ⟨by show r7.frames + 1 ≤ 8; omega, by show 8 + (3 + 11) + r7.locals ≤ 278; omega⟩) 0 rfl rfl w0 hK hN hZ hP hS rfl hl.1 rfl (Nat.le_of_ble_eq_true rfl) dL_law_348 ⟨hce, hsl⟩ (fun G1 H locs hP hD hS hB7 => ?_)
    refine lv_aload_n (pc := 351) hx hb dL_law_351 rfl (lv_at hl 2 rfl) ?_
    refine lv_aload_n (pc := 352) hx hb dL_law_352 rfl (lv_at hl 0 rfl) ?_
    refine lv_iload_n (pc := 353) hx hb dL_law_353 rfl (lv_at hl 3 rfl) ?_
    refine lv_iconst (v := nI 1) (pc := 354) hx hb dL_law_354 (by decide) ?_
    refine mx_iadd (pc := 355) hx hb dL_law_355 ?_
    refine mx_sld (pc := 356) hx hb hX hbl hbA hS (i + 1) (by omega) (by omega) dL_law_356 ?_
    refine lv_if_eq (tgt := 364) (pc := 357) hx hb dL_law_357 (by decide) (fun q => absurd q h0) (fun _ => ?_)
    refine lv_iconst (v := nI 1) (pc := 360) hx hb dL_law_360 (by decide) ?_
    refine lv_goto (tgt := 365) (pc := 361) hx hb dL_law_361 (by decide) ?_
    obtain ⟨⟨fs1, w22⟩, k9⟩ := k8 G1 hB7 hD
    refine mx_cVi (As := [.int (gB true)]) (rest := [.int Rv]) (pc := 365) ⟨hx, hb, hml, hown, hts⟩ k9 (cwV 1 hts hL_X8_steer rfl c8 s8 (by decide +kernel) ⟨by show r8.frames + 1 ≤ 8; omega, by show 8 + (3 + 11) + r8.locals ≤ 278; omega⟩) 22 rfl rfl w22 hK hN hZ hP hS rfl hl.1 rfl (Nat.le_of_ble_eq_true rfl) dL_law_365 ⟨hce, hsl⟩ (fun G2 H locs hP hD hS hB8 => ?_)
    refine lv_icmp_eq (tgt := 779) (pc := 368) hx hb dL_law_368 (by decide) (fun _ => ?_) (fun q => absurd rfl q)
    exact cont G2 H locs hP hD hS (kI G1 G2 hB7 hB8)
set_option maxHeartbeats 1000000 in
set_option maxRecDepth 100000 in
theorem lc_good (E : lwE p s m c b L xs D cI cZ g cells slots) {G : va_W} {H : Heap} {locs : List Loc} {ls : Array Slot} {i : Nat} (hi : i + 5 ≤ L) (hInv : gInv cI cZ a G) (hP : va_P D vwCl G H) (hD : va_D (fun q : Nat => s.heap.size ≤ q) G) (hS : va_S (fun q : Nat => s.heap.size ≤ q) s.heap H locs) (hl : lv_has ls 4 [(0, .ref b), (1, .ref (a 0)), (2, .ref (a 22)), (3, .int (nI i))]) (cont : ∀ (G : va_W) (H : Heap) (locs : List Loc), va_P D vwCl G H → va_D (fun q : Nat => s.heap.size ≤ q) G → va_S (fun q : Nat => s.heap.size ≤ q) s.heap H locs → gInv cI cZ a G → W p l e room_1 s m #[Value.ref b] below meth c H locs cells slots Q (F0 m 779 ls [])) : W p l e room_1 s m #[Value.ref b] below meth c H locs cells slots Q (F0 m 373 ls []) := by
  obtain ⟨hx, hb, hml, hown, hts, hX, hbl, hL, hK, hN, hZ, hce, hsl⟩ := E
  have hbA : ¬ (fun q : Nat => s.heap.size ≤ q) b := Nat.not_le.mpr hbl
  obtain ⟨fs0, w0⟩ := gInv_0 hInv
  obtain ⟨r7, r8, Rv, B7, B8, k7, k8, kI, ⟨f7, l7, c7, s7⟩, ⟨f8, l8, c8, s8⟩⟩ := pi_good (l := l) (D := D) (A := (fun q : Nat => s.heap.size ≤ q)) (g := g) hInv (xs (i + 1))
  refine lv_aload_n (pc := 373) hx hb dL_law_373 rfl (lv_at hl 1 rfl) ?_
  refine lv_aload_n (pc := 374) hx hb dL_law_374 rfl (lv_at hl 0 rfl) ?_
  refine lv_iload_n (pc := 375) hx hb dL_law_375 rfl (lv_at hl 3 rfl) ?_
  refine lv_iconst (v := nI 1) (pc := 376) hx hb dL_law_376 (by decide) ?_
  refine mx_iadd (pc := 377) hx hb dL_law_377 ?_
  refine mx_sld (pc := 378) hx hb hX hbl hbA hS (i + 1) (by omega) (by omega) dL_law_378 ?_
  refine mx_cVi (As := [.int (xs (i + 1))]) (rest := []) (pc := 379) ⟨hx, hb, hml, hown, hts⟩ (k7 hD) (cwV 1 hts hL_X7_good rfl c7 s7 (by decide +kernel) ⟨by show r7.frames + 1 ≤ 8; omega, by show 8 + (2 + 11) + r7.locals ≤ 278; omega⟩) 0 rfl rfl w0 hK hN hZ hP hS rfl hl.1 rfl (Nat.le_of_ble_eq_true rfl) dL_law_379 ⟨hce, hsl⟩ (fun G1 H locs hP hD hS hB7 => ?_)
  refine lv_aload_n (pc := 382) hx hb dL_law_382 rfl (lv_at hl 2 rfl) ?_
  refine lv_aload_n (pc := 383) hx hb dL_law_383 rfl (lv_at hl 0 rfl) ?_
  refine lv_iload_n (pc := 384) hx hb dL_law_384 rfl (lv_at hl 3 rfl) ?_
  refine lv_iconst (v := nI 1) (pc := 385) hx hb dL_law_385 (by decide) ?_
  refine mx_iadd (pc := 386) hx hb dL_law_386 ?_
  refine mx_sld (pc := 387) hx hb hX hbl hbA hS (i + 1) (by omega) (by omega) dL_law_387 ?_
  obtain ⟨⟨fs1, w22⟩, k9⟩ := k8 G1 hB7 hD
  refine mx_cVi (As := [.int (xs (i + 1))]) (rest := [.int Rv]) (pc := 388) ⟨hx, hb, hml, hown, hts⟩ k9 (cwV 1 hts hL_X8_good rfl c8 s8 (by decide +kernel) ⟨by show r8.frames + 1 ≤ 8; omega, by show 8 + (2 + 11) + r8.locals ≤ 278; omega⟩) 22 rfl rfl w22 hK hN hZ hP hS rfl hl.1 rfl (Nat.le_of_ble_eq_true rfl) dL_law_388 ⟨hce, hsl⟩ (fun G2 H locs hP hD hS hB8 => ?_)
  refine lv_icmp_eq (tgt := 779) (pc := 391) hx hb dL_law_391 (by decide) (fun _ => ?_) (fun q => absurd rfl q)
  exact cont G2 H locs hP hD hS (kI G1 G2 hB7 hB8)
set_option maxHeartbeats 1000000 in
set_option maxRecDepth 100000 in
theorem lc_density (E : lwE p s m c b L xs D cI cZ g cells slots) {G : va_W} {H : Heap} {locs : List Loc} {ls : Array Slot} {i : Nat} (hi : i + 5 ≤ L) (hInv : gInv cI cZ a G) (hP : va_P D vwCl G H) (hD : va_D (fun q : Nat => s.heap.size ≤ q) G) (hS : va_S (fun q : Nat => s.heap.size ≤ q) s.heap H locs) (hl : lv_has ls 4 [(0, .ref b), (1, .ref (a 0)), (2, .ref (a 22)), (3, .int (nI i))]) (cont : ∀ (G : va_W) (H : Heap) (locs : List Loc), va_P D vwCl G H → va_D (fun q : Nat => s.heap.size ≤ q) G → va_S (fun q : Nat => s.heap.size ≤ q) s.heap H locs → gInv cI cZ a G → W p l e room_1 s m #[Value.ref b] below meth c H locs cells slots Q (F0 m 779 ls [])) : W p l e room_1 s m #[Value.ref b] below meth c H locs cells slots Q (F0 m 396 ls []) := by
  obtain ⟨hx, hb, hml, hown, hts, hX, hbl, hL, hK, hN, hZ, hce, hsl⟩ := E
  have hbA : ¬ (fun q : Nat => s.heap.size ≤ q) b := Nat.not_le.mpr hbl
  obtain ⟨fs0, w0⟩ := gInv_0 hInv
  obtain ⟨r7, r8, Rv, B7, B8, k7, k8, kI, ⟨f7, l7, c7, s7⟩, ⟨f8, l8, c8, s8⟩⟩ := pi_density (l := l) (D := D) (A := (fun q : Nat => s.heap.size ≤ q)) (g := g) hInv (xs (i + 1)) (xs (i + 2))
  refine lv_aload_n (pc := 396) hx hb dL_law_396 rfl (lv_at hl 1 rfl) ?_
  refine lv_aload_n (pc := 397) hx hb dL_law_397 rfl (lv_at hl 0 rfl) ?_
  refine lv_iload_n (pc := 398) hx hb dL_law_398 rfl (lv_at hl 3 rfl) ?_
  refine lv_iconst (v := nI 1) (pc := 399) hx hb dL_law_399 (by decide) ?_
  refine mx_iadd (pc := 400) hx hb dL_law_400 ?_
  refine mx_sld (pc := 401) hx hb hX hbl hbA hS (i + 1) (by omega) (by omega) dL_law_401 ?_
  refine lv_aload_n (pc := 402) hx hb dL_law_402 rfl (lv_at hl 0 rfl) ?_
  refine lv_iload_n (pc := 403) hx hb dL_law_403 rfl (lv_at hl 3 rfl) ?_
  refine lv_iconst (v := nI 2) (pc := 404) hx hb dL_law_404 (by decide) ?_
  refine mx_iadd (pc := 405) hx hb dL_law_405 ?_
  refine mx_sld (pc := 406) hx hb hX hbl hbA hS (i + 2) (by omega) (by omega) dL_law_406 ?_
  refine mx_cVi (As := [.int (xs (i + 1)), .int (xs (i + 2))]) (rest := []) (pc := 407) ⟨hx, hb, hml, hown, hts⟩ (k7 hD) (cwV 2 hts hL_X7_density rfl c7 s7 (by decide +kernel) ⟨by show r7.frames + 1 ≤ 8; omega, by show 8 + (3 + 11) + r7.locals ≤ 278; omega⟩) 0 rfl rfl w0 hK hN hZ hP hS rfl hl.1 rfl (Nat.le_of_ble_eq_true rfl) dL_law_407 ⟨hce, hsl⟩ (fun G1 H locs hP hD hS hB7 => ?_)
  refine lv_aload_n (pc := 410) hx hb dL_law_410 rfl (lv_at hl 2 rfl) ?_
  refine lv_aload_n (pc := 411) hx hb dL_law_411 rfl (lv_at hl 0 rfl) ?_
  refine lv_iload_n (pc := 412) hx hb dL_law_412 rfl (lv_at hl 3 rfl) ?_
  refine lv_iconst (v := nI 1) (pc := 413) hx hb dL_law_413 (by decide) ?_
  refine mx_iadd (pc := 414) hx hb dL_law_414 ?_
  refine mx_sld (pc := 415) hx hb hX hbl hbA hS (i + 1) (by omega) (by omega) dL_law_415 ?_
  refine lv_aload_n (pc := 416) hx hb dL_law_416 rfl (lv_at hl 0 rfl) ?_
  refine lv_iload_n (pc := 417) hx hb dL_law_417 rfl (lv_at hl 3 rfl) ?_
  refine lv_iconst (v := nI 2) (pc := 418) hx hb dL_law_418 (by decide) ?_
  refine mx_iadd (pc := 419) hx hb dL_law_419 ?_
  refine mx_sld (pc := 420) hx hb hX hbl hbA hS (i + 2) (by omega) (by omega) dL_law_420 ?_
  obtain ⟨⟨fs1, w22⟩, k9⟩ := k8 G1 hB7 hD
  refine mx_cVi (As := [.int (xs (i + 1)), .int (xs (i + 2))]) (rest := [.int Rv]) (pc := 421) ⟨hx, hb, hml, hown, hts⟩ k9 (cwV 2 hts hL_X8_density rfl c8 s8 (by decide +kernel) ⟨by show r8.frames + 1 ≤ 8; omega, by show 8 + (3 + 11) + r8.locals ≤ 278; omega⟩) 22 rfl rfl w22 hK hN hZ hP hS rfl hl.1 rfl (Nat.le_of_ble_eq_true rfl) dL_law_421 ⟨hce, hsl⟩ (fun G2 H locs hP hD hS hB8 => ?_)
  refine lv_icmp_eq (tgt := 779) (pc := 424) hx hb dL_law_424 (by decide) (fun _ => ?_) (fun q => absurd rfl q)
  exact cont G2 H locs hP hD hS (kI G1 G2 hB7 hB8)
set_option maxHeartbeats 1000000 in
set_option maxRecDepth 100000 in
theorem lc_past (E : lwE p s m c b L xs D cI cZ g cells slots) {G : va_W} {H : Heap} {locs : List Loc} {ls : Array Slot} {i : Nat} (hi : i + 5 ≤ L) (hInv : gInv cI cZ a G) (hP : va_P D vwCl G H) (hD : va_D (fun q : Nat => s.heap.size ≤ q) G) (hS : va_S (fun q : Nat => s.heap.size ≤ q) s.heap H locs) (hl : lv_has ls 4 [(0, .ref b), (1, .ref (a 0)), (2, .ref (a 22)), (3, .int (nI i))]) (cont : ∀ (G : va_W) (H : Heap) (locs : List Loc), va_P D vwCl G H → va_D (fun q : Nat => s.heap.size ≤ q) G → va_S (fun q : Nat => s.heap.size ≤ q) s.heap H locs → gInv cI cZ a G → W p l e room_1 s m #[Value.ref b] below meth c H locs cells slots Q (F0 m 779 ls [])) : W p l e room_1 s m #[Value.ref b] below meth c H locs cells slots Q (F0 m 429 ls []) := by
  obtain ⟨hx, hb, hml, hown, hts, hX, hbl, hL, hK, hN, hZ, hce, hsl⟩ := E
  have hbA : ¬ (fun q : Nat => s.heap.size ≤ q) b := Nat.not_le.mpr hbl
  obtain ⟨fs0, w0⟩ := gInv_0 hInv
  obtain ⟨r7, r8, Rv, B7, B8, k7, k8, kI, ⟨f7, l7, c7, s7⟩, ⟨f8, l8, c8, s8⟩⟩ := pi_past (l := l) (D := D) (A := (fun q : Nat => s.heap.size ≤ q)) (g := g) hInv (xs (i + 1)) (xs (i + 2))
  refine lv_aload_n (pc := 429) hx hb dL_law_429 rfl (lv_at hl 1 rfl) ?_
  refine lv_aload_n (pc := 430) hx hb dL_law_430 rfl (lv_at hl 0 rfl) ?_
  refine lv_iload_n (pc := 431) hx hb dL_law_431 rfl (lv_at hl 3 rfl) ?_
  refine lv_iconst (v := nI 1) (pc := 432) hx hb dL_law_432 (by decide) ?_
  refine mx_iadd (pc := 433) hx hb dL_law_433 ?_
  refine mx_sld (pc := 434) hx hb hX hbl hbA hS (i + 1) (by omega) (by omega) dL_law_434 ?_
  refine lv_aload_n (pc := 435) hx hb dL_law_435 rfl (lv_at hl 0 rfl) ?_
  refine lv_iload_n (pc := 436) hx hb dL_law_436 rfl (lv_at hl 3 rfl) ?_
  refine lv_iconst (v := nI 2) (pc := 437) hx hb dL_law_437 (by decide) ?_
  refine mx_iadd (pc := 438) hx hb dL_law_438 ?_
  refine mx_sld (pc := 439) hx hb hX hbl hbA hS (i + 2) (by omega) (by omega) dL_law_439 ?_
  refine mx_cVi (As := [.int (xs (i + 1)), .int (xs (i + 2))]) (rest := []) (pc := 440) ⟨hx, hb, hml, hown, hts⟩ (k7 hD) (cwV 2 hts hL_X7_past rfl c7 s7 (by decide +kernel) ⟨by show r7.frames + 1 ≤ 8; omega, by show 8 + (3 + 11) + r7.locals ≤ 278; omega⟩) 0 rfl rfl w0 hK hN hZ hP hS rfl hl.1 rfl (Nat.le_of_ble_eq_true rfl) dL_law_440 ⟨hce, hsl⟩ (fun G1 H locs hP hD hS hB7 => ?_)
  refine lv_aload_n (pc := 443) hx hb dL_law_443 rfl (lv_at hl 2 rfl) ?_
  refine lv_aload_n (pc := 444) hx hb dL_law_444 rfl (lv_at hl 0 rfl) ?_
  refine lv_iload_n (pc := 445) hx hb dL_law_445 rfl (lv_at hl 3 rfl) ?_
  refine lv_iconst (v := nI 1) (pc := 446) hx hb dL_law_446 (by decide) ?_
  refine mx_iadd (pc := 447) hx hb dL_law_447 ?_
  refine mx_sld (pc := 448) hx hb hX hbl hbA hS (i + 1) (by omega) (by omega) dL_law_448 ?_
  refine lv_aload_n (pc := 449) hx hb dL_law_449 rfl (lv_at hl 0 rfl) ?_
  refine lv_iload_n (pc := 450) hx hb dL_law_450 rfl (lv_at hl 3 rfl) ?_
  refine lv_iconst (v := nI 2) (pc := 451) hx hb dL_law_451 (by decide) ?_
  refine mx_iadd (pc := 452) hx hb dL_law_452 ?_
  refine mx_sld (pc := 453) hx hb hX hbl hbA hS (i + 2) (by omega) (by omega) dL_law_453 ?_
  obtain ⟨⟨fs1, w22⟩, k9⟩ := k8 G1 hB7 hD
  refine mx_cVi (As := [.int (xs (i + 1)), .int (xs (i + 2))]) (rest := [.int Rv]) (pc := 454) ⟨hx, hb, hml, hown, hts⟩ k9 (cwV 2 hts hL_X8_past rfl c8 s8 (by decide +kernel) ⟨by show r8.frames + 1 ≤ 8; omega, by show 8 + (3 + 11) + r8.locals ≤ 278; omega⟩) 22 rfl rfl w22 hK hN hZ hP hS rfl hl.1 rfl (Nat.le_of_ble_eq_true rfl) dL_law_454 ⟨hce, hsl⟩ (fun G2 H locs hP hD hS hB8 => ?_)
  refine lv_icmp_eq (tgt := 779) (pc := 457) hx hb dL_law_457 (by decide) (fun _ => ?_) (fun q => absurd rfl q)
  exact cont G2 H locs hP hD hS (kI G1 G2 hB7 hB8)
set_option maxHeartbeats 1000000 in
set_option maxRecDepth 100000 in
theorem lc_preset (E : lwE p s m c b L xs D cI cZ g cells slots) {G : va_W} {H : Heap} {locs : List Loc} {ls : Array Slot} {i : Nat} (hi : i + 5 ≤ L) (hInv : gInv cI cZ a G) (hP : va_P D vwCl G H) (hD : va_D (fun q : Nat => s.heap.size ≤ q) G) (hS : va_S (fun q : Nat => s.heap.size ≤ q) s.heap H locs) (hl : lv_has ls 4 [(0, .ref b), (1, .ref (a 0)), (2, .ref (a 22)), (3, .int (nI i))]) (cont : ∀ (G : va_W) (H : Heap) (locs : List Loc), va_P D vwCl G H → va_D (fun q : Nat => s.heap.size ≤ q) G → va_S (fun q : Nat => s.heap.size ≤ q) s.heap H locs → gInv cI cZ a G → W p l e room_1 s m #[Value.ref b] below meth c H locs cells slots Q (F0 m 779 ls [])) : W p l e room_1 s m #[Value.ref b] below meth c H locs cells slots Q (F0 m 462 ls []) := by
  obtain ⟨hx, hb, hml, hown, hts, hX, hbl, hL, hK, hN, hZ, hce, hsl⟩ := E
  have hbA : ¬ (fun q : Nat => s.heap.size ≤ q) b := Nat.not_le.mpr hbl
  obtain ⟨fs0, w0⟩ := gInv_0 hInv
  obtain ⟨r7, r8, Rv, B7, B8, k7, k8, kI, ⟨f7, l7, c7, s7⟩, ⟨f8, l8, c8, s8⟩⟩ := pi_preset (l := l) (D := D) (A := (fun q : Nat => s.heap.size ≤ q)) (g := g) hInv (xs (i + 1))
  refine lv_aload_n (pc := 462) hx hb dL_law_462 rfl (lv_at hl 1 rfl) ?_
  refine lv_aload_n (pc := 463) hx hb dL_law_463 rfl (lv_at hl 0 rfl) ?_
  refine lv_iload_n (pc := 464) hx hb dL_law_464 rfl (lv_at hl 3 rfl) ?_
  refine lv_iconst (v := nI 1) (pc := 465) hx hb dL_law_465 (by decide) ?_
  refine mx_iadd (pc := 466) hx hb dL_law_466 ?_
  refine mx_sld (pc := 467) hx hb hX hbl hbA hS (i + 1) (by omega) (by omega) dL_law_467 ?_
  refine mx_cVi (As := [.int (xs (i + 1))]) (rest := []) (pc := 468) ⟨hx, hb, hml, hown, hts⟩ (k7 hD) (cwV 1 hts hL_X7_preset rfl c7 s7 (by decide +kernel) ⟨by show r7.frames + 1 ≤ 8; omega, by show 8 + (2 + 11) + r7.locals ≤ 278; omega⟩) 0 rfl rfl w0 hK hN hZ hP hS rfl hl.1 rfl (Nat.le_of_ble_eq_true rfl) dL_law_468 ⟨hce, hsl⟩ (fun G1 H locs hP hD hS hB7 => ?_)
  refine lv_aload_n (pc := 471) hx hb dL_law_471 rfl (lv_at hl 2 rfl) ?_
  refine lv_aload_n (pc := 472) hx hb dL_law_472 rfl (lv_at hl 0 rfl) ?_
  refine lv_iload_n (pc := 473) hx hb dL_law_473 rfl (lv_at hl 3 rfl) ?_
  refine lv_iconst (v := nI 1) (pc := 474) hx hb dL_law_474 (by decide) ?_
  refine mx_iadd (pc := 475) hx hb dL_law_475 ?_
  refine mx_sld (pc := 476) hx hb hX hbl hbA hS (i + 1) (by omega) (by omega) dL_law_476 ?_
  obtain ⟨⟨fs1, w22⟩, k9⟩ := k8 G1 hB7 hD
  refine mx_cVi (As := [.int (xs (i + 1))]) (rest := [.int Rv]) (pc := 477) ⟨hx, hb, hml, hown, hts⟩ k9 (cwV 1 hts hL_X8_preset rfl c8 s8 (by decide +kernel) ⟨by show r8.frames + 1 ≤ 8; omega, by show 8 + (2 + 11) + r8.locals ≤ 278; omega⟩) 22 rfl rfl w22 hK hN hZ hP hS rfl hl.1 rfl (Nat.le_of_ble_eq_true rfl) dL_law_477 ⟨hce, hsl⟩ (fun G2 H locs hP hD hS hB8 => ?_)
  refine lv_icmp_eq (tgt := 779) (pc := 480) hx hb dL_law_480 (by decide) (fun _ => ?_) (fun q => absurd rfl q)
  exact cont G2 H locs hP hD hS (kI G1 G2 hB7 hB8)
set_option maxHeartbeats 1000000 in
set_option maxRecDepth 100000 in
theorem lc_presets (E : lwE p s m c b L xs D cI cZ g cells slots) {G : va_W} {H : Heap} {locs : List Loc} {ls : Array Slot} {i : Nat} (hi : i + 5 ≤ L) (hInv : gInv cI cZ a G) (hP : va_P D vwCl G H) (hD : va_D (fun q : Nat => s.heap.size ≤ q) G) (hS : va_S (fun q : Nat => s.heap.size ≤ q) s.heap H locs) (hl : lv_has ls 4 [(0, .ref b), (1, .ref (a 0)), (2, .ref (a 22)), (3, .int (nI i))]) (cont : ∀ (G : va_W) (H : Heap) (locs : List Loc), va_P D vwCl G H → va_D (fun q : Nat => s.heap.size ≤ q) G → va_S (fun q : Nat => s.heap.size ≤ q) s.heap H locs → gInv cI cZ a G → W p l e room_1 s m #[Value.ref b] below meth c H locs cells slots Q (F0 m 779 ls [])) : W p l e room_1 s m #[Value.ref b] below meth c H locs cells slots Q (F0 m 485 ls []) := by
  obtain ⟨hx, hb, hml, hown, hts, hX, hbl, hL, hK, hN, hZ, hce, hsl⟩ := E
  have hbA : ¬ (fun q : Nat => s.heap.size ≤ q) b := Nat.not_le.mpr hbl
  obtain ⟨fs0, w0⟩ := gInv_0 hInv
  obtain ⟨r7, r8, Rv, B7, B8, k7, k8, kI, ⟨f7, l7, c7, s7⟩, ⟨f8, l8, c8, s8⟩⟩ := pi_presets (l := l) (D := D) (A := (fun q : Nat => s.heap.size ≤ q)) (g := g) hInv 
  refine lv_aload_n (pc := 485) hx hb dL_law_485 rfl (lv_at hl 1 rfl) ?_
  refine mx_cVi (As := []) (rest := []) (pc := 486) ⟨hx, hb, hml, hown, hts⟩ (k7 hD) (cwV 0 hts hL_X7_presets rfl c7 s7 (by decide +kernel) ⟨by show r7.frames + 1 ≤ 8; omega, by show 8 + (4 + 11) + r7.locals ≤ 278; omega⟩) 0 rfl rfl w0 hK hN hZ hP hS rfl hl.1 rfl (Nat.le_of_ble_eq_true rfl) dL_law_486 ⟨hce, hsl⟩ (fun G1 H locs hP hD hS hB7 => ?_)
  refine lv_aload_n (pc := 489) hx hb dL_law_489 rfl (lv_at hl 2 rfl) ?_
  obtain ⟨⟨fs1, w22⟩, k9⟩ := k8 G1 hB7 hD
  refine mx_cVi (As := []) (rest := [.int Rv]) (pc := 490) ⟨hx, hb, hml, hown, hts⟩ k9 (cwV 0 hts hL_X8_presets rfl c8 s8 (by decide +kernel) ⟨by show r8.frames + 1 ≤ 8; omega, by show 8 + (4 + 11) + r8.locals ≤ 278; omega⟩) 22 rfl rfl w22 hK hN hZ hP hS rfl hl.1 rfl (Nat.le_of_ble_eq_true rfl) dL_law_490 ⟨hce, hsl⟩ (fun G2 H locs hP hD hS hB8 => ?_)
  refine lv_icmp_eq (tgt := 779) (pc := 493) hx hb dL_law_493 (by decide) (fun _ => ?_) (fun q => absurd rfl q)
  exact cont G2 H locs hP hD hS (kI G1 G2 hB7 hB8)
end LC
