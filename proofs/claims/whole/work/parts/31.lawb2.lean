/-! the law, case by case -/
section LC
variable {p : Program} {l : Launch} {e : Env} {s : State} {m : MethodId} {below : List Frame} {meth : Method} {c : Code} {b L : Nat} {xs : Nat → Int32} {D : va_G} {cI cZ : ClassId} {g a : Nat → Nat} {Q : State → Prop} {cells slots : Nat}
set_option maxHeartbeats 1000000 in
set_option maxRecDepth 100000 in
theorem lc_told (E : lwE p s m c b L xs D cI cZ g cells slots) {G : va_W} {H : Heap} {locs : List Loc} {ls : Array Slot} {i : Nat} (hi : i + 5 ≤ L) (hInv : gInv cI cZ a G) (hP : va_P D vwCl G H) (hD : va_D (fun q : Nat => s.heap.size ≤ q) G) (hS : va_S (fun q : Nat => s.heap.size ≤ q) s.heap H locs) (hl : lv_has ls 4 [(0, .ref b), (1, .ref (a 0)), (2, .ref (a 22)), (3, .int (nI i))]) (cont : ∀ (G : va_W) (H : Heap) (locs : List Loc), va_P D vwCl G H → va_D (fun q : Nat => s.heap.size ≤ q) G → va_S (fun q : Nat => s.heap.size ≤ q) s.heap H locs → gInv cI cZ a G → W p l e room_1 s m #[Value.ref b] below meth c H locs cells slots Q (F0 m 779 ls [])) : W p l e room_1 s m #[Value.ref b] below meth c H locs cells slots Q (F0 m 498 ls []) := by
  obtain ⟨hx, hb, hml, hown, hts, hX, hbl, hL, hK, hN, hZ, hce, hsl⟩ := E
  have hbA : ¬ (fun q : Nat => s.heap.size ≤ q) b := Nat.not_le.mpr hbl
  obtain ⟨fs0, w0⟩ := gInv_0 hInv
  obtain ⟨r7, r8, Rv, B7, B8, k7, k8, kI, ⟨f7, l7, c7, s7⟩, ⟨f8, l8, c8, s8⟩⟩ := pi_told (l := l) (D := D) (A := (fun q : Nat => s.heap.size ≤ q)) (g := g) hInv (xs (i + 1))
  refine lv_aload_n (pc := 498) hx hb dL_law_498 rfl (lv_at hl 1 rfl) ?_
  refine lv_aload_n (pc := 499) hx hb dL_law_499 rfl (lv_at hl 0 rfl) ?_
  refine lv_iload_n (pc := 500) hx hb dL_law_500 rfl (lv_at hl 3 rfl) ?_
  refine lv_iconst (v := nI 1) (pc := 501) hx hb dL_law_501 (by decide) ?_
  refine mx_iadd (pc := 502) hx hb dL_law_502 ?_
  refine mx_sld (pc := 503) hx hb hX hbl hbA hS (i + 1) (by omega) (by omega) dL_law_503 ?_
  refine mx_cVi (As := [.int (xs (i + 1))]) (rest := []) (pc := 504) ⟨hx, hb, hml, hown, hts⟩ (k7 hD) (cwV 1 hts hL_X7_told rfl c7 s7 (by decide +kernel) ⟨by show r7.frames + 1 ≤ 8; omega, by show 8 + (2 + 11) + r7.locals ≤ 278; omega⟩) 0 rfl rfl w0 hK hN hZ hP hS rfl hl.1 rfl (Nat.le_of_ble_eq_true rfl) dL_law_504 ⟨hce, hsl⟩ (fun G1 H locs hP hD hS hB7 => ?_)
  refine lv_aload_n (pc := 507) hx hb dL_law_507 rfl (lv_at hl 2 rfl) ?_
  refine lv_aload_n (pc := 508) hx hb dL_law_508 rfl (lv_at hl 0 rfl) ?_
  refine lv_iload_n (pc := 509) hx hb dL_law_509 rfl (lv_at hl 3 rfl) ?_
  refine lv_iconst (v := nI 1) (pc := 510) hx hb dL_law_510 (by decide) ?_
  refine mx_iadd (pc := 511) hx hb dL_law_511 ?_
  refine mx_sld (pc := 512) hx hb hX hbl hbA hS (i + 1) (by omega) (by omega) dL_law_512 ?_
  obtain ⟨⟨fs1, w22⟩, k9⟩ := k8 G1 hB7 hD
  refine mx_cVi (As := [.int (xs (i + 1))]) (rest := [.int Rv]) (pc := 513) ⟨hx, hb, hml, hown, hts⟩ k9 (cwV 1 hts hL_X8_told rfl c8 s8 (by decide +kernel) ⟨by show r8.frames + 1 ≤ 8; omega, by show 8 + (4 + 11) + r8.locals ≤ 278; omega⟩) 22 rfl rfl w22 hK hN hZ hP hS rfl hl.1 rfl (Nat.le_of_ble_eq_true rfl) dL_law_513 ⟨hce, hsl⟩ (fun G2 H locs hP hD hS hB8 => ?_)
  refine lv_icmp_eq (tgt := 779) (pc := 516) hx hb dL_law_516 (by decide) (fun _ => ?_) (fun q => absurd rfl q)
  exact cont G2 H locs hP hD hS (kI G1 G2 hB7 hB8)
set_option maxHeartbeats 1000000 in
set_option maxRecDepth 100000 in
theorem lc_mark (E : lwE p s m c b L xs D cI cZ g cells slots) {G : va_W} {H : Heap} {locs : List Loc} {ls : Array Slot} {i : Nat} (hi : i + 5 ≤ L) (hInv : gInv cI cZ a G) (hP : va_P D vwCl G H) (hD : va_D (fun q : Nat => s.heap.size ≤ q) G) (hS : va_S (fun q : Nat => s.heap.size ≤ q) s.heap H locs) (hl : lv_has ls 4 [(0, .ref b), (1, .ref (a 0)), (2, .ref (a 22)), (3, .int (nI i))]) (cont : ∀ (G : va_W) (H : Heap) (locs : List Loc), va_P D vwCl G H → va_D (fun q : Nat => s.heap.size ≤ q) G → va_S (fun q : Nat => s.heap.size ≤ q) s.heap H locs → gInv cI cZ a G → W p l e room_1 s m #[Value.ref b] below meth c H locs cells slots Q (F0 m 779 ls [])) : W p l e room_1 s m #[Value.ref b] below meth c H locs cells slots Q (F0 m 521 ls []) := by
  obtain ⟨hx, hb, hml, hown, hts, hX, hbl, hL, hK, hN, hZ, hce, hsl⟩ := E
  have hbA : ¬ (fun q : Nat => s.heap.size ≤ q) b := Nat.not_le.mpr hbl
  obtain ⟨fs0, w0⟩ := gInv_0 hInv
  obtain ⟨r7, r8, Rv, B7, B8, k7, k8, kI, ⟨f7, l7, c7, s7⟩, ⟨f8, l8, c8, s8⟩⟩ := pi_mark (l := l) (D := D) (A := (fun q : Nat => s.heap.size ≤ q)) (g := g) hInv (xs (i + 1)) (xs (i + 2)) (xs (i + 3)) (xs (i + 4))
  refine lv_aload_n (pc := 521) hx hb dL_law_521 rfl (lv_at hl 1 rfl) ?_
  refine lv_aload_n (pc := 522) hx hb dL_law_522 rfl (lv_at hl 0 rfl) ?_
  refine lv_iload_n (pc := 523) hx hb dL_law_523 rfl (lv_at hl 3 rfl) ?_
  refine lv_iconst (v := nI 1) (pc := 524) hx hb dL_law_524 (by decide) ?_
  refine mx_iadd (pc := 525) hx hb dL_law_525 ?_
  refine mx_sld (pc := 526) hx hb hX hbl hbA hS (i + 1) (by omega) (by omega) dL_law_526 ?_
  refine lv_aload_n (pc := 527) hx hb dL_law_527 rfl (lv_at hl 0 rfl) ?_
  refine lv_iload_n (pc := 528) hx hb dL_law_528 rfl (lv_at hl 3 rfl) ?_
  refine lv_iconst (v := nI 2) (pc := 529) hx hb dL_law_529 (by decide) ?_
  refine mx_iadd (pc := 530) hx hb dL_law_530 ?_
  refine mx_sld (pc := 531) hx hb hX hbl hbA hS (i + 2) (by omega) (by omega) dL_law_531 ?_
  refine lv_aload_n (pc := 532) hx hb dL_law_532 rfl (lv_at hl 0 rfl) ?_
  refine lv_iload_n (pc := 533) hx hb dL_law_533 rfl (lv_at hl 3 rfl) ?_
  refine lv_iconst (v := nI 3) (pc := 534) hx hb dL_law_534 (by decide) ?_
  refine mx_iadd (pc := 535) hx hb dL_law_535 ?_
  refine mx_sld (pc := 536) hx hb hX hbl hbA hS (i + 3) (by omega) (by omega) dL_law_536 ?_
  refine lv_aload_n (pc := 537) hx hb dL_law_537 rfl (lv_at hl 0 rfl) ?_
  refine lv_iload_n (pc := 538) hx hb dL_law_538 rfl (lv_at hl 3 rfl) ?_
  refine lv_iconst (v := nI 4) (pc := 539) hx hb dL_law_539 (by decide) ?_
  refine mx_iadd (pc := 540) hx hb dL_law_540 ?_
  refine mx_sld (pc := 541) hx hb hX hbl hbA hS (i + 4) (by omega) (by omega) dL_law_541 ?_
  refine mx_cVi (As := [.int (xs (i + 1)), .int (xs (i + 2)), .int (xs (i + 3)), .int (xs (i + 4))]) (rest := []) (pc := 542) ⟨hx, hb, hml, hown, hts⟩ (k7 hD) (cwV 4 hts hL_X7_mark rfl c7 s7 (by decide +kernel) ⟨by show r7.frames + 1 ≤ 8; omega, by show 8 + (5 + 11) + r7.locals ≤ 278; omega⟩) 0 rfl rfl w0 hK hN hZ hP hS rfl hl.1 rfl (Nat.le_of_ble_eq_true rfl) dL_law_542 ⟨hce, hsl⟩ (fun G1 H locs hP hD hS hB7 => ?_)
  refine lv_aload_n (pc := 545) hx hb dL_law_545 rfl (lv_at hl 2 rfl) ?_
  refine lv_aload_n (pc := 546) hx hb dL_law_546 rfl (lv_at hl 0 rfl) ?_
  refine lv_iload_n (pc := 547) hx hb dL_law_547 rfl (lv_at hl 3 rfl) ?_
  refine lv_iconst (v := nI 1) (pc := 548) hx hb dL_law_548 (by decide) ?_
  refine mx_iadd (pc := 549) hx hb dL_law_549 ?_
  refine mx_sld (pc := 550) hx hb hX hbl hbA hS (i + 1) (by omega) (by omega) dL_law_550 ?_
  refine lv_aload_n (pc := 551) hx hb dL_law_551 rfl (lv_at hl 0 rfl) ?_
  refine lv_iload_n (pc := 552) hx hb dL_law_552 rfl (lv_at hl 3 rfl) ?_
  refine lv_iconst (v := nI 2) (pc := 553) hx hb dL_law_553 (by decide) ?_
  refine mx_iadd (pc := 554) hx hb dL_law_554 ?_
  refine mx_sld (pc := 555) hx hb hX hbl hbA hS (i + 2) (by omega) (by omega) dL_law_555 ?_
  refine lv_aload_n (pc := 556) hx hb dL_law_556 rfl (lv_at hl 0 rfl) ?_
  refine lv_iload_n (pc := 557) hx hb dL_law_557 rfl (lv_at hl 3 rfl) ?_
  refine lv_iconst (v := nI 3) (pc := 558) hx hb dL_law_558 (by decide) ?_
  refine mx_iadd (pc := 559) hx hb dL_law_559 ?_
  refine mx_sld (pc := 560) hx hb hX hbl hbA hS (i + 3) (by omega) (by omega) dL_law_560 ?_
  refine lv_aload_n (pc := 561) hx hb dL_law_561 rfl (lv_at hl 0 rfl) ?_
  refine lv_iload_n (pc := 562) hx hb dL_law_562 rfl (lv_at hl 3 rfl) ?_
  refine lv_iconst (v := nI 4) (pc := 563) hx hb dL_law_563 (by decide) ?_
  refine mx_iadd (pc := 564) hx hb dL_law_564 ?_
  refine mx_sld (pc := 565) hx hb hX hbl hbA hS (i + 4) (by omega) (by omega) dL_law_565 ?_
  obtain ⟨⟨fs1, w22⟩, k9⟩ := k8 G1 hB7 hD
  refine mx_cVi (As := [.int (xs (i + 1)), .int (xs (i + 2)), .int (xs (i + 3)), .int (xs (i + 4))]) (rest := [.int Rv]) (pc := 566) ⟨hx, hb, hml, hown, hts⟩ k9 (cwV 4 hts hL_X8_mark rfl c8 s8 (by decide +kernel) ⟨by show r8.frames + 1 ≤ 8; omega, by show 8 + (5 + 11) + r8.locals ≤ 278; omega⟩) 22 rfl rfl w22 hK hN hZ hP hS rfl hl.1 rfl (Nat.le_of_ble_eq_true rfl) dL_law_566 ⟨hce, hsl⟩ (fun G2 H locs hP hD hS hB8 => ?_)
  refine lv_icmp_eq (tgt := 779) (pc := 569) hx hb dL_law_569 (by decide) (fun _ => ?_) (fun q => absurd rfl q)
  exact cont G2 H locs hP hD hS (kI G1 G2 hB7 hB8)
set_option maxHeartbeats 1000000 in
set_option maxRecDepth 100000 in
theorem lc_clear (E : lwE p s m c b L xs D cI cZ g cells slots) {G : va_W} {H : Heap} {locs : List Loc} {ls : Array Slot} {i : Nat} (hi : i + 5 ≤ L) (hInv : gInv cI cZ a G) (hP : va_P D vwCl G H) (hD : va_D (fun q : Nat => s.heap.size ≤ q) G) (hS : va_S (fun q : Nat => s.heap.size ≤ q) s.heap H locs) (hl : lv_has ls 4 [(0, .ref b), (1, .ref (a 0)), (2, .ref (a 22)), (3, .int (nI i))]) (cont : ∀ (G : va_W) (H : Heap) (locs : List Loc), va_P D vwCl G H → va_D (fun q : Nat => s.heap.size ≤ q) G → va_S (fun q : Nat => s.heap.size ≤ q) s.heap H locs → gInv cI cZ a G → W p l e room_1 s m #[Value.ref b] below meth c H locs cells slots Q (F0 m 779 ls [])) : W p l e room_1 s m #[Value.ref b] below meth c H locs cells slots Q (F0 m 574 ls []) := by
  obtain ⟨hx, hb, hml, hown, hts, hX, hbl, hL, hK, hN, hZ, hce, hsl⟩ := E
  have hbA : ¬ (fun q : Nat => s.heap.size ≤ q) b := Nat.not_le.mpr hbl
  obtain ⟨fs0, w0⟩ := gInv_0 hInv
  obtain ⟨r7, r8, Rv, B7, B8, k7, k8, kI, ⟨f7, l7, c7, s7⟩, ⟨f8, l8, c8, s8⟩⟩ := pi_clear (l := l) (D := D) (A := (fun q : Nat => s.heap.size ≤ q)) (g := g) hInv 
  refine lv_aload_n (pc := 574) hx hb dL_law_574 rfl (lv_at hl 1 rfl) ?_
  refine mx_cVi (As := []) (rest := []) (pc := 575) ⟨hx, hb, hml, hown, hts⟩ (k7 hD) (cwV 0 hts hL_X7_clear rfl c7 s7 (by decide +kernel) ⟨by show r7.frames + 1 ≤ 8; omega, by show 8 + (1 + 11) + r7.locals ≤ 278; omega⟩) 0 rfl rfl w0 hK hN hZ hP hS rfl hl.1 rfl (Nat.le_of_ble_eq_true rfl) dL_law_575 ⟨hce, hsl⟩ (fun G1 H locs hP hD hS hB7 => ?_)
  refine lv_aload_n (pc := 578) hx hb dL_law_578 rfl (lv_at hl 2 rfl) ?_
  obtain ⟨⟨fs1, w22⟩, k9⟩ := k8 G1 hB7 hD
  refine mx_cVi (As := []) (rest := [.int Rv]) (pc := 579) ⟨hx, hb, hml, hown, hts⟩ k9 (cwV 0 hts hL_X8_clear rfl c8 s8 (by decide +kernel) ⟨by show r8.frames + 1 ≤ 8; omega, by show 8 + (2 + 11) + r8.locals ≤ 278; omega⟩) 22 rfl rfl w22 hK hN hZ hP hS rfl hl.1 rfl (Nat.le_of_ble_eq_true rfl) dL_law_579 ⟨hce, hsl⟩ (fun G2 H locs hP hD hS hB8 => ?_)
  refine lv_icmp_eq (tgt := 779) (pc := 582) hx hb dL_law_582 (by decide) (fun _ => ?_) (fun q => absurd rfl q)
  exact cont G2 H locs hP hD hS (kI G1 G2 hB7 hB8)
set_option maxHeartbeats 1000000 in
set_option maxRecDepth 100000 in
theorem lc_fit (E : lwE p s m c b L xs D cI cZ g cells slots) {G : va_W} {H : Heap} {locs : List Loc} {ls : Array Slot} {i : Nat} (hi : i + 5 ≤ L) (hInv : gInv cI cZ a G) (hP : va_P D vwCl G H) (hD : va_D (fun q : Nat => s.heap.size ≤ q) G) (hS : va_S (fun q : Nat => s.heap.size ≤ q) s.heap H locs) (hl : lv_has ls 4 [(0, .ref b), (1, .ref (a 0)), (2, .ref (a 22)), (3, .int (nI i))]) (cont : ∀ (G : va_W) (H : Heap) (locs : List Loc), va_P D vwCl G H → va_D (fun q : Nat => s.heap.size ≤ q) G → va_S (fun q : Nat => s.heap.size ≤ q) s.heap H locs → gInv cI cZ a G → W p l e room_1 s m #[Value.ref b] below meth c H locs cells slots Q (F0 m 779 ls [])) : W p l e room_1 s m #[Value.ref b] below meth c H locs cells slots Q (F0 m 587 ls []) := by
  obtain ⟨hx, hb, hml, hown, hts, hX, hbl, hL, hK, hN, hZ, hce, hsl⟩ := E
  have hbA : ¬ (fun q : Nat => s.heap.size ≤ q) b := Nat.not_le.mpr hbl
  obtain ⟨fs0, w0⟩ := gInv_0 hInv
  obtain ⟨r7, r8, Rv, B7, B8, k7, k8, kI, ⟨f7, l7, c7, s7⟩, ⟨f8, l8, c8, s8⟩⟩ := pi_fit (l := l) (D := D) (A := (fun q : Nat => s.heap.size ≤ q)) (g := g) hInv (xs (i + 1)) (xs (i + 2))
  refine lv_aload_n (pc := 587) hx hb dL_law_587 rfl (lv_at hl 1 rfl) ?_
  refine lv_aload_n (pc := 588) hx hb dL_law_588 rfl (lv_at hl 0 rfl) ?_
  refine lv_iload_n (pc := 589) hx hb dL_law_589 rfl (lv_at hl 3 rfl) ?_
  refine lv_iconst (v := nI 1) (pc := 590) hx hb dL_law_590 (by decide) ?_
  refine mx_iadd (pc := 591) hx hb dL_law_591 ?_
  refine mx_sld (pc := 592) hx hb hX hbl hbA hS (i + 1) (by omega) (by omega) dL_law_592 ?_
  refine lv_aload_n (pc := 593) hx hb dL_law_593 rfl (lv_at hl 0 rfl) ?_
  refine lv_iload_n (pc := 594) hx hb dL_law_594 rfl (lv_at hl 3 rfl) ?_
  refine lv_iconst (v := nI 2) (pc := 595) hx hb dL_law_595 (by decide) ?_
  refine mx_iadd (pc := 596) hx hb dL_law_596 ?_
  refine mx_sld (pc := 597) hx hb hX hbl hbA hS (i + 2) (by omega) (by omega) dL_law_597 ?_
  refine mx_cVl (As := [.int (xs (i + 1)), .int (xs (i + 2))]) (rest := []) (pc := 598) ⟨hx, hb, hml, hown, hts⟩ (k7 hD) (cwV 2 hts hL_X7_fit rfl c7 s7 (by decide +kernel) ⟨by show r7.frames + 1 ≤ 8; omega, by show 8 + (11 + 11) + r7.locals ≤ 278; omega⟩) 0 rfl rfl w0 hK hN hZ hP hS rfl hl.1 rfl (Nat.le_of_ble_eq_true rfl) dL_law_598 ⟨hce, hsl⟩ (fun G1 H locs hP hD hS hB7 => ?_)
  refine lv_aload_n (pc := 601) hx hb dL_law_601 rfl (lv_at hl 2 rfl) ?_
  refine lv_aload_n (pc := 602) hx hb dL_law_602 rfl (lv_at hl 0 rfl) ?_
  refine lv_iload_n (pc := 603) hx hb dL_law_603 rfl (lv_at hl 3 rfl) ?_
  refine lv_iconst (v := nI 1) (pc := 604) hx hb dL_law_604 (by decide) ?_
  refine mx_iadd (pc := 605) hx hb dL_law_605 ?_
  refine mx_sld (pc := 606) hx hb hX hbl hbA hS (i + 1) (by omega) (by omega) dL_law_606 ?_
  refine lv_aload_n (pc := 607) hx hb dL_law_607 rfl (lv_at hl 0 rfl) ?_
  refine lv_iload_n (pc := 608) hx hb dL_law_608 rfl (lv_at hl 3 rfl) ?_
  refine lv_iconst (v := nI 2) (pc := 609) hx hb dL_law_609 (by decide) ?_
  refine mx_iadd (pc := 610) hx hb dL_law_610 ?_
  refine mx_sld (pc := 611) hx hb hX hbl hbA hS (i + 2) (by omega) (by omega) dL_law_611 ?_
  obtain ⟨⟨fs1, w22⟩, k9⟩ := k8 G1 hB7 hD
  refine mx_cVl (As := [.int (xs (i + 1)), .int (xs (i + 2))]) (rest := [.long Rv]) (pc := 612) ⟨hx, hb, hml, hown, hts⟩ k9 (cwV 2 hts hL_X8_fit rfl c8 s8 (by decide +kernel) ⟨by show r8.frames + 1 ≤ 8; omega, by show 8 + (3 + 11) + r8.locals ≤ 278; omega⟩) 22 rfl rfl w22 hK hN hZ hP hS rfl hl.1 rfl (Nat.le_of_ble_eq_true rfl) dL_law_612 ⟨hce, hsl⟩ (fun G2 H locs hP hD hS hB8 => ?_)
  refine W.lcmp (pc := 615) hx hb dL_law_615 ?_
  refine lv_if_eq (tgt := 779) (pc := 616) hx hb dL_law_616 (by decide) (fun _ => ?_) (fun q => absurd (lg_eq.mpr rfl) q)
  exact cont G2 H locs hP hD hS (kI G1 G2 hB7 hB8)
set_option maxHeartbeats 1000000 in
set_option maxRecDepth 100000 in
theorem lc_off (E : lwE p s m c b L xs D cI cZ g cells slots) {G : va_W} {H : Heap} {locs : List Loc} {ls : Array Slot} {i : Nat} (hi : i + 5 ≤ L) (hInv : gInv cI cZ a G) (hP : va_P D vwCl G H) (hD : va_D (fun q : Nat => s.heap.size ≤ q) G) (hS : va_S (fun q : Nat => s.heap.size ≤ q) s.heap H locs) (hl : lv_has ls 4 [(0, .ref b), (1, .ref (a 0)), (2, .ref (a 22)), (3, .int (nI i))]) (cont : ∀ (G : va_W) (H : Heap) (locs : List Loc), va_P D vwCl G H → va_D (fun q : Nat => s.heap.size ≤ q) G → va_S (fun q : Nat => s.heap.size ≤ q) s.heap H locs → gInv cI cZ a G → W p l e room_1 s m #[Value.ref b] below meth c H locs cells slots Q (F0 m 779 ls [])) : W p l e room_1 s m #[Value.ref b] below meth c H locs cells slots Q (F0 m 621 ls []) := by
  obtain ⟨hx, hb, hml, hown, hts, hX, hbl, hL, hK, hN, hZ, hce, hsl⟩ := E
  have hbA : ¬ (fun q : Nat => s.heap.size ≤ q) b := Nat.not_le.mpr hbl
  obtain ⟨fs0, w0⟩ := gInv_0 hInv
  obtain ⟨r7, r8, Rv, B7, B8, k7, k8, kI, ⟨f7, l7, c7, s7⟩, ⟨f8, l8, c8, s8⟩⟩ := pi_off (l := l) (D := D) (A := (fun q : Nat => s.heap.size ≤ q)) (g := g) hInv (xs (i + 1)) (xs (i + 2))
  refine lv_aload_n (pc := 621) hx hb dL_law_621 rfl (lv_at hl 1 rfl) ?_
  refine lv_aload_n (pc := 622) hx hb dL_law_622 rfl (lv_at hl 0 rfl) ?_
  refine lv_iload_n (pc := 623) hx hb dL_law_623 rfl (lv_at hl 3 rfl) ?_
  refine lv_iconst (v := nI 1) (pc := 624) hx hb dL_law_624 (by decide) ?_
  refine mx_iadd (pc := 625) hx hb dL_law_625 ?_
  refine mx_sld (pc := 626) hx hb hX hbl hbA hS (i + 1) (by omega) (by omega) dL_law_626 ?_
  refine lv_aload_n (pc := 627) hx hb dL_law_627 rfl (lv_at hl 0 rfl) ?_
  refine lv_iload_n (pc := 628) hx hb dL_law_628 rfl (lv_at hl 3 rfl) ?_
  refine lv_iconst (v := nI 2) (pc := 629) hx hb dL_law_629 (by decide) ?_
  refine mx_iadd (pc := 630) hx hb dL_law_630 ?_
  refine mx_sld (pc := 631) hx hb hX hbl hbA hS (i + 2) (by omega) (by omega) dL_law_631 ?_
  refine mx_cVi (As := [.int (xs (i + 1)), .int (xs (i + 2))]) (rest := []) (pc := 632) ⟨hx, hb, hml, hown, hts⟩ (k7 hD) (cwV 2 hts hL_X7_off rfl c7 s7 (by decide +kernel) ⟨by show r7.frames + 1 ≤ 8; omega, by show 8 + (3 + 11) + r7.locals ≤ 278; omega⟩) 0 rfl rfl w0 hK hN hZ hP hS rfl hl.1 rfl (Nat.le_of_ble_eq_true rfl) dL_law_632 ⟨hce, hsl⟩ (fun G1 H locs hP hD hS hB7 => ?_)
  refine lv_aload_n (pc := 635) hx hb dL_law_635 rfl (lv_at hl 2 rfl) ?_
  refine lv_aload_n (pc := 636) hx hb dL_law_636 rfl (lv_at hl 0 rfl) ?_
  refine lv_iload_n (pc := 637) hx hb dL_law_637 rfl (lv_at hl 3 rfl) ?_
  refine lv_iconst (v := nI 1) (pc := 638) hx hb dL_law_638 (by decide) ?_
  refine mx_iadd (pc := 639) hx hb dL_law_639 ?_
  refine mx_sld (pc := 640) hx hb hX hbl hbA hS (i + 1) (by omega) (by omega) dL_law_640 ?_
  refine lv_aload_n (pc := 641) hx hb dL_law_641 rfl (lv_at hl 0 rfl) ?_
  refine lv_iload_n (pc := 642) hx hb dL_law_642 rfl (lv_at hl 3 rfl) ?_
  refine lv_iconst (v := nI 2) (pc := 643) hx hb dL_law_643 (by decide) ?_
  refine mx_iadd (pc := 644) hx hb dL_law_644 ?_
  refine mx_sld (pc := 645) hx hb hX hbl hbA hS (i + 2) (by omega) (by omega) dL_law_645 ?_
  obtain ⟨⟨fs1, w22⟩, k9⟩ := k8 G1 hB7 hD
  refine mx_cVi (As := [.int (xs (i + 1)), .int (xs (i + 2))]) (rest := [.int Rv]) (pc := 646) ⟨hx, hb, hml, hown, hts⟩ k9 (cwV 2 hts hL_X8_off rfl c8 s8 (by decide +kernel) ⟨by show r8.frames + 1 ≤ 8; omega, by show 8 + (7 + 11) + r8.locals ≤ 278; omega⟩) 22 rfl rfl w22 hK hN hZ hP hS rfl hl.1 rfl (Nat.le_of_ble_eq_true rfl) dL_law_646 ⟨hce, hsl⟩ (fun G2 H locs hP hD hS hB8 => ?_)
  refine lv_icmp_eq (tgt := 779) (pc := 649) hx hb dL_law_649 (by decide) (fun _ => ?_) (fun q => absurd rfl q)
  exact cont G2 H locs hP hD hS (kI G1 G2 hB7 hB8)
end LC
