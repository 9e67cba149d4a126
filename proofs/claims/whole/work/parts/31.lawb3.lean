/-! the law, case by case -/
section LC
variable {p : Program} {l : Launch} {e : Env} {s : State} {m : MethodId} {below : List Frame} {meth : Method} {c : Code} {b L : Nat} {xs : Nat → Int32} {D : va_G} {cI cZ : ClassId} {g a : Nat → Nat} {Q : State → Prop} {cells slots : Nat}
set_option maxHeartbeats 1000000 in
set_option maxRecDepth 100000 in
theorem lc_job (E : lwE p s m c b L xs D cI cZ g cells slots) {G : va_W} {H : Heap} {locs : List Loc} {ls : Array Slot} {i : Nat} (hi : i + 5 ≤ L) (hInv : gInv cI cZ a G) (hP : va_P D vwCl G H) (hD : va_D (fun q : Nat => s.heap.size ≤ q) G) (hS : va_S (fun q : Nat => s.heap.size ≤ q) s.heap H locs) (hl : lv_has ls 4 [(0, .ref b), (1, .ref (a 0)), (2, .ref (a 22)), (3, .int (nI i))]) (cont : ∀ (G : va_W) (H : Heap) (locs : List Loc), va_P D vwCl G H → va_D (fun q : Nat => s.heap.size ≤ q) G → va_S (fun q : Nat => s.heap.size ≤ q) s.heap H locs → gInv cI cZ a G → W p l e room_1 s m #[Value.ref b] below meth c H locs cells slots Q (F0 m 779 ls [])) : W p l e room_1 s m #[Value.ref b] below meth c H locs cells slots Q (F0 m 654 ls []) := by
  obtain ⟨hx, hb, hml, hown, hts, hX, hbl, hL, hK, hN, hZ, hce, hsl⟩ := E
  have hbA : ¬ (fun q : Nat => s.heap.size ≤ q) b := Nat.not_le.mpr hbl
  obtain ⟨fs0, w0⟩ := gInv_0 hInv
  obtain ⟨r7, r8, Rv, B7, B8, k7, k8, kI, ⟨f7, l7, c7, s7⟩, ⟨f8, l8, c8, s8⟩⟩ := pi_job (l := l) (D := D) (A := (fun q : Nat => s.heap.size ≤ q)) (g := g) hInv (xs (i + 1)) (xs (i + 2))
  refine lv_aload_n (pc := 654) hx hb dL_law_654 rfl (lv_at hl 1 rfl) ?_
  refine lv_aload_n (pc := 655) hx hb dL_law_655 rfl (lv_at hl 0 rfl) ?_
  refine lv_iload_n (pc := 656) hx hb dL_law_656 rfl (lv_at hl 3 rfl) ?_
  refine lv_iconst (v := nI 1) (pc := 657) hx hb dL_law_657 (by decide) ?_
  refine mx_iadd (pc := 658) hx hb dL_law_658 ?_
  refine mx_sld (pc := 659) hx hb hX hbl hbA hS (i + 1) (by omega) (by omega) dL_law_659 ?_
  refine lv_aload_n (pc := 660) hx hb dL_law_660 rfl (lv_at hl 0 rfl) ?_
  refine lv_iload_n (pc := 661) hx hb dL_law_661 rfl (lv_at hl 3 rfl) ?_
  refine lv_iconst (v := nI 2) (pc := 662) hx hb dL_law_662 (by decide) ?_
  refine mx_iadd (pc := 663) hx hb dL_law_663 ?_
  refine mx_sld (pc := 664) hx hb hX hbl hbA hS (i + 2) (by omega) (by omega) dL_law_664 ?_
  refine mx_cVi (As := [.int (xs (i + 1)), .int (xs (i + 2))]) (rest := []) (pc := 665) ⟨hx, hb, hml, hown, hts⟩ (k7 hD) (cwV 2 hts hL_X7_job rfl c7 s7 (by decide +kernel) ⟨by show r7.frames + 1 ≤ 8; omega, by show 8 + (3 + 11) + r7.locals ≤ 278; omega⟩) 0 rfl rfl w0 hK hN hZ hP hS rfl hl.1 rfl (Nat.le_of_ble_eq_true rfl) dL_law_665 ⟨hce, hsl⟩ (fun G1 H locs hP hD hS hB7 => ?_)
  refine lv_aload_n (pc := 668) hx hb dL_law_668 rfl (lv_at hl 2 rfl) ?_
  refine lv_aload_n (pc := 669) hx hb dL_law_669 rfl (lv_at hl 0 rfl) ?_
  refine lv_iload_n (pc := 670) hx hb dL_law_670 rfl (lv_at hl 3 rfl) ?_
  refine lv_iconst (v := nI 1) (pc := 671) hx hb dL_law_671 (by decide) ?_
  refine mx_iadd (pc := 672) hx hb dL_law_672 ?_
  refine mx_sld (pc := 673) hx hb hX hbl hbA hS (i + 1) (by omega) (by omega) dL_law_673 ?_
  refine lv_aload_n (pc := 674) hx hb dL_law_674 rfl (lv_at hl 0 rfl) ?_
  refine lv_iload_n (pc := 675) hx hb dL_law_675 rfl (lv_at hl 3 rfl) ?_
  refine lv_iconst (v := nI 2) (pc := 676) hx hb dL_law_676 (by decide) ?_
  refine mx_iadd (pc := 677) hx hb dL_law_677 ?_
  refine mx_sld (pc := 678) hx hb hX hbl hbA hS (i + 2) (by omega) (by omega) dL_law_678 ?_
  obtain ⟨⟨fs1, w22⟩, k9⟩ := k8 G1 hB7 hD
  refine mx_cVi (As := [.int (xs (i + 1)), .int (xs (i + 2))]) (rest := [.int Rv]) (pc := 679) ⟨hx, hb, hml, hown, hts⟩ k9 (cwV 2 hts hL_X8_job rfl c8 s8 (by decide +kernel) ⟨by show r8.frames + 1 ≤ 8; omega, by show 8 + (3 + 11) + r8.locals ≤ 278; omega⟩) 22 rfl rfl w22 hK hN hZ hP hS rfl hl.1 rfl (Nat.le_of_ble_eq_true rfl) dL_law_679 ⟨hce, hsl⟩ (fun G2 H locs hP hD hS hB8 => ?_)
  refine lv_icmp_eq (tgt := 779) (pc := 682) hx hb dL_law_682 (by decide) (fun _ => ?_) (fun q => absurd rfl q)
  exact cont G2 H locs hP hD hS (kI G1 G2 hB7 hB8)
set_option maxHeartbeats 1000000 in
set_option maxRecDepth 100000 in
theorem lc_forget (E : lwE p s m c b L xs D cI cZ g cells slots) {G : va_W} {H : Heap} {locs : List Loc} {ls : Array Slot} {i : Nat} (hi : i + 5 ≤ L) (hInv : gInv cI cZ a G) (hP : va_P D vwCl G H) (hD : va_D (fun q : Nat => s.heap.size ≤ q) G) (hS : va_S (fun q : Nat => s.heap.size ≤ q) s.heap H locs) (hl : lv_has ls 4 [(0, .ref b), (1, .ref (a 0)), (2, .ref (a 22)), (3, .int (nI i))]) (cont : ∀ (G : va_W) (H : Heap) (locs : List Loc), va_P D vwCl G H → va_D (fun q : Nat => s.heap.size ≤ q) G → va_S (fun q : Nat => s.heap.size ≤ q) s.heap H locs → gInv cI cZ a G → W p l e room_1 s m #[Value.ref b] below meth c H locs cells slots Q (F0 m 779 ls [])) : W p l e room_1 s m #[Value.ref b] below meth c H locs cells slots Q (F0 m 687 ls []) := by
  obtain ⟨hx, hb, hml, hown, hts, hX, hbl, hL, hK, hN, hZ, hce, hsl⟩ := E
  have hbA : ¬ (fun q : Nat => s.heap.size ≤ q) b := Nat.not_le.mpr hbl
  obtain ⟨fs0, w0⟩ := gInv_0 hInv
  obtain ⟨r7, r8, Rv, B7, B8, k7, k8, kI, ⟨f7, l7, c7, s7⟩, ⟨f8, l8, c8, s8⟩⟩ := pi_forget (l := l) (D := D) (A := (fun q : Nat => s.heap.size ≤ q)) (g := g) hInv 
  refine lv_aload_n (pc := 687) hx hb dL_law_687 rfl (lv_at hl 1 rfl) ?_
  refine mx_cVi (As := []) (rest := []) (pc := 688) ⟨hx, hb, hml, hown, hts⟩ (k7 hD) (cwV 0 hts hL_X7_forget rfl c7 s7 (by decide +kernel) ⟨by show r7.frames + 1 ≤ 8; omega, by show 8 + (1 + 11) + r7.locals ≤ 278; omega⟩) 0 rfl rfl w0 hK hN hZ hP hS rfl hl.1 rfl (Nat.le_of_ble_eq_true rfl) dL_law_688 ⟨hce, hsl⟩ (fun G1 H locs hP hD hS hB7 => ?_)
  refine lv_aload_n (pc := 691) hx hb dL_law_691 rfl (lv_at hl 2 rfl) ?_
  obtain ⟨⟨fs1, w22⟩, k9⟩ := k8 G1 hB7 hD
  refine mx_cVi (As := []) (rest := [.int Rv]) (pc := 692) ⟨hx, hb, hml, hown, hts⟩ k9 (cwV 0 hts hL_X8_forget rfl c8 s8 (by decide +kernel) ⟨by show r8.frames + 1 ≤ 8; omega, by show 8 + (2 + 11) + r8.locals ≤ 278; omega⟩) 22 rfl rfl w22 hK hN hZ hP hS rfl hl.1 rfl (Nat.le_of_ble_eq_true rfl) dL_law_692 ⟨hce, hsl⟩ (fun G2 H locs hP hD hS hB8 => ?_)
  refine lv_icmp_eq (tgt := 779) (pc := 695) hx hb dL_law_695 (by decide) (fun _ => ?_) (fun q => absurd rfl q)
  exact cont G2 H locs hP hD hS (kI G1 G2 hB7 hB8)
set_option maxHeartbeats 1000000 in
set_option maxRecDepth 100000 in
theorem lc_wash (E : lwE p s m c b L xs D cI cZ g cells slots) {G : va_W} {H : Heap} {locs : List Loc} {ls : Array Slot} {i : Nat} (hi : i + 5 ≤ L) (hInv : gInv cI cZ a G) (hP : va_P D vwCl G H) (hD : va_D (fun q : Nat => s.heap.size ≤ q) G) (hS : va_S (fun q : Nat => s.heap.size ≤ q) s.heap H locs) (hl : lv_has ls 4 [(0, .ref b), (1, .ref (a 0)), (2, .ref (a 22)), (3, .int (nI i))]) (cont : ∀ (G : va_W) (H : Heap) (locs : List Loc), va_P D vwCl G H → va_D (fun q : Nat => s.heap.size ≤ q) G → va_S (fun q : Nat => s.heap.size ≤ q) s.heap H locs → gInv cI cZ a G → W p l e room_1 s m #[Value.ref b] below meth c H locs cells slots Q (F0 m 779 ls [])) : W p l e room_1 s m #[Value.ref b] below meth c H locs cells slots Q (F0 m 700 ls []) := by
  obtain ⟨hx, hb, hml, hown, hts, hX, hbl, hL, hK, hN, hZ, hce, hsl⟩ := E
  have hbA : ¬ (fun q : Nat => s.heap.size ≤ q) b := Nat.not_le.mpr hbl
  obtain ⟨fs0, w0⟩ := gInv_0 hInv
  obtain ⟨r7, r8, Rv, B7, B8, k7, k8, kI, ⟨f7, l7, c7, s7⟩, ⟨f8, l8, c8, s8⟩⟩ := pi_wash (l := l) (D := D) (A := (fun q : Nat => s.heap.size ≤ q)) (g := g) hInv (xs (i + 1)) (xs (i + 2)) (xs (i + 3))
  refine lv_aload_n (pc := 700) hx hb dL_law_700 rfl (lv_at hl 1 rfl) ?_
  refine lv_aload_n (pc := 701) hx hb dL_law_701 rfl (lv_at hl 0 rfl) ?_
  refine lv_iload_n (pc := 702) hx hb dL_law_702 rfl (lv_at hl 3 rfl) ?_
  refine lv_iconst (v := nI 1) (pc := 703) hx hb dL_law_703 (by decide) ?_
  refine mx_iadd (pc := 704) hx hb dL_law_704 ?_
  refine mx_sld (pc := 705) hx hb hX hbl hbA hS (i + 1) (by omega) (by omega) dL_law_705 ?_
  refine lv_aload_n (pc := 706) hx hb dL_law_706 rfl (lv_at hl 0 rfl) ?_
  refine lv_iload_n (pc := 707) hx hb dL_law_707 rfl (lv_at hl 3 rfl) ?_
  refine lv_iconst (v := nI 2) (pc := 708) hx hb dL_law_708 (by decide) ?_
  refine mx_iadd (pc := 709) hx hb dL_law_709 ?_
  refine mx_sld (pc := 710) hx hb hX hbl hbA hS (i + 2) (by omega) (by omega) dL_law_710 ?_
  refine lv_aload_n (pc := 711) hx hb dL_law_711 rfl (lv_at hl 0 rfl) ?_
  refine lv_iload_n (pc := 712) hx hb dL_law_712 rfl (lv_at hl 3 rfl) ?_
  refine lv_iconst (v := nI 3) (pc := 713) hx hb dL_law_713 (by decide) ?_
  refine mx_iadd (pc := 714) hx hb dL_law_714 ?_
  refine mx_sld (pc := 715) hx hb hX hbl hbA hS (i + 3) (by omega) (by omega) dL_law_715 ?_
  refine mx_cVi (As := [.int (xs (i + 1)), .int (xs (i + 2)), .int (xs (i + 3))]) (rest := []) (pc := 716) ⟨hx, hb, hml, hown, hts⟩ (k7 hD) (cwV 3 hts hL_X7_wash rfl c7 s7 (by decide +kernel) ⟨by show r7.frames + 1 ≤ 8; omega, by show 8 + (4 + 11) + r7.locals ≤ 278; omega⟩) 0 rfl rfl w0 hK hN hZ hP hS rfl hl.1 rfl (Nat.le_of_ble_eq_true rfl) dL_law_716 ⟨hce, hsl⟩ (fun G1 H locs hP hD hS hB7 => ?_)
  refine lv_aload_n (pc := 719) hx hb dL_law_719 rfl (lv_at hl 2 rfl) ?_
  refine lv_aload_n (pc := 720) hx hb dL_law_720 rfl (lv_at hl 0 rfl) ?_
  refine lv_iload_n (pc := 721) hx hb dL_law_721 rfl (lv_at hl 3 rfl) ?_
  refine lv_iconst (v := nI 1) (pc := 722) hx hb dL_law_722 (by decide) ?_
  refine mx_iadd (pc := 723) hx hb dL_law_723 ?_
  refine mx_sld (pc := 724) hx hb hX hbl hbA hS (i + 1) (by omega) (by omega) dL_law_724 ?_
  refine lv_aload_n (pc := 725) hx hb dL_law_725 rfl (lv_at hl 0 rfl) ?_
  refine lv_iload_n (pc := 726) hx hb dL_law_726 rfl (lv_at hl 3 rfl) ?_
  refine lv_iconst (v := nI 2) (pc := 727) hx hb dL_law_727 (by decide) ?_
  refine mx_iadd (pc := 728) hx hb dL_law_728 ?_
  refine mx_sld (pc := 729) hx hb hX hbl hbA hS (i + 2) (by omega) (by omega) dL_law_729 ?_
  refine lv_aload_n (pc := 730) hx hb dL_law_730 rfl (lv_at hl 0 rfl) ?_
  refine lv_iload_n (pc := 731) hx hb dL_law_731 rfl (lv_at hl 3 rfl) ?_
  refine lv_iconst (v := nI 3) (pc := 732) hx hb dL_law_732 (by decide) ?_
  refine mx_iadd (pc := 733) hx hb dL_law_733 ?_
  refine mx_sld (pc := 734) hx hb hX hbl hbA hS (i + 3) (by omega) (by omega) dL_law_734 ?_
  obtain ⟨⟨fs1, w22⟩, k9⟩ := k8 G1 hB7 hD
  refine mx_cVi (As := [.int (xs (i + 1)), .int (xs (i + 2)), .int (xs (i + 3))]) (rest := [.int Rv]) (pc := 735) ⟨hx, hb, hml, hown, hts⟩ k9 (cwV 3 hts hL_X8_wash rfl c8 s8 (by decide +kernel) ⟨by show r8.frames + 1 ≤ 8; omega, by show 8 + (5 + 11) + r8.locals ≤ 278; omega⟩) 22 rfl rfl w22 hK hN hZ hP hS rfl hl.1 rfl (Nat.le_of_ble_eq_true rfl) dL_law_735 ⟨hce, hsl⟩ (fun G2 H locs hP hD hS hB8 => ?_)
  refine lv_icmp_eq (tgt := 779) (pc := 738) hx hb dL_law_738 (by decide) (fun _ => ?_) (fun q => absurd rfl q)
  exact cont G2 H locs hP hD hS (kI G1 G2 hB7 hB8)
set_option maxHeartbeats 1000000 in
set_option maxRecDepth 100000 in
theorem lc_order (E : lwE p s m c b L xs D cI cZ g cells slots) {G : va_W} {H : Heap} {locs : List Loc} {ls : Array Slot} {i : Nat} (hi : i + 5 ≤ L) (hInv : gInv cI cZ a G) (hP : va_P D vwCl G H) (hD : va_D (fun q : Nat => s.heap.size ≤ q) G) (hS : va_S (fun q : Nat => s.heap.size ≤ q) s.heap H locs) (hl : lv_has ls 4 [(0, .ref b), (1, .ref (a 0)), (2, .ref (a 22)), (3, .int (nI i))]) (cont : ∀ (G : va_W) (H : Heap) (locs : List Loc), va_P D vwCl G H → va_D (fun q : Nat => s.heap.size ≤ q) G → va_S (fun q : Nat => s.heap.size ≤ q) s.heap H locs → gInv cI cZ a G → W p l e room_1 s m #[Value.ref b] below meth c H locs cells slots Q (F0 m 779 ls [])) : W p l e room_1 s m #[Value.ref b] below meth c H locs cells slots Q (F0 m 743 ls []) := by
  obtain ⟨hx, hb, hml, hown, hts, hX, hbl, hL, hK, hN, hZ, hce, hsl⟩ := E
  have hbA : ¬ (fun q : Nat => s.heap.size ≤ q) b := Nat.not_le.mpr hbl
  obtain ⟨fs0, w0⟩ := gInv_0 hInv
  obtain ⟨r7, r8, Rv, B7, B8, k7, k8, kI, ⟨f7, l7, c7, s7⟩, ⟨f8, l8, c8, s8⟩⟩ := pi_order (l := l) (D := D) (A := (fun q : Nat => s.heap.size ≤ q)) (g := g) hInv 
  refine lv_aload_n (pc := 743) hx hb dL_law_743 rfl (lv_at hl 1 rfl) ?_
  refine mx_cVi (As := []) (rest := []) (pc := 744) ⟨hx, hb, hml, hown, hts⟩ (k7 hD) (cwV 0 hts hL_X7_order rfl c7 s7 (by decide +kernel) ⟨by show r7.frames + 1 ≤ 8; omega, by show 8 + (1 + 11) + r7.locals ≤ 278; omega⟩) 0 rfl rfl w0 hK hN hZ hP hS rfl hl.1 rfl (Nat.le_of_ble_eq_true rfl) dL_law_744 ⟨hce, hsl⟩ (fun G1 H locs hP hD hS hB7 => ?_)
  refine lv_aload_n (pc := 747) hx hb dL_law_747 rfl (lv_at hl 2 rfl) ?_
  obtain ⟨⟨fs1, w22⟩, k9⟩ := k8 G1 hB7 hD
  refine mx_cVi (As := []) (rest := [.int Rv]) (pc := 748) ⟨hx, hb, hml, hown, hts⟩ k9 (cwV 0 hts hL_X8_order rfl c8 s8 (by decide +kernel) ⟨by show r8.frames + 1 ≤ 8; omega, by show 8 + (6 + 11) + r8.locals ≤ 278; omega⟩) 22 rfl rfl w22 hK hN hZ hP hS rfl hl.1 rfl (Nat.le_of_ble_eq_true rfl) dL_law_748 ⟨hce, hsl⟩ (fun G2 H locs hP hD hS hB8 => ?_)
  refine lv_icmp_eq (tgt := 779) (pc := 751) hx hb dL_law_751 (by decide) (fun _ => ?_) (fun q => absurd rfl q)
  exact cont G2 H locs hP hD hS (kI G1 G2 hB7 hB8)
set_option maxHeartbeats 1000000 in
set_option maxRecDepth 100000 in
theorem lc_orderAt (E : lwE p s m c b L xs D cI cZ g cells slots) {G : va_W} {H : Heap} {locs : List Loc} {ls : Array Slot} {i : Nat} (hi : i + 5 ≤ L) (hInv : gInv cI cZ a G) (hP : va_P D vwCl G H) (hD : va_D (fun q : Nat => s.heap.size ≤ q) G) (hS : va_S (fun q : Nat => s.heap.size ≤ q) s.heap H locs) (hl : lv_has ls 4 [(0, .ref b), (1, .ref (a 0)), (2, .ref (a 22)), (3, .int (nI i))]) (cont : ∀ (G : va_W) (H : Heap) (locs : List Loc), va_P D vwCl G H → va_D (fun q : Nat => s.heap.size ≤ q) G → va_S (fun q : Nat => s.heap.size ≤ q) s.heap H locs → gInv cI cZ a G → W p l e room_1 s m #[Value.ref b] below meth c H locs cells slots Q (F0 m 779 ls [])) : W p l e room_1 s m #[Value.ref b] below meth c H locs cells slots Q (F0 m 756 ls []) := by
  obtain ⟨hx, hb, hml, hown, hts, hX, hbl, hL, hK, hN, hZ, hce, hsl⟩ := E
  have hbA : ¬ (fun q : Nat => s.heap.size ≤ q) b := Nat.not_le.mpr hbl
  obtain ⟨fs0, w0⟩ := gInv_0 hInv
  obtain ⟨r7, r8, Rv, B7, B8, k7, k8, kI, ⟨f7, l7, c7, s7⟩, ⟨f8, l8, c8, s8⟩⟩ := pi_orderAt (l := l) (D := D) (A := (fun q : Nat => s.heap.size ≤ q)) (g := g) hInv (xs (i + 1))
  refine lv_aload_n (pc := 756) hx hb dL_law_756 rfl (lv_at hl 1 rfl) ?_
  refine lv_aload_n (pc := 757) hx hb dL_law_757 rfl (lv_at hl 0 rfl) ?_
  refine lv_iload_n (pc := 758) hx hb dL_law_758 rfl (lv_at hl 3 rfl) ?_
  refine lv_iconst (v := nI 1) (pc := 759) hx hb dL_law_759 (by decide) ?_
  refine mx_iadd (pc := 760) hx hb dL_law_760 ?_
  refine mx_sld (pc := 761) hx hb hX hbl hbA hS (i + 1) (by omega) (by omega) dL_law_761 ?_
  refine mx_cVi (As := [.int (xs (i + 1))]) (rest := []) (pc := 762) ⟨hx, hb, hml, hown, hts⟩ (k7 hD) (cwV 1 hts hL_X7_orderAt rfl c7 s7 (by decide +kernel) ⟨by show r7.frames + 1 ≤ 8; omega, by show 8 + (2 + 11) + r7.locals ≤ 278; omega⟩) 0 rfl rfl w0 hK hN hZ hP hS rfl hl.1 rfl (Nat.le_of_ble_eq_true rfl) dL_law_762 ⟨hce, hsl⟩ (fun G1 H locs hP hD hS hB7 => ?_)
  refine lv_aload_n (pc := 765) hx hb dL_law_765 rfl (lv_at hl 2 rfl) ?_
  refine lv_aload_n (pc := 766) hx hb dL_law_766 rfl (lv_at hl 0 rfl) ?_
  refine lv_iload_n (pc := 767) hx hb dL_law_767 rfl (lv_at hl 3 rfl) ?_
  refine lv_iconst (v := nI 1) (pc := 768) hx hb dL_law_768 (by decide) ?_
  refine mx_iadd (pc := 769) hx hb dL_law_769 ?_
  refine mx_sld (pc := 770) hx hb hX hbl hbA hS (i + 1) (by omega) (by omega) dL_law_770 ?_
  obtain ⟨⟨fs1, w22⟩, k9⟩ := k8 G1 hB7 hD
  refine mx_cVi (As := [.int (xs (i + 1))]) (rest := [.int Rv]) (pc := 771) ⟨hx, hb, hml, hown, hts⟩ k9 (cwV 1 hts hL_X8_orderAt rfl c8 s8 (by decide +kernel) ⟨by show r8.frames + 1 ≤ 8; omega, by show 8 + (3 + 11) + r8.locals ≤ 278; omega⟩) 22 rfl rfl w22 hK hN hZ hP hS rfl hl.1 rfl (Nat.le_of_ble_eq_true rfl) dL_law_771 ⟨hce, hsl⟩ (fun G2 H locs hP hD hS hB8 => ?_)
  refine lv_icmp_eq (tgt := 779) (pc := 774) hx hb dL_law_774 (by decide) (fun _ => ?_) (fun q => absurd rfl q)
  exact cont G2 H locs hP hD hS (kI G1 G2 hB7 hB8)
end LC
