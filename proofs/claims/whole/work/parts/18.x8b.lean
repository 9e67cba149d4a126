/-! the reference, on -/
set_option maxHeartbeats 4000000 in
set_option maxRecDepth 100000 in
theorem k_X8_zone_b {l : Launch} {D : va_G} {cI cZ : ClassId} {A : Nat → Prop} {g a : Nat → Nat} {G0 : va_W} {zn : Nat} {tr : Nat} {sc : Nat} {pn : Nat} {mn : Nat} {jn : Nat} {sg : Int32} {sr : Int32} {ss : Int32} {fed : Int32} {pap : Int32} {bar : Int32} {st : Bool} {q1 : Int64} {q2 : Int64} {q3 : Int64} {q4 : Int64} {q5 : Int64} {x : Int32} {y : Int32} (hD : va_D A G0) (w22 : G0[22]? = some (a 22, .inr (8, [.int (nI (zn)), .int (nI (tr)), .ref (a 23), .ref (a 24), .ref (a 25), .ref (a 26), .ref (a 27), .ref (a 28), .ref (a 29), .int (nI (sc)), .int (sg), .int (sr), .int (ss), .int (fed), .int (pap), .int (bar), .int (gB (st)), .ref (a 30), .ref (a 31), .ref (a 32), .int (nI (pn)), .ref (a 33), .ref (a 34), .ref (a 35), .ref (a 36), .int (nI (mn)), .long (q1), .long (q2), .long (q3), .long (q4), .long (q5), .ref (a 37), .ref (a 38), .ref (a 39), .int (nI (jn)), .ref (a 40), .ref (a 41)]))) (hz1 : 1 ≤ zn) (hz8 : zn ≤ 8) (h1 : gHas x (nI zn) = false) : gMi l D cI cZ A g yX8_zone wsX8_zone ({ frames := 2, cells := 0, slots := 0, locals := 46 }) [.ref (a 22), .int (x), .int (y)] G0 ((-1)) (fun G1 => G1 = G0) := by
  refine gof_i (cc := cX8_zone) (maxL := 3) (by decide) rfl (Nat.le_of_ble_eq_true rfl) hD ?_
  intro p e s m args below meth c Q hx hb hml hts hown hK hN hZ hP hS hret ls hl
  have hown : s.vm.findClass RX8 = some m.cls := hown
  have hl : lv_has ls 3 [(0, .ref (a 22)), (1, .int (x)), (2, .int (y))] := hl
  obtain ⟨locs, elocs⟩ : ∃ q : List Loc, q = [] := ⟨_, rfl⟩
  rw [← elocs] at hS ⊢
  obtain ⟨H, eH⟩ : ∃ q : Heap, q = s.heap := ⟨_, rfl⟩
  have hP : va_P D vwCl G0 H := eH ▸ hP
  have hS : va_S A s.heap H locs := by rw [eH]; exact hS
  rw [← eH]
  clear elocs eH
  have hk : ∀ k, k ∉ ([] : List Nat) → G0[k]? = G0[k]? := fun _ _ => rfl
  refine lv_aload_n (pc := 0) hx hb dX8_zone_0 rfl (lv_at hl 0 rfl) ?_
  refine lv_iload_n (pc := 1) hx hb dX8_zone_1 rfl (lv_at hl 1 rfl) ?_
  refine mx_cVi (As := [.int (x)]) (rest := []) (pc := 2) ⟨hx, hb, hml, hown, hts⟩ (k_X8_isZone (a := a) (zn := zn) (tr := tr) (sc := sc) (pn := pn) (mn := mn) (jn := jn) (sg := sg) (sr := sr) (ss := ss) (fed := fed) (pap := pap) (bar := bar) (st := st) (q1 := q1) (q2 := q2) (q3 := q3) (q4 := q4) (q5 := q5) (x := x) hD w22 hz1 hz8) (cwV 1 hts gX8_zone_X8_isZone rfl rfl rfl (by decide +kernel) ⟨Nat.le_of_ble_eq_true rfl, Nat.le_of_ble_eq_true rfl⟩) 22 rfl rfl w22 hK hN hZ hP hS rfl hl.1 rfl (Nat.le_of_ble_eq_true rfl) dX8_zone_2 ⟨Nat.zero_le _, Nat.zero_le _⟩ (fun G' H locs hP hD hS hB => ?_)
  rw [hB] at hP hD
  clear hB G'
  refine mx_bne (tgt := 10) (pc := 5) hx hb dX8_zone_5 (by decide) (fun c5 => absurd (c5.symm.trans h1) (by decide)) (fun c5 => ?_)
  refine lv_iconst (v := (-1)) (pc := 8) hx hb dX8_zone_8 (by decide) ?_
  exact hret _ _ _ _ _ _ hP hD hS rfl rfl dX8_zone_9
set_option maxHeartbeats 4000000 in
set_option maxRecDepth 100000 in
theorem k_X8_zone_c {l : Launch} {D : va_G} {cI cZ : ClassId} {A : Nat → Prop} {g a : Nat → Nat} {G0 : va_W} {zn : Nat} {tr : Nat} {sc : Nat} {pn : Nat} {mn : Nat} {jn : Nat} {sg : Int32} {sr : Int32} {ss : Int32} {fed : Int32} {pap : Int32} {bar : Int32} {st : Bool} {q1 : Int64} {q2 : Int64} {q3 : Int64} {q4 : Int64} {q5 : Int64} {x : Int32} {y : Int32} (hD : va_D A G0) (w22 : G0[22]? = some (a 22, .inr (8, [.int (nI (zn)), .int (nI (tr)), .ref (a 23), .ref (a 24), .ref (a 25), .ref (a 26), .ref (a 27), .ref (a 28), .ref (a 29), .int (nI (sc)), .int (sg), .int (sr), .int (ss), .int (fed), .int (pap), .int (bar), .int (gB (st)), .ref (a 30), .ref (a 31), .ref (a 32), .int (nI (pn)), .ref (a 33), .ref (a 34), .ref (a 35), .ref (a 36), .int (nI (mn)), .long (q1), .long (q2), .long (q3), .long (q4), .long (q5), .ref (a 37), .ref (a 38), .ref (a 39), .int (nI (jn)), .ref (a 40), .ref (a 41)]))) (hz1 : 1 ≤ zn) (hz8 : zn ≤ 8) (h1 : gHas x (nI zn) = true) (h2 : gWi y (nI 0) (nI 3) = false) : gMi l D cI cZ A g yX8_zone wsX8_zone ({ frames := 2, cells := 0, slots := 0, locals := 46 }) [.ref (a 22), .int (x), .int (y)] G0 ((-2)) (fun G1 => G1 = G0) := by
  refine gof_i (cc := cX8_zone) (maxL := 3) (by decide) rfl (Nat.le_of_ble_eq_true rfl) hD ?_
  intro p e s m args below meth c Q hx hb hml hts hown hK hN hZ hP hS hret ls hl
  have hown : s.vm.findClass RX8 = some m.cls := hown
  have hl : lv_has ls 3 [(0, .ref (a 22)), (1, .int (x)), (2, .int (y))] := hl
  obtain ⟨locs, elocs⟩ : ∃ q : List Loc, q = [] := ⟨_, rfl⟩
  rw [← elocs] at hS ⊢
  obtain ⟨H, eH⟩ : ∃ q : Heap, q = s.heap := ⟨_, rfl⟩
  have hP : va_P D vwCl G0 H := eH ▸ hP
  have hS : va_S A s.heap H locs := by rw [eH]; exact hS
  rw [← eH]
  clear elocs eH
  have hk : ∀ k, k ∉ ([] : List Nat) → G0[k]? = G0[k]? := fun _ _ => rfl
  refine lv_aload_n (pc := 0) hx hb dX8_zone_0 rfl (lv_at hl 0 rfl) ?_
  refine lv_iload_n (pc := 1) hx hb dX8_zone_1 rfl (lv_at hl 1 rfl) ?_
  refine mx_cVi (As := [.int (x)]) (rest := []) (pc := 2) ⟨hx, hb, hml, hown, hts⟩ (k_X8_isZone (a := a) (zn := zn) (tr := tr) (sc := sc) (pn := pn) (mn := mn) (jn := jn) (sg := sg) (sr := sr) (ss := ss) (fed := fed) (pap := pap) (bar := bar) (st := st) (q1 := q1) (q2 := q2) (q3 := q3) (q4 := q4) (q5 := q5) (x := x) hD w22 hz1 hz8) (cwV 1 hts gX8_zone_X8_isZone rfl rfl rfl (by decide +kernel) ⟨Nat.le_of_ble_eq_true rfl, Nat.le_of_ble_eq_true rfl⟩) 22 rfl rfl w22 hK hN hZ hP hS rfl hl.1 rfl (Nat.le_of_ble_eq_true rfl) dX8_zone_2 ⟨Nat.zero_le _, Nat.zero_le _⟩ (fun G' H locs hP hD hS hB => ?_)
  rw [hB] at hP hD
  clear hB G'
  refine mx_bne (tgt := 10) (pc := 5) hx hb dX8_zone_5 (by decide) (fun c5 => ?_) (fun c5 => absurd (c5.symm.trans h1) (by decide))
  refine lv_iload_n (pc := 10) hx hb dX8_zone_10 rfl (lv_at hl 2 rfl) ?_
  refine lv_if_ne (tgt := 23) (pc := 11) hx hb dX8_zone_11 (by decide) (fun c11 => ?_) (fun c11 => ?_)
  · skip
    refine lv_iload_n (pc := 23) hx hb dX8_zone_23 rfl (lv_at hl 2 rfl) ?_
    refine lv_iconst (v := nI (1)) (pc := 24) hx hb dX8_zone_24 (by decide) ?_
    refine lv_icmp_ne (tgt := 37) (pc := 25) hx hb dX8_zone_25 (by decide) (fun c25 => ?_) (fun c25 => ?_)
    · skip
      refine lv_iload_n (pc := 37) hx hb dX8_zone_37 rfl (lv_at hl 2 rfl) ?_
      refine lv_iconst (v := nI (2)) (pc := 38) hx hb dX8_zone_38 (by decide) ?_
      refine lv_icmp_ne (tgt := 51) (pc := 39) hx hb dX8_zone_39 (by decide) (fun c39 => ?_) (fun c39 => ?_)
      · skip
        refine lv_iload_n (pc := 51) hx hb dX8_zone_51 rfl (lv_at hl 2 rfl) ?_
        refine lv_iconst (v := nI (3)) (pc := 52) hx hb dX8_zone_52 (by decide) ?_
        refine lv_icmp_ne (tgt := 68) (pc := 53) hx hb dX8_zone_53 (by decide) (fun c53 => ?_) (fun c53 => ?_)
        · skip
          refine lv_bipush (v := (-2)) (pc := 68) hx hb dX8_zone_68 (by decide) ?_
          exact hret _ _ _ _ _ _ hP hD hS rfl rfl dX8_zone_70
        · skip
          exact absurd h2 (by rw [c53]; decide)
      · skip
        exact absurd h2 (by rw [c39]; decide)
    · skip
      exact absurd h2 (by rw [c25]; decide)
  · skip
    exact absurd h2 (by rw [c11]; decide)
set_option maxHeartbeats 4000000 in
set_option maxRecDepth 100000 in
theorem k_X8_zone_3 {l : Launch} {D : va_G} {cI cZ : ClassId} {A : Nat → Prop} {g a : Nat → Nat} {G0 : va_W} {zn : Nat} {tr : Nat} {sc : Nat} {pn : Nat} {mn : Nat} {jn : Nat} {sg : Int32} {sr : Int32} {ss : Int32} {fed : Int32} {pap : Int32} {bar : Int32} {st : Bool} {q1 : Int64} {q2 : Int64} {q3 : Int64} {q4 : Int64} {q5 : Int64} {den : Nat → Int32} {z : Nat} (hD : va_D A G0) (w22 : G0[22]? = some (a 22, .inr (8, [.int (nI (zn)), .int (nI (tr)), .ref (a 23), .ref (a 24), .ref (a 25), .ref (a 26), .ref (a 27), .ref (a 28), .ref (a 29), .int (nI (sc)), .int (sg), .int (sr), .int (ss), .int (fed), .int (pap), .int (bar), .int (gB (st)), .ref (a 30), .ref (a 31), .ref (a 32), .int (nI (pn)), .ref (a 33), .ref (a 34), .ref (a 35), .ref (a 36), .int (nI (mn)), .long (q1), .long (q2), .long (q3), .long (q4), .long (q5), .ref (a 37), .ref (a 38), .ref (a 39), .int (nI (jn)), .ref (a 40), .ref (a 41)]))) (w28 : G0[28]? = some (a 28, .inl (cI, 8000, .inl (den)))) (hz1 : 1 ≤ zn) (hz8 : zn ≤ 8) (hz : z < 8) (hs : sc ≤ 1000) (h1 : gHas (nI z) (nI zn) = true) : gMi l D cI cZ A g yX8_zone wsX8_zone ({ frames := 2, cells := 0, slots := 0, locals := 46 }) [.ref (a 22), .int (nI (z)), .int (nI (3))] G0 (gMLd sc z den) (fun G1 => G1 = G0) := by
  refine gof_i (cc := cX8_zone) (maxL := 3) (by decide) rfl (Nat.le_of_ble_eq_true rfl) hD ?_
  intro p e s m args below meth c Q hx hb hml hts hown hK hN hZ hP hS hret ls hl
  have hown : s.vm.findClass RX8 = some m.cls := hown
  have hl : lv_has ls 3 [(0, .ref (a 22)), (1, .int (nI (z))), (2, .int (nI (3)))] := hl
  obtain ⟨locs, elocs⟩ : ∃ q : List Loc, q = [] := ⟨_, rfl⟩
  rw [← elocs] at hS ⊢
  obtain ⟨H, eH⟩ : ∃ q : Heap, q = s.heap := ⟨_, rfl⟩
  have hP : va_P D vwCl G0 H := eH ▸ hP
  have hS : va_S A s.heap H locs := by rw [eH]; exact hS
  rw [← eH]
  clear elocs eH
  have hiX8 : ∀ w ∈ u_ws RX8 TX8 37, w ∈ wsX8_zone := by decide +kernel
  have hk : ∀ k, k ∉ ([] : List Nat) → G0[k]? = G0[k]? := fun _ _ => rfl
  refine lv_aload_n (pc := 0) hx hb dX8_zone_0 rfl (lv_at hl 0 rfl) ?_
  refine lv_iload_n (pc := 1) hx hb dX8_zone_1 rfl (lv_at hl 1 rfl) ?_
  refine mx_cVi (As := [.int (nI (z))]) (rest := []) (pc := 2) ⟨hx, hb, hml, hown, hts⟩ (k_X8_isZone (a := a) (zn := zn) (tr := tr) (sc := sc) (pn := pn) (mn := mn) (jn := jn) (sg := sg) (sr := sr) (ss := ss) (fed := fed) (pap := pap) (bar := bar) (st := st) (q1 := q1) (q2 := q2) (q3 := q3) (q4 := q4) (q5 := q5) (x := nI (z)) hD w22 hz1 hz8) (cwV 1 hts gX8_zone_X8_isZone rfl rfl rfl (by decide +kernel) ⟨Nat.le_of_ble_eq_true rfl, Nat.le_of_ble_eq_true rfl⟩) 22 rfl rfl w22 hK hN hZ hP hS rfl hl.1 rfl (Nat.le_of_ble_eq_true rfl) dX8_zone_2 ⟨Nat.zero_le _, Nat.zero_le _⟩ (fun G' H locs hP hD hS hB => ?_)
  rw [hB] at hP hD
  clear hB G'
  refine mx_bne (tgt := 10) (pc := 5) hx hb dX8_zone_5 (by decide) (fun c5 => ?_) (fun c5 => absurd (c5.symm.trans h1) (by decide))
  refine lv_iload_n (pc := 10) hx hb dX8_zone_10 rfl (lv_at hl 2 rfl) ?_
  refine lv_if_ne (tgt := 23) (pc := 11) hx hb dX8_zone_11 (by decide) (fun c11 => ?_) (fun c11 => absurd c11 (by decide))
  refine lv_iload_n (pc := 23) hx hb dX8_zone_23 rfl (lv_at hl 2 rfl) ?_
  refine lv_iconst (v := nI (1)) (pc := 24) hx hb dX8_zone_24 (by decide) ?_
  refine mx_cne (tgt := 37) (pc := 25) hx hb (by omega) (by omega) dX8_zone_25 (by decide) (fun c25 => ?_) (fun c25 => absurd c25 (by decide))
  refine lv_iload_n (pc := 37) hx hb dX8_zone_37 rfl (lv_at hl 2 rfl) ?_
  refine lv_iconst (v := nI (2)) (pc := 38) hx hb dX8_zone_38 (by decide) ?_
  refine mx_cne (tgt := 51) (pc := 39) hx hb (by omega) (by omega) dX8_zone_39 (by decide) (fun c39 => ?_) (fun c39 => absurd c39 (by decide))
  refine lv_iload_n (pc := 51) hx hb dX8_zone_51 rfl (lv_at hl 2 rfl) ?_
  refine lv_iconst (v := nI (3)) (pc := 52) hx hb dX8_zone_52 (by decide) ?_
  refine mx_cne (tgt := 68) (pc := 53) hx hb (by omega) (by omega) dX8_zone_53 (by decide) (fun c53 => absurd c53 (by decide)) (fun c53 => ?_)
  refine lv_aload_n (pc := 56) hx hb dX8_zone_56 rfl (lv_at hl 0 rfl) ?_
  refine lv_aload_n (pc := 57) hx hb dX8_zone_57 rfl (lv_at hl 0 rfl) ?_
  refine va_get (ci := 8) (C := RX8) (T := TX8) (N := 37) (pc := 58) hx hb hts hiX8 hown hK hP 22 w22 rfl 9 (by decide) (hts (.fieldLink RX8 81 "InkPressModel" "sheets" "I") (by decide +kernel)) (fun _ h9 => h9) rfl dX8_zone_58 ?_
  refine lv_iload_n (pc := 61) hx hb dX8_zone_61 rfl (lv_at hl 1 rfl) ?_
  refine mx_cVi (As := [.int (nI (sc)), .int (nI (z))]) (rest := []) (pc := 62) ⟨hx, hb, hml, hown, hts⟩ (k_X8_densityOf (a := a) (zn := zn) (tr := tr) (sc := sc) (pn := pn) (mn := mn) (jn := jn) (sg := sg) (sr := sr) (ss := ss) (fed := fed) (pap := pap) (bar := bar) (st := st) (q1 := q1) (q2 := q2) (q3 := q3) (q4 := q4) (q5 := q5) (den := den) (n := sc) (z := z) hD w22 w28 (by omega) (by omega)) (cwV 2 hts gX8_zone_X8_densityOf rfl rfl rfl (by decide +kernel) ⟨Nat.le_of_ble_eq_true rfl, Nat.le_of_ble_eq_true rfl⟩) 22 rfl rfl w22 hK hN hZ hP hS rfl hl.1 rfl (Nat.le_of_ble_eq_true rfl) dX8_zone_62 ⟨Nat.zero_le _, Nat.zero_le _⟩ (fun G' H locs hP hD hS hB => ?_)
  rw [hB] at hP hD
  clear hB G'
  refine lv_goto (tgt := 70) (pc := 65) hx hb dX8_zone_65 (by decide) ?_
  exact hret _ _ _ _ _ _ hP hD hS rfl rfl dX8_zone_70
set_option maxHeartbeats 4000000 in
set_option maxRecDepth 100000 in
theorem k_X8_zone_k {l : Launch} {D : va_G} {cI cZ : ClassId} {A : Nat → Prop} {g a : Nat → Nat} {G0 : va_W} {zn : Nat} {tr : Nat} {sc : Nat} {pn : Nat} {mn : Nat} {jn : Nat} {sg : Int32} {sr : Int32} {ss : Int32} {fed : Int32} {pap : Int32} {bar : Int32} {st : Bool} {q1 : Int64} {q2 : Int64} {q3 : Int64} {q4 : Int64} {q5 : Int64} {ke : Nat → Int32} {cv : Nat → Int32} {tg : Nat → Int32} {z : Nat} {k : Nat} (hD : va_D A G0) (w22 : G0[22]? = some (a 22, .inr (8, [.int (nI (zn)), .int (nI (tr)), .ref (a 23), .ref (a 24), .ref (a 25), .ref (a 26), .ref (a 27), .ref (a 28), .ref (a 29), .int (nI (sc)), .int (sg), .int (sr), .int (ss), .int (fed), .int (pap), .int (bar), .int (gB (st)), .ref (a 30), .ref (a 31), .ref (a 32), .int (nI (pn)), .ref (a 33), .ref (a 34), .ref (a 35), .ref (a 36), .int (nI (mn)), .long (q1), .long (q2), .long (q3), .long (q4), .long (q5), .ref (a 37), .ref (a 38), .ref (a 39), .int (nI (jn)), .ref (a 40), .ref (a 41)]))) (w24 : G0[24]? = some (a 24, .inl (cI, 8, .inl (ke)))) (w25 : G0[25]? = some (a 25, .inl (cI, 8, .inl (cv)))) (w26 : G0[26]? = some (a 26, .inl (cI, 8, .inl (tg)))) (hz1 : 1 ≤ zn) (hz8 : zn ≤ 8) (hz : z < 8) (hk3 : k < 3) (h1 : gHas (nI z) (nI zn) = true) : gMi l D cI cZ A g yX8_zone wsX8_zone ({ frames := 2, cells := 0, slots := 0, locals := 46 }) [.ref (a 22), .int (nI (z)), .int (nI (k))] G0 (gSel k z ke cv tg) (fun G1 => G1 = G0) := by
  refine gof_i (cc := cX8_zone) (maxL := 3) (by decide) rfl (Nat.le_of_ble_eq_true rfl) hD ?_
  intro p e s m args below meth c Q hx hb hml hts hown hK hN hZ hP hS hret ls hl
  have hown : s.vm.findClass RX8 = some m.cls := hown
  have hl : lv_has ls 3 [(0, .ref (a 22)), (1, .int (nI (z))), (2, .int (nI (k)))] := hl
  obtain ⟨locs, elocs⟩ : ∃ q : List Loc, q = [] := ⟨_, rfl⟩
  rw [← elocs] at hS ⊢
  obtain ⟨H, eH⟩ : ∃ q : Heap, q = s.heap := ⟨_, rfl⟩
  have hP : va_P D vwCl G0 H := eH ▸ hP
  have hS : va_S A s.heap H locs := by rw [eH]; exact hS
  rw [← eH]
  clear elocs eH
  have hiX8 : ∀ w ∈ u_ws RX8 TX8 37, w ∈ wsX8_zone := by decide +kernel
  have hk : ∀ k, k ∉ ([] : List Nat) → G0[k]? = G0[k]? := fun _ _ => rfl
  rcases (show k = 0 ∨ k = 1 ∨ k = 2 by omega) with rfl | rfl | rfl
  · skip
    refine lv_aload_n (pc := 0) hx hb dX8_zone_0 rfl (lv_at hl 0 rfl) ?_
    refine lv_iload_n (pc := 1) hx hb dX8_zone_1 rfl (lv_at hl 1 rfl) ?_
    refine mx_cVi (As := [.int (nI (z))]) (rest := []) (pc := 2) ⟨hx, hb, hml, hown, hts⟩ (k_X8_isZone (a := a) (zn := zn) (tr := tr) (sc := sc) (pn := pn) (mn := mn) (jn := jn) (sg := sg) (sr := sr) (ss := ss) (fed := fed) (pap := pap) (bar := bar) (st := st) (q1 := q1) (q2 := q2) (q3 := q3) (q4 := q4) (q5 := q5) (x := nI (z)) hD w22 hz1 hz8) (cwV 1 hts gX8_zone_X8_isZone rfl rfl rfl (by decide +kernel) ⟨Nat.le_of_ble_eq_true rfl, Nat.le_of_ble_eq_true rfl⟩) 22 rfl rfl w22 hK hN hZ hP hS rfl hl.1 rfl (Nat.le_of_ble_eq_true rfl) dX8_zone_2 ⟨Nat.zero_le _, Nat.zero_le _⟩ (fun G' H locs hP hD hS hB => ?_)
    rw [hB] at hP hD
    clear hB G'
    refine mx_bne (tgt := 10) (pc := 5) hx hb dX8_zone_5 (by decide) (fun c5 => ?_) (fun c5 => absurd (c5.symm.trans h1) (by decide))
    refine lv_iload_n (pc := 10) hx hb dX8_zone_10 rfl (lv_at hl 2 rfl) ?_
    refine lv_if_ne (tgt := 23) (pc := 11) hx hb dX8_zone_11 (by decide) (fun c11 => absurd c11 (by decide)) (fun c11 => ?_)
    refine lv_aload_n (pc := 14) hx hb dX8_zone_14 rfl (lv_at hl 0 rfl) ?_
    refine va_get (ci := 8) (C := RX8) (T := TX8) (N := 37) (pc := 15) hx hb hts hiX8 hown hK hP 22 w22 rfl 3 (by decide) (hts (.fieldLink RX8 20 "InkPressModel" "key" "[I") (by decide +kernel)) (fun _ h9 => h9) rfl dX8_zone_15 ?_
    refine lv_iload_n (pc := 18) hx hb dX8_zone_18 rfl (lv_at hl 1 rfl) ?_
    refine mx_iald (pc := 19) hx hb hK hP 24 w24 (z) (by omega) (by decide) dX8_zone_19 ?_
    refine lv_goto (tgt := 70) (pc := 20) hx hb dX8_zone_20 (by decide) ?_
    exact hret _ _ _ _ _ _ hP hD hS rfl rfl dX8_zone_70
  · skip
    refine lv_aload_n (pc := 0) hx hb dX8_zone_0 rfl (lv_at hl 0 rfl) ?_
    refine lv_iload_n (pc := 1) hx hb dX8_zone_1 rfl (lv_at hl 1 rfl) ?_
    refine mx_cVi (As := [.int (nI (z))]) (rest := []) (pc := 2) ⟨hx, hb, hml, hown, hts⟩ (k_X8_isZone (a := a) (zn := zn) (tr := tr) (sc := sc) (pn := pn) (mn := mn) (jn := jn) (sg := sg) (sr := sr) (ss := ss) (fed := fed) (pap := pap) (bar := bar) (st := st) (q1 := q1) (q2 := q2) (q3 := q3) (q4 := q4) (q5 := q5) (x := nI (z)) hD w22 hz1 hz8) (cwV 1 hts gX8_zone_X8_isZone rfl rfl rfl (by decide +kernel) ⟨Nat.le_of_ble_eq_true rfl, Nat.le_of_ble_eq_true rfl⟩) 22 rfl rfl w22 hK hN hZ hP hS rfl hl.1 rfl (Nat.le_of_ble_eq_true rfl) dX8_zone_2 ⟨Nat.zero_le _, Nat.zero_le _⟩ (fun G' H locs hP hD hS hB => ?_)
    rw [hB] at hP hD
    clear hB G'
    refine mx_bne (tgt := 10) (pc := 5) hx hb dX8_zone_5 (by decide) (fun c5 => ?_) (fun c5 => absurd (c5.symm.trans h1) (by decide))
    refine lv_iload_n (pc := 10) hx hb dX8_zone_10 rfl (lv_at hl 2 rfl) ?_
    refine lv_if_ne (tgt := 23) (pc := 11) hx hb dX8_zone_11 (by decide) (fun c11 => ?_) (fun c11 => absurd c11 (by decide))
    refine lv_iload_n (pc := 23) hx hb dX8_zone_23 rfl (lv_at hl 2 rfl) ?_
    refine lv_iconst (v := nI (1)) (pc := 24) hx hb dX8_zone_24 (by decide) ?_
    refine mx_cne (tgt := 37) (pc := 25) hx hb (by omega) (by omega) dX8_zone_25 (by decide) (fun c25 => absurd c25 (by decide)) (fun c25 => ?_)
    refine lv_aload_n (pc := 28) hx hb dX8_zone_28 rfl (lv_at hl 0 rfl) ?_
    refine va_get (ci := 8) (C := RX8) (T := TX8) (N := 37) (pc := 29) hx hb hts hiX8 hown hK hP 22 w22 rfl 4 (by decide) (hts (.fieldLink RX8 23 "InkPressModel" "cover" "[I") (by decide +kernel)) (fun _ h9 => h9) rfl dX8_zone_29 ?_
    refine lv_iload_n (pc := 32) hx hb dX8_zone_32 rfl (lv_at hl 1 rfl) ?_
    refine mx_iald (pc := 33) hx hb hK hP 25 w25 (z) (by omega) (by decide) dX8_zone_33 ?_
    refine lv_goto (tgt := 70) (pc := 34) hx hb dX8_zone_34 (by decide) ?_
    exact hret _ _ _ _ _ _ hP hD hS rfl rfl dX8_zone_70
  · skip
    refine lv_aload_n (pc := 0) hx hb dX8_zone_0 rfl (lv_at hl 0 rfl) ?_
    refine lv_iload_n (pc := 1) hx hb dX8_zone_1 rfl (lv_at hl 1 rfl) ?_
    refine mx_cVi (As := [.int (nI (z))]) (rest := []) (pc := 2) ⟨hx, hb, hml, hown, hts⟩ (k_X8_isZone (a := a) (zn := zn) (tr := tr) (sc := sc) (pn := pn) (mn := mn) (jn := jn) (sg := sg) (sr := sr) (ss := ss) (fed := fed) (pap := pap) (bar := bar) (st := st) (q1 := q1) (q2 := q2) (q3 := q3) (q4 := q4) (q5 := q5) (x := nI (z)) hD w22 hz1 hz8) (cwV 1 hts gX8_zone_X8_isZone rfl rfl rfl (by decide +kernel) ⟨Nat.le_of_ble_eq_true rfl, Nat.le_of_ble_eq_true rfl⟩) 22 rfl rfl w22 hK hN hZ hP hS rfl hl.1 rfl (Nat.le_of_ble_eq_true rfl) dX8_zone_2 ⟨Nat.zero_le _, Nat.zero_le _⟩ (fun G' H locs hP hD hS hB => ?_)
    rw [hB] at hP hD
    clear hB G'
    refine mx_bne (tgt := 10) (pc := 5) hx hb dX8_zone_5 (by decide) (fun c5 => ?_) (fun c5 => absurd (c5.symm.trans h1) (by decide))
    refine lv_iload_n (pc := 10) hx hb dX8_zone_10 rfl (lv_at hl 2 rfl) ?_
    refine lv_if_ne (tgt := 23) (pc := 11) hx hb dX8_zone_11 (by decide) (fun c11 => ?_) (fun c11 => absurd c11 (by decide))
    refine lv_iload_n (pc := 23) hx hb dX8_zone_23 rfl (lv_at hl 2 rfl) ?_
    refine lv_iconst (v := nI (1)) (pc := 24) hx hb dX8_zone_24 (by decide) ?_
    refine mx_cne (tgt := 37) (pc := 25) hx hb (by omega) (by omega) dX8_zone_25 (by decide) (fun c25 => ?_) (fun c25 => absurd c25 (by decide))
    refine lv_iload_n (pc := 37) hx hb dX8_zone_37 rfl (lv_at hl 2 rfl) ?_
    refine lv_iconst (v := nI (2)) (pc := 38) hx hb dX8_zone_38 (by decide) ?_
    refine mx_cne (tgt := 51) (pc := 39) hx hb (by omega) (by omega) dX8_zone_39 (by decide) (fun c39 => absurd c39 (by decide)) (fun c39 => ?_)
    refine lv_aload_n (pc := 42) hx hb dX8_zone_42 rfl (lv_at hl 0 rfl) ?_
    refine va_get (ci := 8) (C := RX8) (T := TX8) (N := 37) (pc := 43) hx hb hts hiX8 hown hK hP 22 w22 rfl 5 (by decide) (hts (.fieldLink RX8 26 "InkPressModel" "target" "[I") (by decide +kernel)) (fun _ h9 => h9) rfl dX8_zone_43 ?_
    refine lv_iload_n (pc := 46) hx hb dX8_zone_46 rfl (lv_at hl 1 rfl) ?_
    refine mx_iald (pc := 47) hx hb hK hP 26 w26 (z) (by omega) (by decide) dX8_zone_47 ?_
    refine lv_goto (tgt := 70) (pc := 48) hx hb dX8_zone_48 (by decide) ?_
    exact hret _ _ _ _ _ _ hP hD hS rfl rfl dX8_zone_70
set_option maxHeartbeats 4000000 in
set_option maxRecDepth 100000 in
theorem k_X8_ink_b {l : Launch} {D : va_G} {cI cZ : ClassId} {A : Nat → Prop} {g a : Nat → Nat} {G0 : va_W} {zn : Nat} {tr : Nat} {sc : Nat} {pn : Nat} {mn : Nat} {jn : Nat} {sg : Int32} {sr : Int32} {ss : Int32} {fed : Int32} {pap : Int32} {bar : Int32} {st : Bool} {q1 : Int64} {q2 : Int64} {q3 : Int64} {q4 : Int64} {q5 : Int64} {x : Int32} {y : Int32} (hD : va_D A G0) (w22 : G0[22]? = some (a 22, .inr (8, [.int (nI (zn)), .int (nI (tr)), .ref (a 23), .ref (a 24), .ref (a 25), .ref (a 26), .ref (a 27), .ref (a 28), .ref (a 29), .int (nI (sc)), .int (sg), .int (sr), .int (ss), .int (fed), .int (pap), .int (bar), .int (gB (st)), .ref (a 30), .ref (a 31), .ref (a 32), .int (nI (pn)), .ref (a 33), .ref (a 34), .ref (a 35), .ref (a 36), .int (nI (mn)), .long (q1), .long (q2), .long (q3), .long (q4), .long (q5), .ref (a 37), .ref (a 38), .ref (a 39), .int (nI (jn)), .ref (a 40), .ref (a 41)]))) (hz1 : 1 ≤ zn) (hz8 : zn ≤ 8) (hr1 : 1 ≤ tr) (hr5 : tr ≤ 5) (hbad : gHas x (nI tr) = false ∨ gHas y (nI zn) = false) : gMi l D cI cZ A g yX8_ink wsX8_ink ({ frames := 2, cells := 0, slots := 0, locals := 46 }) [.ref (a 22), .int (x), .int (y)] G0 ((-1)) (fun G1 => G1 = G0) := by
  refine gof_i (cc := cX8_ink) (maxL := 3) (by decide) rfl (Nat.le_of_ble_eq_true rfl) hD ?_
  intro p e s m args below meth c Q hx hb hml hts hown hK hN hZ hP hS hret ls hl
  have hown : s.vm.findClass RX8 = some m.cls := hown
  have hl : lv_has ls 3 [(0, .ref (a 22)), (1, .int (x)), (2, .int (y))] := hl
  obtain ⟨locs, elocs⟩ : ∃ q : List Loc, q = [] := ⟨_, rfl⟩
  rw [← elocs] at hS ⊢
  obtain ⟨H, eH⟩ : ∃ q : Heap, q = s.heap := ⟨_, rfl⟩
  have hP : va_P D vwCl G0 H := eH ▸ hP
  have hS : va_S A s.heap H locs := by rw [eH]; exact hS
  rw [← eH]
  clear elocs eH
  have hiX8 : ∀ w ∈ u_ws RX8 TX8 37, w ∈ wsX8_ink := by decide +kernel
  have hk : ∀ k, k ∉ ([] : List Nat) → G0[k]? = G0[k]? := fun _ _ => rfl
  refine lv_iload_n (pc := 0) hx hb dX8_ink_0 rfl (lv_at hl 1 rfl) ?_
  refine lv_i2l (v := (x).toInt64) (pc := 1) hx hb dX8_ink_1 rfl ?_
  refine lv_lconst (v := 0) (pc := 2) hx hb dX8_ink_2 (by decide) ?_
  refine lv_aload_n (pc := 3) hx hb dX8_ink_3 rfl (lv_at hl 0 rfl) ?_
  refine va_get (ci := 8) (C := RX8) (T := TX8) (N := 37) (pc := 4) hx hb hts hiX8 hown hK hP 22 w22 rfl 1 (by decide) (hts (.fieldLink RX8 13 "InkPressModel" "rollers" "I") (by decide +kernel)) (fun _ h9 => h9) rfl dX8_ink_4 ?_
  refine lv_iconst (v := nI (1)) (pc := 7) hx hb dX8_ink_7 (by decide) ?_
  refine mx_isub (pc := 8) hx hb hr1 dX8_ink_8 ?_
  refine lv_i2l (v := (nI ((tr) - (1))).toInt64) (pc := 9) hx hb dX8_ink_9 rfl ?_
  refine mx_cSi (As := [.long ((x).toInt64), .long (0), .long ((nI ((tr) - (1))).toInt64)]) (rest := []) (pc := 10) ⟨hx, hb, hml, hown, hts⟩ (k_X8_in (a := a) (v := (x).toInt64) (lo := 0) (hi := (nI ((tr) - (1))).toInt64) hD  ) (va_cwS 3 hts gX8_ink_X8_in rfl rfl rfl (by decide +kernel) ⟨Nat.le_of_ble_eq_true rfl, Nat.le_of_ble_eq_true rfl⟩) hK hN hZ hP hS rfl hl.1 rfl (Nat.le_of_ble_eq_true rfl) dX8_ink_10 ⟨Nat.zero_le _, Nat.zero_le _⟩ (fun G' H locs hP hD hS hB => ?_)
  rw [hB] at hP hD
  clear hB G'
  refine mx_beq (tgt := 38) (pc := 13) hx hb dX8_ink_13 (by decide) (fun c13 => ?_) (fun c13 => ?_)
  · skip
    refine lv_iconst (v := (-1)) (pc := 38) hx hb dX8_ink_38 (by decide) ?_
    exact hret _ _ _ _ _ _ hP hD hS rfl rfl dX8_ink_39
  · skip
    refine lv_aload_n (pc := 16) hx hb dX8_ink_16 rfl (lv_at hl 0 rfl) ?_
    refine lv_iload_n (pc := 17) hx hb dX8_ink_17 rfl (lv_at hl 2 rfl) ?_
    refine mx_cVi (As := [.int (y)]) (rest := []) (pc := 18) ⟨hx, hb, hml, hown, hts⟩ (k_X8_isZone (a := a) (zn := zn) (tr := tr) (sc := sc) (pn := pn) (mn := mn) (jn := jn) (sg := sg) (sr := sr) (ss := ss) (fed := fed) (pap := pap) (bar := bar) (st := st) (q1 := q1) (q2 := q2) (q3 := q3) (q4 := q4) (q5 := q5) (x := y) hD w22 hz1 hz8) (cwV 1 hts gX8_ink_X8_isZone rfl rfl rfl (by decide +kernel) ⟨Nat.le_of_ble_eq_true rfl, Nat.le_of_ble_eq_true rfl⟩) 22 rfl rfl w22 hK hN hZ hP hS rfl hl.1 rfl (Nat.le_of_ble_eq_true rfl) dX8_ink_18 ⟨Nat.zero_le _, Nat.zero_le _⟩ (fun G' H locs hP hD hS hB => ?_)
    rw [hB] at hP hD
    clear hB G'
    refine mx_beq (tgt := 38) (pc := 21) hx hb dX8_ink_21 (by decide) (fun c21 => ?_) (fun c21 => ?_)
    · skip
      refine lv_iconst (v := (-1)) (pc := 38) hx hb dX8_ink_38 (by decide) ?_
      exact hret _ _ _ _ _ _ hP hD hS rfl rfl dX8_ink_39
    · skip
      exact (by rw [gIn_has hr1 (by omega)] at c13; simp [c13, c21] at hbad)
set_option maxHeartbeats 4000000 in
set_option maxRecDepth 100000 in
theorem k_X8_ink_k {l : Launch} {D : va_G} {cI cZ : ClassId} {A : Nat → Prop} {g a : Nat → Nat} {G0 : va_W} {zn : Nat} {tr : Nat} {sc : Nat} {pn : Nat} {mn : Nat} {jn : Nat} {sg : Int32} {sr : Int32} {ss : Int32} {fed : Int32} {pap : Int32} {bar : Int32} {st : Bool} {q1 : Int64} {q2 : Int64} {q3 : Int64} {q4 : Int64} {q5 : Int64} {ink : Nat → Int32} {r : Nat} {z : Nat} (hD : va_D A G0) (w22 : G0[22]? = some (a 22, .inr (8, [.int (nI (zn)), .int (nI (tr)), .ref (a 23), .ref (a 24), .ref (a 25), .ref (a 26), .ref (a 27), .ref (a 28), .ref (a 29), .int (nI (sc)), .int (sg), .int (sr), .int (ss), .int (fed), .int (pap), .int (bar), .int (gB (st)), .ref (a 30), .ref (a 31), .ref (a 32), .int (nI (pn)), .ref (a 33), .ref (a 34), .ref (a 35), .ref (a 36), .int (nI (mn)), .long (q1), .long (q2), .long (q3), .long (q4), .long (q5), .ref (a 37), .ref (a 38), .ref (a 39), .int (nI (jn)), .ref (a 40), .ref (a 41)]))) (w27 : G0[27]? = some (a 27, .inl (cI, 40, .inl (ink)))) (hz1 : 1 ≤ zn) (hz8 : zn ≤ 8) (hr1 : 1 ≤ tr) (hr5 : tr ≤ 5) (hr : r < 5) (hz : z < 8) (h1 : gHas (nI r) (nI tr) = true) (h2 : gHas (nI z) (nI zn) = true) : gMi l D cI cZ A g yX8_ink wsX8_ink ({ frames := 2, cells := 0, slots := 0, locals := 46 }) [.ref (a 22), .int (nI (r)), .int (nI (z))] G0 (ink (8 * r + z)) (fun G1 => G1 = G0) := by
  refine gof_i (cc := cX8_ink) (maxL := 3) (by decide) rfl (Nat.le_of_ble_eq_true rfl) hD ?_
  intro p e s m args below meth c Q hx hb hml hts hown hK hN hZ hP hS hret ls hl
  have hown : s.vm.findClass RX8 = some m.cls := hown
  have hl : lv_has ls 3 [(0, .ref (a 22)), (1, .int (nI (r))), (2, .int (nI (z)))] := hl
  obtain ⟨locs, elocs⟩ : ∃ q : List Loc, q = [] := ⟨_, rfl⟩
  rw [← elocs] at hS ⊢
  obtain ⟨H, eH⟩ : ∃ q : Heap, q = s.heap := ⟨_, rfl⟩
  have hP : va_P D vwCl G0 H := eH ▸ hP
  have hS : va_S A s.heap H locs := by rw [eH]; exact hS
  rw [← eH]
  clear elocs eH
  have hiX8 : ∀ w ∈ u_ws RX8 TX8 37, w ∈ wsX8_ink := by decide +kernel
  have hk : ∀ k, k ∉ ([] : List Nat) → G0[k]? = G0[k]? := fun _ _ => rfl
  refine lv_iload_n (pc := 0) hx hb dX8_ink_0 rfl (lv_at hl 1 rfl) ?_
  refine lv_i2l (v := (nI (r)).toInt64) (pc := 1) hx hb dX8_ink_1 rfl ?_
  refine lv_lconst (v := 0) (pc := 2) hx hb dX8_ink_2 (by decide) ?_
  refine lv_aload_n (pc := 3) hx hb dX8_ink_3 rfl (lv_at hl 0 rfl) ?_
  refine va_get (ci := 8) (C := RX8) (T := TX8) (N := 37) (pc := 4) hx hb hts hiX8 hown hK hP 22 w22 rfl 1 (by decide) (hts (.fieldLink RX8 13 "InkPressModel" "rollers" "I") (by decide +kernel)) (fun _ h9 => h9) rfl dX8_ink_4 ?_
  refine lv_iconst (v := nI (1)) (pc := 7) hx hb dX8_ink_7 (by decide) ?_
  refine mx_isub (pc := 8) hx hb hr1 dX8_ink_8 ?_
  refine lv_i2l (v := (nI ((tr) - (1))).toInt64) (pc := 9) hx hb dX8_ink_9 rfl ?_
  refine mx_cSi (As := [.long ((nI (r)).toInt64), .long (0), .long ((nI ((tr) - (1))).toInt64)]) (rest := []) (pc := 10) ⟨hx, hb, hml, hown, hts⟩ (k_X8_in (a := a) (v := (nI (r)).toInt64) (lo := 0) (hi := (nI ((tr) - (1))).toInt64) hD  ) (va_cwS 3 hts gX8_ink_X8_in rfl rfl rfl (by decide +kernel) ⟨Nat.le_of_ble_eq_true rfl, Nat.le_of_ble_eq_true rfl⟩) hK hN hZ hP hS rfl hl.1 rfl (Nat.le_of_ble_eq_true rfl) dX8_ink_10 ⟨Nat.zero_le _, Nat.zero_le _⟩ (fun G' H locs hP hD hS hB => ?_)
  rw [hB] at hP hD
  clear hB G'
  refine mx_beq (tgt := 38) (pc := 13) hx hb dX8_ink_13 (by decide) (fun c13 => absurd (c13.symm.trans ((gIn_has hr1 (by omega)).trans h1)) (by decide)) (fun c13 => ?_)
  refine lv_aload_n (pc := 16) hx hb dX8_ink_16 rfl (lv_at hl 0 rfl) ?_
  refine lv_iload_n (pc := 17) hx hb dX8_ink_17 rfl (lv_at hl 2 rfl) ?_
  refine mx_cVi (As := [.int (nI (z))]) (rest := []) (pc := 18) ⟨hx, hb, hml, hown, hts⟩ (k_X8_isZone (a := a) (zn := zn) (tr := tr) (sc := sc) (pn := pn) (mn := mn) (jn := jn) (sg := sg) (sr := sr) (ss := ss) (fed := fed) (pap := pap) (bar := bar) (st := st) (q1 := q1) (q2 := q2) (q3 := q3) (q4 := q4) (q5 := q5) (x := nI (z)) hD w22 hz1 hz8) (cwV 1 hts gX8_ink_X8_isZone rfl rfl rfl (by decide +kernel) ⟨Nat.le_of_ble_eq_true rfl, Nat.le_of_ble_eq_true rfl⟩) 22 rfl rfl w22 hK hN hZ hP hS rfl hl.1 rfl (Nat.le_of_ble_eq_true rfl) dX8_ink_18 ⟨Nat.zero_le _, Nat.zero_le _⟩ (fun G' H locs hP hD hS hB => ?_)
  rw [hB] at hP hD
  clear hB G'
  refine mx_beq (tgt := 38) (pc := 21) hx hb dX8_ink_21 (by decide) (fun c21 => absurd (c21.symm.trans h2) (by decide)) (fun c21 => ?_)
  refine lv_aload_n (pc := 24) hx hb dX8_ink_24 rfl (lv_at hl 0 rfl) ?_
  refine va_get (ci := 8) (C := RX8) (T := TX8) (N := 37) (pc := 25) hx hb hts hiX8 hown hK hP 22 w22 rfl 6 (by decide) (hts (.fieldLink RX8 29 "InkPressModel" "ink" "[I") (by decide +kernel)) (fun _ h9 => h9) rfl dX8_ink_25 ?_
  refine lv_bipush (v := nI (8)) (pc := 28) hx hb dX8_ink_28 (by decide) ?_
  refine lv_iload_n (pc := 30) hx hb dX8_ink_30 rfl (lv_at hl 1 rfl) ?_
  refine mx_imul (pc := 31) hx hb dX8_ink_31 ?_
  refine lv_iload_n (pc := 32) hx hb dX8_ink_32 rfl (lv_at hl 2 rfl) ?_
  refine mx_iadd (pc := 33) hx hb dX8_ink_33 ?_
  refine mx_iald (pc := 34) hx hb hK hP 27 w27 ((8) * (r) + z) (by omega) (by decide) dX8_ink_34 ?_
  refine lv_goto (tgt := 39) (pc := 35) hx hb dX8_ink_35 (by decide) ?_
  exact hret _ _ _ _ _ _ hP hD hS rfl rfl dX8_ink_39
set_option maxHeartbeats 4000000 in
set_option maxRecDepth 100000 in
theorem k_X8_steer {l : Launch} {D : va_G} {cI cZ : ClassId} {A : Nat → Prop} {g a : Nat → Nat} {G0 : va_W} {zn : Nat} {tr : Nat} {sc : Nat} {pn : Nat} {mn : Nat} {jn : Nat} {sg : Int32} {sr : Int32} {ss : Int32} {fed : Int32} {pap : Int32} {bar : Int32} {st : Bool} {q1 : Int64} {q2 : Int64} {q3 : Int64} {q4 : Int64} {q5 : Int64} {on : Bool} (hD : va_D A G0) (w22 : G0[22]? = some (a 22, .inr (8, [.int (nI (zn)), .int (nI (tr)), .ref (a 23), .ref (a 24), .ref (a 25), .ref (a 26), .ref (a 27), .ref (a 28), .ref (a 29), .int (nI (sc)), .int (sg), .int (sr), .int (ss), .int (fed), .int (pap), .int (bar), .int (gB (st)), .ref (a 30), .ref (a 31), .ref (a 32), .int (nI (pn)), .ref (a 33), .ref (a 34), .ref (a 35), .ref (a 36), .int (nI (mn)), .long (q1), .long (q2), .long (q3), .long (q4), .long (q5), .ref (a 37), .ref (a 38), .ref (a 39), .int (nI (jn)), .ref (a 40), .ref (a 41)]))) : gMi l D cI cZ A g yX8_steer wsX8_steer ({ frames := 0, cells := 0, slots := 0, locals := 0 }) [.ref (a 22), .int (gB (on))] G0 (gB (st)) (fun G1 => G1[22]? = some (a 22, .inr (8, [.int (nI (zn)), .int (nI (tr)), .ref (a 23), .ref (a 24), .ref (a 25), .ref (a 26), .ref (a 27), .ref (a 28), .ref (a 29), .int (nI (sc)), .int (sg), .int (sr), .int (ss), .int (fed), .int (pap), .int (bar), .int (gB (on)), .ref (a 30), .ref (a 31), .ref (a 32), .int (nI (pn)), .ref (a 33), .ref (a 34), .ref (a 35), .ref (a 36), .int (nI (mn)), .long (q1), .long (q2), .long (q3), .long (q4), .long (q5), .ref (a 37), .ref (a 38), .ref (a 39), .int (nI (jn)), .ref (a 40), .ref (a 41)])) ∧ ∀ k, k ∉ [22] → G1[k]? = G0[k]?) := by
  refine gof_i (cc := cX8_steer) (maxL := 3) (by decide) rfl (Nat.le_of_ble_eq_true rfl) hD ?_
  intro p e s m args below meth c Q hx hb hml hts hown hK hN hZ hP hS hret ls hl
  have hown : s.vm.findClass RX8 = some m.cls := hown
  have hl : lv_has ls 3 [(0, .ref (a 22)), (1, .int (gB (on)))] := hl
  obtain ⟨locs, elocs⟩ : ∃ q : List Loc, q = [] := ⟨_, rfl⟩
  rw [← elocs] at hS ⊢
  obtain ⟨H, eH⟩ : ∃ q : Heap, q = s.heap := ⟨_, rfl⟩
  have hP : va_P D vwCl G0 H := eH ▸ hP
  have hS : va_S A s.heap H locs := by rw [eH]; exact hS
  rw [← eH]
  clear elocs eH
  have hiX8 : ∀ w ∈ u_ws RX8 TX8 37, w ∈ wsX8_steer := by decide +kernel
  have hk : ∀ k, k ∉ [22] → G0[k]? = G0[k]? := fun _ _ => rfl
  refine lv_aload_n (pc := 0) hx hb dX8_steer_0 rfl (lv_at hl 0 rfl) ?_
  refine va_get (ci := 8) (C := RX8) (T := TX8) (N := 37) (pc := 1) hx hb hts hiX8 hown hK hP 22 w22 rfl 16 (by decide) (hts (.fieldLink RX8 99 "InkPressModel" "steers" "Z") (by decide +kernel)) (fun _ h9 => h9) rfl dX8_steer_1 ?_
  refine mx_beq (tgt := 11) (pc := 4) hx hb dX8_steer_4 (by decide) (fun c4 => ?_) (fun c4 => ?_)
  · skip
    refine lv_iconst (v := nI (0)) (pc := 11) hx hb dX8_steer_11 (by decide) ?_
    refine lv_istore_n (lv' := [(2, .int (nI (0))), (0, .ref (a 22)), (1, .int (gB (on)))]) (pc := 12) hx hb dX8_steer_12 rfl hl (by decide) rfl (fun ls hl => ?_)
    refine lv_aload_n (pc := 13) hx hb dX8_steer_13 rfl (lv_at hl 1 rfl) ?_
    refine lv_iload_n (pc := 14) hx hb dX8_steer_14 rfl (lv_at hl 2 rfl) ?_
    refine mx_put (ci := 8) (v := .int (gB (on))) (ty := .boolean) (C := RX8) (T := TX8) (N := 37) (pc := 15) hx hb hts hiX8 tyX8 tyX8_ok nmX8 hown hK hP hD hS 22 w22 rfl 16 (by decide) (hts (.fieldLink RX8 99 "InkPressModel" "steers" "Z") (by decide +kernel)) (fun _ h9 => h9) rfl (by decide +kernel) (gB_nar _) (gB_fits _) (Nat.le_of_ble_eq_true rfl) dX8_steer_15 (fun H locs G hP hD hS w22 ho => ?_)
    have w22 : G[22]? = some (a 22, .inr (8, [.int (nI (zn)), .int (nI (tr)), .ref (a 23), .ref (a 24), .ref (a 25), .ref (a 26), .ref (a 27), .ref (a 28), .ref (a 29), .int (nI (sc)), .int (sg), .int (sr), .int (ss), .int (fed), .int (pap), .int (bar), .int (gB (on)), .ref (a 30), .ref (a 31), .ref (a 32), .int (nI (pn)), .ref (a 33), .ref (a 34), .ref (a 35), .ref (a 36), .int (nI (mn)), .long (q1), .long (q2), .long (q3), .long (q4), .long (q5), .ref (a 37), .ref (a 38), .ref (a 39), .int (nI (jn)), .ref (a 40), .ref (a 41)])) := w22
    have hk := gk_step hk ho (by decide)
    clear ho
    refine lv_iload_n (pc := 18) hx hb dX8_steer_18 rfl (lv_at hl 0 rfl) ?_
    exact hret _ _ _ _ _ _ hP hD hS (by rw [c4]; rfl) ⟨w22, hk⟩ dX8_steer_19
  · skip
    refine lv_iconst (v := nI (1)) (pc := 7) hx hb dX8_steer_7 (by decide) ?_
    refine lv_goto (tgt := 12) (pc := 8) hx hb dX8_steer_8 (by decide) ?_
    refine lv_istore_n (lv' := [(2, .int (nI (1))), (0, .ref (a 22)), (1, .int (gB (on)))]) (pc := 12) hx hb dX8_steer_12 rfl hl (by decide) rfl (fun ls hl => ?_)
    refine lv_aload_n (pc := 13) hx hb dX8_steer_13 rfl (lv_at hl 1 rfl) ?_
    refine lv_iload_n (pc := 14) hx hb dX8_steer_14 rfl (lv_at hl 2 rfl) ?_
    refine mx_put (ci := 8) (v := .int (gB (on))) (ty := .boolean) (C := RX8) (T := TX8) (N := 37) (pc := 15) hx hb hts hiX8 tyX8 tyX8_ok nmX8 hown hK hP hD hS 22 w22 rfl 16 (by decide) (hts (.fieldLink RX8 99 "InkPressModel" "steers" "Z") (by decide +kernel)) (fun _ h9 => h9) rfl (by decide +kernel) (gB_nar _) (gB_fits _) (Nat.le_of_ble_eq_true rfl) dX8_steer_15 (fun H locs G hP hD hS w22 ho => ?_)
    have w22 : G[22]? = some (a 22, .inr (8, [.int (nI (zn)), .int (nI (tr)), .ref (a 23), .ref (a 24), .ref (a 25), .ref (a 26), .ref (a 27), .ref (a 28), .ref (a 29), .int (nI (sc)), .int (sg), .int (sr), .int (ss), .int (fed), .int (pap), .int (bar), .int (gB (on)), .ref (a 30), .ref (a 31), .ref (a 32), .int (nI (pn)), .ref (a 33), .ref (a 34), .ref (a 35), .ref (a 36), .int (nI (mn)), .long (q1), .long (q2), .long (q3), .long (q4), .long (q5), .ref (a 37), .ref (a 38), .ref (a 39), .int (nI (jn)), .ref (a 40), .ref (a 41)])) := w22
    have hk := gk_step hk ho (by decide)
    clear ho
    refine lv_iload_n (pc := 18) hx hb dX8_steer_18 rfl (lv_at hl 0 rfl) ?_
    exact hret _ _ _ _ _ _ hP hD hS (by rw [c4]; rfl) ⟨w22, hk⟩ dX8_steer_19
set_option maxHeartbeats 4000000 in
set_option maxRecDepth 100000 in
theorem k_X8_good_b {l : Launch} {D : va_G} {cI cZ : ClassId} {A : Nat → Prop} {g a : Nat → Nat} {G0 : va_W} {zn : Nat} {tr : Nat} {sc : Nat} {pn : Nat} {mn : Nat} {jn : Nat} {sg : Int32} {sr : Int32} {ss : Int32} {fed : Int32} {pap : Int32} {bar : Int32} {st : Bool} {q1 : Int64} {q2 : Int64} {q3 : Int64} {q4 : Int64} {q5 : Int64} {x : Int32} (hD : va_D A G0) (w22 : G0[22]? = some (a 22, .inr (8, [.int (nI (zn)), .int (nI (tr)), .ref (a 23), .ref (a 24), .ref (a 25), .ref (a 26), .ref (a 27), .ref (a 28), .ref (a 29), .int (nI (sc)), .int (sg), .int (sr), .int (ss), .int (fed), .int (pap), .int (bar), .int (gB (st)), .ref (a 30), .ref (a 31), .ref (a 32), .int (nI (pn)), .ref (a 33), .ref (a 34), .ref (a 35), .ref (a 36), .int (nI (mn)), .long (q1), .long (q2), .long (q3), .long (q4), .long (q5), .ref (a 37), .ref (a 38), .ref (a 39), .int (nI (jn)), .ref (a 40), .ref (a 41)]))) (h1 : gWi x (nI 1) (nI sc) = false) : gMi l D cI cZ A g yX8_good wsX8_good ({ frames := 1, cells := 0, slots := 0, locals := 25 }) [.ref (a 22), .int (x)] G0 ((-1)) (fun G1 => G1 = G0) := by
  refine gof_i (cc := cX8_good) (maxL := 2) (by decide) rfl (Nat.le_of_ble_eq_true rfl) hD ?_
  intro p e s m args below meth c Q hx hb hml hts hown hK hN hZ hP hS hret ls hl
  have hown : s.vm.findClass RX8 = some m.cls := hown
  have hl : lv_has ls 2 [(0, .ref (a 22)), (1, .int (x))] := hl
  obtain ⟨locs, elocs⟩ : ∃ q : List Loc, q = [] := ⟨_, rfl⟩
  rw [← elocs] at hS ⊢
  obtain ⟨H, eH⟩ : ∃ q : Heap, q = s.heap := ⟨_, rfl⟩
  have hP : va_P D vwCl G0 H := eH ▸ hP
  have hS : va_S A s.heap H locs := by rw [eH]; exact hS
  rw [← eH]
  clear elocs eH
  have hiX8 : ∀ w ∈ u_ws RX8 TX8 37, w ∈ wsX8_good := by decide +kernel
  have hk : ∀ k, k ∉ ([] : List Nat) → G0[k]? = G0[k]? := fun _ _ => rfl
  refine lv_iload_n (pc := 0) hx hb dX8_good_0 rfl (lv_at hl 1 rfl) ?_
  refine lv_i2l (v := (x).toInt64) (pc := 1) hx hb dX8_good_1 rfl ?_
  refine lv_lconst (v := 1) (pc := 2) hx hb dX8_good_2 (by decide) ?_
  refine lv_aload_n (pc := 3) hx hb dX8_good_3 rfl (lv_at hl 0 rfl) ?_
  refine va_get (ci := 8) (C := RX8) (T := TX8) (N := 37) (pc := 4) hx hb hts hiX8 hown hK hP 22 w22 rfl 9 (by decide) (hts (.fieldLink RX8 81 "InkPressModel" "sheets" "I") (by decide +kernel)) (fun _ h9 => h9) rfl dX8_good_4 ?_
  refine lv_i2l (v := (nI (sc)).toInt64) (pc := 7) hx hb dX8_good_7 rfl ?_
  refine mx_cSi (As := [.long ((x).toInt64), .long (1), .long ((nI (sc)).toInt64)]) (rest := []) (pc := 8) ⟨hx, hb, hml, hown, hts⟩ (k_X8_in (a := a) (v := (x).toInt64) (lo := 1) (hi := (nI (sc)).toInt64) hD  ) (va_cwS 3 hts gX8_good_X8_in rfl rfl rfl (by decide +kernel) ⟨Nat.le_of_ble_eq_true rfl, Nat.le_of_ble_eq_true rfl⟩) hK hN hZ hP hS rfl hl.1 rfl (Nat.le_of_ble_eq_true rfl) dX8_good_8 ⟨Nat.zero_le _, Nat.zero_le _⟩ (fun G' H locs hP hD hS hB => ?_)
  rw [hB] at hP hD
  clear hB G'
  refine mx_bne (tgt := 18) (pc := 11) hx hb dX8_good_11 (by decide) (fun c11 => absurd (c11.symm.trans ((gIn_w (a := nI 1) (b := nI sc) (by decide) rfl).trans h1)) (by decide)) (fun c11 => ?_)
  refine lv_iconst (v := (-1)) (pc := 14) hx hb dX8_good_14 (by decide) ?_
  refine lv_goto (tgt := 34) (pc := 15) hx hb dX8_good_15 (by decide) ?_
  exact hret _ _ _ _ _ _ hP hD hS rfl rfl dX8_good_34
set_option maxHeartbeats 4000000 in
set_option maxRecDepth 100000 in
theorem k_X8_good_k {l : Launch} {D : va_G} {cI cZ : ClassId} {A : Nat → Prop} {g a : Nat → Nat} {G0 : va_W} {zn : Nat} {tr : Nat} {sc : Nat} {pn : Nat} {mn : Nat} {jn : Nat} {sg : Int32} {sr : Int32} {ss : Int32} {fed : Int32} {pap : Int32} {bar : Int32} {st : Bool} {q1 : Int64} {q2 : Int64} {q3 : Int64} {q4 : Int64} {q5 : Int64} {go : Nat → Bool} {n : Nat} (hD : va_D A G0) (w22 : G0[22]? = some (a 22, .inr (8, [.int (nI (zn)), .int (nI (tr)), .ref (a 23), .ref (a 24), .ref (a 25), .ref (a 26), .ref (a 27), .ref (a 28), .ref (a 29), .int (nI (sc)), .int (sg), .int (sr), .int (ss), .int (fed), .int (pap), .int (bar), .int (gB (st)), .ref (a 30), .ref (a 31), .ref (a 32), .int (nI (pn)), .ref (a 33), .ref (a 34), .ref (a 35), .ref (a 36), .int (nI (mn)), .long (q1), .long (q2), .long (q3), .long (q4), .long (q5), .ref (a 37), .ref (a 38), .ref (a 39), .int (nI (jn)), .ref (a 40), .ref (a 41)]))) (w29 : G0[29]? = some (a 29, .inl (cZ, 1000, .inl (fun j => gB ((go) j))))) (hn1 : 1 ≤ n) (hn2 : n ≤ 1000) (h1 : gWi (nI n) (nI 1) (nI sc) = true) : gMi l D cI cZ A g yX8_good wsX8_good ({ frames := 1, cells := 0, slots := 0, locals := 25 }) [.ref (a 22), .int (nI (n))] G0 (gB (go (n - 1))) (fun G1 => G1 = G0) := by
  refine gof_i (cc := cX8_good) (maxL := 2) (by decide) rfl (Nat.le_of_ble_eq_true rfl) hD ?_
  intro p e s m args below meth c Q hx hb hml hts hown hK hN hZ hP hS hret ls hl
  have hown : s.vm.findClass RX8 = some m.cls := hown
  have hl : lv_has ls 2 [(0, .ref (a 22)), (1, .int (nI (n)))] := hl
  obtain ⟨locs, elocs⟩ : ∃ q : List Loc, q = [] := ⟨_, rfl⟩
  rw [← elocs] at hS ⊢
  obtain ⟨H, eH⟩ : ∃ q : Heap, q = s.heap := ⟨_, rfl⟩
  have hP : va_P D vwCl G0 H := eH ▸ hP
  have hS : va_S A s.heap H locs := by rw [eH]; exact hS
  rw [← eH]
  clear elocs eH
  have hiX8 : ∀ w ∈ u_ws RX8 TX8 37, w ∈ wsX8_good := by decide +kernel
  have hk : ∀ k, k ∉ ([] : List Nat) → G0[k]? = G0[k]? := fun _ _ => rfl
  refine lv_iload_n (pc := 0) hx hb dX8_good_0 rfl (lv_at hl 1 rfl) ?_
  refine lv_i2l (v := (nI (n)).toInt64) (pc := 1) hx hb dX8_good_1 rfl ?_
  refine lv_lconst (v := 1) (pc := 2) hx hb dX8_good_2 (by decide) ?_
  refine lv_aload_n (pc := 3) hx hb dX8_good_3 rfl (lv_at hl 0 rfl) ?_
  refine va_get (ci := 8) (C := RX8) (T := TX8) (N := 37) (pc := 4) hx hb hts hiX8 hown hK hP 22 w22 rfl 9 (by decide) (hts (.fieldLink RX8 81 "InkPressModel" "sheets" "I") (by decide +kernel)) (fun _ h9 => h9) rfl dX8_good_4 ?_
  refine lv_i2l (v := (nI (sc)).toInt64) (pc := 7) hx hb dX8_good_7 rfl ?_
  refine mx_cSi (As := [.long ((nI (n)).toInt64), .long (1), .long ((nI (sc)).toInt64)]) (rest := []) (pc := 8) ⟨hx, hb, hml, hown, hts⟩ (k_X8_in (a := a) (v := (nI (n)).toInt64) (lo := 1) (hi := (nI (sc)).toInt64) hD  ) (va_cwS 3 hts gX8_good_X8_in rfl rfl rfl (by decide +kernel) ⟨Nat.le_of_ble_eq_true rfl, Nat.le_of_ble_eq_true rfl⟩) hK hN hZ hP hS rfl hl.1 rfl (Nat.le_of_ble_eq_true rfl) dX8_good_8 ⟨Nat.zero_le _, Nat.zero_le _⟩ (fun G' H locs hP hD hS hB => ?_)
  rw [hB] at hP hD
  clear hB G'
  refine mx_bne (tgt := 18) (pc := 11) hx hb dX8_good_11 (by decide) (fun c11 => ?_) (fun c11 => absurd (c11.symm.trans ((gIn_w (a := nI 1) (b := nI sc) (by decide) rfl).trans h1)) (by decide))
  refine lv_aload_n (pc := 18) hx hb dX8_good_18 rfl (lv_at hl 0 rfl) ?_
  refine va_get (ci := 8) (C := RX8) (T := TX8) (N := 37) (pc := 19) hx hb hts hiX8 hown hK hP 22 w22 rfl 8 (by decide) (hts (.fieldLink RX8 35 "InkPressModel" "isGood" "[Z") (by decide +kernel)) (fun _ h9 => h9) rfl dX8_good_19 ?_
  refine lv_iload_n (pc := 22) hx hb dX8_good_22 rfl (lv_at hl 1 rfl) ?_
  refine lv_iconst (v := nI (1)) (pc := 23) hx hb dX8_good_23 (by decide) ?_
  refine mx_isub (pc := 24) hx hb hn1 dX8_good_24 ?_
  refine mx_zald (pc := 25) hx hb hK hP 29 w29 ((n) - (1)) (by omega) (by decide) dX8_good_25 ?_
  refine mx_beq (tgt := 33) (pc := 26) hx hb dX8_good_26 (by decide) (fun c26 => ?_) (fun c26 => ?_)
  · skip
    refine lv_iconst (v := nI (0)) (pc := 33) hx hb dX8_good_33 (by decide) ?_
    exact hret _ _ _ _ _ _ hP hD hS (by rw [c26]; rfl) rfl dX8_good_34
  · skip
    refine lv_iconst (v := nI (1)) (pc := 29) hx hb dX8_good_29 (by decide) ?_
    refine lv_goto (tgt := 34) (pc := 30) hx hb dX8_good_30 (by decide) ?_
    exact hret _ _ _ _ _ _ hP hD hS (by rw [c26]; rfl) rfl dX8_good_34
set_option maxHeartbeats 4000000 in
set_option maxRecDepth 100000 in
theorem k_X8_density_b {l : Launch} {D : va_G} {cI cZ : ClassId} {A : Nat → Prop} {g a : Nat → Nat} {G0 : va_W} {zn : Nat} {tr : Nat} {sc : Nat} {pn : Nat} {mn : Nat} {jn : Nat} {sg : Int32} {sr : Int32} {ss : Int32} {fed : Int32} {pap : Int32} {bar : Int32} {st : Bool} {q1 : Int64} {q2 : Int64} {q3 : Int64} {q4 : Int64} {q5 : Int64} {x : Int32} {y : Int32} (hD : va_D A G0) (w22 : G0[22]? = some (a 22, .inr (8, [.int (nI (zn)), .int (nI (tr)), .ref (a 23), .ref (a 24), .ref (a 25), .ref (a 26), .ref (a 27), .ref (a 28), .ref (a 29), .int (nI (sc)), .int (sg), .int (sr), .int (ss), .int (fed), .int (pap), .int (bar), .int (gB (st)), .ref (a 30), .ref (a 31), .ref (a 32), .int (nI (pn)), .ref (a 33), .ref (a 34), .ref (a 35), .ref (a 36), .int (nI (mn)), .long (q1), .long (q2), .long (q3), .long (q4), .long (q5), .ref (a 37), .ref (a 38), .ref (a 39), .int (nI (jn)), .ref (a 40), .ref (a 41)]))) (hz1 : 1 ≤ zn) (hz8 : zn ≤ 8) (hbad : gWi x (nI 1) (nI sc) = false ∨ gHas y (nI zn) = false) : gMi l D cI cZ A g yX8_density wsX8_density ({ frames := 2, cells := 0, slots := 0, locals := 46 }) [.ref (a 22), .int (x), .int (y)] G0 ((-1)) (fun G1 => G1 = G0) := by
  refine gof_i (cc := cX8_density) (maxL := 3) (by decide) rfl (Nat.le_of_ble_eq_true rfl) hD ?_
  intro p e s m args below meth c Q hx hb hml hts hown hK hN hZ hP hS hret ls hl
  have hown : s.vm.findClass RX8 = some m.cls := hown
  have hl : lv_has ls 3 [(0, .ref (a 22)), (1, .int (x)), (2, .int (y))] := hl
  obtain ⟨locs, elocs⟩ : ∃ q : List Loc, q = [] := ⟨_, rfl⟩
  rw [← elocs] at hS ⊢
  obtain ⟨H, eH⟩ : ∃ q : Heap, q = s.heap := ⟨_, rfl⟩
  have hP : va_P D vwCl G0 H := eH ▸ hP
  have hS : va_S A s.heap H locs := by rw [eH]; exact hS
  rw [← eH]
  clear elocs eH
  have hiX8 : ∀ w ∈ u_ws RX8 TX8 37, w ∈ wsX8_density := by decide +kernel
  have hk : ∀ k, k ∉ ([] : List Nat) → G0[k]? = G0[k]? := fun _ _ => rfl
  refine lv_iload_n (pc := 0) hx hb dX8_density_0 rfl (lv_at hl 1 rfl) ?_
  refine lv_i2l (v := (x).toInt64) (pc := 1) hx hb dX8_density_1 rfl ?_
  refine lv_lconst (v := 1) (pc := 2) hx hb dX8_density_2 (by decide) ?_
  refine lv_aload_n (pc := 3) hx hb dX8_density_3 rfl (lv_at hl 0 rfl) ?_
  refine va_get (ci := 8) (C := RX8) (T := TX8) (N := 37) (pc := 4) hx hb hts hiX8 hown hK hP 22 w22 rfl 9 (by decide) (hts (.fieldLink RX8 81 "InkPressModel" "sheets" "I") (by decide +kernel)) (fun _ h9 => h9) rfl dX8_density_4 ?_
  refine lv_i2l (v := (nI (sc)).toInt64) (pc := 7) hx hb dX8_density_7 rfl ?_
  refine mx_cSi (As := [.long ((x).toInt64), .long (1), .long ((nI (sc)).toInt64)]) (rest := []) (pc := 8) ⟨hx, hb, hml, hown, hts⟩ (k_X8_in (a := a) (v := (x).toInt64) (lo := 1) (hi := (nI (sc)).toInt64) hD  ) (va_cwS 3 hts gX8_density_X8_in rfl rfl rfl (by decide +kernel) ⟨Nat.le_of_ble_eq_true rfl, Nat.le_of_ble_eq_true rfl⟩) hK hN hZ hP hS rfl hl.1 rfl (Nat.le_of_ble_eq_true rfl) dX8_density_8 ⟨Nat.zero_le _, Nat.zero_le _⟩ (fun G' H locs hP hD hS hB => ?_)
  rw [hB] at hP hD
  clear hB G'
  refine mx_beq (tgt := 31) (pc := 11) hx hb dX8_density_11 (by decide) (fun c11 => ?_) (fun c11 => ?_)
  · skip
    refine lv_iconst (v := (-1)) (pc := 31) hx hb dX8_density_31 (by decide) ?_
    exact hret _ _ _ _ _ _ hP hD hS rfl rfl dX8_density_32
  · skip
    refine lv_aload_n (pc := 14) hx hb dX8_density_14 rfl (lv_at hl 0 rfl) ?_
    refine lv_iload_n (pc := 15) hx hb dX8_density_15 rfl (lv_at hl 2 rfl) ?_
    refine mx_cVi (As := [.int (y)]) (rest := []) (pc := 16) ⟨hx, hb, hml, hown, hts⟩ (k_X8_isZone (a := a) (zn := zn) (tr := tr) (sc := sc) (pn := pn) (mn := mn) (jn := jn) (sg := sg) (sr := sr) (ss := ss) (fed := fed) (pap := pap) (bar := bar) (st := st) (q1 := q1) (q2 := q2) (q3 := q3) (q4 := q4) (q5 := q5) (x := y) hD w22 hz1 hz8) (cwV 1 hts gX8_density_X8_isZone rfl rfl rfl (by decide +kernel) ⟨Nat.le_of_ble_eq_true rfl, Nat.le_of_ble_eq_true rfl⟩) 22 rfl rfl w22 hK hN hZ hP hS rfl hl.1 rfl (Nat.le_of_ble_eq_true rfl) dX8_density_16 ⟨Nat.zero_le _, Nat.zero_le _⟩ (fun G' H locs hP hD hS hB => ?_)
    rw [hB] at hP hD
    clear hB G'
    refine mx_beq (tgt := 31) (pc := 19) hx hb dX8_density_19 (by decide) (fun c19 => ?_) (fun c19 => ?_)
    · skip
      refine lv_iconst (v := (-1)) (pc := 31) hx hb dX8_density_31 (by decide) ?_
      exact hret _ _ _ _ _ _ hP hD hS rfl rfl dX8_density_32
    · skip
      exact (by rw [gIn_w (a := nI 1) (b := nI sc) (by decide) rfl] at c11; simp [c11, c19] at hbad)
set_option maxHeartbeats 4000000 in
set_option maxRecDepth 100000 in
theorem k_X8_density_k {l : Launch} {D : va_G} {cI cZ : ClassId} {A : Nat → Prop} {g a : Nat → Nat} {G0 : va_W} {zn : Nat} {tr : Nat} {sc : Nat} {pn : Nat} {mn : Nat} {jn : Nat} {sg : Int32} {sr : Int32} {ss : Int32} {fed : Int32} {pap : Int32} {bar : Int32} {st : Bool} {q1 : Int64} {q2 : Int64} {q3 : Int64} {q4 : Int64} {q5 : Int64} {den : Nat → Int32} {n : Nat} {z : Nat} (hD : va_D A G0) (w22 : G0[22]? = some (a 22, .inr (8, [.int (nI (zn)), .int (nI (tr)), .ref (a 23), .ref (a 24), .ref (a 25), .ref (a 26), .ref (a 27), .ref (a 28), .ref (a 29), .int (nI (sc)), .int (sg), .int (sr), .int (ss), .int (fed), .int (pap), .int (bar), .int (gB (st)), .ref (a 30), .ref (a 31), .ref (a 32), .int (nI (pn)), .ref (a 33), .ref (a 34), .ref (a 35), .ref (a 36), .int (nI (mn)), .long (q1), .long (q2), .long (q3), .long (q4), .long (q5), .ref (a 37), .ref (a 38), .ref (a 39), .int (nI (jn)), .ref (a 40), .ref (a 41)]))) (w28 : G0[28]? = some (a 28, .inl (cI, 8000, .inl (den)))) (hz1 : 1 ≤ zn) (hz8 : zn ≤ 8) (hn1 : 1 ≤ n) (hn2 : n ≤ 1000) (hz : z < 8) (h1 : gWi (nI n) (nI 1) (nI sc) = true) (h2 : gHas (nI z) (nI zn) = true) : gMi l D cI cZ A g yX8_density wsX8_density ({ frames := 2, cells := 0, slots := 0, locals := 46 }) [.ref (a 22), .int (nI (n)), .int (nI (z))] G0 (gMLd n z den) (fun G1 => G1 = G0) := by
  refine gof_i (cc := cX8_density) (maxL := 3) (by decide) rfl (Nat.le_of_ble_eq_true rfl) hD ?_
  intro p e s m args below meth c Q hx hb hml hts hown hK hN hZ hP hS hret ls hl
  have hown : s.vm.findClass RX8 = some m.cls := hown
  have hl : lv_has ls 3 [(0, .ref (a 22)), (1, .int (nI (n))), (2, .int (nI (z)))] := hl
  obtain ⟨locs, elocs⟩ : ∃ q : List Loc, q = [] := ⟨_, rfl⟩
  rw [← elocs] at hS ⊢
  obtain ⟨H, eH⟩ : ∃ q : Heap, q = s.heap := ⟨_, rfl⟩
  have hP : va_P D vwCl G0 H := eH ▸ hP
  have hS : va_S A s.heap H locs := by rw [eH]; exact hS
  rw [← eH]
  clear elocs eH
  have hiX8 : ∀ w ∈ u_ws RX8 TX8 37, w ∈ wsX8_density := by decide +kernel
  have hk : ∀ k, k ∉ ([] : List Nat) → G0[k]? = G0[k]? := fun _ _ => rfl
  refine lv_iload_n (pc := 0) hx hb dX8_density_0 rfl (lv_at hl 1 rfl) ?_
  refine lv_i2l (v := (nI (n)).toInt64) (pc := 1) hx hb dX8_density_1 rfl ?_
  refine lv_lconst (v := 1) (pc := 2) hx hb dX8_density_2 (by decide) ?_
  refine lv_aload_n (pc := 3) hx hb dX8_density_3 rfl (lv_at hl 0 rfl) ?_
  refine va_get (ci := 8) (C := RX8) (T := TX8) (N := 37) (pc := 4) hx hb hts hiX8 hown hK hP 22 w22 rfl 9 (by decide) (hts (.fieldLink RX8 81 "InkPressModel" "sheets" "I") (by decide +kernel)) (fun _ h9 => h9) rfl dX8_density_4 ?_
  refine lv_i2l (v := (nI (sc)).toInt64) (pc := 7) hx hb dX8_density_7 rfl ?_
  refine mx_cSi (As := [.long ((nI (n)).toInt64), .long (1), .long ((nI (sc)).toInt64)]) (rest := []) (pc := 8) ⟨hx, hb, hml, hown, hts⟩ (k_X8_in (a := a) (v := (nI (n)).toInt64) (lo := 1) (hi := (nI (sc)).toInt64) hD  ) (va_cwS 3 hts gX8_density_X8_in rfl rfl rfl (by decide +kernel) ⟨Nat.le_of_ble_eq_true rfl, Nat.le_of_ble_eq_true rfl⟩) hK hN hZ hP hS rfl hl.1 rfl (Nat.le_of_ble_eq_true rfl) dX8_density_8 ⟨Nat.zero_le _, Nat.zero_le _⟩ (fun G' H locs hP hD hS hB => ?_)
  rw [hB] at hP hD
  clear hB G'
  refine mx_beq (tgt := 31) (pc := 11) hx hb dX8_density_11 (by decide) (fun c11 => absurd (c11.symm.trans ((gIn_w (a := nI 1) (b := nI sc) (by decide) rfl).trans h1)) (by decide)) (fun c11 => ?_)
  refine lv_aload_n (pc := 14) hx hb dX8_density_14 rfl (lv_at hl 0 rfl) ?_
  refine lv_iload_n (pc := 15) hx hb dX8_density_15 rfl (lv_at hl 2 rfl) ?_
  refine mx_cVi (As := [.int (nI (z))]) (rest := []) (pc := 16) ⟨hx, hb, hml, hown, hts⟩ (k_X8_isZone (a := a) (zn := zn) (tr := tr) (sc := sc) (pn := pn) (mn := mn) (jn := jn) (sg := sg) (sr := sr) (ss := ss) (fed := fed) (pap := pap) (bar := bar) (st := st) (q1 := q1) (q2 := q2) (q3 := q3) (q4 := q4) (q5 := q5) (x := nI (z)) hD w22 hz1 hz8) (cwV 1 hts gX8_density_X8_isZone rfl rfl rfl (by decide +kernel) ⟨Nat.le_of_ble_eq_true rfl, Nat.le_of_ble_eq_true rfl⟩) 22 rfl rfl w22 hK hN hZ hP hS rfl hl.1 rfl (Nat.le_of_ble_eq_true rfl) dX8_density_16 ⟨Nat.zero_le _, Nat.zero_le _⟩ (fun G' H locs hP hD hS hB => ?_)
  rw [hB] at hP hD
  clear hB G'
  refine mx_beq (tgt := 31) (pc := 19) hx hb dX8_density_19 (by decide) (fun c19 => absurd (c19.symm.trans h2) (by decide)) (fun c19 => ?_)
  refine lv_aload_n (pc := 22) hx hb dX8_density_22 rfl (lv_at hl 0 rfl) ?_
  refine lv_iload_n (pc := 23) hx hb dX8_density_23 rfl (lv_at hl 1 rfl) ?_
  refine lv_iload_n (pc := 24) hx hb dX8_density_24 rfl (lv_at hl 2 rfl) ?_
  refine mx_cVi (As := [.int (nI (n)), .int (nI (z))]) (rest := []) (pc := 25) ⟨hx, hb, hml, hown, hts⟩ (k_X8_densityOf (a := a) (zn := zn) (tr := tr) (sc := sc) (pn := pn) (mn := mn) (jn := jn) (sg := sg) (sr := sr) (ss := ss) (fed := fed) (pap := pap) (bar := bar) (st := st) (q1 := q1) (q2 := q2) (q3 := q3) (q4 := q4) (q5 := q5) (den := den) (n := n) (z := z) hD w22 w28 (by omega) (by omega)) (cwV 2 hts gX8_density_X8_densityOf rfl rfl rfl (by decide +kernel) ⟨Nat.le_of_ble_eq_true rfl, Nat.le_of_ble_eq_true rfl⟩) 22 rfl rfl w22 hK hN hZ hP hS rfl hl.1 rfl (Nat.le_of_ble_eq_true rfl) dX8_density_25 ⟨Nat.zero_le _, Nat.zero_le _⟩ (fun G' H locs hP hD hS hB => ?_)
  rw [hB] at hP hD
  clear hB G'
  refine lv_goto (tgt := 32) (pc := 28) hx hb dX8_density_28 (by decide) ?_
  exact hret _ _ _ _ _ _ hP hD hS rfl rfl dX8_density_32
set_option maxHeartbeats 4000000 in
set_option maxRecDepth 100000 in
theorem k_X8_past_b {l : Launch} {D : va_G} {cI cZ : ClassId} {A : Nat → Prop} {g a : Nat → Nat} {G0 : va_W} {zn : Nat} {tr : Nat} {sc : Nat} {pn : Nat} {mn : Nat} {jn : Nat} {sg : Int32} {sr : Int32} {ss : Int32} {fed : Int32} {pap : Int32} {bar : Int32} {st : Bool} {q1 : Int64} {q2 : Int64} {q3 : Int64} {q4 : Int64} {q5 : Int64} {x : Int32} {y : Int32} (hD : va_D A G0) (w22 : G0[22]? = some (a 22, .inr (8, [.int (nI (zn)), .int (nI (tr)), .ref (a 23), .ref (a 24), .ref (a 25), .ref (a 26), .ref (a 27), .ref (a 28), .ref (a 29), .int (nI (sc)), .int (sg), .int (sr), .int (ss), .int (fed), .int (pap), .int (bar), .int (gB (st)), .ref (a 30), .ref (a 31), .ref (a 32), .int (nI (pn)), .ref (a 33), .ref (a 34), .ref (a 35), .ref (a 36), .int (nI (mn)), .long (q1), .long (q2), .long (q3), .long (q4), .long (q5), .ref (a 37), .ref (a 38), .ref (a 39), .int (nI (jn)), .ref (a 40), .ref (a 41)]))) (hbad : gWi x (nI 0) (nI 100) = false ∨ gWi y (nI 0) (nI 100) = false) : gMi l D cI cZ A g yX8_past wsX8_past ({ frames := 1, cells := 0, slots := 0, locals := 25 }) [.ref (a 22), .int (x), .int (y)] G0 ((-2)) (fun G1 => G1 = G0) := by
  refine gof_i (cc := cX8_past) (maxL := 3) (by decide) rfl (Nat.le_of_ble_eq_true rfl) hD ?_
  intro p e s m args below meth c Q hx hb hml hts hown hK hN hZ hP hS hret ls hl
  have hown : s.vm.findClass RX8 = some m.cls := hown
  have hl : lv_has ls 3 [(0, .ref (a 22)), (1, .int (x)), (2, .int (y))] := hl
  obtain ⟨locs, elocs⟩ : ∃ q : List Loc, q = [] := ⟨_, rfl⟩
  rw [← elocs] at hS ⊢
  obtain ⟨H, eH⟩ : ∃ q : Heap, q = s.heap := ⟨_, rfl⟩
  have hP : va_P D vwCl G0 H := eH ▸ hP
  have hS : va_S A s.heap H locs := by rw [eH]; exact hS
  rw [← eH]
  clear elocs eH
  have hk : ∀ k, k ∉ ([] : List Nat) → G0[k]? = G0[k]? := fun _ _ => rfl
  refine lv_iload_n (pc := 0) hx hb dX8_past_0 rfl (lv_at hl 1 rfl) ?_
  refine lv_i2l (v := (x).toInt64) (pc := 1) hx hb dX8_past_1 rfl ?_
  refine lv_lconst (v := 0) (pc := 2) hx hb dX8_past_2 (by decide) ?_
  refine lv_ldc2 (own := RX8) (v := (100)) (pc := 3) hx hb hown (hts (.constantLong RX8 125 (100)) (by decide +kernel)) dX8_past_3 ?_
  refine mx_cSi (As := [.long ((x).toInt64), .long (0), .long ((100))]) (rest := []) (pc := 6) ⟨hx, hb, hml, hown, hts⟩ (k_X8_in (a := a) (v := (x).toInt64) (lo := 0) (hi := (100)) hD  ) (va_cwS 3 hts gX8_past_X8_in rfl rfl rfl (by decide +kernel) ⟨Nat.le_of_ble_eq_true rfl, Nat.le_of_ble_eq_true rfl⟩) hK hN hZ hP hS rfl hl.1 rfl (Nat.le_of_ble_eq_true rfl) dX8_past_6 ⟨Nat.zero_le _, Nat.zero_le _⟩ (fun G' H locs hP hD hS hB => ?_)
  rw [hB] at hP hD
  clear hB G'
  refine mx_beq (tgt := 24) (pc := 9) hx hb dX8_past_9 (by decide) (fun c9 => ?_) (fun c9 => ?_)
  · skip
    refine lv_bipush (v := (-2)) (pc := 24) hx hb dX8_past_24 (by decide) ?_
    exact hret _ _ _ _ _ _ hP hD hS rfl rfl dX8_past_26
  · skip
    refine lv_iload_n (pc := 12) hx hb dX8_past_12 rfl (lv_at hl 2 rfl) ?_
    refine lv_i2l (v := (y).toInt64) (pc := 13) hx hb dX8_past_13 rfl ?_
    refine lv_lconst (v := 0) (pc := 14) hx hb dX8_past_14 (by decide) ?_
    refine lv_ldc2 (own := RX8) (v := (100)) (pc := 15) hx hb hown (hts (.constantLong RX8 125 (100)) (by decide +kernel)) dX8_past_15 ?_
    refine mx_cSi (As := [.long ((y).toInt64), .long (0), .long ((100))]) (rest := []) (pc := 18) ⟨hx, hb, hml, hown, hts⟩ (k_X8_in (a := a) (v := (y).toInt64) (lo := 0) (hi := (100)) hD  ) (va_cwS 3 hts gX8_past_X8_in rfl rfl rfl (by decide +kernel) ⟨Nat.le_of_ble_eq_true rfl, Nat.le_of_ble_eq_true rfl⟩) hK hN hZ hP hS rfl hl.1 rfl (Nat.le_of_ble_eq_true rfl) dX8_past_18 ⟨Nat.zero_le _, Nat.zero_le _⟩ (fun G' H locs hP hD hS hB => ?_)
    rw [hB] at hP hD
    clear hB G'
    refine mx_bne (tgt := 27) (pc := 21) hx hb dX8_past_21 (by decide) (fun c21 => ?_) (fun c21 => ?_)
    · skip
      exact (by rw [gIn_w (a := nI 0) (b := nI 100) (by decide) (by decide)] at c9 c21; simp [c9, c21] at hbad)
    · skip
      refine lv_bipush (v := (-2)) (pc := 24) hx hb dX8_past_24 (by decide) ?_
      exact hret _ _ _ _ _ _ hP hD hS rfl rfl dX8_past_26
set_option maxHeartbeats 4000000 in
set_option maxRecDepth 100000 in
theorem k_X8_past_c {l : Launch} {D : va_G} {cI cZ : ClassId} {A : Nat → Prop} {g a : Nat → Nat} {G0 : va_W} {zn : Nat} {tr : Nat} {sc : Nat} {pn : Nat} {mn : Nat} {jn : Nat} {sg : Int32} {sr : Int32} {ss : Int32} {fed : Int32} {pap : Int32} {bar : Int32} {st : Bool} {q1 : Int64} {q2 : Int64} {q3 : Int64} {q4 : Int64} {q5 : Int64} {x : Int32} {y : Int32} (hD : va_D A G0) (w22 : G0[22]? = some (a 22, .inr (8, [.int (nI (zn)), .int (nI (tr)), .ref (a 23), .ref (a 24), .ref (a 25), .ref (a 26), .ref (a 27), .ref (a 28), .ref (a 29), .int (nI (sc)), .int (sg), .int (sr), .int (ss), .int (fed), .int (pap), .int (bar), .int (gB (st)), .ref (a 30), .ref (a 31), .ref (a 32), .int (nI (pn)), .ref (a 33), .ref (a 34), .ref (a 35), .ref (a 36), .int (nI (mn)), .long (q1), .long (q2), .long (q3), .long (q4), .long (q5), .ref (a 37), .ref (a 38), .ref (a 39), .int (nI (jn)), .ref (a 40), .ref (a 41)]))) (hp : pn = 30) (h1 : gWi x (nI 0) (nI 100) = true) (h2 : gWi y (nI 0) (nI 100) = true) : gMi l D cI cZ A g yX8_past wsX8_past ({ frames := 1, cells := 0, slots := 0, locals := 25 }) [.ref (a 22), .int (x), .int (y)] G0 ((-4)) (fun G1 => G1 = G0) := by
  refine gof_i (cc := cX8_past) (maxL := 3) (by decide) rfl (Nat.le_of_ble_eq_true rfl) hD ?_
  intro p e s m args below meth c Q hx hb hml hts hown hK hN hZ hP hS hret ls hl
  have hown : s.vm.findClass RX8 = some m.cls := hown
  have hl : lv_has ls 3 [(0, .ref (a 22)), (1, .int (x)), (2, .int (y))] := hl
  obtain ⟨locs, elocs⟩ : ∃ q : List Loc, q = [] := ⟨_, rfl⟩
  rw [← elocs] at hS ⊢
  obtain ⟨H, eH⟩ : ∃ q : Heap, q = s.heap := ⟨_, rfl⟩
  have hP : va_P D vwCl G0 H := eH ▸ hP
  have hS : va_S A s.heap H locs := by rw [eH]; exact hS
  rw [← eH]
  clear elocs eH
  have hiX8 : ∀ w ∈ u_ws RX8 TX8 37, w ∈ wsX8_past := by decide +kernel
  have hk : ∀ k, k ∉ ([] : List Nat) → G0[k]? = G0[k]? := fun _ _ => rfl
  refine lv_iload_n (pc := 0) hx hb dX8_past_0 rfl (lv_at hl 1 rfl) ?_
  refine lv_i2l (v := (x).toInt64) (pc := 1) hx hb dX8_past_1 rfl ?_
  refine lv_lconst (v := 0) (pc := 2) hx hb dX8_past_2 (by decide) ?_
  refine lv_ldc2 (own := RX8) (v := (100)) (pc := 3) hx hb hown (hts (.constantLong RX8 125 (100)) (by decide +kernel)) dX8_past_3 ?_
  refine mx_cSi (As := [.long ((x).toInt64), .long (0), .long ((100))]) (rest := []) (pc := 6) ⟨hx, hb, hml, hown, hts⟩ (k_X8_in (a := a) (v := (x).toInt64) (lo := 0) (hi := (100)) hD  ) (va_cwS 3 hts gX8_past_X8_in rfl rfl rfl (by decide +kernel) ⟨Nat.le_of_ble_eq_true rfl, Nat.le_of_ble_eq_true rfl⟩) hK hN hZ hP hS rfl hl.1 rfl (Nat.le_of_ble_eq_true rfl) dX8_past_6 ⟨Nat.zero_le _, Nat.zero_le _⟩ (fun G' H locs hP hD hS hB => ?_)
  rw [hB] at hP hD
  clear hB G'
  refine mx_beq (tgt := 24) (pc := 9) hx hb dX8_past_9 (by decide) (fun c9 => absurd (c9.symm.trans ((gIn_w (a := nI 0) (b := nI 100) (by decide) (by decide)).trans h1)) (by decide)) (fun c9 => ?_)
  refine lv_iload_n (pc := 12) hx hb dX8_past_12 rfl (lv_at hl 2 rfl) ?_
  refine lv_i2l (v := (y).toInt64) (pc := 13) hx hb dX8_past_13 rfl ?_
  refine lv_lconst (v := 0) (pc := 14) hx hb dX8_past_14 (by decide) ?_
  refine lv_ldc2 (own := RX8) (v := (100)) (pc := 15) hx hb hown (hts (.constantLong RX8 125 (100)) (by decide +kernel)) dX8_past_15 ?_
  refine mx_cSi (As := [.long ((y).toInt64), .long (0), .long ((100))]) (rest := []) (pc := 18) ⟨hx, hb, hml, hown, hts⟩ (k_X8_in (a := a) (v := (y).toInt64) (lo := 0) (hi := (100)) hD  ) (va_cwS 3 hts gX8_past_X8_in rfl rfl rfl (by decide +kernel) ⟨Nat.le_of_ble_eq_true rfl, Nat.le_of_ble_eq_true rfl⟩) hK hN hZ hP hS rfl hl.1 rfl (Nat.le_of_ble_eq_true rfl) dX8_past_18 ⟨Nat.zero_le _, Nat.zero_le _⟩ (fun G' H locs hP hD hS hB => ?_)
  rw [hB] at hP hD
  clear hB G'
  refine mx_bne (tgt := 27) (pc := 21) hx hb dX8_past_21 (by decide) (fun c21 => ?_) (fun c21 => absurd (c21.symm.trans ((gIn_w (a := nI 0) (b := nI 100) (by decide) (by decide)).trans h2)) (by decide))
  refine lv_aload_n (pc := 27) hx hb dX8_past_27 rfl (lv_at hl 0 rfl) ?_
  refine va_get (ci := 8) (C := RX8) (T := TX8) (N := 37) (pc := 28) hx hb hts hiX8 hown hK hP 22 w22 rfl 20 (by decide) (hts (.fieldLink RX8 149 "InkPressModel" "pastMany" "I") (by decide +kernel)) (fun _ h9 => h9) rfl dX8_past_28 ?_
  refine lv_bipush (v := nI (30)) (pc := 31) hx hb dX8_past_31 (by decide) ?_
  refine mx_cne (tgt := 39) (pc := 33) hx hb (by omega) (by omega) dX8_past_33 (by decide) (fun c33 => absurd hp c33) (fun c33 => ?_)
  refine lv_bipush (v := (-4)) (pc := 36) hx hb dX8_past_36 (by decide) ?_
  exact hret _ _ _ _ _ _ hP hD hS rfl rfl dX8_past_38
set_option maxHeartbeats 4000000 in
set_option maxRecDepth 100000 in
theorem k_X8_past_k {l : Launch} {D : va_G} {cI cZ : ClassId} {A : Nat → Prop} {g a : Nat → Nat} {G0 : va_W} {zn : Nat} {tr : Nat} {sc : Nat} {pn : Nat} {mn : Nat} {jn : Nat} {sg : Int32} {sr : Int32} {ss : Int32} {fed : Int32} {pap : Int32} {bar : Int32} {st : Bool} {q1 : Int64} {q2 : Int64} {q3 : Int64} {q4 : Int64} {q5 : Int64} {pc_ : Nat → Int32} {pk_ : Nat → Int32} {x : Int32} {y : Int32} (hD : va_D A G0) (w22 : G0[22]? = some (a 22, .inr (8, [.int (nI (zn)), .int (nI (tr)), .ref (a 23), .ref (a 24), .ref (a 25), .ref (a 26), .ref (a 27), .ref (a 28), .ref (a 29), .int (nI (sc)), .int (sg), .int (sr), .int (ss), .int (fed), .int (pap), .int (bar), .int (gB (st)), .ref (a 30), .ref (a 31), .ref (a 32), .int (nI (pn)), .ref (a 33), .ref (a 34), .ref (a 35), .ref (a 36), .int (nI (mn)), .long (q1), .long (q2), .long (q3), .long (q4), .long (q5), .ref (a 37), .ref (a 38), .ref (a 39), .int (nI (jn)), .ref (a 40), .ref (a 41)]))) (w31 : G0[31]? = some (a 31, .inl (cI, 30, .inl (pc_)))) (w32 : G0[32]? = some (a 32, .inl (cI, 30, .inl (pk_)))) (hp : pn < 30) (h1 : gWi x (nI 0) (nI 100) = true) (h2 : gWi y (nI 0) (nI 100) = true) : gMi l D cI cZ A g yX8_past wsX8_past ({ frames := 1, cells := 0, slots := 0, locals := 25 }) [.ref (a 22), .int (x), .int (y)] G0 (nI (pn + 1)) (fun G1 => G1[22]? = some (a 22, .inr (8, [.int (nI (zn)), .int (nI (tr)), .ref (a 23), .ref (a 24), .ref (a 25), .ref (a 26), .ref (a 27), .ref (a 28), .ref (a 29), .int (nI (sc)), .int (sg), .int (sr), .int (ss), .int (fed), .int (pap), .int (bar), .int (gB (st)), .ref (a 30), .ref (a 31), .ref (a 32), .int (nI (pn + 1)), .ref (a 33), .ref (a 34), .ref (a 35), .ref (a 36), .int (nI (mn)), .long (q1), .long (q2), .long (q3), .long (q4), .long (q5), .ref (a 37), .ref (a 38), .ref (a 39), .int (nI (jn)), .ref (a 40), .ref (a 41)])) ∧ G1[31]? = some (a 31, .inl (cI, 30, .inl (upd pc_ pn x))) ∧ G1[32]? = some (a 32, .inl (cI, 30, .inl (upd pk_ pn y))) ∧ ∀ k, k ∉ [22, 31, 32] → G1[k]? = G0[k]?) := by
  refine gof_i (cc := cX8_past) (maxL := 3) (by decide) rfl (Nat.le_of_ble_eq_true rfl) hD ?_
  intro p e s m args below meth c Q hx hb hml hts hown hK hN hZ hP hS hret ls hl
  have hown : s.vm.findClass RX8 = some m.cls := hown
  have hl : lv_has ls 3 [(0, .ref (a 22)), (1, .int (x)), (2, .int (y))] := hl
  obtain ⟨locs, elocs⟩ : ∃ q : List Loc, q = [] := ⟨_, rfl⟩
  rw [← elocs] at hS ⊢
  obtain ⟨H, eH⟩ : ∃ q : Heap, q = s.heap := ⟨_, rfl⟩
  have hP : va_P D vwCl G0 H := eH ▸ hP
  have hS : va_S A s.heap H locs := by rw [eH]; exact hS
  rw [← eH]
  clear elocs eH
  have hiX8 : ∀ w ∈ u_ws RX8 TX8 37, w ∈ wsX8_past := by decide +kernel
  have hk : ∀ k, k ∉ [22, 31, 32] → G0[k]? = G0[k]? := fun _ _ => rfl
  refine lv_iload_n (pc := 0) hx hb dX8_past_0 rfl (lv_at hl 1 rfl) ?_
  refine lv_i2l (v := (x).toInt64) (pc := 1) hx hb dX8_past_1 rfl ?_
  refine lv_lconst (v := 0) (pc := 2) hx hb dX8_past_2 (by decide) ?_
  refine lv_ldc2 (own := RX8) (v := (100)) (pc := 3) hx hb hown (hts (.constantLong RX8 125 (100)) (by decide +kernel)) dX8_past_3 ?_
  refine mx_cSi (As := [.long ((x).toInt64), .long (0), .long ((100))]) (rest := []) (pc := 6) ⟨hx, hb, hml, hown, hts⟩ (k_X8_in (a := a) (v := (x).toInt64) (lo := 0) (hi := (100)) hD  ) (va_cwS 3 hts gX8_past_X8_in rfl rfl rfl (by decide +kernel) ⟨Nat.le_of_ble_eq_true rfl, Nat.le_of_ble_eq_true rfl⟩) hK hN hZ hP hS rfl hl.1 rfl (Nat.le_of_ble_eq_true rfl) dX8_past_6 ⟨Nat.zero_le _, Nat.zero_le _⟩ (fun G' H locs hP hD hS hB => ?_)
  rw [hB] at hP hD
  clear hB G'
  refine mx_beq (tgt := 24) (pc := 9) hx hb dX8_past_9 (by decide) (fun c9 => absurd (c9.symm.trans ((gIn_w (a := nI 0) (b := nI 100) (by decide) (by decide)).trans h1)) (by decide)) (fun c9 => ?_)
  refine lv_iload_n (pc := 12) hx hb dX8_past_12 rfl (lv_at hl 2 rfl) ?_
  refine lv_i2l (v := (y).toInt64) (pc := 13) hx hb dX8_past_13 rfl ?_
  refine lv_lconst (v := 0) (pc := 14) hx hb dX8_past_14 (by decide) ?_
  refine lv_ldc2 (own := RX8) (v := (100)) (pc := 15) hx hb hown (hts (.constantLong RX8 125 (100)) (by decide +kernel)) dX8_past_15 ?_
  refine mx_cSi (As := [.long ((y).toInt64), .long (0), .long ((100))]) (rest := []) (pc := 18) ⟨hx, hb, hml, hown, hts⟩ (k_X8_in (a := a) (v := (y).toInt64) (lo := 0) (hi := (100)) hD  ) (va_cwS 3 hts gX8_past_X8_in rfl rfl rfl (by decide +kernel) ⟨Nat.le_of_ble_eq_true rfl, Nat.le_of_ble_eq_true rfl⟩) hK hN hZ hP hS rfl hl.1 rfl (Nat.le_of_ble_eq_true rfl) dX8_past_18 ⟨Nat.zero_le _, Nat.zero_le _⟩ (fun G' H locs hP hD hS hB => ?_)
  rw [hB] at hP hD
  clear hB G'
  refine mx_bne (tgt := 27) (pc := 21) hx hb dX8_past_21 (by decide) (fun c21 => ?_) (fun c21 => absurd (c21.symm.trans ((gIn_w (a := nI 0) (b := nI 100) (by decide) (by decide)).trans h2)) (by decide))
  refine lv_aload_n (pc := 27) hx hb dX8_past_27 rfl (lv_at hl 0 rfl) ?_
  refine va_get (ci := 8) (C := RX8) (T := TX8) (N := 37) (pc := 28) hx hb hts hiX8 hown hK hP 22 w22 rfl 20 (by decide) (hts (.fieldLink RX8 149 "InkPressModel" "pastMany" "I") (by decide +kernel)) (fun _ h9 => h9) rfl dX8_past_28 ?_
  refine lv_bipush (v := nI (30)) (pc := 31) hx hb dX8_past_31 (by decide) ?_
  refine mx_cne (tgt := 39) (pc := 33) hx hb (by omega) (by omega) dX8_past_33 (by decide) (fun c33 => ?_) (fun c33 => absurd c33 (by omega))
  refine lv_aload_n (pc := 39) hx hb dX8_past_39 rfl (lv_at hl 0 rfl) ?_
  refine va_get (ci := 8) (C := RX8) (T := TX8) (N := 37) (pc := 40) hx hb hts hiX8 hown hK hP 22 w22 rfl 18 (by decide) (hts (.fieldLink RX8 45 "InkPressModel" "pastCover" "[I") (by decide +kernel)) (fun _ h9 => h9) rfl dX8_past_40 ?_
  refine lv_aload_n (pc := 43) hx hb dX8_past_43 rfl (lv_at hl 0 rfl) ?_
  refine va_get (ci := 8) (C := RX8) (T := TX8) (N := 37) (pc := 44) hx hb hts hiX8 hown hK hP 22 w22 rfl 20 (by decide) (hts (.fieldLink RX8 149 "InkPressModel" "pastMany" "I") (by decide +kernel)) (fun _ h9 => h9) rfl dX8_past_44 ?_
  refine lv_iload_n (pc := 47) hx hb dX8_past_47 rfl (lv_at hl 1 rfl) ?_
  refine mx_iast (x := x) (pc := 48) hx hb hK hP hD hS 31 w31 (pn) (by omega) (by decide) dX8_past_48 (fun H locs G hP hD hS w31 ho => ?_)
  have w22 := (ho 22 (by decide)).trans w22
  have w32 := (ho 32 (by decide)).trans w32
  have w31 : G[31]? = some (a 31, .inl (cI, 30, .inl (upd (pc_) (pn) (x)))) := w31
  have hk := gk_step hk ho (by decide)
  clear ho
  refine lv_aload_n (pc := 49) hx hb dX8_past_49 rfl (lv_at hl 0 rfl) ?_
  refine va_get (ci := 8) (C := RX8) (T := TX8) (N := 37) (pc := 50) hx hb hts hiX8 hown hK hP 22 w22 rfl 19 (by decide) (hts (.fieldLink RX8 48 "InkPressModel" "pastKey" "[I") (by decide +kernel)) (fun _ h9 => h9) rfl dX8_past_50 ?_
  refine lv_aload_n (pc := 53) hx hb dX8_past_53 rfl (lv_at hl 0 rfl) ?_
  refine va_get (ci := 8) (C := RX8) (T := TX8) (N := 37) (pc := 54) hx hb hts hiX8 hown hK hP 22 w22 rfl 20 (by decide) (hts (.fieldLink RX8 149 "InkPressModel" "pastMany" "I") (by decide +kernel)) (fun _ h9 => h9) rfl dX8_past_54 ?_
  refine lv_iload_n (pc := 57) hx hb dX8_past_57 rfl (lv_at hl 2 rfl) ?_
  refine mx_iast (x := y) (pc := 58) hx hb hK hP hD hS 32 w32 (pn) (by omega) (by decide) dX8_past_58 (fun H locs G hP hD hS w32 ho => ?_)
  have w22 := (ho 22 (by decide)).trans w22
  have w31 := (ho 31 (by decide)).trans w31
  have w32 : G[32]? = some (a 32, .inl (cI, 30, .inl (upd (pk_) (pn) (y)))) := w32
  have hk := gk_step hk ho (by decide)
  clear ho
  refine lv_aload_n (pc := 59) hx hb dX8_past_59 rfl (lv_at hl 0 rfl) ?_
  refine lv_dup (pc := 60) hx hb dX8_past_60 rfl ?_
  refine va_get (ci := 8) (C := RX8) (T := TX8) (N := 37) (pc := 61) hx hb hts hiX8 hown hK hP 22 w22 rfl 20 (by decide) (hts (.fieldLink RX8 149 "InkPressModel" "pastMany" "I") (by decide +kernel)) (fun _ h9 => h9) rfl dX8_past_61 ?_
  refine lv_iconst (v := nI (1)) (pc := 64) hx hb dX8_past_64 (by decide) ?_
  refine mx_iadd (pc := 65) hx hb dX8_past_65 ?_
  refine mx_put (ci := 8) (v := .int (nI (pn + 1))) (ty := .int) (C := RX8) (T := TX8) (N := 37) (pc := 66) hx hb hts hiX8 tyX8 tyX8_ok nmX8 hown hK hP hD hS 22 w22 rfl 20 (by decide) (hts (.fieldLink RX8 149 "InkPressModel" "pastMany" "I") (by decide +kernel)) (fun _ h9 => h9) rfl (by decide +kernel) rfl rfl (Nat.le_of_ble_eq_true rfl) dX8_past_66 (fun H locs G hP hD hS w22 ho => ?_)
  have w31 := (ho 31 (by decide)).trans w31
  have w32 := (ho 32 (by decide)).trans w32
  have w22 : G[22]? = some (a 22, .inr (8, [.int (nI (zn)), .int (nI (tr)), .ref (a 23), .ref (a 24), .ref (a 25), .ref (a 26), .ref (a 27), .ref (a 28), .ref (a 29), .int (nI (sc)), .int (sg), .int (sr), .int (ss), .int (fed), .int (pap), .int (bar), .int (gB (st)), .ref (a 30), .ref (a 31), .ref (a 32), .int (nI (pn + 1)), .ref (a 33), .ref (a 34), .ref (a 35), .ref (a 36), .int (nI (mn)), .long (q1), .long (q2), .long (q3), .long (q4), .long (q5), .ref (a 37), .ref (a 38), .ref (a 39), .int (nI (jn)), .ref (a 40), .ref (a 41)])) := w22
  have hk := gk_step hk ho (by decide)
  clear ho
  refine lv_aload_n (pc := 69) hx hb dX8_past_69 rfl (lv_at hl 0 rfl) ?_
  refine va_get (ci := 8) (C := RX8) (T := TX8) (N := 37) (pc := 70) hx hb hts hiX8 hown hK hP 22 w22 rfl 20 (by decide) (hts (.fieldLink RX8 149 "InkPressModel" "pastMany" "I") (by decide +kernel)) (fun _ h9 => h9) rfl dX8_past_70 ?_
  exact hret _ _ _ _ _ _ hP hD hS rfl ⟨w22, w31, w32, hk⟩ dX8_past_73
