/-! the reference, on -/
set_option maxHeartbeats 4000000 in
set_option maxRecDepth 100000 in
theorem k_X8_print_b {l : Launch} {D : va_G} {cI cZ : ClassId} {A : Nat → Prop} {g a : Nat → Nat} {G0 : va_W} {zn : Nat} {tr : Nat} {sc : Nat} {pn : Nat} {mn : Nat} {jn : Nat} {sg : Int32} {sr : Int32} {ss : Int32} {fed : Int32} {pap : Int32} {bar : Int32} {st : Bool} {q1 : Int64} {q2 : Int64} {q3 : Int64} {q4 : Int64} {q5 : Int64} {x : Int32} (hD : va_D A G0) (w22 : G0[22]? = some (a 22, .inr (8, [.int (nI (zn)), .int (nI (tr)), .ref (a 23), .ref (a 24), .ref (a 25), .ref (a 26), .ref (a 27), .ref (a 28), .ref (a 29), .int (nI (sc)), .int (sg), .int (sr), .int (ss), .int (fed), .int (pap), .int (bar), .int (gB (st)), .ref (a 30), .ref (a 31), .ref (a 32), .int (nI (pn)), .ref (a 33), .ref (a 34), .ref (a 35), .ref (a 36), .int (nI (mn)), .long (q1), .long (q2), .long (q3), .long (q4), .long (q5), .ref (a 37), .ref (a 38), .ref (a 39), .int (nI (jn)), .ref (a 40), .ref (a 41)]))) (h1 : gWi x (nI 1) (nI 200) = false) : gMi l D cI cZ A g yX8_print wsX8_print ({ frames := 1, cells := 0, slots := 0, locals := 25 }) [.ref (a 22), .int (x)] G0 ((-2)) (fun G1 => G1 = G0) := by
  refine gof_i (cc := cX8_print) (maxL := 3) (by decide) rfl (Nat.le_of_ble_eq_true rfl) hD ?_
  intro p e s m args below meth c Q hx hb hml hts hown hK hN hZ hP hS hret ls hl
  have hown : s.vm.findClass RX8 = some m.cls := hown
  have hl : lv_has ls 3 [(0, .ref (a 22)), (1, .int (x))] := hl
  obtain ⟨locs, elocs⟩ : ∃ q : List Loc, q = [] := ⟨_, rfl⟩
  rw [← elocs] at hS ⊢
  obtain ⟨H, eH⟩ : ∃ q : Heap, q = s.heap := ⟨_, rfl⟩
  have hP : va_P D vwCl G0 H := eH ▸ hP
  have hS : va_S A s.heap H locs := by rw [eH]; exact hS
  rw [← eH]
  clear elocs eH
  have hk : ∀ k, k ∉ ([] : List Nat) → G0[k]? = G0[k]? := fun _ _ => rfl
  refine lv_iload_n (pc := 0) hx hb dX8_print_0 rfl (lv_at hl 1 rfl) ?_
  refine lv_i2l (v := (x).toInt64) (pc := 1) hx hb dX8_print_1 rfl ?_
  refine lv_lconst (v := 1) (pc := 2) hx hb dX8_print_2 (by decide) ?_
  refine lv_ldc2 (own := RX8) (v := (200)) (pc := 3) hx hb hown (hts (.constantLong RX8 144 (200)) (by decide +kernel)) dX8_print_3 ?_
  refine mx_cSi (As := [.long ((x).toInt64), .long (1), .long ((200))]) (rest := []) (pc := 6) ⟨hx, hb, hml, hown, hts⟩ (k_X8_in (a := a) (v := (x).toInt64) (lo := 1) (hi := (200)) hD  ) (va_cwS 3 hts gX8_print_X8_in rfl rfl rfl (by decide +kernel) ⟨Nat.le_of_ble_eq_true rfl, Nat.le_of_ble_eq_true rfl⟩) hK hN hZ hP hS rfl hl.1 rfl (Nat.le_of_ble_eq_true rfl) dX8_print_6 ⟨Nat.zero_le _, Nat.zero_le _⟩ (fun G' H locs hP hD hS hB => ?_)
  rw [hB] at hP hD
  clear hB G'
  refine mx_bne (tgt := 15) (pc := 9) hx hb dX8_print_9 (by decide) (fun c9 => absurd (c9.symm.trans ((gIn_w (a := nI 1) (b := nI 200) (by decide) (by decide)).trans h1)) (by decide)) (fun c9 => ?_)
  refine lv_bipush (v := (-2)) (pc := 12) hx hb dX8_print_12 (by decide) ?_
  exact hret _ _ _ _ _ _ hP hD hS rfl rfl dX8_print_14
set_option maxHeartbeats 4000000 in
set_option maxRecDepth 100000 in
theorem k_X8_print_c {l : Launch} {D : va_G} {cI cZ : ClassId} {A : Nat → Prop} {g a : Nat → Nat} {G0 : va_W} {zn : Nat} {tr : Nat} {sc : Nat} {pn : Nat} {mn : Nat} {jn : Nat} {sg : Int32} {sr : Int32} {ss : Int32} {fed : Int32} {pap : Int32} {bar : Int32} {st : Bool} {q1 : Int64} {q2 : Int64} {q3 : Int64} {q4 : Int64} {q5 : Int64} {n : Nat} (hD : va_D A G0) (w22 : G0[22]? = some (a 22, .inr (8, [.int (nI (zn)), .int (nI (tr)), .ref (a 23), .ref (a 24), .ref (a 25), .ref (a 26), .ref (a 27), .ref (a 28), .ref (a 29), .int (nI (sc)), .int (sg), .int (sr), .int (ss), .int (fed), .int (pap), .int (bar), .int (gB (st)), .ref (a 30), .ref (a 31), .ref (a 32), .int (nI (pn)), .ref (a 33), .ref (a 34), .ref (a 35), .ref (a 36), .int (nI (mn)), .long (q1), .long (q2), .long (q3), .long (q4), .long (q5), .ref (a 37), .ref (a 38), .ref (a 39), .int (nI (jn)), .ref (a 40), .ref (a 41)]))) (h1 : gWi (nI n) (nI 1) (nI 200) = true) (hs : sc ≤ 1000) (hn : n ≤ 200) (h2 : 1000 < sc + n) : gMi l D cI cZ A g yX8_print wsX8_print ({ frames := 1, cells := 0, slots := 0, locals := 25 }) [.ref (a 22), .int (nI (n))] G0 ((-3)) (fun G1 => G1 = G0) := by
  refine gof_i (cc := cX8_print) (maxL := 3) (by decide) rfl (Nat.le_of_ble_eq_true rfl) hD ?_
  intro p e s m args below meth c Q hx hb hml hts hown hK hN hZ hP hS hret ls hl
  have hown : s.vm.findClass RX8 = some m.cls := hown
  have hl : lv_has ls 3 [(0, .ref (a 22)), (1, .int (nI (n)))] := hl
  obtain ⟨locs, elocs⟩ : ∃ q : List Loc, q = [] := ⟨_, rfl⟩
  rw [← elocs] at hS ⊢
  obtain ⟨H, eH⟩ : ∃ q : Heap, q = s.heap := ⟨_, rfl⟩
  have hP : va_P D vwCl G0 H := eH ▸ hP
  have hS : va_S A s.heap H locs := by rw [eH]; exact hS
  rw [← eH]
  clear elocs eH
  have hiX8 : ∀ w ∈ u_ws RX8 TX8 37, w ∈ wsX8_print := by decide +kernel
  have hk : ∀ k, k ∉ ([] : List Nat) → G0[k]? = G0[k]? := fun _ _ => rfl
  refine lv_iload_n (pc := 0) hx hb dX8_print_0 rfl (lv_at hl 1 rfl) ?_
  refine lv_i2l (v := (nI (n)).toInt64) (pc := 1) hx hb dX8_print_1 rfl ?_
  refine lv_lconst (v := 1) (pc := 2) hx hb dX8_print_2 (by decide) ?_
  refine lv_ldc2 (own := RX8) (v := (200)) (pc := 3) hx hb hown (hts (.constantLong RX8 144 (200)) (by decide +kernel)) dX8_print_3 ?_
  refine mx_cSi (As := [.long ((nI (n)).toInt64), .long (1), .long ((200))]) (rest := []) (pc := 6) ⟨hx, hb, hml, hown, hts⟩ (k_X8_in (a := a) (v := (nI (n)).toInt64) (lo := 1) (hi := (200)) hD  ) (va_cwS 3 hts gX8_print_X8_in rfl rfl rfl (by decide +kernel) ⟨Nat.le_of_ble_eq_true rfl, Nat.le_of_ble_eq_true rfl⟩) hK hN hZ hP hS rfl hl.1 rfl (Nat.le_of_ble_eq_true rfl) dX8_print_6 ⟨Nat.zero_le _, Nat.zero_le _⟩ (fun G' H locs hP hD hS hB => ?_)
  rw [hB] at hP hD
  clear hB G'
  refine mx_bne (tgt := 15) (pc := 9) hx hb dX8_print_9 (by decide) (fun c9 => ?_) (fun c9 => absurd (c9.symm.trans ((gIn_w (a := nI 1) (b := nI 200) (by decide) (by decide)).trans h1)) (by decide))
  refine lv_aload_n (pc := 15) hx hb dX8_print_15 rfl (lv_at hl 0 rfl) ?_
  refine va_get (ci := 8) (C := RX8) (T := TX8) (N := 37) (pc := 16) hx hb hts hiX8 hown hK hP 22 w22 rfl 9 (by decide) (hts (.fieldLink RX8 81 "InkPressModel" "sheets" "I") (by decide +kernel)) (fun _ h9 => h9) rfl dX8_print_16 ?_
  refine lv_iload_n (pc := 19) hx hb dX8_print_19 rfl (lv_at hl 1 rfl) ?_
  refine mx_iadd (pc := 20) hx hb dX8_print_20 ?_
  refine lv_sipush (v := nI (1000)) (pc := 21) hx hb dX8_print_21 (by decide) ?_
  refine mx_cle (tgt := 30) (pc := 24) hx hb (by omega) (by omega) dX8_print_24 (by decide) (fun c24 => absurd c24 (by omega)) (fun c24 => ?_)
  refine lv_bipush (v := (-3)) (pc := 27) hx hb dX8_print_27 (by decide) ?_
  exact hret _ _ _ _ _ _ hP hD hS rfl rfl dX8_print_29
set_option maxHeartbeats 4000000 in
set_option maxRecDepth 100000 in
theorem k_X8_print_k {l : Launch} {D : va_G} {cI cZ : ClassId} {A : Nat → Prop} {g a : Nat → Nat} {G0 : va_W} {zn : Nat} {tr : Nat} {sc : Nat} {pn : Nat} {mn : Nat} {jn : Nat} {sg : Int32} {sr : Int32} {ss : Int32} {fed : Int32} {pap : Int32} {bar : Int32} {st : Bool} {q1 : Int64} {q2 : Int64} {q3 : Int64} {q4 : Int64} {q5 : Int64} {ru : Nat → Int32} {ke : Nat → Int32} {cv : Nat → Int32} {tg : Nat → Int32} {ink : Nat → Int32} {den : Nat → Int32} {go : Nat → Bool} {asd : Nat → Int32} {n : Nat} (hD : va_D A G0) (w22 : G0[22]? = some (a 22, .inr (8, [.int (nI (zn)), .int (nI (tr)), .ref (a 23), .ref (a 24), .ref (a 25), .ref (a 26), .ref (a 27), .ref (a 28), .ref (a 29), .int (nI (sc)), .int (sg), .int (sr), .int (ss), .int (fed), .int (pap), .int (bar), .int (gB (st)), .ref (a 30), .ref (a 31), .ref (a 32), .int (nI (pn)), .ref (a 33), .ref (a 34), .ref (a 35), .ref (a 36), .int (nI (mn)), .long (q1), .long (q2), .long (q3), .long (q4), .long (q5), .ref (a 37), .ref (a 38), .ref (a 39), .int (nI (jn)), .ref (a 40), .ref (a 41)]))) (w23 : G0[23]? = some (a 23, .inl (cI, 9, .inl (ru)))) (w24 : G0[24]? = some (a 24, .inl (cI, 8, .inl (ke)))) (w25 : G0[25]? = some (a 25, .inl (cI, 8, .inl (cv)))) (w26 : G0[26]? = some (a 26, .inl (cI, 8, .inl (tg)))) (w27 : G0[27]? = some (a 27, .inl (cI, 40, .inl (ink)))) (w28 : G0[28]? = some (a 28, .inl (cI, 8000, .inl (den)))) (w29 : G0[29]? = some (a 29, .inl (cZ, 1000, .inl (fun j => gB ((go) j))))) (w30 : G0[30]? = some (a 30, .inl (cI, 8, .inl (asd)))) (h1 : gWi (nI n) (nI 1) (nI 200) = true) (hz2 : 2 ≤ zn) (hz8 : zn ≤ 8) (hr2 : 2 ≤ tr) (hr5 : tr ≤ 5) (hs : sc + n ≤ 1000) (hev : ¬ ru 7 = 0) : gMi l D cI cZ A g yX8_print wsX8_print ({ frames := 3, cells := 0, slots := 0, locals := 71 }) [.ref (a 22), .int (nI (n))] G0 (nI ((gMRun ru cv tg zn tr st n (ke, ink, den, go, sc, fed, pap, bar, sg, sr, ss, asd)).2.2.2.2.1)) (fun G1 => G1[22]? = some (a 22, .inr (8, [.int (nI (zn)), .int (nI (tr)), .ref (a 23), .ref (a 24), .ref (a 25), .ref (a 26), .ref (a 27), .ref (a 28), .ref (a 29), .int (nI ((gMRun ru cv tg zn tr st n (ke, ink, den, go, sc, fed, pap, bar, sg, sr, ss, asd)).2.2.2.2.1)), .int ((gMRun ru cv tg zn tr st n (ke, ink, den, go, sc, fed, pap, bar, sg, sr, ss, asd)).2.2.2.2.2.2.2.2.1), .int ((gMRun ru cv tg zn tr st n (ke, ink, den, go, sc, fed, pap, bar, sg, sr, ss, asd)).2.2.2.2.2.2.2.2.2.1), .int ((gMRun ru cv tg zn tr st n (ke, ink, den, go, sc, fed, pap, bar, sg, sr, ss, asd)).2.2.2.2.2.2.2.2.2.2.1), .int ((gMRun ru cv tg zn tr st n (ke, ink, den, go, sc, fed, pap, bar, sg, sr, ss, asd)).2.2.2.2.2.1), .int ((gMRun ru cv tg zn tr st n (ke, ink, den, go, sc, fed, pap, bar, sg, sr, ss, asd)).2.2.2.2.2.2.1), .int ((gMRun ru cv tg zn tr st n (ke, ink, den, go, sc, fed, pap, bar, sg, sr, ss, asd)).2.2.2.2.2.2.2.1), .int (gB (st)), .ref (a 30), .ref (a 31), .ref (a 32), .int (nI (pn)), .ref (a 33), .ref (a 34), .ref (a 35), .ref (a 36), .int (nI (mn)), .long (q1), .long (q2), .long (q3), .long (q4), .long (q5), .ref (a 37), .ref (a 38), .ref (a 39), .int (nI (jn)), .ref (a 40), .ref (a 41)])) ∧ G1[24]? = some (a 24, .inl (cI, 8, .inl ((gMRun ru cv tg zn tr st n (ke, ink, den, go, sc, fed, pap, bar, sg, sr, ss, asd)).1))) ∧ G1[27]? = some (a 27, .inl (cI, 40, .inl ((gMRun ru cv tg zn tr st n (ke, ink, den, go, sc, fed, pap, bar, sg, sr, ss, asd)).2.1))) ∧ G1[28]? = some (a 28, .inl (cI, 8000, .inl ((gMRun ru cv tg zn tr st n (ke, ink, den, go, sc, fed, pap, bar, sg, sr, ss, asd)).2.2.1))) ∧ G1[29]? = some (a 29, .inl (cZ, 1000, .inl (fun j => gB (((gMRun ru cv tg zn tr st n (ke, ink, den, go, sc, fed, pap, bar, sg, sr, ss, asd)).2.2.2.1) j)))) ∧ G1[30]? = some (a 30, .inl (cI, 8, .inl ((gMRun ru cv tg zn tr st n (ke, ink, den, go, sc, fed, pap, bar, sg, sr, ss, asd)).2.2.2.2.2.2.2.2.2.2.2))) ∧ ∀ k, k ∉ [22, 24, 27, 28, 29, 30] → G1[k]? = G0[k]?) := by
  refine gof_i (cc := cX8_print) (maxL := 3) (by decide) rfl (Nat.le_of_ble_eq_true rfl) hD ?_
  intro p e s m args below meth c Q hx hb hml hts hown hK hN hZ hP hS hret ls hl
  have hown : s.vm.findClass RX8 = some m.cls := hown
  have hl : lv_has ls 3 [(0, .ref (a 22)), (1, .int (nI (n)))] := hl
  obtain ⟨locs, elocs⟩ : ∃ q : List Loc, q = [] := ⟨_, rfl⟩
  rw [← elocs] at hS ⊢
  obtain ⟨H, eH⟩ : ∃ q : Heap, q = s.heap := ⟨_, rfl⟩
  have hP : va_P D vwCl G0 H := eH ▸ hP
  have hS : va_S A s.heap H locs := by rw [eH]; exact hS
  rw [← eH]
  clear elocs eH
  have hiX8 : ∀ w ∈ u_ws RX8 TX8 37, w ∈ wsX8_print := by decide +kernel
  have hk : ∀ k, k ∉ [22, 24, 27, 28, 29, 30] → G0[k]? = G0[k]? := fun _ _ => rfl
  refine lv_iload_n (pc := 0) hx hb dX8_print_0 rfl (lv_at hl 1 rfl) ?_
  refine lv_i2l (v := (nI (n)).toInt64) (pc := 1) hx hb dX8_print_1 rfl ?_
  refine lv_lconst (v := 1) (pc := 2) hx hb dX8_print_2 (by decide) ?_
  refine lv_ldc2 (own := RX8) (v := (200)) (pc := 3) hx hb hown (hts (.constantLong RX8 144 (200)) (by decide +kernel)) dX8_print_3 ?_
  refine mx_cSi (As := [.long ((nI (n)).toInt64), .long (1), .long ((200))]) (rest := []) (pc := 6) ⟨hx, hb, hml, hown, hts⟩ (k_X8_in (a := a) (v := (nI (n)).toInt64) (lo := 1) (hi := (200)) hD  ) (va_cwS 3 hts gX8_print_X8_in rfl rfl rfl (by decide +kernel) ⟨Nat.le_of_ble_eq_true rfl, Nat.le_of_ble_eq_true rfl⟩) hK hN hZ hP hS rfl hl.1 rfl (Nat.le_of_ble_eq_true rfl) dX8_print_6 ⟨Nat.zero_le _, Nat.zero_le _⟩ (fun G' H locs hP hD hS hB => ?_)
  rw [hB] at hP hD
  clear hB G'
  refine mx_bne (tgt := 15) (pc := 9) hx hb dX8_print_9 (by decide) (fun c9 => ?_) (fun c9 => absurd (c9.symm.trans ((gIn_w (a := nI 1) (b := nI 200) (by decide) (by decide)).trans h1)) (by decide))
  refine lv_aload_n (pc := 15) hx hb dX8_print_15 rfl (lv_at hl 0 rfl) ?_
  refine va_get (ci := 8) (C := RX8) (T := TX8) (N := 37) (pc := 16) hx hb hts hiX8 hown hK hP 22 w22 rfl 9 (by decide) (hts (.fieldLink RX8 81 "InkPressModel" "sheets" "I") (by decide +kernel)) (fun _ h9 => h9) rfl dX8_print_16 ?_
  refine lv_iload_n (pc := 19) hx hb dX8_print_19 rfl (lv_at hl 1 rfl) ?_
  refine mx_iadd (pc := 20) hx hb dX8_print_20 ?_
  refine lv_sipush (v := nI (1000)) (pc := 21) hx hb dX8_print_21 (by decide) ?_
  refine mx_cle (tgt := 30) (pc := 24) hx hb (by omega) (by omega) dX8_print_24 (by decide) (fun c24 => ?_) (fun c24 => absurd c24 (by omega))
  refine lv_iconst (v := nI (0)) (pc := 30) hx hb dX8_print_30 (by decide) ?_
  refine lv_istore_n (lv' := [(2, .int (nI (0))), (0, .ref (a 22)), (1, .int (nI (n)))]) (pc := 31) hx hb dX8_print_31 rfl hl (by decide) rfl (fun ls hl => ?_)
  have LP : ∀ (k : Nat) (i : Nat) (u : (Nat → Int32) × (Nat → Int32) × (Nat → Int32) × (Nat → Bool) × Nat × Int32 × Int32 × Int32 × Int32 × Int32 × Int32 × (Nat → Int32)), i + k = n → u.2.2.2.2.1 + k ≤ 1000 → ∀ (G : va_W) (H : Heap) (locs : List Loc) (ls : Array Slot), va_P D vwCl G H → va_D A G → va_S A s.heap H locs → (∀ j, j ∉ [22, 24, 27, 28, 29, 30] → G[j]? = G0[j]?) → G[22]? = some (a 22, .inr (8, [.int (nI (zn)), .int (nI (tr)), .ref (a 23), .ref (a 24), .ref (a 25), .ref (a 26), .ref (a 27), .ref (a 28), .ref (a 29), .int (nI (u.2.2.2.2.1)), .int (u.2.2.2.2.2.2.2.2.1), .int (u.2.2.2.2.2.2.2.2.2.1), .int (u.2.2.2.2.2.2.2.2.2.2.1), .int (u.2.2.2.2.2.1), .int (u.2.2.2.2.2.2.1), .int (u.2.2.2.2.2.2.2.1), .int (gB (st)), .ref (a 30), .ref (a 31), .ref (a 32), .int (nI (pn)), .ref (a 33), .ref (a 34), .ref (a 35), .ref (a 36), .int (nI (mn)), .long (q1), .long (q2), .long (q3), .long (q4), .long (q5), .ref (a 37), .ref (a 38), .ref (a 39), .int (nI (jn)), .ref (a 40), .ref (a 41)])) → G[23]? = some (a 23, .inl (cI, 9, .inl (ru))) → G[24]? = some (a 24, .inl (cI, 8, .inl (u.1))) → G[25]? = some (a 25, .inl (cI, 8, .inl (cv))) → G[26]? = some (a 26, .inl (cI, 8, .inl (tg))) → G[27]? = some (a 27, .inl (cI, 40, .inl (u.2.1))) → G[28]? = some (a 28, .inl (cI, 8000, .inl (u.2.2.1))) → G[29]? = some (a 29, .inl (cZ, 1000, .inl (fun j => gB ((u.2.2.2.1) j)))) → G[30]? = some (a 30, .inl (cI, 8, .inl (u.2.2.2.2.2.2.2.2.2.2.2))) → lv_has ls 3 [(0, .ref (a 22)), (1, .int (nI (n))), (2, .int (nI (i)))] → (∀ (G : va_W) (H : Heap) (locs : List Loc) (ls : Array Slot), va_P D vwCl G H → va_D A G → va_S A s.heap H locs → (∀ j, j ∉ [22, 24, 27, 28, 29, 30] → G[j]? = G0[j]?) → G[22]? = some (a 22, .inr (8, [.int (nI (zn)), .int (nI (tr)), .ref (a 23), .ref (a 24), .ref (a 25), .ref (a 26), .ref (a 27), .ref (a 28), .ref (a 29), .int (nI ((gMRun ru cv tg zn tr st k u).2.2.2.2.1)), .int ((gMRun ru cv tg zn tr st k u).2.2.2.2.2.2.2.2.1), .int ((gMRun ru cv tg zn tr st k u).2.2.2.2.2.2.2.2.2.1), .int ((gMRun ru cv tg zn tr st k u).2.2.2.2.2.2.2.2.2.2.1), .int ((gMRun ru cv tg zn tr st k u).2.2.2.2.2.1), .int ((gMRun ru cv tg zn tr st k u).2.2.2.2.2.2.1), .int ((gMRun ru cv tg zn tr st k u).2.2.2.2.2.2.2.1), .int (gB (st)), .ref (a 30), .ref (a 31), .ref (a 32), .int (nI (pn)), .ref (a 33), .ref (a 34), .ref (a 35), .ref (a 36), .int (nI (mn)), .long (q1), .long (q2), .long (q3), .long (q4), .long (q5), .ref (a 37), .ref (a 38), .ref (a 39), .int (nI (jn)), .ref (a 40), .ref (a 41)])) → G[23]? = some (a 23, .inl (cI, 9, .inl (ru))) → G[24]? = some (a 24, .inl (cI, 8, .inl ((gMRun ru cv tg zn tr st k u).1))) → G[25]? = some (a 25, .inl (cI, 8, .inl (cv))) → G[26]? = some (a 26, .inl (cI, 8, .inl (tg))) → G[27]? = some (a 27, .inl (cI, 40, .inl ((gMRun ru cv tg zn tr st k u).2.1))) → G[28]? = some (a 28, .inl (cI, 8000, .inl ((gMRun ru cv tg zn tr st k u).2.2.1))) → G[29]? = some (a 29, .inl (cZ, 1000, .inl (fun j => gB (((gMRun ru cv tg zn tr st k u).2.2.2.1) j)))) → G[30]? = some (a 30, .inl (cI, 8, .inl ((gMRun ru cv tg zn tr st k u).2.2.2.2.2.2.2.2.2.2.2))) → lv_has ls 3 [(0, .ref (a 22))] → W p l e ({ frames := 3, cells := 0, slots := 0, locals := 71 } : Room) s m args below meth c H locs 0 0 Q (F0 m 47 ls [])) → W p l e ({ frames := 3, cells := 0, slots := 0, locals := 71 } : Room) s m args below meth c H locs 0 0 Q (F0 m 32 ls []) := by
    intro k
    induction k with
    | zero =>
      intro i u hi hs G H locs ls hP hD hS hk w22 w23 w24 w25 w26 w27 w28 w29 w30 hl hcont
      refine lv_iload_n (pc := 32) hx hb dX8_print_32 rfl (lv_at hl 2 rfl) ?_
      refine lv_iload_n (pc := 33) hx hb dX8_print_33 rfl (lv_at hl 1 rfl) ?_
      refine mx_cge (tgt := 47) (pc := 34) hx hb (by omega) (by omega) dX8_print_34 (by decide) (fun c34 => ?_) (fun c34 => absurd c34 (by omega))
      exact hcont G H locs ls hP hD hS hk w22 w23 w24 w25 w26 w27 w28 w29 w30 (lv_sub hl [0] rfl)
    | succ k ih =>
      intro i u hi hs G H locs ls hP hD hS hk w22 w23 w24 w25 w26 w27 w28 w29 w30 hl hcont
      refine lv_iload_n (pc := 32) hx hb dX8_print_32 rfl (lv_at hl 2 rfl) ?_
      refine lv_iload_n (pc := 33) hx hb dX8_print_33 rfl (lv_at hl 1 rfl) ?_
      refine mx_cge (tgt := 47) (pc := 34) hx hb (by omega) (by omega) dX8_print_34 (by decide) (fun c34 => absurd c34 (by omega)) (fun c34 => ?_)
      refine lv_aload_n (pc := 37) hx hb dX8_print_37 rfl (lv_at hl 0 rfl) ?_
      refine mx_cVv (As := []) (rest := []) (pc := 38) ⟨hx, hb, hml, hown, hts⟩ (k_X8_sheet (a := a) (zn := zn) (tr := tr) (sc := u.2.2.2.2.1) (pn := pn) (mn := mn) (jn := jn) (sg := u.2.2.2.2.2.2.2.2.1) (sr := u.2.2.2.2.2.2.2.2.2.1) (ss := u.2.2.2.2.2.2.2.2.2.2.1) (fed := u.2.2.2.2.2.1) (pap := u.2.2.2.2.2.2.1) (bar := u.2.2.2.2.2.2.2.1) (st := st) (q1 := q1) (q2 := q2) (q3 := q3) (q4 := q4) (q5 := q5) (ru := ru) (ke := u.1) (cv := cv) (tg := tg) (ink := u.2.1) (den := u.2.2.1) (go := u.2.2.2.1) (asd := u.2.2.2.2.2.2.2.2.2.2.2) hD w22 w23 w24 w25 w26 w27 w28 w29 w30 hz2 hz8 hr2 hr5 (by omega) hev) (cwV 0 hts gX8_print_X8_sheet rfl rfl rfl (by decide +kernel) ⟨Nat.le_of_ble_eq_true rfl, Nat.le_of_ble_eq_true rfl⟩) 22 rfl rfl w22 hK hN hZ hP hS rfl hl.1 rfl (Nat.le_of_ble_eq_true rfl) dX8_print_38 ⟨Nat.zero_le _, Nat.zero_le _⟩ (fun G H locs hP hD hS hB => ?_)
      obtain ⟨w22, w24, w27, w28, w29, w30, ho⟩ := hB
      have w22 : G[22]? = some (a 22, .inr (8, [.int (nI ((zn))), .int (nI ((tr))), .ref (a 23), .ref (a 24), .ref (a 25), .ref (a 26), .ref (a 27), .ref (a 28), .ref (a 29), .int (nI ((u.2.2.2.2.1) + 1)), .int (gMJg (gMTg (tr) ((ru) 3) (cv) (tg) ((ru) 6) (zn) 0 (gMi3 (ru) (u.1) (zn) (tr) (u.2.1) (u.2.2.2.2.2.2.2.2.2.2.2)) true) (u.2.2.2.2.2.2.2.2.1)), .int ((gJr (gMTg (tr) ((ru) 3) (cv) (tg) ((ru) 6) (zn) 0 (gMi3 (ru) (u.1) (zn) (tr) (u.2.1) (u.2.2.2.2.2.2.2.2.2.2.2)) true) (u.2.2.2.2.2.2.2.2.2.1))), .int (gMJs (gJr (gMTg (tr) ((ru) 3) (cv) (tg) ((ru) 6) (zn) 0 (gMi3 (ru) (u.1) (zn) (tr) (u.2.1) (u.2.2.2.2.2.2.2.2.2.2.2)) true) (u.2.2.2.2.2.2.2.2.2.1)) ((ru) 8) (nI ((u.2.2.2.2.1) + 1)) (u.2.2.2.2.2.2.2.2.2.2.1)), .int (gFf (u.1) ((ru) 0) (zn) 0 (u.2.2.2.2.2.1)), .int (gMTp (tr) ((ru) 3) (cv) (zn) 0 (gMi3 (ru) (u.1) (zn) (tr) (u.2.1) (u.2.2.2.2.2.2.2.2.2.2.2)) (u.2.2.2.2.2.2.1)), .int (gMTb (tr) ((ru) 3) (cv) (zn) 0 (gMi3 (ru) (u.1) (zn) (tr) (u.2.1) (u.2.2.2.2.2.2.2.2.2.2.2)) (u.2.2.2.2.2.2.2.1)), .int (gB ((st))), .ref (a 30), .ref (a 31), .ref (a 32), .int (nI ((pn))), .ref (a 33), .ref (a 34), .ref (a 35), .ref (a 36), .int (nI ((mn))), .long ((q1)), .long ((q2)), .long ((q3)), .long ((q4)), .long ((q5)), .ref (a 37), .ref (a 38), .ref (a 39), .int (nI ((jn))), .ref (a 40), .ref (a 41)])) := w22
      have w23 := (ho 23 (by decide)).trans w23
      have w24 : G[24]? = some (a 24, .inl (cI, 8, .inl (gMst (st) ((ru) 7) (nI ((u.2.2.2.2.1) + 1)) (gMSk (ru) ((u.2.2.2.2.1) + 1) (gMTd (tr) ((ru) 3) (cv) (8 * (u.2.2.2.2.1)) (zn) 0 (gMi3 (ru) (u.1) (zn) (tr) (u.2.1) (u.2.2.2.2.2.2.2.2.2.2.2)) (u.2.2.1)) (tg) (zn) 0 (u.1)) (u.1)))) := w24
      have w25 := (ho 25 (by decide)).trans w25
      have w26 := (ho 26 (by decide)).trans w26
      have w27 : G[27]? = some (a 27, .inl (cI, 40, .inl (gMTi (tr) ((ru) 3) (cv) (zn) 0 (gMi3 (ru) (u.1) (zn) (tr) (u.2.1) (u.2.2.2.2.2.2.2.2.2.2.2))))) := w27
      have w28 : G[28]? = some (a 28, .inl (cI, 8000, .inl (gMTd (tr) ((ru) 3) (cv) (8 * (u.2.2.2.2.1)) (zn) 0 (gMi3 (ru) (u.1) (zn) (tr) (u.2.1) (u.2.2.2.2.2.2.2.2.2.2.2)) (u.2.2.1)))) := w28
      have w29 : G[29]? = some (a 29, .inl (cZ, 1000, .inl (fun j => gB ((vf_upd (u.2.2.2.1) (u.2.2.2.2.1) (gMTg (tr) ((ru) 3) (cv) (tg) ((ru) 6) (zn) 0 (gMi3 (ru) (u.1) (zn) (tr) (u.2.1) (u.2.2.2.2.2.2.2.2.2.2.2)) true)) j)))) := w29
      have w30 : G[30]? = some (a 30, .inl (cI, 8, .inl ((gMa3 (ru) (u.1) (zn) (tr) (u.2.1) (u.2.2.2.2.2.2.2.2.2.2.2))))) := w30
      have hk := gk_call hk ho (by decide)
      clear ho
      refine lv_iinc (v := nI (i + 1)) (lv' := [(2, .int (nI (i + 1))), (0, .ref (a 22)), (1, .int (nI (n)))]) (pc := 41) hx hb dX8_print_41 hl (k := 2) rfl (mx_inc1 _) (by decide) rfl (fun ls hl => ?_)
      refine lv_goto (tgt := 32) (pc := 44) hx hb dX8_print_44 (by decide) ?_
      exact ih (i + 1) (gMS ru cv tg zn tr st u) (by omega) (show u.2.2.2.2.1 + 1 + k ≤ 1000 by omega) G H locs ls hP hD hS hk w22 w23 w24 w25 w26 w27 w28 w29 w30 (lv_sub hl [1, 2, 0] rfl) hcont
  refine LP n (0) ((ke, ink, den, go, sc, fed, pap, bar, sg, sr, ss, asd)) (by omega) (by omega) G0 H locs ls hP hD hS hk w22 w23 w24 w25 w26 w27 w28 w29 w30 (lv_sub hl [1, 2, 0] rfl) (fun G H locs ls hP hD hS hk w22 w23 w24 w25 w26 w27 w28 w29 w30 hl => ?_)
  have w22 : G[22]? = some (a 22, .inr (8, [.int (nI (zn)), .int (nI (tr)), .ref (a 23), .ref (a 24), .ref (a 25), .ref (a 26), .ref (a 27), .ref (a 28), .ref (a 29), .int (nI ((gMRun ru cv tg zn tr st (n) ((ke, ink, den, go, sc, fed, pap, bar, sg, sr, ss, asd))).2.2.2.2.1)), .int ((gMRun ru cv tg zn tr st (n) ((ke, ink, den, go, sc, fed, pap, bar, sg, sr, ss, asd))).2.2.2.2.2.2.2.2.1), .int ((gMRun ru cv tg zn tr st (n) ((ke, ink, den, go, sc, fed, pap, bar, sg, sr, ss, asd))).2.2.2.2.2.2.2.2.2.1), .int ((gMRun ru cv tg zn tr st (n) ((ke, ink, den, go, sc, fed, pap, bar, sg, sr, ss, asd))).2.2.2.2.2.2.2.2.2.2.1), .int ((gMRun ru cv tg zn tr st (n) ((ke, ink, den, go, sc, fed, pap, bar, sg, sr, ss, asd))).2.2.2.2.2.1), .int ((gMRun ru cv tg zn tr st (n) ((ke, ink, den, go, sc, fed, pap, bar, sg, sr, ss, asd))).2.2.2.2.2.2.1), .int ((gMRun ru cv tg zn tr st (n) ((ke, ink, den, go, sc, fed, pap, bar, sg, sr, ss, asd))).2.2.2.2.2.2.2.1), .int (gB (st)), .ref (a 30), .ref (a 31), .ref (a 32), .int (nI (pn)), .ref (a 33), .ref (a 34), .ref (a 35), .ref (a 36), .int (nI (mn)), .long (q1), .long (q2), .long (q3), .long (q4), .long (q5), .ref (a 37), .ref (a 38), .ref (a 39), .int (nI (jn)), .ref (a 40), .ref (a 41)])) := w22
  have w24 : G[24]? = some (a 24, .inl (cI, 8, .inl ((gMRun ru cv tg zn tr st (n) ((ke, ink, den, go, sc, fed, pap, bar, sg, sr, ss, asd))).1))) := w24
  have w27 : G[27]? = some (a 27, .inl (cI, 40, .inl ((gMRun ru cv tg zn tr st (n) ((ke, ink, den, go, sc, fed, pap, bar, sg, sr, ss, asd))).2.1))) := w27
  have w28 : G[28]? = some (a 28, .inl (cI, 8000, .inl ((gMRun ru cv tg zn tr st (n) ((ke, ink, den, go, sc, fed, pap, bar, sg, sr, ss, asd))).2.2.1))) := w28
  have w29 : G[29]? = some (a 29, .inl (cZ, 1000, .inl (fun j => gB (((gMRun ru cv tg zn tr st (n) ((ke, ink, den, go, sc, fed, pap, bar, sg, sr, ss, asd))).2.2.2.1) j)))) := w29
  have w30 : G[30]? = some (a 30, .inl (cI, 8, .inl ((gMRun ru cv tg zn tr st (n) ((ke, ink, den, go, sc, fed, pap, bar, sg, sr, ss, asd))).2.2.2.2.2.2.2.2.2.2.2))) := w30
  refine lv_aload_n (pc := 47) hx hb dX8_print_47 rfl (lv_at hl 0 rfl) ?_
  refine va_get (ci := 8) (C := RX8) (T := TX8) (N := 37) (pc := 48) hx hb hts hiX8 hown hK hP 22 w22 rfl 9 (by decide) (hts (.fieldLink RX8 81 "InkPressModel" "sheets" "I") (by decide +kernel)) (fun _ h9 => h9) rfl dX8_print_48 ?_
  exact hret _ _ _ _ _ _ hP hD hS rfl ⟨w22, w24, w27, w28, w29, w30, hk⟩ dX8_print_51
