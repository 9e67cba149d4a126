/-! the class's own methods, on -/
set_option maxHeartbeats 4000000 in
set_option maxRecDepth 100000 in
theorem k_X7_fit_1 {l : Launch} {D : va_G} {cI cZ : ClassId} {A : Nat → Prop} {g a : Nat → Nat} {G0 : va_W} {st : Bool} {mx : Nat → Int32} {my : Nat → Int32} {mdx : Nat → Int32} {mdy : Nat → Int32} {mn : Nat} {m1 : Int64} {m2 : Int64} {m3 : Int64} {m4 : Int64} {m5 : Int64} {m6 : Int64} {m7 : Int64} {wh : Nat} (hD : va_D A G0) (w0 : G0[0]? = some (a 0, .inr (7, [.ref (a 1), .ref (a 3), .ref (a 5), .ref (a 7), .ref (a 10), .ref (a 11), .ref (a 16), .int (gB (st))]))) (w11 : G0[11]? = some (a 11, .inr (1, [.ref (a 12), .ref (a 13), .ref (a 14), .ref (a 15), .int (nI (mn)), .long (m1), .long (m2), .long (m3), .long (m4), .long (m5), .long (m6), .long (m7)]))) (w12 : G0[12]? = some (a 12, .inl (cI, 8, .inl (mx)))) (w13 : G0[13]? = some (a 13, .inl (cI, 8, .inl (my)))) (w14 : G0[14]? = some (a 14, .inl (cI, 8, .inl (mdx)))) (w15 : G0[15]? = some (a 15, .inl (cI, 8, .inl (mdy)))) (hw : wh < 4) (h1 : gWi (nI wh) (nI 0) (nI 3) = true) (h3 : decide (0 < gSp mn m1 m2 m3 m4 m5 m6 m7) = true) : gMl l D cI cZ A g yX7_fit wsX7_fit ({ frames := 3, cells := 0, slots := 0, locals := 61 }) [.ref (a 0), .int (nI (wh)), .int (nI (1))] G0 (gFit 1 (gUpp wh mn m1 m2 m3 m4 m5 m6 m7) (gLow wh mn m1 m2 m3 m4 m5 m6 m7)) (fun G1 => G1 = G0) := by
  refine gof_l (cc := cX7_fit) (maxL := 11) (by decide) rfl (Nat.le_of_ble_eq_true rfl) hD ?_
  intro p e s m args below meth c Q hx hb hml hts hown hK hN hZ hP hS hret ls hl
  have hown : s.vm.findClass RX7 = some m.cls := hown
  have hl : lv_has ls 11 [(0, .ref (a 0)), (1, .int (nI (wh))), (2, .int (nI (1)))] := hl
  obtain ⟨locs, elocs⟩ : ∃ q : List Loc, q = [] := ⟨_, rfl⟩
  rw [← elocs] at hS ⊢
  obtain ⟨H, eH⟩ : ∃ q : Heap, q = s.heap := ⟨_, rfl⟩
  have hP : va_P D vwCl G0 H := eH ▸ hP
  have hS : va_S A s.heap H locs := by rw [eH]; exact hS
  rw [← eH]
  clear elocs eH
  have hiX7 : ∀ w ∈ u_ws RX7 TX7 8, w ∈ wsX7_fit := by decide +kernel
  have hk : ∀ k, k ∉ ([] : List Nat) → G0[k]? = G0[k]? := fun _ _ => rfl
  refine lv_iload_n (pc := 0) hx hb dX7_fit_0 rfl (lv_at hl 1 rfl) ?_
  refine lv_iconst (v := nI (0)) (pc := 1) hx hb dX7_fit_1 (by decide) ?_
  refine lv_iconst (v := nI (3)) (pc := 2) hx hb dX7_fit_2 (by decide) ?_
  refine mx_cSi (As := [.int (nI (wh)), .int (nI (0)), .int (nI (3))]) (rest := []) (pc := 3) ⟨hx, hb, hml, hown, hts⟩ (k_X7_within (a := a) (v := nI (wh)) (lo := nI (0)) (hi := nI (3)) hD  ) (va_cwS 3 hts gX7_fit_X7_within rfl rfl rfl (by decide +kernel) ⟨Nat.le_of_ble_eq_true rfl, Nat.le_of_ble_eq_true rfl⟩) hK hN hZ hP hS rfl hl.1 rfl (Nat.le_of_ble_eq_true rfl) dX7_fit_3 ⟨Nat.zero_le _, Nat.zero_le _⟩ (fun G' H locs hP hD hS hB => ?_)
  rw [hB] at hP hD
  clear hB G'
  refine mx_beq (tgt := 18) (pc := 6) hx hb dX7_fit_6 (by decide) (fun c6 => absurd (c6.symm.trans h1) (by decide)) (fun c6 => ?_)
  refine lv_iload_n (pc := 9) hx hb dX7_fit_9 rfl (lv_at hl 2 rfl) ?_
  refine lv_iconst (v := nI (0)) (pc := 10) hx hb dX7_fit_10 (by decide) ?_
  refine lv_iconst (v := nI (1)) (pc := 11) hx hb dX7_fit_11 (by decide) ?_
  refine mx_cSi (As := [.int (nI (1)), .int (nI (0)), .int (nI (1))]) (rest := []) (pc := 12) ⟨hx, hb, hml, hown, hts⟩ (k_X7_within (a := a) (v := nI (1)) (lo := nI (0)) (hi := nI (1)) hD  ) (va_cwS 3 hts gX7_fit_X7_within rfl rfl rfl (by decide +kernel) ⟨Nat.le_of_ble_eq_true rfl, Nat.le_of_ble_eq_true rfl⟩) hK hN hZ hP hS rfl hl.1 rfl (Nat.le_of_ble_eq_true rfl) dX7_fit_12 ⟨Nat.zero_le _, Nat.zero_le _⟩ (fun G' H locs hP hD hS hB => ?_)
  rw [hB] at hP hD
  clear hB G'
  refine mx_bne (tgt := 22) (pc := 15) hx hb dX7_fit_15 (by decide) (fun c15 => ?_) (fun c15 => absurd (c15.symm.trans (show gWi (nI 1) (nI 0) (nI 1) = true by decide)) (by decide))
  refine lv_aload_n (pc := 22) hx hb dX7_fit_22 rfl (lv_at hl 0 rfl) ?_
  refine va_get (ci := 7) (C := RX7) (T := TX7) (N := 8) (pc := 23) hx hb hts hiX7 hown hK hP 0 w0 rfl 5 (by decide) (hts (.fieldLink RX7 47 "InkPress" "marks" "LInkPress$Marks;") (by decide +kernel)) (fun _ h9 => h9) rfl dX7_fit_23 ?_
  refine mx_cVi (As := []) (rest := []) (pc := 26) ⟨hx, hb, hml, hown, hts⟩ (k_X1_isTold (a := a) (mx := mx) (my := my) (mdx := mdx) (mdy := mdy) (mn := mn) (m1 := m1) (m2 := m2) (m3 := m3) (m4 := m4) (m5 := m5) (m6 := m6) (m7 := m7) hD w11 w12 w13 w14 w15 ) (cwV 0 hts gX7_fit_X1_isTold rfl rfl rfl (by decide +kernel) ⟨Nat.le_of_ble_eq_true rfl, Nat.le_of_ble_eq_true rfl⟩) 11 rfl rfl w11 hK hN hZ hP hS rfl hl.1 rfl (Nat.le_of_ble_eq_true rfl) dX7_fit_26 ⟨Nat.zero_le _, Nat.zero_le _⟩ (fun G' H locs hP hD hS hB => ?_)
  rw [hB] at hP hD
  clear hB G'
  refine mx_bne (tgt := 36) (pc := 29) hx hb dX7_fit_29 (by decide) (fun c29 => ?_) (fun c29 => absurd (c29.symm.trans h3) (by decide))
  refine lv_aload_n (pc := 36) hx hb dX7_fit_36 rfl (lv_at hl 0 rfl) ?_
  refine va_get (ci := 7) (C := RX7) (T := TX7) (N := 8) (pc := 37) hx hb hts hiX7 hown hK hP 0 w0 rfl 5 (by decide) (hts (.fieldLink RX7 47 "InkPress" "marks" "LInkPress$Marks;") (by decide +kernel)) (fun _ h9 => h9) rfl dX7_fit_37 ?_
  refine lv_iload_n (pc := 40) hx hb dX7_fit_40 rfl (lv_at hl 1 rfl) ?_
  refine mx_cVl (As := [.int (nI (wh))]) (rest := []) (pc := 41) ⟨hx, hb, hml, hown, hts⟩ (k_X1_upper (a := a) (mx := mx) (my := my) (mdx := mdx) (mdy := mdy) (mn := mn) (m1 := m1) (m2 := m2) (m3 := m3) (m4 := m4) (m5 := m5) (m6 := m6) (m7 := m7) (wh := wh) hD w11 w12 w13 w14 w15 (by omega)) (cwV 1 hts gX7_fit_X1_upper rfl rfl rfl (by decide +kernel) ⟨Nat.le_of_ble_eq_true rfl, Nat.le_of_ble_eq_true rfl⟩) 11 rfl rfl w11 hK hN hZ hP hS rfl hl.1 rfl (Nat.le_of_ble_eq_true rfl) dX7_fit_41 ⟨Nat.zero_le _, Nat.zero_le _⟩ (fun G' H locs hP hD hS hB => ?_)
  rw [hB] at hP hD
  clear hB G'
  refine lv_lstore_n (lv' := [(3, .long (gUpp (wh) (mn) (m1) (m2) (m3) (m4) (m5) (m6) (m7))), (0, .ref (a 0)), (1, .int (nI (wh))), (2, .int (nI (1)))]) (pc := 44) hx hb dX7_fit_44 rfl hl (by decide) rfl (fun ls hl => ?_)
  refine lv_aload_n (pc := 45) hx hb dX7_fit_45 rfl (lv_at hl 1 rfl) ?_
  refine va_get (ci := 7) (C := RX7) (T := TX7) (N := 8) (pc := 46) hx hb hts hiX7 hown hK hP 0 w0 rfl 5 (by decide) (hts (.fieldLink RX7 47 "InkPress" "marks" "LInkPress$Marks;") (by decide +kernel)) (fun _ h9 => h9) rfl dX7_fit_46 ?_
  refine lv_iload_n (pc := 49) hx hb dX7_fit_49 rfl (lv_at hl 2 rfl) ?_
  refine mx_cVl (As := [.int (nI (wh))]) (rest := []) (pc := 50) ⟨hx, hb, hml, hown, hts⟩ (k_X1_lower (a := a) (mx := mx) (my := my) (mdx := mdx) (mdy := mdy) (mn := mn) (m1 := m1) (m2 := m2) (m3 := m3) (m4 := m4) (m5 := m5) (m6 := m6) (m7 := m7) (wh := wh) hD w11 w12 w13 w14 w15 (by omega)) (cwV 1 hts gX7_fit_X1_lower rfl rfl rfl (by decide +kernel) ⟨Nat.le_of_ble_eq_true rfl, Nat.le_of_ble_eq_true rfl⟩) 11 rfl rfl w11 hK hN hZ hP hS rfl hl.1 rfl (Nat.le_of_ble_eq_true rfl) dX7_fit_50 ⟨Nat.zero_le _, Nat.zero_le _⟩ (fun G' H locs hP hD hS hB => ?_)
  rw [hB] at hP hD
  clear hB G'
  refine lv_lstore (lv' := [(5, .long (gLow (wh) (mn) (m1) (m2) (m3) (m4) (m5) (m6) (m7))), (3, .long (gUpp (wh) (mn) (m1) (m2) (m3) (m4) (m5) (m6) (m7))), (0, .ref (a 0)), (1, .int (nI (wh))), (2, .int (nI (1)))]) (pc := 53) hx hb dX7_fit_53 hl (by decide) rfl (fun ls hl => ?_)
  refine lv_lload_n (pc := 55) hx hb dX7_fit_55 rfl (lv_at hl 1 rfl) ?_
  refine lv_lload (pc := 56) hx hb dX7_fit_56 (lv_at hl 0 rfl) ?_
  refine mx_cSl (As := [.long (gUpp (wh) (mn) (m1) (m2) (m3) (m4) (m5) (m6) (m7)), .long (gLow (wh) (mn) (m1) (m2) (m3) (m4) (m5) (m6) (m7))]) (rest := []) (pc := 58) ⟨hx, hb, hml, hown, hts⟩ (k_X7_commonDivisor (a := a) (u := gUpp (wh) (mn) (m1) (m2) (m3) (m4) (m5) (m6) (m7)) (v := gLow (wh) (mn) (m1) (m2) (m3) (m4) (m5) (m6) (m7)) hD  ) (va_cwS 2 hts gX7_fit_X7_commonDivisor rfl rfl rfl (by decide +kernel) ⟨Nat.le_of_ble_eq_true rfl, Nat.le_of_ble_eq_true rfl⟩) hK hN hZ hP hS rfl hl.1 rfl (Nat.le_of_ble_eq_true rfl) dX7_fit_58 ⟨Nat.zero_le _, Nat.zero_le _⟩ (fun G' H locs hP hD hS hB => ?_)
  rw [hB] at hP hD
  clear hB G'
  refine lv_lstore (lv' := [(7, .long (gCd (gUpp (wh) (mn) (m1) (m2) (m3) (m4) (m5) (m6) (m7)) (gLow (wh) (mn) (m1) (m2) (m3) (m4) (m5) (m6) (m7)))), (5, .long (gLow (wh) (mn) (m1) (m2) (m3) (m4) (m5) (m6) (m7))), (3, .long (gUpp (wh) (mn) (m1) (m2) (m3) (m4) (m5) (m6) (m7))), (0, .ref (a 0)), (1, .int (nI (wh))), (2, .int (nI (1)))]) (pc := 61) hx hb dX7_fit_61 hl (by decide) rfl (fun ls hl => ?_)
  refine lv_iload_n (pc := 63) hx hb dX7_fit_63 rfl (lv_at hl 5 rfl) ?_
  refine lv_if_ne (tgt := 71) (pc := 64) hx hb dX7_fit_64 (by decide) (fun c64 => ?_) (fun c64 => absurd c64 (by decide))
  refine lv_lload (pc := 71) hx hb dX7_fit_71 (lv_at hl 1 rfl) ?_
  refine lv_lstore (lv' := [(9, .long (gLow (wh) (mn) (m1) (m2) (m3) (m4) (m5) (m6) (m7))), (7, .long (gCd (gUpp (wh) (mn) (m1) (m2) (m3) (m4) (m5) (m6) (m7)) (gLow (wh) (mn) (m1) (m2) (m3) (m4) (m5) (m6) (m7)))), (5, .long (gLow (wh) (mn) (m1) (m2) (m3) (m4) (m5) (m6) (m7))), (3, .long (gUpp (wh) (mn) (m1) (m2) (m3) (m4) (m5) (m6) (m7))), (0, .ref (a 0)), (1, .int (nI (wh))), (2, .int (nI (1)))]) (pc := 73) hx hb dX7_fit_73 hl (by decide) rfl (fun ls hl => ?_)
  refine lv_lload (pc := 75) hx hb dX7_fit_75 (lv_at hl 1 rfl) ?_
  refine lv_lconst (v := 0) (pc := 77) hx hb dX7_fit_77 (by decide) ?_
  refine W.lcmp (pc := 78) hx hb dX7_fit_78 ?_
  refine lv_if_le (tgt := 90) (pc := 79) hx hb dX7_fit_79 (by decide) (fun c79 => ?_) (fun c79 => ?_)
  · skip
    have c79 := lg_le.mp c79
    refine lv_lload (pc := 90) hx hb dX7_fit_90 (lv_at hl 0 rfl) ?_
    exact hret _ _ _ _ _ _ hP hD hS (gFit_0 (pt := 1) c79).symm rfl dX7_fit_92
  · skip
    have c79 := fun z => c79 (lg_le.mpr z)
    refine lv_lload (pc := 82) hx hb dX7_fit_82 (lv_at hl 0 rfl) ?_
    refine lv_lload (pc := 84) hx hb dX7_fit_84 (lv_at hl 1 rfl) ?_
    refine lv_ldiv (pc := 86) hx hb dX7_fit_86 (fun q9 => c79 (by rw [q9]; exact Int64.le_refl _)) ?_
    refine lv_goto (tgt := 92) (pc := 87) hx hb dX7_fit_87 (by decide) ?_
    exact hret _ _ _ _ _ _ hP hD hS (gFit_1 (pt := 1) (Int64.not_le.mp c79)).symm rfl dX7_fit_92
set_option maxHeartbeats 4000000 in
set_option maxRecDepth 100000 in
theorem k_X7_job_b {l : Launch} {D : va_G} {cI cZ : ClassId} {A : Nat → Prop} {g a : Nat → Nat} {G0 : va_W} {st : Bool} {x : Int32} {y : Int32} (hD : va_D A G0) (w0 : G0[0]? = some (a 0, .inr (7, [.ref (a 1), .ref (a 3), .ref (a 5), .ref (a 7), .ref (a 10), .ref (a 11), .ref (a 16), .int (gB (st))]))) (hbad : gHas x (nI 4) = false ∨ gHas y (nI 6) = false) : gMi l D cI cZ A g yX7_job wsX7_job ({ frames := 1, cells := 0, slots := 0, locals := 20 }) [.ref (a 0), .int (x), .int (y)] G0 ((-2)) (fun G1 => G1 = G0) := by
  refine gof_i (cc := cX7_job) (maxL := 3) (by decide) rfl (Nat.le_of_ble_eq_true rfl) hD ?_
  intro p e s m args below meth c Q hx hb hml hts hown hK hN hZ hP hS hret ls hl
  have hown : s.vm.findClass RX7 = some m.cls := hown
  have hl : lv_has ls 3 [(0, .ref (a 0)), (1, .int (x)), (2, .int (y))] := hl
  obtain ⟨locs, elocs⟩ : ∃ q : List Loc, q = [] := ⟨_, rfl⟩
  rw [← elocs] at hS ⊢
  obtain ⟨H, eH⟩ : ∃ q : Heap, q = s.heap := ⟨_, rfl⟩
  have hP : va_P D vwCl G0 H := eH ▸ hP
  have hS : va_S A s.heap H locs := by rw [eH]; exact hS
  rw [← eH]
  clear elocs eH
  have hk : ∀ k, k ∉ ([] : List Nat) → G0[k]? = G0[k]? := fun _ _ => rfl
  refine lv_iload_n (pc := 0) hx hb dX7_job_0 rfl (lv_at hl 1 rfl) ?_
  refine mx_cSi (As := [.int (x)]) (rest := []) (pc := 1) ⟨hx, hb, hml, hown, hts⟩ (k_X0_isColour (a := a) (v := x) hD  ) (va_cwS 1 hts gX7_job_X0_isColour rfl rfl rfl (by decide +kernel) ⟨Nat.le_of_ble_eq_true rfl, Nat.le_of_ble_eq_true rfl⟩) hK hN hZ hP hS rfl hl.1 rfl (Nat.le_of_ble_eq_true rfl) dX7_job_1 ⟨Nat.zero_le _, Nat.zero_le _⟩ (fun G' H locs hP hD hS hB => ?_)
  rw [hB] at hP hD
  clear hB G'
  refine mx_beq (tgt := 14) (pc := 4) hx hb dX7_job_4 (by decide) (fun c4 => ?_) (fun c4 => ?_)
  · skip
    refine lv_bipush (v := (-2)) (pc := 14) hx hb dX7_job_14 (by decide) ?_
    exact hret _ _ _ _ _ _ hP hD hS rfl rfl dX7_job_16
  · skip
    refine lv_iload_n (pc := 7) hx hb dX7_job_7 rfl (lv_at hl 2 rfl) ?_
    refine mx_cSi (As := [.int (y)]) (rest := []) (pc := 8) ⟨hx, hb, hml, hown, hts⟩ (k_X0_isPaper (a := a) (v := y) hD  ) (va_cwS 1 hts gX7_job_X0_isPaper rfl rfl rfl (by decide +kernel) ⟨Nat.le_of_ble_eq_true rfl, Nat.le_of_ble_eq_true rfl⟩) hK hN hZ hP hS rfl hl.1 rfl (Nat.le_of_ble_eq_true rfl) dX7_job_8 ⟨Nat.zero_le _, Nat.zero_le _⟩ (fun G' H locs hP hD hS hB => ?_)
    rw [hB] at hP hD
    clear hB G'
    refine mx_bne (tgt := 17) (pc := 11) hx hb dX7_job_11 (by decide) (fun c11 => ?_) (fun c11 => ?_)
    · skip
      exact (by simp [c4, c11] at hbad)
    · skip
      refine lv_bipush (v := (-2)) (pc := 14) hx hb dX7_job_14 (by decide) ?_
      exact hret _ _ _ _ _ _ hP hD hS rfl rfl dX7_job_16
set_option maxHeartbeats 4000000 in
set_option maxRecDepth 100000 in
theorem k_X7_job_c {l : Launch} {D : va_G} {cI cZ : ClassId} {A : Nat → Prop} {g a : Nat → Nat} {G0 : va_W} {st : Bool} {co : Nat → Nat} {pa : Nat → Int32} {wa : Nat → Int32} {ct : Nat → Int32} {be : Nat → Nat} {jn : Nat} {jp : Bool} {x : Int32} {y : Int32} (hD : va_D A G0) (w0 : G0[0]? = some (a 0, .inr (7, [.ref (a 1), .ref (a 3), .ref (a 5), .ref (a 7), .ref (a 10), .ref (a 11), .ref (a 16), .int (gB (st))]))) (w16 : G0[16]? = some (a 16, .inr (0, [.ref (a 17), .ref (a 18), .ref (a 19), .ref (a 20), .ref (a 21), .int (nI (jn)), .int (gB (jp))]))) (w17 : G0[17]? = some (a 17, .inl (cI, 8, .inl (fun j => nI ((co) j))))) (w18 : G0[18]? = some (a 18, .inl (cI, 8, .inl (pa)))) (w19 : G0[19]? = some (a 19, .inl (cI, 16, .inl (wa)))) (w20 : G0[20]? = some (a 20, .inl (cI, 1024, .inl (ct)))) (w21 : G0[21]? = some (a 21, .inl (cI, 7, .inl (fun j => nI ((be) j))))) (hj : jn = 7) (h1 : gHas x (nI 4) = true) (h2 : gHas y (nI 6) = true) : gMi l D cI cZ A g yX7_job wsX7_job ({ frames := 1, cells := 0, slots := 0, locals := 20 }) [.ref (a 0), .int (x), .int (y)] G0 ((-4)) (fun G1 => G1 = G0) := by
  refine gof_i (cc := cX7_job) (maxL := 3) (by decide) rfl (Nat.le_of_ble_eq_true rfl) hD ?_
  intro p e s m args below meth c Q hx hb hml hts hown hK hN hZ hP hS hret ls hl
  have hown : s.vm.findClass RX7 = some m.cls := hown
  have hl : lv_has ls 3 [(0, .ref (a 0)), (1, .int (x)), (2, .int (y))] := hl
  obtain ⟨locs, elocs⟩ : ∃ q : List Loc, q = [] := ⟨_, rfl⟩
  rw [← elocs] at hS ⊢
  obtain ⟨H, eH⟩ : ∃ q : Heap, q = s.heap := ⟨_, rfl⟩
  have hP : va_P D vwCl G0 H := eH ▸ hP
  have hS : va_S A s.heap H locs := by rw [eH]; exact hS
  rw [← eH]
  clear elocs eH
  have hiX7 : ∀ w ∈ u_ws RX7 TX7 8, w ∈ wsX7_job := by decide +kernel
  have hk : ∀ k, k ∉ ([] : List Nat) → G0[k]? = G0[k]? := fun _ _ => rfl
  refine lv_iload_n (pc := 0) hx hb dX7_job_0 rfl (lv_at hl 1 rfl) ?_
  refine mx_cSi (As := [.int (x)]) (rest := []) (pc := 1) ⟨hx, hb, hml, hown, hts⟩ (k_X0_isColour (a := a) (v := x) hD  ) (va_cwS 1 hts gX7_job_X0_isColour rfl rfl rfl (by decide +kernel) ⟨Nat.le_of_ble_eq_true rfl, Nat.le_of_ble_eq_true rfl⟩) hK hN hZ hP hS rfl hl.1 rfl (Nat.le_of_ble_eq_true rfl) dX7_job_1 ⟨Nat.zero_le _, Nat.zero_le _⟩ (fun G' H locs hP hD hS hB => ?_)
  rw [hB] at hP hD
  clear hB G'
  refine mx_beq (tgt := 14) (pc := 4) hx hb dX7_job_4 (by decide) (fun c4 => absurd (c4.symm.trans h1) (by decide)) (fun c4 => ?_)
  refine lv_iload_n (pc := 7) hx hb dX7_job_7 rfl (lv_at hl 2 rfl) ?_
  refine mx_cSi (As := [.int (y)]) (rest := []) (pc := 8) ⟨hx, hb, hml, hown, hts⟩ (k_X0_isPaper (a := a) (v := y) hD  ) (va_cwS 1 hts gX7_job_X0_isPaper rfl rfl rfl (by decide +kernel) ⟨Nat.le_of_ble_eq_true rfl, Nat.le_of_ble_eq_true rfl⟩) hK hN hZ hP hS rfl hl.1 rfl (Nat.le_of_ble_eq_true rfl) dX7_job_8 ⟨Nat.zero_le _, Nat.zero_le _⟩ (fun G' H locs hP hD hS hB => ?_)
  rw [hB] at hP hD
  clear hB G'
  refine mx_bne (tgt := 17) (pc := 11) hx hb dX7_job_11 (by decide) (fun c11 => ?_) (fun c11 => absurd (c11.symm.trans h2) (by decide))
  refine lv_aload_n (pc := 17) hx hb dX7_job_17 rfl (lv_at hl 0 rfl) ?_
  refine va_get (ci := 7) (C := RX7) (T := TX7) (N := 8) (pc := 18) hx hb hts hiX7 hown hK hP 0 w0 rfl 6 (by decide) (hts (.fieldLink RX7 54 "InkPress" "jobs" "LInkPress$Jobs;") (by decide +kernel)) (fun _ h9 => h9) rfl dX7_job_18 ?_
  refine mx_cVi (As := []) (rest := []) (pc := 21) ⟨hx, hb, hml, hown, hts⟩ (k_X0_isFull (a := a) (co := co) (pa := pa) (wa := wa) (ct := ct) (be := be) (jn := jn) (jp := jp) hD w16 w17 w18 w19 w20 w21 (by omega)) (cwV 0 hts gX7_job_X0_isFull rfl rfl rfl (by decide +kernel) ⟨Nat.le_of_ble_eq_true rfl, Nat.le_of_ble_eq_true rfl⟩) 16 rfl rfl w16 hK hN hZ hP hS rfl hl.1 rfl (Nat.le_of_ble_eq_true rfl) dX7_job_21 ⟨Nat.zero_le _, Nat.zero_le _⟩ (fun G' H locs hP hD hS hB => ?_)
  rw [hB] at hP hD
  clear hB G'
  refine mx_beq (tgt := 30) (pc := 24) hx hb dX7_job_24 (by decide) (fun c24 => absurd (c24.symm.trans (show decide (7 ≤ jn) = true by rw [hj]; decide)) (by decide)) (fun c24 => ?_)
  refine lv_bipush (v := (-4)) (pc := 27) hx hb dX7_job_27 (by decide) ?_
  exact hret _ _ _ _ _ _ hP hD hS rfl rfl dX7_job_29
set_option maxHeartbeats 4000000 in
set_option maxRecDepth 100000 in
theorem k_X7_job_k {l : Launch} {D : va_G} {cI cZ : ClassId} {A : Nat → Prop} {g a : Nat → Nat} {G0 : va_W} {st : Bool} {co : Nat → Nat} {pa : Nat → Int32} {wa : Nat → Int32} {ct : Nat → Int32} {be : Nat → Nat} {jn : Nat} {jp : Bool} {cl : Nat} {pp : Int32} (hD : va_D A G0) (w0 : G0[0]? = some (a 0, .inr (7, [.ref (a 1), .ref (a 3), .ref (a 5), .ref (a 7), .ref (a 10), .ref (a 11), .ref (a 16), .int (gB (st))]))) (w16 : G0[16]? = some (a 16, .inr (0, [.ref (a 17), .ref (a 18), .ref (a 19), .ref (a 20), .ref (a 21), .int (nI (jn)), .int (gB (jp))]))) (w17 : G0[17]? = some (a 17, .inl (cI, 8, .inl (fun j => nI ((co) j))))) (w18 : G0[18]? = some (a 18, .inl (cI, 8, .inl (pa)))) (w19 : G0[19]? = some (a 19, .inl (cI, 16, .inl (wa)))) (w20 : G0[20]? = some (a 20, .inl (cI, 1024, .inl (ct)))) (w21 : G0[21]? = some (a 21, .inl (cI, 7, .inl (fun j => nI ((be) j))))) (hj : jn < 7) (h1 : gHas (nI cl) (nI 4) = true) (h2 : gHas pp (nI 6) = true) : gMi l D cI cZ A g yX7_job wsX7_job ({ frames := 1, cells := 0, slots := 0, locals := 22 }) [.ref (a 0), .int (nI (cl)), .int (pp)] G0 (nI (jn)) (fun G1 => G1[16]? = some (a 16, .inr (0, [.ref (a 17), .ref (a 18), .ref (a 19), .ref (a 20), .ref (a 21), .int (nI (jn + 1)), .int (gB (false))])) ∧ G1[17]? = some (a 17, .inl (cI, 8, .inl (fun j => nI ((vf_upd co jn cl) j)))) ∧ G1[18]? = some (a 18, .inl (cI, 8, .inl (upd pa jn pp))) ∧ ∀ k, k ∉ [16, 17, 18] → G1[k]? = G0[k]?) := by
  refine gof_i (cc := cX7_job) (maxL := 3) (by decide) rfl (Nat.le_of_ble_eq_true rfl) hD ?_
  intro p e s m args below meth c Q hx hb hml hts hown hK hN hZ hP hS hret ls hl
  have hown : s.vm.findClass RX7 = some m.cls := hown
  have hl : lv_has ls 3 [(0, .ref (a 0)), (1, .int (nI (cl))), (2, .int (pp))] := hl
  obtain ⟨locs, elocs⟩ : ∃ q : List Loc, q = [] := ⟨_, rfl⟩
  rw [← elocs] at hS ⊢
  obtain ⟨H, eH⟩ : ∃ q : Heap, q = s.heap := ⟨_, rfl⟩
  have hP : va_P D vwCl G0 H := eH ▸ hP
  have hS : va_S A s.heap H locs := by rw [eH]; exact hS
  rw [← eH]
  clear elocs eH
  have hiX7 : ∀ w ∈ u_ws RX7 TX7 8, w ∈ wsX7_job := by decide +kernel
  have hk : ∀ k, k ∉ [16, 17, 18] → G0[k]? = G0[k]? := fun _ _ => rfl
  refine lv_iload_n (pc := 0) hx hb dX7_job_0 rfl (lv_at hl 1 rfl) ?_
  refine mx_cSi (As := [.int (nI (cl))]) (rest := []) (pc := 1) ⟨hx, hb, hml, hown, hts⟩ (k_X0_isColour (a := a) (v := nI (cl)) hD  ) (va_cwS 1 hts gX7_job_X0_isColour rfl rfl rfl (by decide +kernel) ⟨Nat.le_of_ble_eq_true rfl, Nat.le_of_ble_eq_true rfl⟩) hK hN hZ hP hS rfl hl.1 rfl (Nat.le_of_ble_eq_true rfl) dX7_job_1 ⟨Nat.zero_le _, Nat.zero_le _⟩ (fun G' H locs hP hD hS hB => ?_)
  rw [hB] at hP hD
  clear hB G'
  refine mx_beq (tgt := 14) (pc := 4) hx hb dX7_job_4 (by decide) (fun c4 => absurd (c4.symm.trans h1) (by decide)) (fun c4 => ?_)
  refine lv_iload_n (pc := 7) hx hb dX7_job_7 rfl (lv_at hl 2 rfl) ?_
  refine mx_cSi (As := [.int (pp)]) (rest := []) (pc := 8) ⟨hx, hb, hml, hown, hts⟩ (k_X0_isPaper (a := a) (v := pp) hD  ) (va_cwS 1 hts gX7_job_X0_isPaper rfl rfl rfl (by decide +kernel) ⟨Nat.le_of_ble_eq_true rfl, Nat.le_of_ble_eq_true rfl⟩) hK hN hZ hP hS rfl hl.1 rfl (Nat.le_of_ble_eq_true rfl) dX7_job_8 ⟨Nat.zero_le _, Nat.zero_le _⟩ (fun G' H locs hP hD hS hB => ?_)
  rw [hB] at hP hD
  clear hB G'
  refine mx_bne (tgt := 17) (pc := 11) hx hb dX7_job_11 (by decide) (fun c11 => ?_) (fun c11 => absurd (c11.symm.trans h2) (by decide))
  refine lv_aload_n (pc := 17) hx hb dX7_job_17 rfl (lv_at hl 0 rfl) ?_
  refine va_get (ci := 7) (C := RX7) (T := TX7) (N := 8) (pc := 18) hx hb hts hiX7 hown hK hP 0 w0 rfl 6 (by decide) (hts (.fieldLink RX7 54 "InkPress" "jobs" "LInkPress$Jobs;") (by decide +kernel)) (fun _ h9 => h9) rfl dX7_job_18 ?_
  refine mx_cVi (As := []) (rest := []) (pc := 21) ⟨hx, hb, hml, hown, hts⟩ (k_X0_isFull (a := a) (co := co) (pa := pa) (wa := wa) (ct := ct) (be := be) (jn := jn) (jp := jp) hD w16 w17 w18 w19 w20 w21 (by omega)) (cwV 0 hts gX7_job_X0_isFull rfl rfl rfl (by decide +kernel) ⟨Nat.le_of_ble_eq_true rfl, Nat.le_of_ble_eq_true rfl⟩) 16 rfl rfl w16 hK hN hZ hP hS rfl hl.1 rfl (Nat.le_of_ble_eq_true rfl) dX7_job_21 ⟨Nat.zero_le _, Nat.zero_le _⟩ (fun G' H locs hP hD hS hB => ?_)
  rw [hB] at hP hD
  clear hB G'
  refine mx_beq (tgt := 30) (pc := 24) hx hb dX7_job_24 (by decide) (fun c24 => ?_) (fun c24 => absurd (c24.symm.trans (show decide (7 ≤ jn) = false by simp; omega)) (by decide))
  refine lv_aload_n (pc := 30) hx hb dX7_job_30 rfl (lv_at hl 0 rfl) ?_
  refine va_get (ci := 7) (C := RX7) (T := TX7) (N := 8) (pc := 31) hx hb hts hiX7 hown hK hP 0 w0 rfl 6 (by decide) (hts (.fieldLink RX7 54 "InkPress" "jobs" "LInkPress$Jobs;") (by decide +kernel)) (fun _ h9 => h9) rfl dX7_job_31 ?_
  refine lv_iload_n (pc := 34) hx hb dX7_job_34 rfl (lv_at hl 1 rfl) ?_
  refine lv_iload_n (pc := 35) hx hb dX7_job_35 rfl (lv_at hl 2 rfl) ?_
  refine mx_cVi (As := [.int (nI (cl)), .int (pp)]) (rest := []) (pc := 36) ⟨hx, hb, hml, hown, hts⟩ (k_X0_add (a := a) (co := co) (pa := pa) (wa := wa) (ct := ct) (be := be) (jn := jn) (jp := jp) (cl := cl) (pp := pp) hD w16 w17 w18 w19 w20 w21 (by omega)) (cwV 2 hts gX7_job_X0_add rfl rfl rfl (by decide +kernel) ⟨Nat.le_of_ble_eq_true rfl, Nat.le_of_ble_eq_true rfl⟩) 16 rfl rfl w16 hK hN hZ hP hS rfl hl.1 rfl (Nat.le_of_ble_eq_true rfl) dX7_job_36 ⟨Nat.zero_le _, Nat.zero_le _⟩ (fun G H locs hP hD hS hB => ?_)
  obtain ⟨w16, w17, w18, ho⟩ := hB
  have w0 := (ho 0 (by decide)).trans w0
  have w16 : G[16]? = some (a 16, .inr (0, [.ref (a 17), .ref (a 18), .ref (a 19), .ref (a 20), .ref (a 21), .int (nI ((jn) + 1)), .int (gB (false))])) := w16
  have w17 : G[17]? = some (a 17, .inl (cI, 8, .inl (fun j => nI ((vf_upd (co) (jn) (cl)) j)))) := w17
  have w18 : G[18]? = some (a 18, .inl (cI, 8, .inl (upd (pa) (jn) (pp)))) := w18
  have w19 := (ho 19 (by decide)).trans w19
  have w20 := (ho 20 (by decide)).trans w20
  have w21 := (ho 21 (by decide)).trans w21
  have hk := gk_call hk ho (by decide)
  clear ho
  exact hret _ _ _ _ _ _ hP hD hS rfl ⟨w16, w17, w18, hk⟩ dX7_job_39
set_option maxHeartbeats 4000000 in
set_option maxRecDepth 100000 in
theorem k_X7_forget {l : Launch} {D : va_G} {cI cZ : ClassId} {A : Nat → Prop} {g a : Nat → Nat} {G0 : va_W} {st : Bool} {co : Nat → Nat} {pa : Nat → Int32} {wa : Nat → Int32} {ct : Nat → Int32} {be : Nat → Nat} {jn : Nat} {jp : Bool} (hD : va_D A G0) (w0 : G0[0]? = some (a 0, .inr (7, [.ref (a 1), .ref (a 3), .ref (a 5), .ref (a 7), .ref (a 10), .ref (a 11), .ref (a 16), .int (gB (st))]))) (w16 : G0[16]? = some (a 16, .inr (0, [.ref (a 17), .ref (a 18), .ref (a 19), .ref (a 20), .ref (a 21), .int (nI (jn)), .int (gB (jp))]))) (w17 : G0[17]? = some (a 17, .inl (cI, 8, .inl (fun j => nI ((co) j))))) (w18 : G0[18]? = some (a 18, .inl (cI, 8, .inl (pa)))) (w19 : G0[19]? = some (a 19, .inl (cI, 16, .inl (wa)))) (w20 : G0[20]? = some (a 20, .inl (cI, 1024, .inl (ct)))) (w21 : G0[21]? = some (a 21, .inl (cI, 7, .inl (fun j => nI ((be) j))))) : gMi l D cI cZ A g yX7_forget wsX7_forget ({ frames := 1, cells := 0, slots := 0, locals := 21 }) [.ref (a 0)] G0 (nI (jn)) (fun G1 => G1[16]? = some (a 16, .inr (0, [.ref (a 17), .ref (a 18), .ref (a 19), .ref (a 20), .ref (a 21), .int (nI (0)), .int (gB (false))])) ∧ ∀ k, k ∉ [16] → G1[k]? = G0[k]?) := by
  refine gof_i (cc := cX7_forget) (maxL := 1) (by decide) rfl (Nat.le_of_ble_eq_true rfl) hD ?_
  intro p e s m args below meth c Q hx hb hml hts hown hK hN hZ hP hS hret ls hl
  have hown : s.vm.findClass RX7 = some m.cls := hown
  have hl : lv_has ls 1 [(0, .ref (a 0))] := hl
  obtain ⟨locs, elocs⟩ : ∃ q : List Loc, q = [] := ⟨_, rfl⟩
  rw [← elocs] at hS ⊢
  obtain ⟨H, eH⟩ : ∃ q : Heap, q = s.heap := ⟨_, rfl⟩
  have hP : va_P D vwCl G0 H := eH ▸ hP
  have hS : va_S A s.heap H locs := by rw [eH]; exact hS
  rw [← eH]
  clear elocs eH
  have hiX7 : ∀ w ∈ u_ws RX7 TX7 8, w ∈ wsX7_forget := by decide +kernel
  have hk : ∀ k, k ∉ [16] → G0[k]? = G0[k]? := fun _ _ => rfl
  refine lv_aload_n (pc := 0) hx hb dX7_forget_0 rfl (lv_at hl 0 rfl) ?_
  refine va_get (ci := 7) (C := RX7) (T := TX7) (N := 8) (pc := 1) hx hb hts hiX7 hown hK hP 0 w0 rfl 6 (by decide) (hts (.fieldLink RX7 54 "InkPress" "jobs" "LInkPress$Jobs;") (by decide +kernel)) (fun _ h9 => h9) rfl dX7_forget_1 ?_
  refine mx_cVi (As := []) (rest := []) (pc := 4) ⟨hx, hb, hml, hown, hts⟩ (k_X0_removeAll (a := a) (co := co) (pa := pa) (wa := wa) (ct := ct) (be := be) (jn := jn) (jp := jp) hD w16 w17 w18 w19 w20 w21 ) (cwV 0 hts gX7_forget_X0_removeAll rfl rfl rfl (by decide +kernel) ⟨Nat.le_of_ble_eq_true rfl, Nat.le_of_ble_eq_true rfl⟩) 16 rfl rfl w16 hK hN hZ hP hS rfl hl.1 rfl (Nat.le_of_ble_eq_true rfl) dX7_forget_4 ⟨Nat.zero_le _, Nat.zero_le _⟩ (fun G H locs hP hD hS hB => ?_)
  obtain ⟨w16, ho⟩ := hB
  have w0 := (ho 0 (by decide)).trans w0
  have w16 : G[16]? = some (a 16, .inr (0, [.ref (a 17), .ref (a 18), .ref (a 19), .ref (a 20), .ref (a 21), .int (nI (0)), .int (gB (false))])) := w16
  have w17 := (ho 17 (by decide)).trans w17
  have w18 := (ho 18 (by decide)).trans w18
  have w19 := (ho 19 (by decide)).trans w19
  have w20 := (ho 20 (by decide)).trans w20
  have w21 := (ho 21 (by decide)).trans w21
  have hk := gk_call hk ho (by decide)
  clear ho
  exact hret _ _ _ _ _ _ hP hD hS rfl ⟨w16, hk⟩ dX7_forget_7
set_option maxHeartbeats 4000000 in
set_option maxRecDepth 100000 in
theorem k_X7_wash_b {l : Launch} {D : va_G} {cI cZ : ClassId} {A : Nat → Prop} {g a : Nat → Nat} {G0 : va_W} {st : Bool} {x : Int32} {y : Int32} {v : Int32} (hD : va_D A G0) (w0 : G0[0]? = some (a 0, .inr (7, [.ref (a 1), .ref (a 3), .ref (a 5), .ref (a 7), .ref (a 10), .ref (a 11), .ref (a 16), .int (gB (st))]))) (hbad : gHas x (nI 4) = false ∨ gHas y (nI 4) = false) : gMi l D cI cZ A g yX7_wash wsX7_wash ({ frames := 1, cells := 0, slots := 0, locals := 20 }) [.ref (a 0), .int (x), .int (y), .int (v)] G0 ((-1)) (fun G1 => G1 = G0) := by
  refine gof_i (cc := cX7_wash) (maxL := 4) (by decide) rfl (Nat.le_of_ble_eq_true rfl) hD ?_
  intro p e s m args below meth c Q hx hb hml hts hown hK hN hZ hP hS hret ls hl
  have hown : s.vm.findClass RX7 = some m.cls := hown
  have hl : lv_has ls 4 [(0, .ref (a 0)), (1, .int (x)), (2, .int (y)), (3, .int (v))] := hl
  obtain ⟨locs, elocs⟩ : ∃ q : List Loc, q = [] := ⟨_, rfl⟩
  rw [← elocs] at hS ⊢
  obtain ⟨H, eH⟩ : ∃ q : Heap, q = s.heap := ⟨_, rfl⟩
  have hP : va_P D vwCl G0 H := eH ▸ hP
  have hS : va_S A s.heap H locs := by rw [eH]; exact hS
  rw [← eH]
  clear elocs eH
  have hk : ∀ k, k ∉ ([] : List Nat) → G0[k]? = G0[k]? := fun _ _ => rfl
  refine lv_iload_n (pc := 0) hx hb dX7_wash_0 rfl (lv_at hl 1 rfl) ?_
  refine mx_cSi (As := [.int (x)]) (rest := []) (pc := 1) ⟨hx, hb, hml, hown, hts⟩ (k_X0_isColour (a := a) (v := x) hD  ) (va_cwS 1 hts gX7_wash_X0_isColour rfl rfl rfl (by decide +kernel) ⟨Nat.le_of_ble_eq_true rfl, Nat.le_of_ble_eq_true rfl⟩) hK hN hZ hP hS rfl hl.1 rfl (Nat.le_of_ble_eq_true rfl) dX7_wash_1 ⟨Nat.zero_le _, Nat.zero_le _⟩ (fun G' H locs hP hD hS hB => ?_)
  rw [hB] at hP hD
  clear hB G'
  refine mx_beq (tgt := 14) (pc := 4) hx hb dX7_wash_4 (by decide) (fun c4 => ?_) (fun c4 => ?_)
  · skip
    refine lv_iconst (v := (-1)) (pc := 14) hx hb dX7_wash_14 (by decide) ?_
    exact hret _ _ _ _ _ _ hP hD hS rfl rfl dX7_wash_15
  · skip
    refine lv_iload_n (pc := 7) hx hb dX7_wash_7 rfl (lv_at hl 2 rfl) ?_
    refine mx_cSi (As := [.int (y)]) (rest := []) (pc := 8) ⟨hx, hb, hml, hown, hts⟩ (k_X0_isColour (a := a) (v := y) hD  ) (va_cwS 1 hts gX7_wash_X0_isColour rfl rfl rfl (by decide +kernel) ⟨Nat.le_of_ble_eq_true rfl, Nat.le_of_ble_eq_true rfl⟩) hK hN hZ hP hS rfl hl.1 rfl (Nat.le_of_ble_eq_true rfl) dX7_wash_8 ⟨Nat.zero_le _, Nat.zero_le _⟩ (fun G' H locs hP hD hS hB => ?_)
    rw [hB] at hP hD
    clear hB G'
    refine mx_bne (tgt := 16) (pc := 11) hx hb dX7_wash_11 (by decide) (fun c11 => ?_) (fun c11 => ?_)
    · skip
      exact (by simp [c4, c11] at hbad)
    · skip
      refine lv_iconst (v := (-1)) (pc := 14) hx hb dX7_wash_14 (by decide) ?_
      exact hret _ _ _ _ _ _ hP hD hS rfl rfl dX7_wash_15
set_option maxHeartbeats 4000000 in
set_option maxRecDepth 100000 in
theorem k_X7_wash_c {l : Launch} {D : va_G} {cI cZ : ClassId} {A : Nat → Prop} {g a : Nat → Nat} {G0 : va_W} {st : Bool} {x : Int32} {y : Int32} {v : Int32} (hD : va_D A G0) (w0 : G0[0]? = some (a 0, .inr (7, [.ref (a 1), .ref (a 3), .ref (a 5), .ref (a 7), .ref (a 10), .ref (a 11), .ref (a 16), .int (gB (st))]))) (h1 : gHas x (nI 4) = true) (h2 : gHas y (nI 4) = true) (h3 : gWi v (nI 0) (nI 100) = false) : gMi l D cI cZ A g yX7_wash wsX7_wash ({ frames := 2, cells := 0, slots := 0, locals := 42 }) [.ref (a 0), .int (x), .int (y), .int (v)] G0 ((-2)) (fun G1 => G1 = G0) := by
  refine gof_i (cc := cX7_wash) (maxL := 4) (by decide) rfl (Nat.le_of_ble_eq_true rfl) hD ?_
  intro p e s m args below meth c Q hx hb hml hts hown hK hN hZ hP hS hret ls hl
  have hown : s.vm.findClass RX7 = some m.cls := hown
  have hl : lv_has ls 4 [(0, .ref (a 0)), (1, .int (x)), (2, .int (y)), (3, .int (v))] := hl
  obtain ⟨locs, elocs⟩ : ∃ q : List Loc, q = [] := ⟨_, rfl⟩
  rw [← elocs] at hS ⊢
  obtain ⟨H, eH⟩ : ∃ q : Heap, q = s.heap := ⟨_, rfl⟩
  have hP : va_P D vwCl G0 H := eH ▸ hP
  have hS : va_S A s.heap H locs := by rw [eH]; exact hS
  rw [← eH]
  clear elocs eH
  have hk : ∀ k, k ∉ ([] : List Nat) → G0[k]? = G0[k]? := fun _ _ => rfl
  refine lv_iload_n (pc := 0) hx hb dX7_wash_0 rfl (lv_at hl 1 rfl) ?_
  refine mx_cSi (As := [.int (x)]) (rest := []) (pc := 1) ⟨hx, hb, hml, hown, hts⟩ (k_X0_isColour (a := a) (v := x) hD  ) (va_cwS 1 hts gX7_wash_X0_isColour rfl rfl rfl (by decide +kernel) ⟨Nat.le_of_ble_eq_true rfl, Nat.le_of_ble_eq_true rfl⟩) hK hN hZ hP hS rfl hl.1 rfl (Nat.le_of_ble_eq_true rfl) dX7_wash_1 ⟨Nat.zero_le _, Nat.zero_le _⟩ (fun G' H locs hP hD hS hB => ?_)
  rw [hB] at hP hD
  clear hB G'
  refine mx_beq (tgt := 14) (pc := 4) hx hb dX7_wash_4 (by decide) (fun c4 => absurd (c4.symm.trans h1) (by decide)) (fun c4 => ?_)
  refine lv_iload_n (pc := 7) hx hb dX7_wash_7 rfl (lv_at hl 2 rfl) ?_
  refine mx_cSi (As := [.int (y)]) (rest := []) (pc := 8) ⟨hx, hb, hml, hown, hts⟩ (k_X0_isColour (a := a) (v := y) hD  ) (va_cwS 1 hts gX7_wash_X0_isColour rfl rfl rfl (by decide +kernel) ⟨Nat.le_of_ble_eq_true rfl, Nat.le_of_ble_eq_true rfl⟩) hK hN hZ hP hS rfl hl.1 rfl (Nat.le_of_ble_eq_true rfl) dX7_wash_8 ⟨Nat.zero_le _, Nat.zero_le _⟩ (fun G' H locs hP hD hS hB => ?_)
  rw [hB] at hP hD
  clear hB G'
  refine mx_bne (tgt := 16) (pc := 11) hx hb dX7_wash_11 (by decide) (fun c11 => ?_) (fun c11 => absurd (c11.symm.trans h2) (by decide))
  refine lv_iload_n (pc := 16) hx hb dX7_wash_16 rfl (lv_at hl 3 rfl) ?_
  refine mx_cSi (As := [.int (v)]) (rest := []) (pc := 17) ⟨hx, hb, hml, hown, hts⟩ (k_X0_isWashCost (a := a) (v := v) hD  ) (va_cwS 1 hts gX7_wash_X0_isWashCost rfl rfl rfl (by decide +kernel) ⟨Nat.le_of_ble_eq_true rfl, Nat.le_of_ble_eq_true rfl⟩) hK hN hZ hP hS rfl hl.1 rfl (Nat.le_of_ble_eq_true rfl) dX7_wash_17 ⟨Nat.zero_le _, Nat.zero_le _⟩ (fun G' H locs hP hD hS hB => ?_)
  rw [hB] at hP hD
  clear hB G'
  refine mx_bne (tgt := 26) (pc := 20) hx hb dX7_wash_20 (by decide) (fun c20 => absurd (c20.symm.trans h3) (by decide)) (fun c20 => ?_)
  refine lv_bipush (v := (-2)) (pc := 23) hx hb dX7_wash_23 (by decide) ?_
  exact hret _ _ _ _ _ _ hP hD hS rfl rfl dX7_wash_25
set_option maxHeartbeats 4000000 in
set_option maxRecDepth 100000 in
theorem k_X7_wash_d {l : Launch} {D : va_G} {cI cZ : ClassId} {A : Nat → Prop} {g a : Nat → Nat} {G0 : va_W} {st : Bool} {x : Int32} {y : Int32} {v : Int32} (hD : va_D A G0) (w0 : G0[0]? = some (a 0, .inr (7, [.ref (a 1), .ref (a 3), .ref (a 5), .ref (a 7), .ref (a 10), .ref (a 11), .ref (a 16), .int (gB (st))]))) (h1 : gHas x (nI 4) = true) (h2 : gHas y (nI 4) = true) (h3 : gWi v (nI 0) (nI 100) = true) (h4 : x = y) : gMi l D cI cZ A g yX7_wash wsX7_wash ({ frames := 2, cells := 0, slots := 0, locals := 42 }) [.ref (a 0), .int (x), .int (y), .int (v)] G0 ((-5)) (fun G1 => G1 = G0) := by
  refine gof_i (cc := cX7_wash) (maxL := 4) (by decide) rfl (Nat.le_of_ble_eq_true rfl) hD ?_
  intro p e s m args below meth c Q hx hb hml hts hown hK hN hZ hP hS hret ls hl
  have hown : s.vm.findClass RX7 = some m.cls := hown
  have hl : lv_has ls 4 [(0, .ref (a 0)), (1, .int (x)), (2, .int (y)), (3, .int (v))] := hl
  obtain ⟨locs, elocs⟩ : ∃ q : List Loc, q = [] := ⟨_, rfl⟩
  rw [← elocs] at hS ⊢
  obtain ⟨H, eH⟩ : ∃ q : Heap, q = s.heap := ⟨_, rfl⟩
  have hP : va_P D vwCl G0 H := eH ▸ hP
  have hS : va_S A s.heap H locs := by rw [eH]; exact hS
  rw [← eH]
  clear elocs eH
  have hk : ∀ k, k ∉ ([] : List Nat) → G0[k]? = G0[k]? := fun _ _ => rfl
  refine lv_iload_n (pc := 0) hx hb dX7_wash_0 rfl (lv_at hl 1 rfl) ?_
  refine mx_cSi (As := [.int (x)]) (rest := []) (pc := 1) ⟨hx, hb, hml, hown, hts⟩ (k_X0_isColour (a := a) (v := x) hD  ) (va_cwS 1 hts gX7_wash_X0_isColour rfl rfl rfl (by decide +kernel) ⟨Nat.le_of_ble_eq_true rfl, Nat.le_of_ble_eq_true rfl⟩) hK hN hZ hP hS rfl hl.1 rfl (Nat.le_of_ble_eq_true rfl) dX7_wash_1 ⟨Nat.zero_le _, Nat.zero_le _⟩ (fun G' H locs hP hD hS hB => ?_)
  rw [hB] at hP hD
  clear hB G'
  refine mx_beq (tgt := 14) (pc := 4) hx hb dX7_wash_4 (by decide) (fun c4 => absurd (c4.symm.trans h1) (by decide)) (fun c4 => ?_)
  refine lv_iload_n (pc := 7) hx hb dX7_wash_7 rfl (lv_at hl 2 rfl) ?_
  refine mx_cSi (As := [.int (y)]) (rest := []) (pc := 8) ⟨hx, hb, hml, hown, hts⟩ (k_X0_isColour (a := a) (v := y) hD  ) (va_cwS 1 hts gX7_wash_X0_isColour rfl rfl rfl (by decide +kernel) ⟨Nat.le_of_ble_eq_true rfl, Nat.le_of_ble_eq_true rfl⟩) hK hN hZ hP hS rfl hl.1 rfl (Nat.le_of_ble_eq_true rfl) dX7_wash_8 ⟨Nat.zero_le _, Nat.zero_le _⟩ (fun G' H locs hP hD hS hB => ?_)
  rw [hB] at hP hD
  clear hB G'
  refine mx_bne (tgt := 16) (pc := 11) hx hb dX7_wash_11 (by decide) (fun c11 => ?_) (fun c11 => absurd (c11.symm.trans h2) (by decide))
  refine lv_iload_n (pc := 16) hx hb dX7_wash_16 rfl (lv_at hl 3 rfl) ?_
  refine mx_cSi (As := [.int (v)]) (rest := []) (pc := 17) ⟨hx, hb, hml, hown, hts⟩ (k_X0_isWashCost (a := a) (v := v) hD  ) (va_cwS 1 hts gX7_wash_X0_isWashCost rfl rfl rfl (by decide +kernel) ⟨Nat.le_of_ble_eq_true rfl, Nat.le_of_ble_eq_true rfl⟩) hK hN hZ hP hS rfl hl.1 rfl (Nat.le_of_ble_eq_true rfl) dX7_wash_17 ⟨Nat.zero_le _, Nat.zero_le _⟩ (fun G' H locs hP hD hS hB => ?_)
  rw [hB] at hP hD
  clear hB G'
  refine mx_bne (tgt := 26) (pc := 20) hx hb dX7_wash_20 (by decide) (fun c20 => ?_) (fun c20 => absurd (c20.symm.trans h3) (by decide))
  refine lv_iload_n (pc := 26) hx hb dX7_wash_26 rfl (lv_at hl 1 rfl) ?_
  refine lv_iload_n (pc := 27) hx hb dX7_wash_27 rfl (lv_at hl 2 rfl) ?_
  refine lv_icmp_ne (tgt := 34) (pc := 28) hx hb dX7_wash_28 (by decide) (fun c28 => absurd h4 c28) (fun c28 => ?_)
  refine lv_bipush (v := (-5)) (pc := 31) hx hb dX7_wash_31 (by decide) ?_
  exact hret _ _ _ _ _ _ hP hD hS rfl rfl dX7_wash_33
set_option maxHeartbeats 4000000 in
set_option maxRecDepth 100000 in
theorem k_X7_wash_k {l : Launch} {D : va_G} {cI cZ : ClassId} {A : Nat → Prop} {g a : Nat → Nat} {G0 : va_W} {st : Bool} {co : Nat → Nat} {pa : Nat → Int32} {wa : Nat → Int32} {ct : Nat → Int32} {be : Nat → Nat} {jn : Nat} {jp : Bool} {fr : Nat} {to : Nat} {v : Int32} (hD : va_D A G0) (w0 : G0[0]? = some (a 0, .inr (7, [.ref (a 1), .ref (a 3), .ref (a 5), .ref (a 7), .ref (a 10), .ref (a 11), .ref (a 16), .int (gB (st))]))) (w16 : G0[16]? = some (a 16, .inr (0, [.ref (a 17), .ref (a 18), .ref (a 19), .ref (a 20), .ref (a 21), .int (nI (jn)), .int (gB (jp))]))) (w17 : G0[17]? = some (a 17, .inl (cI, 8, .inl (fun j => nI ((co) j))))) (w18 : G0[18]? = some (a 18, .inl (cI, 8, .inl (pa)))) (w19 : G0[19]? = some (a 19, .inl (cI, 16, .inl (wa)))) (w20 : G0[20]? = some (a 20, .inl (cI, 1024, .inl (ct)))) (w21 : G0[21]? = some (a 21, .inl (cI, 7, .inl (fun j => nI ((be) j))))) (hf : fr < 4) (ht : to < 4) (hne : fr ≠ to) (h1 : gHas (nI fr) (nI 4) = true) (h2 : gHas (nI to) (nI 4) = true) (h3 : gWi v (nI 0) (nI 100) = true) : gMi l D cI cZ A g yX7_wash wsX7_wash ({ frames := 2, cells := 0, slots := 0, locals := 42 }) [.ref (a 0), .int (nI (fr)), .int (nI (to)), .int (v)] G0 (wa (fr * 4 + to)) (fun G1 => G1[16]? = some (a 16, .inr (0, [.ref (a 17), .ref (a 18), .ref (a 19), .ref (a 20), .ref (a 21), .int (nI (jn)), .int (gB (false))])) ∧ G1[19]? = some (a 19, .inl (cI, 16, .inl (upd wa (fr * 4 + to) v))) ∧ ∀ k, k ∉ [16, 19] → G1[k]? = G0[k]?) := by
  refine gof_i (cc := cX7_wash) (maxL := 4) (by decide) rfl (Nat.le_of_ble_eq_true rfl) hD ?_
  intro p e s m args below meth c Q hx hb hml hts hown hK hN hZ hP hS hret ls hl
  have hown : s.vm.findClass RX7 = some m.cls := hown
  have hl : lv_has ls 4 [(0, .ref (a 0)), (1, .int (nI (fr))), (2, .int (nI (to))), (3, .int (v))] := hl
  obtain ⟨locs, elocs⟩ : ∃ q : List Loc, q = [] := ⟨_, rfl⟩
  rw [← elocs] at hS ⊢
  obtain ⟨H, eH⟩ : ∃ q : Heap, q = s.heap := ⟨_, rfl⟩
  have hP : va_P D vwCl G0 H := eH ▸ hP
  have hS : va_S A s.heap H locs := by rw [eH]; exact hS
  rw [← eH]
  clear elocs eH
  have hiX7 : ∀ w ∈ u_ws RX7 TX7 8, w ∈ wsX7_wash := by decide +kernel
  have hk : ∀ k, k ∉ [16, 19] → G0[k]? = G0[k]? := fun _ _ => rfl
  refine lv_iload_n (pc := 0) hx hb dX7_wash_0 rfl (lv_at hl 1 rfl) ?_
  refine mx_cSi (As := [.int (nI (fr))]) (rest := []) (pc := 1) ⟨hx, hb, hml, hown, hts⟩ (k_X0_isColour (a := a) (v := nI (fr)) hD  ) (va_cwS 1 hts gX7_wash_X0_isColour rfl rfl rfl (by decide +kernel) ⟨Nat.le_of_ble_eq_true rfl, Nat.le_of_ble_eq_true rfl⟩) hK hN hZ hP hS rfl hl.1 rfl (Nat.le_of_ble_eq_true rfl) dX7_wash_1 ⟨Nat.zero_le _, Nat.zero_le _⟩ (fun G' H locs hP hD hS hB => ?_)
  rw [hB] at hP hD
  clear hB G'
  refine mx_beq (tgt := 14) (pc := 4) hx hb dX7_wash_4 (by decide) (fun c4 => absurd (c4.symm.trans h1) (by decide)) (fun c4 => ?_)
  refine lv_iload_n (pc := 7) hx hb dX7_wash_7 rfl (lv_at hl 2 rfl) ?_
  refine mx_cSi (As := [.int (nI (to))]) (rest := []) (pc := 8) ⟨hx, hb, hml, hown, hts⟩ (k_X0_isColour (a := a) (v := nI (to)) hD  ) (va_cwS 1 hts gX7_wash_X0_isColour rfl rfl rfl (by decide +kernel) ⟨Nat.le_of_ble_eq_true rfl, Nat.le_of_ble_eq_true rfl⟩) hK hN hZ hP hS rfl hl.1 rfl (Nat.le_of_ble_eq_true rfl) dX7_wash_8 ⟨Nat.zero_le _, Nat.zero_le _⟩ (fun G' H locs hP hD hS hB => ?_)
  rw [hB] at hP hD
  clear hB G'
  refine mx_bne (tgt := 16) (pc := 11) hx hb dX7_wash_11 (by decide) (fun c11 => ?_) (fun c11 => absurd (c11.symm.trans h2) (by decide))
  refine lv_iload_n (pc := 16) hx hb dX7_wash_16 rfl (lv_at hl 3 rfl) ?_
  refine mx_cSi (As := [.int (v)]) (rest := []) (pc := 17) ⟨hx, hb, hml, hown, hts⟩ (k_X0_isWashCost (a := a) (v := v) hD  ) (va_cwS 1 hts gX7_wash_X0_isWashCost rfl rfl rfl (by decide +kernel) ⟨Nat.le_of_ble_eq_true rfl, Nat.le_of_ble_eq_true rfl⟩) hK hN hZ hP hS rfl hl.1 rfl (Nat.le_of_ble_eq_true rfl) dX7_wash_17 ⟨Nat.zero_le _, Nat.zero_le _⟩ (fun G' H locs hP hD hS hB => ?_)
  rw [hB] at hP hD
  clear hB G'
  refine mx_bne (tgt := 26) (pc := 20) hx hb dX7_wash_20 (by decide) (fun c20 => ?_) (fun c20 => absurd (c20.symm.trans h3) (by decide))
  refine lv_iload_n (pc := 26) hx hb dX7_wash_26 rfl (lv_at hl 1 rfl) ?_
  refine lv_iload_n (pc := 27) hx hb dX7_wash_27 rfl (lv_at hl 2 rfl) ?_
  refine mx_cne (tgt := 34) (pc := 28) hx hb (by omega) (by omega) dX7_wash_28 (by decide) (fun c28 => ?_) (fun c28 => absurd c28 hne)
  refine lv_aload_n (pc := 34) hx hb dX7_wash_34 rfl (lv_at hl 0 rfl) ?_
  refine va_get (ci := 7) (C := RX7) (T := TX7) (N := 8) (pc := 35) hx hb hts hiX7 hown hK hP 0 w0 rfl 6 (by decide) (hts (.fieldLink RX7 54 "InkPress" "jobs" "LInkPress$Jobs;") (by decide +kernel)) (fun _ h9 => h9) rfl dX7_wash_35 ?_
  refine lv_iload_n (pc := 38) hx hb dX7_wash_38 rfl (lv_at hl 1 rfl) ?_
  refine lv_iload_n (pc := 39) hx hb dX7_wash_39 rfl (lv_at hl 2 rfl) ?_
  refine lv_iload_n (pc := 40) hx hb dX7_wash_40 rfl (lv_at hl 3 rfl) ?_
  refine mx_cVi (As := [.int (nI (fr)), .int (nI (to)), .int (v)]) (rest := []) (pc := 41) ⟨hx, hb, hml, hown, hts⟩ (k_X0_changeWash (a := a) (co := co) (pa := pa) (wa := wa) (ct := ct) (be := be) (jn := jn) (jp := jp) (fr := fr) (to := to) (v := v) hD w16 w17 w18 w19 w20 w21 (by omega) (by omega)) (cwV 3 hts gX7_wash_X0_changeWash rfl rfl rfl (by decide +kernel) ⟨Nat.le_of_ble_eq_true rfl, Nat.le_of_ble_eq_true rfl⟩) 16 rfl rfl w16 hK hN hZ hP hS rfl hl.1 rfl (Nat.le_of_ble_eq_true rfl) dX7_wash_41 ⟨Nat.zero_le _, Nat.zero_le _⟩ (fun G H locs hP hD hS hB => ?_)
  obtain ⟨w16, w19, ho⟩ := hB
  have w0 := (ho 0 (by decide)).trans w0
  have w16 : G[16]? = some (a 16, .inr (0, [.ref (a 17), .ref (a 18), .ref (a 19), .ref (a 20), .ref (a 21), .int (nI ((jn))), .int (gB (false))])) := w16
  have w17 := (ho 17 (by decide)).trans w17
  have w18 := (ho 18 (by decide)).trans w18
  have w19 : G[19]? = some (a 19, .inl (cI, 16, .inl (upd (wa) ((fr) * 4 + (to)) (v)))) := w19
  have w20 := (ho 20 (by decide)).trans w20
  have w21 := (ho 21 (by decide)).trans w21
  have hk := gk_call hk ho (by decide)
  clear ho
  exact hret _ _ _ _ _ _ hP hD hS rfl ⟨w16, w19, hk⟩ dX7_wash_44
set_option maxHeartbeats 4000000 in
set_option maxRecDepth 100000 in
theorem k_X7_order {l : Launch} {D : va_G} {cI cZ : ClassId} {A : Nat → Prop} {g a : Nat → Nat} {G0 : va_W} {st : Bool} {co : Nat → Nat} {pa : Nat → Int32} {wa : Nat → Int32} {ct : Nat → Int32} {be : Nat → Nat} {jn : Nat} {jp : Bool} (hD : va_D A G0) (w0 : G0[0]? = some (a 0, .inr (7, [.ref (a 1), .ref (a 3), .ref (a 5), .ref (a 7), .ref (a 10), .ref (a 11), .ref (a 16), .int (gB (st))]))) (w16 : G0[16]? = some (a 16, .inr (0, [.ref (a 17), .ref (a 18), .ref (a 19), .ref (a 20), .ref (a 21), .int (nI (jn)), .int (gB (jp))]))) (w17 : G0[17]? = some (a 17, .inl (cI, 8, .inl (fun j => nI ((co) j))))) (w18 : G0[18]? = some (a 18, .inl (cI, 8, .inl (pa)))) (w19 : G0[19]? = some (a 19, .inl (cI, 16, .inl (wa)))) (w20 : G0[20]? = some (a 20, .inl (cI, 1024, .inl (ct)))) (w21 : G0[21]? = some (a 21, .inl (cI, 7, .inl (fun j => nI ((be) j))))) (hj : jn ≤ 7) (hco : ∀ j, co j < 4) : gMi l D cI cZ A g yX7_order wsX7_order ({ frames := 5, cells := 0, slots := 0, locals := 117 }) [.ref (a 0)] G0 (gPc jp jn co pa wa ct 7) (fun G1 => G1[16]? = some (a 16, .inr (0, [.ref (a 17), .ref (a 18), .ref (a 19), .ref (a 20), .ref (a 21), .int (nI (jn)), .int (gB (true))])) ∧ G1[20]? = some (a 20, .inl (cI, 1024, .inl (gPc jp jn co pa wa ct))) ∧ G1[21]? = some (a 21, .inl (cI, 7, .inl (fun j => nI ((gPb jp jn co pa wa ct be) j)))) ∧ ∀ k, k ∉ [16, 20, 21] → G1[k]? = G0[k]?) := by
  refine gof_i (cc := cX7_order) (maxL := 1) (by decide) rfl (Nat.le_of_ble_eq_true rfl) hD ?_
  intro p e s m args below meth c Q hx hb hml hts hown hK hN hZ hP hS hret ls hl
  have hown : s.vm.findClass RX7 = some m.cls := hown
  have hl : lv_has ls 1 [(0, .ref (a 0))] := hl
  obtain ⟨locs, elocs⟩ : ∃ q : List Loc, q = [] := ⟨_, rfl⟩
  rw [← elocs] at hS ⊢
  obtain ⟨H, eH⟩ : ∃ q : Heap, q = s.heap := ⟨_, rfl⟩
  have hP : va_P D vwCl G0 H := eH ▸ hP
  have hS : va_S A s.heap H locs := by rw [eH]; exact hS
  rw [← eH]
  clear elocs eH
  have hiX7 : ∀ w ∈ u_ws RX7 TX7 8, w ∈ wsX7_order := by decide +kernel
  have hk : ∀ k, k ∉ [16, 20, 21] → G0[k]? = G0[k]? := fun _ _ => rfl
  refine lv_aload_n (pc := 0) hx hb dX7_order_0 rfl (lv_at hl 0 rfl) ?_
  refine va_get (ci := 7) (C := RX7) (T := TX7) (N := 8) (pc := 1) hx hb hts hiX7 hown hK hP 0 w0 rfl 6 (by decide) (hts (.fieldLink RX7 54 "InkPress" "jobs" "LInkPress$Jobs;") (by decide +kernel)) (fun _ h9 => h9) rfl dX7_order_1 ?_
  refine mx_cVi (As := []) (rest := []) (pc := 4) ⟨hx, hb, hml, hown, hts⟩ (k_X0_leastCosts (a := a) (co := co) (pa := pa) (wa := wa) (ct := ct) (be := be) (jn := jn) (jp := jp) hD w16 w17 w18 w19 w20 w21 hj hco) (cwV 0 hts gX7_order_X0_leastCosts rfl rfl rfl (by decide +kernel) ⟨Nat.le_of_ble_eq_true rfl, Nat.le_of_ble_eq_true rfl⟩) 16 rfl rfl w16 hK hN hZ hP hS rfl hl.1 rfl (Nat.le_of_ble_eq_true rfl) dX7_order_4 ⟨Nat.zero_le _, Nat.zero_le _⟩ (fun G H locs hP hD hS hB => ?_)
  obtain ⟨w16, w20, w21, ho⟩ := hB
  have w0 := (ho 0 (by decide)).trans w0
  have w16 : G[16]? = some (a 16, .inr (0, [.ref (a 17), .ref (a 18), .ref (a 19), .ref (a 20), .ref (a 21), .int (nI ((jn))), .int (gB (true))])) := w16
  have w17 := (ho 17 (by decide)).trans w17
  have w18 := (ho 18 (by decide)).trans w18
  have w19 := (ho 19 (by decide)).trans w19
  have w20 : G[20]? = some (a 20, .inl (cI, 1024, .inl (gPc (jp) (jn) (co) (pa) (wa) (ct)))) := w20
  have w21 : G[21]? = some (a 21, .inl (cI, 7, .inl (fun j => nI ((gPb (jp) (jn) (co) (pa) (wa) (ct) (be)) j)))) := w21
  have hk := gk_call hk ho (by decide)
  clear ho
  exact hret _ _ _ _ _ _ hP hD hS rfl ⟨w16, w20, w21, hk⟩ dX7_order_7
set_option maxHeartbeats 4000000 in
set_option maxRecDepth 100000 in
theorem k_X7_orderAt_b {l : Launch} {D : va_G} {cI cZ : ClassId} {A : Nat → Prop} {g a : Nat → Nat} {G0 : va_W} {st : Bool} {co : Nat → Nat} {pa : Nat → Int32} {wa : Nat → Int32} {ct : Nat → Int32} {be : Nat → Nat} {jn : Nat} {jp : Bool} {x : Int32} (hD : va_D A G0) (w0 : G0[0]? = some (a 0, .inr (7, [.ref (a 1), .ref (a 3), .ref (a 5), .ref (a 7), .ref (a 10), .ref (a 11), .ref (a 16), .int (gB (st))]))) (w16 : G0[16]? = some (a 16, .inr (0, [.ref (a 17), .ref (a 18), .ref (a 19), .ref (a 20), .ref (a 21), .int (nI (jn)), .int (gB (jp))]))) (w17 : G0[17]? = some (a 17, .inl (cI, 8, .inl (fun j => nI ((co) j))))) (w18 : G0[18]? = some (a 18, .inl (cI, 8, .inl (pa)))) (w19 : G0[19]? = some (a 19, .inl (cI, 16, .inl (wa)))) (w20 : G0[20]? = some (a 20, .inl (cI, 1024, .inl (ct)))) (w21 : G0[21]? = some (a 21, .inl (cI, 7, .inl (fun j => nI ((be) j))))) (h1 : gHas x (nI jn) = false) : gMi l D cI cZ A g yX7_orderAt wsX7_orderAt ({ frames := 1, cells := 0, slots := 0, locals := 21 }) [.ref (a 0), .int (x)] G0 ((-6)) (fun G1 => G1 = G0) := by
  refine gof_i (cc := cX7_orderAt) (maxL := 2) (by decide) rfl (Nat.le_of_ble_eq_true rfl) hD ?_
  intro p e s m args below meth c Q hx hb hml hts hown hK hN hZ hP hS hret ls hl
  have hown : s.vm.findClass RX7 = some m.cls := hown
  have hl : lv_has ls 2 [(0, .ref (a 0)), (1, .int (x))] := hl
  obtain ⟨locs, elocs⟩ : ∃ q : List Loc, q = [] := ⟨_, rfl⟩
  rw [← elocs] at hS ⊢
  obtain ⟨H, eH⟩ : ∃ q : Heap, q = s.heap := ⟨_, rfl⟩
  have hP : va_P D vwCl G0 H := eH ▸ hP
  have hS : va_S A s.heap H locs := by rw [eH]; exact hS
  rw [← eH]
  clear elocs eH
  have hiX7 : ∀ w ∈ u_ws RX7 TX7 8, w ∈ wsX7_orderAt := by decide +kernel
  have hk : ∀ k, k ∉ ([] : List Nat) → G0[k]? = G0[k]? := fun _ _ => rfl
  refine lv_aload_n (pc := 0) hx hb dX7_orderAt_0 rfl (lv_at hl 0 rfl) ?_
  refine va_get (ci := 7) (C := RX7) (T := TX7) (N := 8) (pc := 1) hx hb hts hiX7 hown hK hP 0 w0 rfl 6 (by decide) (hts (.fieldLink RX7 54 "InkPress" "jobs" "LInkPress$Jobs;") (by decide +kernel)) (fun _ h9 => h9) rfl dX7_orderAt_1 ?_
  refine lv_iload_n (pc := 4) hx hb dX7_orderAt_4 rfl (lv_at hl 1 rfl) ?_
  refine mx_cVi (As := [.int (x)]) (rest := []) (pc := 5) ⟨hx, hb, hml, hown, hts⟩ (k_X0_has (a := a) (co := co) (pa := pa) (wa := wa) (ct := ct) (be := be) (jn := jn) (jp := jp) (x := x) hD w16 w17 w18 w19 w20 w21 ) (cwV 1 hts gX7_orderAt_X0_has rfl rfl rfl (by decide +kernel) ⟨Nat.le_of_ble_eq_true rfl, Nat.le_of_ble_eq_true rfl⟩) 16 rfl rfl w16 hK hN hZ hP hS rfl hl.1 rfl (Nat.le_of_ble_eq_true rfl) dX7_orderAt_5 ⟨Nat.zero_le _, Nat.zero_le _⟩ (fun G' H locs hP hD hS hB => ?_)
  rw [hB] at hP hD
  clear hB G'
  refine mx_beq (tgt := 22) (pc := 8) hx hb dX7_orderAt_8 (by decide) (fun c8 => ?_) (fun c8 => absurd (c8.symm.trans h1) (by decide))
  refine lv_bipush (v := (-6)) (pc := 22) hx hb dX7_orderAt_22 (by decide) ?_
  exact hret _ _ _ _ _ _ hP hD hS rfl rfl dX7_orderAt_24
set_option maxHeartbeats 4000000 in
set_option maxRecDepth 100000 in
theorem k_X7_orderAt_k {l : Launch} {D : va_G} {cI cZ : ClassId} {A : Nat → Prop} {g a : Nat → Nat} {G0 : va_W} {st : Bool} {co : Nat → Nat} {pa : Nat → Int32} {wa : Nat → Int32} {ct : Nat → Int32} {be : Nat → Nat} {jn : Nat} {jp : Bool} {i : Nat} (hD : va_D A G0) (w0 : G0[0]? = some (a 0, .inr (7, [.ref (a 1), .ref (a 3), .ref (a 5), .ref (a 7), .ref (a 10), .ref (a 11), .ref (a 16), .int (gB (st))]))) (w16 : G0[16]? = some (a 16, .inr (0, [.ref (a 17), .ref (a 18), .ref (a 19), .ref (a 20), .ref (a 21), .int (nI (jn)), .int (gB (jp))]))) (w17 : G0[17]? = some (a 17, .inl (cI, 8, .inl (fun j => nI ((co) j))))) (w18 : G0[18]? = some (a 18, .inl (cI, 8, .inl (pa)))) (w19 : G0[19]? = some (a 19, .inl (cI, 16, .inl (wa)))) (w20 : G0[20]? = some (a 20, .inl (cI, 1024, .inl (ct)))) (w21 : G0[21]? = some (a 21, .inl (cI, 7, .inl (fun j => nI ((be) j))))) (hj : jn ≤ 7) (hco : ∀ j, co j < 4) (hi : i < 7) (h1 : gHas (nI i) (nI jn) = true) : gMi l D cI cZ A g yX7_orderAt wsX7_orderAt ({ frames := 5, cells := 0, slots := 0, locals := 118 }) [.ref (a 0), .int (nI (i))] G0 (nI (gPb jp jn co pa wa ct be i)) (fun G1 => G1[16]? = some (a 16, .inr (0, [.ref (a 17), .ref (a 18), .ref (a 19), .ref (a 20), .ref (a 21), .int (nI (jn)), .int (gB (true))])) ∧ G1[20]? = some (a 20, .inl (cI, 1024, .inl (gPc jp jn co pa wa ct))) ∧ G1[21]? = some (a 21, .inl (cI, 7, .inl (fun j => nI ((gPb jp jn co pa wa ct be) j)))) ∧ ∀ k, k ∉ [16, 20, 21] → G1[k]? = G0[k]?) := by
  refine gof_i (cc := cX7_orderAt) (maxL := 2) (by decide) rfl (Nat.le_of_ble_eq_true rfl) hD ?_
  intro p e s m args below meth c Q hx hb hml hts hown hK hN hZ hP hS hret ls hl
  have hown : s.vm.findClass RX7 = some m.cls := hown
  have hl : lv_has ls 2 [(0, .ref (a 0)), (1, .int (nI (i)))] := hl
  obtain ⟨locs, elocs⟩ : ∃ q : List Loc, q = [] := ⟨_, rfl⟩
  rw [← elocs] at hS ⊢
  obtain ⟨H, eH⟩ : ∃ q : Heap, q = s.heap := ⟨_, rfl⟩
  have hP : va_P D vwCl G0 H := eH ▸ hP
  have hS : va_S A s.heap H locs := by rw [eH]; exact hS
  rw [← eH]
  clear elocs eH
  have hiX7 : ∀ w ∈ u_ws RX7 TX7 8, w ∈ wsX7_orderAt := by decide +kernel
  have hk : ∀ k, k ∉ [16, 20, 21] → G0[k]? = G0[k]? := fun _ _ => rfl
  refine lv_aload_n (pc := 0) hx hb dX7_orderAt_0 rfl (lv_at hl 0 rfl) ?_
  refine va_get (ci := 7) (C := RX7) (T := TX7) (N := 8) (pc := 1) hx hb hts hiX7 hown hK hP 0 w0 rfl 6 (by decide) (hts (.fieldLink RX7 54 "InkPress" "jobs" "LInkPress$Jobs;") (by decide +kernel)) (fun _ h9 => h9) rfl dX7_orderAt_1 ?_
  refine lv_iload_n (pc := 4) hx hb dX7_orderAt_4 rfl (lv_at hl 1 rfl) ?_
  refine mx_cVi (As := [.int (nI (i))]) (rest := []) (pc := 5) ⟨hx, hb, hml, hown, hts⟩ (k_X0_has (a := a) (co := co) (pa := pa) (wa := wa) (ct := ct) (be := be) (jn := jn) (jp := jp) (x := nI (i)) hD w16 w17 w18 w19 w20 w21 ) (cwV 1 hts gX7_orderAt_X0_has rfl rfl rfl (by decide +kernel) ⟨Nat.le_of_ble_eq_true rfl, Nat.le_of_ble_eq_true rfl⟩) 16 rfl rfl w16 hK hN hZ hP hS rfl hl.1 rfl (Nat.le_of_ble_eq_true rfl) dX7_orderAt_5 ⟨Nat.zero_le _, Nat.zero_le _⟩ (fun G' H locs hP hD hS hB => ?_)
  rw [hB] at hP hD
  clear hB G'
  refine mx_beq (tgt := 22) (pc := 8) hx hb dX7_orderAt_8 (by decide) (fun c8 => absurd (c8.symm.trans h1) (by decide)) (fun c8 => ?_)
  refine lv_aload_n (pc := 11) hx hb dX7_orderAt_11 rfl (lv_at hl 0 rfl) ?_
  refine va_get (ci := 7) (C := RX7) (T := TX7) (N := 8) (pc := 12) hx hb hts hiX7 hown hK hP 0 w0 rfl 6 (by decide) (hts (.fieldLink RX7 54 "InkPress" "jobs" "LInkPress$Jobs;") (by decide +kernel)) (fun _ h9 => h9) rfl dX7_orderAt_12 ?_
  refine lv_iload_n (pc := 15) hx hb dX7_orderAt_15 rfl (lv_at hl 1 rfl) ?_
  refine mx_cVi (As := [.int (nI (i))]) (rest := []) (pc := 16) ⟨hx, hb, hml, hown, hts⟩ (k_X0_inOrder (a := a) (co := co) (pa := pa) (wa := wa) (ct := ct) (be := be) (jn := jn) (jp := jp) (i := i) hD w16 w17 w18 w19 w20 w21 hj hco hi) (cwV 1 hts gX7_orderAt_X0_inOrder rfl rfl rfl (by decide +kernel) ⟨Nat.le_of_ble_eq_true rfl, Nat.le_of_ble_eq_true rfl⟩) 16 rfl rfl w16 hK hN hZ hP hS rfl hl.1 rfl (Nat.le_of_ble_eq_true rfl) dX7_orderAt_16 ⟨Nat.zero_le _, Nat.zero_le _⟩ (fun G H locs hP hD hS hB => ?_)
  obtain ⟨w16, w20, w21, ho⟩ := hB
  have w0 := (ho 0 (by decide)).trans w0
  have w16 : G[16]? = some (a 16, .inr (0, [.ref (a 17), .ref (a 18), .ref (a 19), .ref (a 20), .ref (a 21), .int (nI ((jn))), .int (gB (true))])) := w16
  have w17 := (ho 17 (by decide)).trans w17
  have w18 := (ho 18 (by decide)).trans w18
  have w19 := (ho 19 (by decide)).trans w19
  have w20 : G[20]? = some (a 20, .inl (cI, 1024, .inl (gPc (jp) (jn) (co) (pa) (wa) (ct)))) := w20
  have w21 : G[21]? = some (a 21, .inl (cI, 7, .inl (fun j => nI ((gPb (jp) (jn) (co) (pa) (wa) (ct) (be)) j)))) := w21
  have hk := gk_call hk ho (by decide)
  clear ho
  refine lv_goto (tgt := 24) (pc := 19) hx hb dX7_orderAt_19 (by decide) ?_
  exact hret _ _ _ _ _ _ hP hD hS rfl ⟨w16, w20, w21, hk⟩ dX7_orderAt_24
