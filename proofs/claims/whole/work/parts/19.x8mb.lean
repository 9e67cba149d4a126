/-! the reference, on -/
set_option maxHeartbeats 4000000 in
set_option maxRecDepth 100000 in
theorem k_X8_fit_0 {l : Launch} {D : va_G} {cI cZ : ClassId} {A : Nat → Prop} {g a : Nat → Nat} {G0 : va_W} {zn : Nat} {tr : Nat} {sc : Nat} {pn : Nat} {mn : Nat} {jn : Nat} {sg : Int32} {sr : Int32} {ss : Int32} {fed : Int32} {pap : Int32} {bar : Int32} {st : Bool} {q1 : Int64} {q2 : Int64} {q3 : Int64} {q4 : Int64} {q5 : Int64} {mx : Nat → Int32} {my : Nat → Int32} {mdx : Nat → Int32} {mdy : Nat → Int32} {wh : Nat} {xa : Nat} {yb : Nat} (hD : va_D A G0) (w22 : G0[22]? = some (a 22, .inr (8, [.int (nI (zn)), .int (nI (tr)), .ref (a 23), .ref (a 24), .ref (a 25), .ref (a 26), .ref (a 27), .ref (a 28), .ref (a 29), .int (nI (sc)), .int (sg), .int (sr), .int (ss), .int (fed), .int (pap), .int (bar), .int (gB (st)), .ref (a 30), .ref (a 31), .ref (a 32), .int (nI (pn)), .ref (a 33), .ref (a 34), .ref (a 35), .ref (a 36), .int (nI (mn)), .long (q1), .long (q2), .long (q3), .long (q4), .long (q5), .ref (a 37), .ref (a 38), .ref (a 39), .int (nI (jn)), .ref (a 40), .ref (a 41)]))) (w33 : G0[33]? = some (a 33, .inl (cI, 8, .inl (mx)))) (w34 : G0[34]? = some (a 34, .inl (cI, 8, .inl (my)))) (w35 : G0[35]? = some (a 35, .inl (cI, 8, .inl (mdx)))) (w36 : G0[36]? = some (a 36, .inl (cI, 8, .inl (mdy)))) (hm : mn ≤ 8) (hw4 : wh < 4) (h1 : gWi (nI wh) (nI 0) (nI 3) = true) (h3 : decide (0 < gSp mn (gPs mx mn 0 0) (gPs my mn 0 0) (gPs mdx mn 0 0) (gPs mdy mn 0 0) (gPs (fun j => mx j * mx j + my j * my j) mn 0 0) (gPs (fun j => mx j * mdx j + my j * mdy j) mn 0 0) (gPs (fun j => mx j * mdy j - my j * mdx j) mn 0 0)) = true) (hu : gMlab (gUpp wh mn (gPs mx mn 0 0) (gPs my mn 0 0) (gPs mdx mn 0 0) (gPs mdy mn 0 0) (gPs (fun j => mx j * mx j + my j * my j) mn 0 0) (gPs (fun j => mx j * mdx j + my j * mdy j) mn 0 0) (gPs (fun j => mx j * mdy j - my j * mdx j) mn 0 0)) = lN xa) (hw : gLow wh mn (gPs mx mn 0 0) (gPs my mn 0 0) (gPs mdx mn 0 0) (gPs mdy mn 0 0) (gPs (fun j => mx j * mx j + my j * my j) mn 0 0) (gPs (fun j => mx j * mdx j + my j * mdy j) mn 0 0) (gPs (fun j => mx j * mdy j - my j * mdx j) mn 0 0) = lN yb) (hx3 : xa < 2 ^ 63) (hy0 : 0 < yb) (hy3 : yb < 2 ^ 63) : gMl l D cI cZ A g yX8_fit wsX8_fit ({ frames := 1, cells := 0, slots := 0, locals := 35 }) [.ref (a 22), .int (nI (wh)), .int (nI (0))] G0 (gUpp wh mn (gPs mx mn 0 0) (gPs my mn 0 0) (gPs mdx mn 0 0) (gPs mdy mn 0 0) (gPs (fun j => mx j * mx j + my j * my j) mn 0 0) (gPs (fun j => mx j * mdx j + my j * mdy j) mn 0 0) (gPs (fun j => mx j * mdy j - my j * mdx j) mn 0 0) / lN (Nat.gcd xa yb)) (fun G1 => G1[22]? = some (a 22, .inr (8, [.int (nI (zn)), .int (nI (tr)), .ref (a 23), .ref (a 24), .ref (a 25), .ref (a 26), .ref (a 27), .ref (a 28), .ref (a 29), .int (nI (sc)), .int (sg), .int (sr), .int (ss), .int (fed), .int (pap), .int (bar), .int (gB (st)), .ref (a 30), .ref (a 31), .ref (a 32), .int (nI (pn)), .ref (a 33), .ref (a 34), .ref (a 35), .ref (a 36), .int (nI (mn)), .long (gSp mn (gPs mx mn 0 0) (gPs my mn 0 0) (gPs mdx mn 0 0) (gPs mdy mn 0 0) (gPs (fun j => mx j * mx j + my j * my j) mn 0 0) (gPs (fun j => mx j * mdx j + my j * mdy j) mn 0 0) (gPs (fun j => mx j * mdy j - my j * mdx j) mn 0 0)), .long (gStr mn (gPs mx mn 0 0) (gPs my mn 0 0) (gPs mdx mn 0 0) (gPs mdy mn 0 0) (gPs (fun j => mx j * mx j + my j * my j) mn 0 0) (gPs (fun j => mx j * mdx j + my j * mdy j) mn 0 0) (gPs (fun j => mx j * mdy j - my j * mdx j) mn 0 0)), .long (gTu mn (gPs mx mn 0 0) (gPs my mn 0 0) (gPs mdx mn 0 0) (gPs mdy mn 0 0) (gPs (fun j => mx j * mx j + my j * my j) mn 0 0) (gPs (fun j => mx j * mdx j + my j * mdy j) mn 0 0) (gPs (fun j => mx j * mdy j - my j * mdx j) mn 0 0)), .long (gAc mn (gPs mx mn 0 0) (gPs my mn 0 0) (gPs mdx mn 0 0) (gPs mdy mn 0 0) (gPs (fun j => mx j * mx j + my j * my j) mn 0 0) (gPs (fun j => mx j * mdx j + my j * mdy j) mn 0 0) (gPs (fun j => mx j * mdy j - my j * mdx j) mn 0 0)), .long (gUp mn (gPs mx mn 0 0) (gPs my mn 0 0) (gPs mdx mn 0 0) (gPs mdy mn 0 0) (gPs (fun j => mx j * mx j + my j * my j) mn 0 0) (gPs (fun j => mx j * mdx j + my j * mdy j) mn 0 0) (gPs (fun j => mx j * mdy j - my j * mdx j) mn 0 0)), .ref (a 37), .ref (a 38), .ref (a 39), .int (nI (jn)), .ref (a 40), .ref (a 41)])) ∧ ∀ k, k ∉ [22] → G1[k]? = G0[k]?) := by
  refine gof_l (cc := cX8_fit) (maxL := 3) (by decide) rfl (Nat.le_of_ble_eq_true rfl) hD ?_
  intro p e s m args below meth c Q hx hb hml hts hown hK hN hZ hP hS hret ls hl
  have hown : s.vm.findClass RX8 = some m.cls := hown
  have hl : lv_has ls 3 [(0, .ref (a 22)), (1, .int (nI (wh))), (2, .int (nI (0)))] := hl
  obtain ⟨locs, elocs⟩ : ∃ q : List Loc, q = [] := ⟨_, rfl⟩
  rw [← elocs] at hS ⊢
  obtain ⟨H, eH⟩ : ∃ q : Heap, q = s.heap := ⟨_, rfl⟩
  have hP : va_P D vwCl G0 H := eH ▸ hP
  have hS : va_S A s.heap H locs := by rw [eH]; exact hS
  rw [← eH]
  clear elocs eH
  have hiX8 : ∀ w ∈ u_ws RX8 TX8 37, w ∈ wsX8_fit := by decide +kernel
  have hk : ∀ k, k ∉ [22] → G0[k]? = G0[k]? := fun _ _ => rfl
  rcases (show wh = 0 ∨ wh = 1 ∨ wh = 2 ∨ wh = 3 by omega) with rfl | rfl | rfl | rfl
  · skip
    refine lv_iload_n (pc := 0) hx hb dX8_fit_0 rfl (lv_at hl 1 rfl) ?_
    refine lv_i2l (v := (nI (0)).toInt64) (pc := 1) hx hb dX8_fit_1 rfl ?_
    refine lv_lconst (v := 0) (pc := 2) hx hb dX8_fit_2 (by decide) ?_
    refine lv_ldc2 (own := RX8) (v := (3)) (pc := 3) hx hb hown (hts (.constantLong RX8 178 (3)) (by decide +kernel)) dX8_fit_3 ?_
    refine mx_cSi (As := [.long ((nI (0)).toInt64), .long (0), .long ((3))]) (rest := []) (pc := 6) ⟨hx, hb, hml, hown, hts⟩ (k_X8_in (a := a) (v := (nI (0)).toInt64) (lo := 0) (hi := (3)) hD  ) (va_cwS 3 hts gX8_fit_X8_in rfl rfl rfl (by decide +kernel) ⟨Nat.le_of_ble_eq_true rfl, Nat.le_of_ble_eq_true rfl⟩) hK hN hZ hP hS rfl hl.1 rfl (Nat.le_of_ble_eq_true rfl) dX8_fit_6 ⟨Nat.zero_le _, Nat.zero_le _⟩ (fun G' H locs hP hD hS hB => ?_)
    rw [hB] at hP hD
    clear hB G'
    refine mx_beq (tgt := 22) (pc := 9) hx hb dX8_fit_9 (by decide) (fun c9 => absurd (c9.symm.trans ((gIn_w (a := nI 0) (b := nI 3) (by decide) (by decide)).trans h1)) (by decide)) (fun c9 => ?_)
    refine lv_iload_n (pc := 12) hx hb dX8_fit_12 rfl (lv_at hl 2 rfl) ?_
    refine lv_i2l (v := (nI (0)).toInt64) (pc := 13) hx hb dX8_fit_13 rfl ?_
    refine lv_lconst (v := 0) (pc := 14) hx hb dX8_fit_14 (by decide) ?_
    refine lv_lconst (v := 1) (pc := 15) hx hb dX8_fit_15 (by decide) ?_
    refine mx_cSi (As := [.long ((nI (0)).toInt64), .long (0), .long (1)]) (rest := []) (pc := 16) ⟨hx, hb, hml, hown, hts⟩ (k_X8_in (a := a) (v := (nI (0)).toInt64) (lo := 0) (hi := 1) hD  ) (va_cwS 3 hts gX8_fit_X8_in rfl rfl rfl (by decide +kernel) ⟨Nat.le_of_ble_eq_true rfl, Nat.le_of_ble_eq_true rfl⟩) hK hN hZ hP hS rfl hl.1 rfl (Nat.le_of_ble_eq_true rfl) dX8_fit_16 ⟨Nat.zero_le _, Nat.zero_le _⟩ (fun G' H locs hP hD hS hB => ?_)
    rw [hB] at hP hD
    clear hB G'
    refine mx_bne (tgt := 26) (pc := 19) hx hb dX8_fit_19 (by decide) (fun c19 => ?_) (fun c19 => absurd (c19.symm.trans ((gIn_w (a := nI 0) (b := nI 1) (by decide) (by decide)).trans (show gWi (nI 0) (nI 0) (nI 1) = true by decide))) (by decide))
    refine lv_aload_n (pc := 26) hx hb dX8_fit_26 rfl (lv_at hl 0 rfl) ?_
    refine mx_cVi (As := []) (rest := []) (pc := 27) ⟨hx, hb, hml, hown, hts⟩ (k_X8_findFit (a := a) (zn := zn) (tr := tr) (sc := sc) (pn := pn) (mn := mn) (jn := jn) (sg := sg) (sr := sr) (ss := ss) (fed := fed) (pap := pap) (bar := bar) (st := st) (q1 := q1) (q2 := q2) (q3 := q3) (q4 := q4) (q5 := q5) (mx := mx) (my := my) (mdx := mdx) (mdy := mdy) hD w22 w33 w34 w35 w36 (by omega)) (cwV 0 hts gX8_fit_X8_findFit rfl rfl rfl (by decide +kernel) ⟨Nat.le_of_ble_eq_true rfl, Nat.le_of_ble_eq_true rfl⟩) 22 rfl rfl w22 hK hN hZ hP hS rfl hl.1 rfl (Nat.le_of_ble_eq_true rfl) dX8_fit_27 ⟨Nat.zero_le _, Nat.zero_le _⟩ (fun G H locs hP hD hS hB => ?_)
    obtain ⟨w22, ho⟩ := hB
    have w22 : G[22]? = some (a 22, .inr (8, [.int (nI ((zn))), .int (nI ((tr))), .ref (a 23), .ref (a 24), .ref (a 25), .ref (a 26), .ref (a 27), .ref (a 28), .ref (a 29), .int (nI ((sc))), .int ((sg)), .int ((sr)), .int ((ss)), .int ((fed)), .int ((pap)), .int ((bar)), .int (gB ((st))), .ref (a 30), .ref (a 31), .ref (a 32), .int (nI ((pn))), .ref (a 33), .ref (a 34), .ref (a 35), .ref (a 36), .int (nI ((mn))), .long (gSp (mn) (gPs (mx) (mn) 0 0) (gPs (my) (mn) 0 0) (gPs (mdx) (mn) 0 0) (gPs (mdy) (mn) 0 0) (gPs (fun j => (mx) j * (mx) j + (my) j * (my) j) (mn) 0 0) (gPs (fun j => (mx) j * (mdx) j + (my) j * (mdy) j) (mn) 0 0) (gPs (fun j => (mx) j * (mdy) j - (my) j * (mdx) j) (mn) 0 0)), .long (gStr (mn) (gPs (mx) (mn) 0 0) (gPs (my) (mn) 0 0) (gPs (mdx) (mn) 0 0) (gPs (mdy) (mn) 0 0) (gPs (fun j => (mx) j * (mx) j + (my) j * (my) j) (mn) 0 0) (gPs (fun j => (mx) j * (mdx) j + (my) j * (mdy) j) (mn) 0 0) (gPs (fun j => (mx) j * (mdy) j - (my) j * (mdx) j) (mn) 0 0)), .long (gTu (mn) (gPs (mx) (mn) 0 0) (gPs (my) (mn) 0 0) (gPs (mdx) (mn) 0 0) (gPs (mdy) (mn) 0 0) (gPs (fun j => (mx) j * (mx) j + (my) j * (my) j) (mn) 0 0) (gPs (fun j => (mx) j * (mdx) j + (my) j * (mdy) j) (mn) 0 0) (gPs (fun j => (mx) j * (mdy) j - (my) j * (mdx) j) (mn) 0 0)), .long (gAc (mn) (gPs (mx) (mn) 0 0) (gPs (my) (mn) 0 0) (gPs (mdx) (mn) 0 0) (gPs (mdy) (mn) 0 0) (gPs (fun j => (mx) j * (mx) j + (my) j * (my) j) (mn) 0 0) (gPs (fun j => (mx) j * (mdx) j + (my) j * (mdy) j) (mn) 0 0) (gPs (fun j => (mx) j * (mdy) j - (my) j * (mdx) j) (mn) 0 0)), .long (gUp (mn) (gPs (mx) (mn) 0 0) (gPs (my) (mn) 0 0) (gPs (mdx) (mn) 0 0) (gPs (mdy) (mn) 0 0) (gPs (fun j => (mx) j * (mx) j + (my) j * (my) j) (mn) 0 0) (gPs (fun j => (mx) j * (mdx) j + (my) j * (mdy) j) (mn) 0 0) (gPs (fun j => (mx) j * (mdy) j - (my) j * (mdx) j) (mn) 0 0)), .ref (a 37), .ref (a 38), .ref (a 39), .int (nI ((jn))), .ref (a 40), .ref (a 41)])) := w22
    have w33 := (ho 33 (by decide)).trans w33
    have w34 := (ho 34 (by decide)).trans w34
    have w35 := (ho 35 (by decide)).trans w35
    have w36 := (ho 36 (by decide)).trans w36
    have hk := gk_call hk ho (by decide)
    clear ho
    refine mx_bne (tgt := 37) (pc := 30) hx hb dX8_fit_30 (by decide) (fun c30 => ?_) (fun c30 => absurd (c30.symm.trans h3) (by decide))
    refine lv_iload_n (pc := 37) hx hb dX8_fit_37 rfl (lv_at hl 1 rfl) ?_
    refine lv_tableIn (tgt := 64) (pc := 38) hx hb dX8_fit_38 (by decide) (by decide) rfl (by decide) ?_
    refine lv_aload_n (pc := 64) hx hb dX8_fit_64 rfl (lv_at hl 0 rfl) ?_
    refine va_get (ci := 8) (C := RX8) (T := TX8) (N := 37) (pc := 65) hx hb hts hiX8 hown hK hP 22 w22 rfl 27 (by decide) (hts (.fieldLink RX8 166 "InkPressModel" "stretch" "J") (by decide +kernel)) (fun _ h9 => h9) rfl dX8_fit_65 ?_
    refine lv_aload_n (pc := 68) hx hb dX8_fit_68 rfl (lv_at hl 0 rfl) ?_
    refine va_get (ci := 8) (C := RX8) (T := TX8) (N := 37) (pc := 69) hx hb hts hiX8 hown hK hP 22 w22 rfl 26 (by decide) (hts (.fieldLink RX8 162 "InkPressModel" "all" "J") (by decide +kernel)) (fun _ h9 => h9) rfl dX8_fit_69 ?_
    refine lv_iload_n (pc := 72) hx hb dX8_fit_72 rfl (lv_at hl 2 rfl) ?_
    refine mx_cSl (As := [.long (gStr (mn) (gPs (mx) (mn) 0 0) (gPs (my) (mn) 0 0) (gPs (mdx) (mn) 0 0) (gPs (mdy) (mn) 0 0) (gPs (fun j => (mx) j * (mx) j + (my) j * (my) j) (mn) 0 0) (gPs (fun j => (mx) j * (mdx) j + (my) j * (mdy) j) (mn) 0 0) (gPs (fun j => (mx) j * (mdy) j - (my) j * (mdx) j) (mn) 0 0)), .long (gSp (mn) (gPs (mx) (mn) 0 0) (gPs (my) (mn) 0 0) (gPs (mdx) (mn) 0 0) (gPs (mdy) (mn) 0 0) (gPs (fun j => (mx) j * (mx) j + (my) j * (my) j) (mn) 0 0) (gPs (fun j => (mx) j * (mdx) j + (my) j * (mdy) j) (mn) 0 0) (gPs (fun j => (mx) j * (mdy) j - (my) j * (mdx) j) (mn) 0 0)), .int (nI (0))]) (rest := []) (pc := 73) ⟨hx, hb, hml, hown, hts⟩ (k_X8_lowest_0 (a := a) (uu := gStr (mn) (gPs (mx) (mn) 0 0) (gPs (my) (mn) 0 0) (gPs (mdx) (mn) 0 0) (gPs (mdy) (mn) 0 0) (gPs (fun j => (mx) j * (mx) j + (my) j * (my) j) (mn) 0 0) (gPs (fun j => (mx) j * (mdx) j + (my) j * (mdy) j) (mn) 0 0) (gPs (fun j => (mx) j * (mdy) j - (my) j * (mdx) j) (mn) 0 0)) (lw := gSp (mn) (gPs (mx) (mn) 0 0) (gPs (my) (mn) 0 0) (gPs (mdx) (mn) 0 0) (gPs (mdy) (mn) 0 0) (gPs (fun j => (mx) j * (mx) j + (my) j * (my) j) (mn) 0 0) (gPs (fun j => (mx) j * (mdx) j + (my) j * (mdy) j) (mn) 0 0) (gPs (fun j => (mx) j * (mdy) j - (my) j * (mdx) j) (mn) 0 0)) (xa := xa) (yb := yb) hD  hu hw hx3 hy0 hy3) (va_cwS 3 hts gX8_fit_X8_lowest rfl rfl rfl (by decide +kernel) ⟨Nat.le_of_ble_eq_true rfl, Nat.le_of_ble_eq_true rfl⟩) hK hN hZ hP hS rfl hl.1 rfl (Nat.le_of_ble_eq_true rfl) dX8_fit_73 ⟨Nat.zero_le _, Nat.zero_le _⟩ (fun G' H locs hP hD hS hB => ?_)
    rw [hB] at hP hD
    clear hB G'
    exact hret _ _ _ _ _ _ hP hD hS rfl ⟨w22, hk⟩ dX8_fit_76
  · skip
    refine lv_iload_n (pc := 0) hx hb dX8_fit_0 rfl (lv_at hl 1 rfl) ?_
    refine lv_i2l (v := (nI (1)).toInt64) (pc := 1) hx hb dX8_fit_1 rfl ?_
    refine lv_lconst (v := 0) (pc := 2) hx hb dX8_fit_2 (by decide) ?_
    refine lv_ldc2 (own := RX8) (v := (3)) (pc := 3) hx hb hown (hts (.constantLong RX8 178 (3)) (by decide +kernel)) dX8_fit_3 ?_
    refine mx_cSi (As := [.long ((nI (1)).toInt64), .long (0), .long ((3))]) (rest := []) (pc := 6) ⟨hx, hb, hml, hown, hts⟩ (k_X8_in (a := a) (v := (nI (1)).toInt64) (lo := 0) (hi := (3)) hD  ) (va_cwS 3 hts gX8_fit_X8_in rfl rfl rfl (by decide +kernel) ⟨Nat.le_of_ble_eq_true rfl, Nat.le_of_ble_eq_true rfl⟩) hK hN hZ hP hS rfl hl.1 rfl (Nat.le_of_ble_eq_true rfl) dX8_fit_6 ⟨Nat.zero_le _, Nat.zero_le _⟩ (fun G' H locs hP hD hS hB => ?_)
    rw [hB] at hP hD
    clear hB G'
    refine mx_beq (tgt := 22) (pc := 9) hx hb dX8_fit_9 (by decide) (fun c9 => absurd (c9.symm.trans ((gIn_w (a := nI 0) (b := nI 3) (by decide) (by decide)).trans h1)) (by decide)) (fun c9 => ?_)
    refine lv_iload_n (pc := 12) hx hb dX8_fit_12 rfl (lv_at hl 2 rfl) ?_
    refine lv_i2l (v := (nI (0)).toInt64) (pc := 13) hx hb dX8_fit_13 rfl ?_
    refine lv_lconst (v := 0) (pc := 14) hx hb dX8_fit_14 (by decide) ?_
    refine lv_lconst (v := 1) (pc := 15) hx hb dX8_fit_15 (by decide) ?_
    refine mx_cSi (As := [.long ((nI (0)).toInt64), .long (0), .long (1)]) (rest := []) (pc := 16) ⟨hx, hb, hml, hown, hts⟩ (k_X8_in (a := a) (v := (nI (0)).toInt64) (lo := 0) (hi := 1) hD  ) (va_cwS 3 hts gX8_fit_X8_in rfl rfl rfl (by decide +kernel) ⟨Nat.le_of_ble_eq_true rfl, Nat.le_of_ble_eq_true rfl⟩) hK hN hZ hP hS rfl hl.1 rfl (Nat.le_of_ble_eq_true rfl) dX8_fit_16 ⟨Nat.zero_le _, Nat.zero_le _⟩ (fun G' H locs hP hD hS hB => ?_)
    rw [hB] at hP hD
    clear hB G'
    refine mx_bne (tgt := 26) (pc := 19) hx hb dX8_fit_19 (by decide) (fun c19 => ?_) (fun c19 => absurd (c19.symm.trans ((gIn_w (a := nI 0) (b := nI 1) (by decide) (by decide)).trans (show gWi (nI 0) (nI 0) (nI 1) = true by decide))) (by decide))
    refine lv_aload_n (pc := 26) hx hb dX8_fit_26 rfl (lv_at hl 0 rfl) ?_
    refine mx_cVi (As := []) (rest := []) (pc := 27) ⟨hx, hb, hml, hown, hts⟩ (k_X8_findFit (a := a) (zn := zn) (tr := tr) (sc := sc) (pn := pn) (mn := mn) (jn := jn) (sg := sg) (sr := sr) (ss := ss) (fed := fed) (pap := pap) (bar := bar) (st := st) (q1 := q1) (q2 := q2) (q3 := q3) (q4 := q4) (q5 := q5) (mx := mx) (my := my) (mdx := mdx) (mdy := mdy) hD w22 w33 w34 w35 w36 (by omega)) (cwV 0 hts gX8_fit_X8_findFit rfl rfl rfl (by decide +kernel) ⟨Nat.le_of_ble_eq_true rfl, Nat.le_of_ble_eq_true rfl⟩) 22 rfl rfl w22 hK hN hZ hP hS rfl hl.1 rfl (Nat.le_of_ble_eq_true rfl) dX8_fit_27 ⟨Nat.zero_le _, Nat.zero_le _⟩ (fun G H locs hP hD hS hB => ?_)
    obtain ⟨w22, ho⟩ := hB
    have w22 : G[22]? = some (a 22, .inr (8, [.int (nI ((zn))), .int (nI ((tr))), .ref (a 23), .ref (a 24), .ref (a 25), .ref (a 26), .ref (a 27), .ref (a 28), .ref (a 29), .int (nI ((sc))), .int ((sg)), .int ((sr)), .int ((ss)), .int ((fed)), .int ((pap)), .int ((bar)), .int (gB ((st))), .ref (a 30), .ref (a 31), .ref (a 32), .int (nI ((pn))), .ref (a 33), .ref (a 34), .ref (a 35), .ref (a 36), .int (nI ((mn))), .long (gSp (mn) (gPs (mx) (mn) 0 0) (gPs (my) (mn) 0 0) (gPs (mdx) (mn) 0 0) (gPs (mdy) (mn) 0 0) (gPs (fun j => (mx) j * (mx) j + (my) j * (my) j) (mn) 0 0) (gPs (fun j => (mx) j * (mdx) j + (my) j * (mdy) j) (mn) 0 0) (gPs (fun j => (mx) j * (mdy) j - (my) j * (mdx) j) (mn) 0 0)), .long (gStr (mn) (gPs (mx) (mn) 0 0) (gPs (my) (mn) 0 0) (gPs (mdx) (mn) 0 0) (gPs (mdy) (mn) 0 0) (gPs (fun j => (mx) j * (mx) j + (my) j * (my) j) (mn) 0 0) (gPs (fun j => (mx) j * (mdx) j + (my) j * (mdy) j) (mn) 0 0) (gPs (fun j => (mx) j * (mdy) j - (my) j * (mdx) j) (mn) 0 0)), .long (gTu (mn) (gPs (mx) (mn) 0 0) (gPs (my) (mn) 0 0) (gPs (mdx) (mn) 0 0) (gPs (mdy) (mn) 0 0) (gPs (fun j => (mx) j * (mx) j + (my) j * (my) j) (mn) 0 0) (gPs (fun j => (mx) j * (mdx) j + (my) j * (mdy) j) (mn) 0 0) (gPs (fun j => (mx) j * (mdy) j - (my) j * (mdx) j) (mn) 0 0)), .long (gAc (mn) (gPs (mx) (mn) 0 0) (gPs (my) (mn) 0 0) (gPs (mdx) (mn) 0 0) (gPs (mdy) (mn) 0 0) (gPs (fun j => (mx) j * (mx) j + (my) j * (my) j) (mn) 0 0) (gPs (fun j => (mx) j * (mdx) j + (my) j * (mdy) j) (mn) 0 0) (gPs (fun j => (mx) j * (mdy) j - (my) j * (mdx) j) (mn) 0 0)), .long (gUp (mn) (gPs (mx) (mn) 0 0) (gPs (my) (mn) 0 0) (gPs (mdx) (mn) 0 0) (gPs (mdy) (mn) 0 0) (gPs (fun j => (mx) j * (mx) j + (my) j * (my) j) (mn) 0 0) (gPs (fun j => (mx) j * (mdx) j + (my) j * (mdy) j) (mn) 0 0) (gPs (fun j => (mx) j * (mdy) j - (my) j * (mdx) j) (mn) 0 0)), .ref (a 37), .ref (a 38), .ref (a 39), .int (nI ((jn))), .ref (a 40), .ref (a 41)])) := w22
    have w33 := (ho 33 (by decide)).trans w33
    have w34 := (ho 34 (by decide)).trans w34
    have w35 := (ho 35 (by decide)).trans w35
    have w36 := (ho 36 (by decide)).trans w36
    have hk := gk_call hk ho (by decide)
    clear ho
    refine mx_bne (tgt := 37) (pc := 30) hx hb dX8_fit_30 (by decide) (fun c30 => ?_) (fun c30 => absurd (c30.symm.trans h3) (by decide))
    refine lv_iload_n (pc := 37) hx hb dX8_fit_37 rfl (lv_at hl 1 rfl) ?_
    refine lv_tableIn (tgt := 77) (pc := 38) hx hb dX8_fit_38 (by decide) (by decide) rfl (by decide) ?_
    refine lv_aload_n (pc := 77) hx hb dX8_fit_77 rfl (lv_at hl 0 rfl) ?_
    refine va_get (ci := 8) (C := RX8) (T := TX8) (N := 37) (pc := 78) hx hb hts hiX8 hown hK hP 22 w22 rfl 28 (by decide) (hts (.fieldLink RX8 169 "InkPressModel" "turn" "J") (by decide +kernel)) (fun _ h9 => h9) rfl dX8_fit_78 ?_
    refine lv_aload_n (pc := 81) hx hb dX8_fit_81 rfl (lv_at hl 0 rfl) ?_
    refine va_get (ci := 8) (C := RX8) (T := TX8) (N := 37) (pc := 82) hx hb hts hiX8 hown hK hP 22 w22 rfl 26 (by decide) (hts (.fieldLink RX8 162 "InkPressModel" "all" "J") (by decide +kernel)) (fun _ h9 => h9) rfl dX8_fit_82 ?_
    refine lv_iload_n (pc := 85) hx hb dX8_fit_85 rfl (lv_at hl 2 rfl) ?_
    refine mx_cSl (As := [.long (gTu (mn) (gPs (mx) (mn) 0 0) (gPs (my) (mn) 0 0) (gPs (mdx) (mn) 0 0) (gPs (mdy) (mn) 0 0) (gPs (fun j => (mx) j * (mx) j + (my) j * (my) j) (mn) 0 0) (gPs (fun j => (mx) j * (mdx) j + (my) j * (mdy) j) (mn) 0 0) (gPs (fun j => (mx) j * (mdy) j - (my) j * (mdx) j) (mn) 0 0)), .long (gSp (mn) (gPs (mx) (mn) 0 0) (gPs (my) (mn) 0 0) (gPs (mdx) (mn) 0 0) (gPs (mdy) (mn) 0 0) (gPs (fun j => (mx) j * (mx) j + (my) j * (my) j) (mn) 0 0) (gPs (fun j => (mx) j * (mdx) j + (my) j * (mdy) j) (mn) 0 0) (gPs (fun j => (mx) j * (mdy) j - (my) j * (mdx) j) (mn) 0 0)), .int (nI (0))]) (rest := []) (pc := 86) ⟨hx, hb, hml, hown, hts⟩ (k_X8_lowest_0 (a := a) (uu := gTu (mn) (gPs (mx) (mn) 0 0) (gPs (my) (mn) 0 0) (gPs (mdx) (mn) 0 0) (gPs (mdy) (mn) 0 0) (gPs (fun j => (mx) j * (mx) j + (my) j * (my) j) (mn) 0 0) (gPs (fun j => (mx) j * (mdx) j + (my) j * (mdy) j) (mn) 0 0) (gPs (fun j => (mx) j * (mdy) j - (my) j * (mdx) j) (mn) 0 0)) (lw := gSp (mn) (gPs (mx) (mn) 0 0) (gPs (my) (mn) 0 0) (gPs (mdx) (mn) 0 0) (gPs (mdy) (mn) 0 0) (gPs (fun j => (mx) j * (mx) j + (my) j * (my) j) (mn) 0 0) (gPs (fun j => (mx) j * (mdx) j + (my) j * (mdy) j) (mn) 0 0) (gPs (fun j => (mx) j * (mdy) j - (my) j * (mdx) j) (mn) 0 0)) (xa := xa) (yb := yb) hD  hu hw hx3 hy0 hy3) (va_cwS 3 hts gX8_fit_X8_lowest rfl rfl rfl (by decide +kernel) ⟨Nat.le_of_ble_eq_true rfl, Nat.le_of_ble_eq_true rfl⟩) hK hN hZ hP hS rfl hl.1 rfl (Nat.le_of_ble_eq_true rfl) dX8_fit_86 ⟨Nat.zero_le _, Nat.zero_le _⟩ (fun G' H locs hP hD hS hB => ?_)
    rw [hB] at hP hD
    clear hB G'
    exact hret _ _ _ _ _ _ hP hD hS rfl ⟨w22, hk⟩ dX8_fit_89
  · skip
    refine lv_iload_n (pc := 0) hx hb dX8_fit_0 rfl (lv_at hl 1 rfl) ?_
    refine lv_i2l (v := (nI (2)).toInt64) (pc := 1) hx hb dX8_fit_1 rfl ?_
    refine lv_lconst (v := 0) (pc := 2) hx hb dX8_fit_2 (by decide) ?_
    refine lv_ldc2 (own := RX8) (v := (3)) (pc := 3) hx hb hown (hts (.constantLong RX8 178 (3)) (by decide +kernel)) dX8_fit_3 ?_
    refine mx_cSi (As := [.long ((nI (2)).toInt64), .long (0), .long ((3))]) (rest := []) (pc := 6) ⟨hx, hb, hml, hown, hts⟩ (k_X8_in (a := a) (v := (nI (2)).toInt64) (lo := 0) (hi := (3)) hD  ) (va_cwS 3 hts gX8_fit_X8_in rfl rfl rfl (by decide +kernel) ⟨Nat.le_of_ble_eq_true rfl, Nat.le_of_ble_eq_true rfl⟩) hK hN hZ hP hS rfl hl.1 rfl (Nat.le_of_ble_eq_true rfl) dX8_fit_6 ⟨Nat.zero_le _, Nat.zero_le _⟩ (fun G' H locs hP hD hS hB => ?_)
    rw [hB] at hP hD
    clear hB G'
    refine mx_beq (tgt := 22) (pc := 9) hx hb dX8_fit_9 (by decide) (fun c9 => absurd (c9.symm.trans ((gIn_w (a := nI 0) (b := nI 3) (by decide) (by decide)).trans h1)) (by decide)) (fun c9 => ?_)
    refine lv_iload_n (pc := 12) hx hb dX8_fit_12 rfl (lv_at hl 2 rfl) ?_
    refine lv_i2l (v := (nI (0)).toInt64) (pc := 13) hx hb dX8_fit_13 rfl ?_
    refine lv_lconst (v := 0) (pc := 14) hx hb dX8_fit_14 (by decide) ?_
    refine lv_lconst (v := 1) (pc := 15) hx hb dX8_fit_15 (by decide) ?_
    refine mx_cSi (As := [.long ((nI (0)).toInt64), .long (0), .long (1)]) (rest := []) (pc := 16) ⟨hx, hb, hml, hown, hts⟩ (k_X8_in (a := a) (v := (nI (0)).toInt64) (lo := 0) (hi := 1) hD  ) (va_cwS 3 hts gX8_fit_X8_in rfl rfl rfl (by decide +kernel) ⟨Nat.le_of_ble_eq_true rfl, Nat.le_of_ble_eq_true rfl⟩) hK hN hZ hP hS rfl hl.1 rfl (Nat.le_of_ble_eq_true rfl) dX8_fit_16 ⟨Nat.zero_le _, Nat.zero_le _⟩ (fun G' H locs hP hD hS hB => ?_)
    rw [hB] at hP hD
    clear hB G'
    refine mx_bne (tgt := 26) (pc := 19) hx hb dX8_fit_19 (by decide) (fun c19 => ?_) (fun c19 => absurd (c19.symm.trans ((gIn_w (a := nI 0) (b := nI 1) (by decide) (by decide)).trans (show gWi (nI 0) (nI 0) (nI 1) = true by decide))) (by decide))
    refine lv_aload_n (pc := 26) hx hb dX8_fit_26 rfl (lv_at hl 0 rfl) ?_
    refine mx_cVi (As := []) (rest := []) (pc := 27) ⟨hx, hb, hml, hown, hts⟩ (k_X8_findFit (a := a) (zn := zn) (tr := tr) (sc := sc) (pn := pn) (mn := mn) (jn := jn) (sg := sg) (sr := sr) (ss := ss) (fed := fed) (pap := pap) (bar := bar) (st := st) (q1 := q1) (q2 := q2) (q3 := q3) (q4 := q4) (q5 := q5) (mx := mx) (my := my) (mdx := mdx) (mdy := mdy) hD w22 w33 w34 w35 w36 (by omega)) (cwV 0 hts gX8_fit_X8_findFit rfl rfl rfl (by decide +kernel) ⟨Nat.le_of_ble_eq_true rfl, Nat.le_of_ble_eq_true rfl⟩) 22 rfl rfl w22 hK hN hZ hP hS rfl hl.1 rfl (Nat.le_of_ble_eq_true rfl) dX8_fit_27 ⟨Nat.zero_le _, Nat.zero_le _⟩ (fun G H locs hP hD hS hB => ?_)
    obtain ⟨w22, ho⟩ := hB
    have w22 : G[22]? = some (a 22, .inr (8, [.int (nI ((zn))), .int (nI ((tr))), .ref (a 23), .ref (a 24), .ref (a 25), .ref (a 26), .ref (a 27), .ref (a 28), .ref (a 29), .int (nI ((sc))), .int ((sg)), .int ((sr)), .int ((ss)), .int ((fed)), .int ((pap)), .int ((bar)), .int (gB ((st))), .ref (a 30), .ref (a 31), .ref (a 32), .int (nI ((pn))), .ref (a 33), .ref (a 34), .ref (a 35), .ref (a 36), .int (nI ((mn))), .long (gSp (mn) (gPs (mx) (mn) 0 0) (gPs (my) (mn) 0 0) (gPs (mdx) (mn) 0 0) (gPs (mdy) (mn) 0 0) (gPs (fun j => (mx) j * (mx) j + (my) j * (my) j) (mn) 0 0) (gPs (fun j => (mx) j * (mdx) j + (my) j * (mdy) j) (mn) 0 0) (gPs (fun j => (mx) j * (mdy) j - (my) j * (mdx) j) (mn) 0 0)), .long (gStr (mn) (gPs (mx) (mn) 0 0) (gPs (my) (mn) 0 0) (gPs (mdx) (mn) 0 0) (gPs (mdy) (mn) 0 0) (gPs (fun j => (mx) j * (mx) j + (my) j * (my) j) (mn) 0 0) (gPs (fun j => (mx) j * (mdx) j + (my) j * (mdy) j) (mn) 0 0) (gPs (fun j => (mx) j * (mdy) j - (my) j * (mdx) j) (mn) 0 0)), .long (gTu (mn) (gPs (mx) (mn) 0 0) (gPs (my) (mn) 0 0) (gPs (mdx) (mn) 0 0) (gPs (mdy) (mn) 0 0) (gPs (fun j => (mx) j * (mx) j + (my) j * (my) j) (mn) 0 0) (gPs (fun j => (mx) j * (mdx) j + (my) j * (mdy) j) (mn) 0 0) (gPs (fun j => (mx) j * (mdy) j - (my) j * (mdx) j) (mn) 0 0)), .long (gAc (mn) (gPs (mx) (mn) 0 0) (gPs (my) (mn) 0 0) (gPs (mdx) (mn) 0 0) (gPs (mdy) (mn) 0 0) (gPs (fun j => (mx) j * (mx) j + (my) j * (my) j) (mn) 0 0) (gPs (fun j => (mx) j * (mdx) j + (my) j * (mdy) j) (mn) 0 0) (gPs (fun j => (mx) j * (mdy) j - (my) j * (mdx) j) (mn) 0 0)), .long (gUp (mn) (gPs (mx) (mn) 0 0) (gPs (my) (mn) 0 0) (gPs (mdx) (mn) 0 0) (gPs (mdy) (mn) 0 0) (gPs (fun j => (mx) j * (mx) j + (my) j * (my) j) (mn) 0 0) (gPs (fun j => (mx) j * (mdx) j + (my) j * (mdy) j) (mn) 0 0) (gPs (fun j => (mx) j * (mdy) j - (my) j * (mdx) j) (mn) 0 0)), .ref (a 37), .ref (a 38), .ref (a 39), .int (nI ((jn))), .ref (a 40), .ref (a 41)])) := w22
    have w33 := (ho 33 (by decide)).trans w33
    have w34 := (ho 34 (by decide)).trans w34
    have w35 := (ho 35 (by decide)).trans w35
    have w36 := (ho 36 (by decide)).trans w36
    have hk := gk_call hk ho (by decide)
    clear ho
    refine mx_bne (tgt := 37) (pc := 30) hx hb dX8_fit_30 (by decide) (fun c30 => ?_) (fun c30 => absurd (c30.symm.trans h3) (by decide))
    refine lv_iload_n (pc := 37) hx hb dX8_fit_37 rfl (lv_at hl 1 rfl) ?_
    refine lv_tableIn (tgt := 90) (pc := 38) hx hb dX8_fit_38 (by decide) (by decide) rfl (by decide) ?_
    refine lv_aload_n (pc := 90) hx hb dX8_fit_90 rfl (lv_at hl 0 rfl) ?_
    refine va_get (ci := 8) (C := RX8) (T := TX8) (N := 37) (pc := 91) hx hb hts hiX8 hown hK hP 22 w22 rfl 29 (by decide) (hts (.fieldLink RX8 172 "InkPressModel" "across" "J") (by decide +kernel)) (fun _ h9 => h9) rfl dX8_fit_91 ?_
    refine lv_aload_n (pc := 94) hx hb dX8_fit_94 rfl (lv_at hl 0 rfl) ?_
    refine va_get (ci := 8) (C := RX8) (T := TX8) (N := 37) (pc := 95) hx hb hts hiX8 hown hK hP 22 w22 rfl 26 (by decide) (hts (.fieldLink RX8 162 "InkPressModel" "all" "J") (by decide +kernel)) (fun _ h9 => h9) rfl dX8_fit_95 ?_
    refine lv_aload_n (pc := 98) hx hb dX8_fit_98 rfl (lv_at hl 0 rfl) ?_
    refine va_get (ci := 8) (C := RX8) (T := TX8) (N := 37) (pc := 99) hx hb hts hiX8 hown hK hP 22 w22 rfl 25 (by decide) (hts (.fieldLink RX8 159 "InkPressModel" "marks" "I") (by decide +kernel)) (fun _ h9 => h9) rfl dX8_fit_99 ?_
    refine lv_i2l (v := (nI ((mn))).toInt64) (pc := 102) hx hb dX8_fit_102 rfl ?_
    refine lv_lmul (pc := 103) hx hb dX8_fit_103 ?_
    refine lv_iload_n (pc := 104) hx hb dX8_fit_104 rfl (lv_at hl 2 rfl) ?_
    refine mx_cSl (As := [.long (gAc (mn) (gPs (mx) (mn) 0 0) (gPs (my) (mn) 0 0) (gPs (mdx) (mn) 0 0) (gPs (mdy) (mn) 0 0) (gPs (fun j => (mx) j * (mx) j + (my) j * (my) j) (mn) 0 0) (gPs (fun j => (mx) j * (mdx) j + (my) j * (mdy) j) (mn) 0 0) (gPs (fun j => (mx) j * (mdy) j - (my) j * (mdx) j) (mn) 0 0)), .long ((gSp (mn) (gPs (mx) (mn) 0 0) (gPs (my) (mn) 0 0) (gPs (mdx) (mn) 0 0) (gPs (mdy) (mn) 0 0) (gPs (fun j => (mx) j * (mx) j + (my) j * (my) j) (mn) 0 0) (gPs (fun j => (mx) j * (mdx) j + (my) j * (mdy) j) (mn) 0 0) (gPs (fun j => (mx) j * (mdy) j - (my) j * (mdx) j) (mn) 0 0) * (nI ((mn))).toInt64)), .int (nI (0))]) (rest := []) (pc := 105) ⟨hx, hb, hml, hown, hts⟩ (k_X8_lowest_0 (a := a) (uu := gAc (mn) (gPs (mx) (mn) 0 0) (gPs (my) (mn) 0 0) (gPs (mdx) (mn) 0 0) (gPs (mdy) (mn) 0 0) (gPs (fun j => (mx) j * (mx) j + (my) j * (my) j) (mn) 0 0) (gPs (fun j => (mx) j * (mdx) j + (my) j * (mdy) j) (mn) 0 0) (gPs (fun j => (mx) j * (mdy) j - (my) j * (mdx) j) (mn) 0 0)) (lw := (gSp (mn) (gPs (mx) (mn) 0 0) (gPs (my) (mn) 0 0) (gPs (mdx) (mn) 0 0) (gPs (mdy) (mn) 0 0) (gPs (fun j => (mx) j * (mx) j + (my) j * (my) j) (mn) 0 0) (gPs (fun j => (mx) j * (mdx) j + (my) j * (mdy) j) (mn) 0 0) (gPs (fun j => (mx) j * (mdy) j - (my) j * (mdx) j) (mn) 0 0) * (nI ((mn))).toInt64)) (xa := xa) (yb := yb) hD  hu hw hx3 hy0 hy3) (va_cwS 3 hts gX8_fit_X8_lowest rfl rfl rfl (by decide +kernel) ⟨Nat.le_of_ble_eq_true rfl, Nat.le_of_ble_eq_true rfl⟩) hK hN hZ hP hS rfl hl.1 rfl (Nat.le_of_ble_eq_true rfl) dX8_fit_105 ⟨Nat.zero_le _, Nat.zero_le _⟩ (fun G' H locs hP hD hS hB => ?_)
    rw [hB] at hP hD
    clear hB G'
    exact hret _ _ _ _ _ _ hP hD hS rfl ⟨w22, hk⟩ dX8_fit_108
  · skip
    refine lv_iload_n (pc := 0) hx hb dX8_fit_0 rfl (lv_at hl 1 rfl) ?_
    refine lv_i2l (v := (nI (3)).toInt64) (pc := 1) hx hb dX8_fit_1 rfl ?_
    refine lv_lconst (v := 0) (pc := 2) hx hb dX8_fit_2 (by decide) ?_
    refine lv_ldc2 (own := RX8) (v := (3)) (pc := 3) hx hb hown (hts (.constantLong RX8 178 (3)) (by decide +kernel)) dX8_fit_3 ?_
    refine mx_cSi (As := [.long ((nI (3)).toInt64), .long (0), .long ((3))]) (rest := []) (pc := 6) ⟨hx, hb, hml, hown, hts⟩ (k_X8_in (a := a) (v := (nI (3)).toInt64) (lo := 0) (hi := (3)) hD  ) (va_cwS 3 hts gX8_fit_X8_in rfl rfl rfl (by decide +kernel) ⟨Nat.le_of_ble_eq_true rfl, Nat.le_of_ble_eq_true rfl⟩) hK hN hZ hP hS rfl hl.1 rfl (Nat.le_of_ble_eq_true rfl) dX8_fit_6 ⟨Nat.zero_le _, Nat.zero_le _⟩ (fun G' H locs hP hD hS hB => ?_)
    rw [hB] at hP hD
    clear hB G'
    refine mx_beq (tgt := 22) (pc := 9) hx hb dX8_fit_9 (by decide) (fun c9 => absurd (c9.symm.trans ((gIn_w (a := nI 0) (b := nI 3) (by decide) (by decide)).trans h1)) (by decide)) (fun c9 => ?_)
    refine lv_iload_n (pc := 12) hx hb dX8_fit_12 rfl (lv_at hl 2 rfl) ?_
    refine lv_i2l (v := (nI (0)).toInt64) (pc := 13) hx hb dX8_fit_13 rfl ?_
    refine lv_lconst (v := 0) (pc := 14) hx hb dX8_fit_14 (by decide) ?_
    refine lv_lconst (v := 1) (pc := 15) hx hb dX8_fit_15 (by decide) ?_
    refine mx_cSi (As := [.long ((nI (0)).toInt64), .long (0), .long (1)]) (rest := []) (pc := 16) ⟨hx, hb, hml, hown, hts⟩ (k_X8_in (a := a) (v := (nI (0)).toInt64) (lo := 0) (hi := 1) hD  ) (va_cwS 3 hts gX8_fit_X8_in rfl rfl rfl (by decide +kernel) ⟨Nat.le_of_ble_eq_true rfl, Nat.le_of_ble_eq_true rfl⟩) hK hN hZ hP hS rfl hl.1 rfl (Nat.le_of_ble_eq_true rfl) dX8_fit_16 ⟨Nat.zero_le _, Nat.zero_le _⟩ (fun G' H locs hP hD hS hB => ?_)
    rw [hB] at hP hD
    clear hB G'
    refine mx_bne (tgt := 26) (pc := 19) hx hb dX8_fit_19 (by decide) (fun c19 => ?_) (fun c19 => absurd (c19.symm.trans ((gIn_w (a := nI 0) (b := nI 1) (by decide) (by decide)).trans (show gWi (nI 0) (nI 0) (nI 1) = true by decide))) (by decide))
    refine lv_aload_n (pc := 26) hx hb dX8_fit_26 rfl (lv_at hl 0 rfl) ?_
    refine mx_cVi (As := []) (rest := []) (pc := 27) ⟨hx, hb, hml, hown, hts⟩ (k_X8_findFit (a := a) (zn := zn) (tr := tr) (sc := sc) (pn := pn) (mn := mn) (jn := jn) (sg := sg) (sr := sr) (ss := ss) (fed := fed) (pap := pap) (bar := bar) (st := st) (q1 := q1) (q2 := q2) (q3 := q3) (q4 := q4) (q5 := q5) (mx := mx) (my := my) (mdx := mdx) (mdy := mdy) hD w22 w33 w34 w35 w36 (by omega)) (cwV 0 hts gX8_fit_X8_findFit rfl rfl rfl (by decide +kernel) ⟨Nat.le_of_ble_eq_true rfl, Nat.le_of_ble_eq_true rfl⟩) 22 rfl rfl w22 hK hN hZ hP hS rfl hl.1 rfl (Nat.le_of_ble_eq_true rfl) dX8_fit_27 ⟨Nat.zero_le _, Nat.zero_le _⟩ (fun G H locs hP hD hS hB => ?_)
    obtain ⟨w22, ho⟩ := hB
    have w22 : G[22]? = some (a 22, .inr (8, [.int (nI ((zn))), .int (nI ((tr))), .ref (a 23), .ref (a 24), .ref (a 25), .ref (a 26), .ref (a 27), .ref (a 28), .ref (a 29), .int (nI ((sc))), .int ((sg)), .int ((sr)), .int ((ss)), .int ((fed)), .int ((pap)), .int ((bar)), .int (gB ((st))), .ref (a 30), .ref (a 31), .ref (a 32), .int (nI ((pn))), .ref (a 33), .ref (a 34), .ref (a 35), .ref (a 36), .int (nI ((mn))), .long (gSp (mn) (gPs (mx) (mn) 0 0) (gPs (my) (mn) 0 0) (gPs (mdx) (mn) 0 0) (gPs (mdy) (mn) 0 0) (gPs (fun j => (mx) j * (mx) j + (my) j * (my) j) (mn) 0 0) (gPs (fun j => (mx) j * (mdx) j + (my) j * (mdy) j) (mn) 0 0) (gPs (fun j => (mx) j * (mdy) j - (my) j * (mdx) j) (mn) 0 0)), .long (gStr (mn) (gPs (mx) (mn) 0 0) (gPs (my) (mn) 0 0) (gPs (mdx) (mn) 0 0) (gPs (mdy) (mn) 0 0) (gPs (fun j => (mx) j * (mx) j + (my) j * (my) j) (mn) 0 0) (gPs (fun j => (mx) j * (mdx) j + (my) j * (mdy) j) (mn) 0 0) (gPs (fun j => (mx) j * (mdy) j - (my) j * (mdx) j) (mn) 0 0)), .long (gTu (mn) (gPs (mx) (mn) 0 0) (gPs (my) (mn) 0 0) (gPs (mdx) (mn) 0 0) (gPs (mdy) (mn) 0 0) (gPs (fun j => (mx) j * (mx) j + (my) j * (my) j) (mn) 0 0) (gPs (fun j => (mx) j * (mdx) j + (my) j * (mdy) j) (mn) 0 0) (gPs (fun j => (mx) j * (mdy) j - (my) j * (mdx) j) (mn) 0 0)), .long (gAc (mn) (gPs (mx) (mn) 0 0) (gPs (my) (mn) 0 0) (gPs (mdx) (mn) 0 0) (gPs (mdy) (mn) 0 0) (gPs (fun j => (mx) j * (mx) j + (my) j * (my) j) (mn) 0 0) (gPs (fun j => (mx) j * (mdx) j + (my) j * (mdy) j) (mn) 0 0) (gPs (fun j => (mx) j * (mdy) j - (my) j * (mdx) j) (mn) 0 0)), .long (gUp (mn) (gPs (mx) (mn) 0 0) (gPs (my) (mn) 0 0) (gPs (mdx) (mn) 0 0) (gPs (mdy) (mn) 0 0) (gPs (fun j => (mx) j * (mx) j + (my) j * (my) j) (mn) 0 0) (gPs (fun j => (mx) j * (mdx) j + (my) j * (mdy) j) (mn) 0 0) (gPs (fun j => (mx) j * (mdy) j - (my) j * (mdx) j) (mn) 0 0)), .ref (a 37), .ref (a 38), .ref (a 39), .int (nI ((jn))), .ref (a 40), .ref (a 41)])) := w22
    have w33 := (ho 33 (by decide)).trans w33
    have w34 := (ho 34 (by decide)).trans w34
    have w35 := (ho 35 (by decide)).trans w35
    have w36 := (ho 36 (by decide)).trans w36
    have hk := gk_call hk ho (by decide)
    clear ho
    refine mx_bne (tgt := 37) (pc := 30) hx hb dX8_fit_30 (by decide) (fun c30 => ?_) (fun c30 => absurd (c30.symm.trans h3) (by decide))
    refine lv_iload_n (pc := 37) hx hb dX8_fit_37 rfl (lv_at hl 1 rfl) ?_
    refine lv_tableOut (tgt := 109) (pc := 38) hx hb dX8_fit_38 (by decide) (by decide) ?_
    refine lv_aload_n (pc := 109) hx hb dX8_fit_109 rfl (lv_at hl 0 rfl) ?_
    refine va_get (ci := 8) (C := RX8) (T := TX8) (N := 37) (pc := 110) hx hb hts hiX8 hown hK hP 22 w22 rfl 30 (by decide) (hts (.fieldLink RX8 175 "InkPressModel" "above" "J") (by decide +kernel)) (fun _ h9 => h9) rfl dX8_fit_110 ?_
    refine lv_aload_n (pc := 113) hx hb dX8_fit_113 rfl (lv_at hl 0 rfl) ?_
    refine va_get (ci := 8) (C := RX8) (T := TX8) (N := 37) (pc := 114) hx hb hts hiX8 hown hK hP 22 w22 rfl 26 (by decide) (hts (.fieldLink RX8 162 "InkPressModel" "all" "J") (by decide +kernel)) (fun _ h9 => h9) rfl dX8_fit_114 ?_
    refine lv_aload_n (pc := 117) hx hb dX8_fit_117 rfl (lv_at hl 0 rfl) ?_
    refine va_get (ci := 8) (C := RX8) (T := TX8) (N := 37) (pc := 118) hx hb hts hiX8 hown hK hP 22 w22 rfl 25 (by decide) (hts (.fieldLink RX8 159 "InkPressModel" "marks" "I") (by decide +kernel)) (fun _ h9 => h9) rfl dX8_fit_118 ?_
    refine lv_i2l (v := (nI ((mn))).toInt64) (pc := 121) hx hb dX8_fit_121 rfl ?_
    refine lv_lmul (pc := 122) hx hb dX8_fit_122 ?_
    refine lv_iload_n (pc := 123) hx hb dX8_fit_123 rfl (lv_at hl 2 rfl) ?_
    refine mx_cSl (As := [.long (gUp (mn) (gPs (mx) (mn) 0 0) (gPs (my) (mn) 0 0) (gPs (mdx) (mn) 0 0) (gPs (mdy) (mn) 0 0) (gPs (fun j => (mx) j * (mx) j + (my) j * (my) j) (mn) 0 0) (gPs (fun j => (mx) j * (mdx) j + (my) j * (mdy) j) (mn) 0 0) (gPs (fun j => (mx) j * (mdy) j - (my) j * (mdx) j) (mn) 0 0)), .long ((gSp (mn) (gPs (mx) (mn) 0 0) (gPs (my) (mn) 0 0) (gPs (mdx) (mn) 0 0) (gPs (mdy) (mn) 0 0) (gPs (fun j => (mx) j * (mx) j + (my) j * (my) j) (mn) 0 0) (gPs (fun j => (mx) j * (mdx) j + (my) j * (mdy) j) (mn) 0 0) (gPs (fun j => (mx) j * (mdy) j - (my) j * (mdx) j) (mn) 0 0) * (nI ((mn))).toInt64)), .int (nI (0))]) (rest := []) (pc := 124) ⟨hx, hb, hml, hown, hts⟩ (k_X8_lowest_0 (a := a) (uu := gUp (mn) (gPs (mx) (mn) 0 0) (gPs (my) (mn) 0 0) (gPs (mdx) (mn) 0 0) (gPs (mdy) (mn) 0 0) (gPs (fun j => (mx) j * (mx) j + (my) j * (my) j) (mn) 0 0) (gPs (fun j => (mx) j * (mdx) j + (my) j * (mdy) j) (mn) 0 0) (gPs (fun j => (mx) j * (mdy) j - (my) j * (mdx) j) (mn) 0 0)) (lw := (gSp (mn) (gPs (mx) (mn) 0 0) (gPs (my) (mn) 0 0) (gPs (mdx) (mn) 0 0) (gPs (mdy) (mn) 0 0) (gPs (fun j => (mx) j * (mx) j + (my) j * (my) j) (mn) 0 0) (gPs (fun j => (mx) j * (mdx) j + (my) j * (mdy) j) (mn) 0 0) (gPs (fun j => (mx) j * (mdy) j - (my) j * (mdx) j) (mn) 0 0) * (nI ((mn))).toInt64)) (xa := xa) (yb := yb) hD  hu hw hx3 hy0 hy3) (va_cwS 3 hts gX8_fit_X8_lowest rfl rfl rfl (by decide +kernel) ⟨Nat.le_of_ble_eq_true rfl, Nat.le_of_ble_eq_true rfl⟩) hK hN hZ hP hS rfl hl.1 rfl (Nat.le_of_ble_eq_true rfl) dX8_fit_124 ⟨Nat.zero_le _, Nat.zero_le _⟩ (fun G' H locs hP hD hS hB => ?_)
    rw [hB] at hP hD
    clear hB G'
    exact hret _ _ _ _ _ _ hP hD hS rfl ⟨w22, hk⟩ dX8_fit_127
set_option maxHeartbeats 4000000 in
set_option maxRecDepth 100000 in
theorem k_X8_fit_1 {l : Launch} {D : va_G} {cI cZ : ClassId} {A : Nat → Prop} {g a : Nat → Nat} {G0 : va_W} {zn : Nat} {tr : Nat} {sc : Nat} {pn : Nat} {mn : Nat} {jn : Nat} {sg : Int32} {sr : Int32} {ss : Int32} {fed : Int32} {pap : Int32} {bar : Int32} {st : Bool} {q1 : Int64} {q2 : Int64} {q3 : Int64} {q4 : Int64} {q5 : Int64} {mx : Nat → Int32} {my : Nat → Int32} {mdx : Nat → Int32} {mdy : Nat → Int32} {wh : Nat} {xa : Nat} {yb : Nat} (hD : va_D A G0) (w22 : G0[22]? = some (a 22, .inr (8, [.int (nI (zn)), .int (nI (tr)), .ref (a 23), .ref (a 24), .ref (a 25), .ref (a 26), .ref (a 27), .ref (a 28), .ref (a 29), .int (nI (sc)), .int (sg), .int (sr), .int (ss), .int (fed), .int (pap), .int (bar), .int (gB (st)), .ref (a 30), .ref (a 31), .ref (a 32), .int (nI (pn)), .ref (a 33), .ref (a 34), .ref (a 35), .ref (a 36), .int (nI (mn)), .long (q1), .long (q2), .long (q3), .long (q4), .long (q5), .ref (a 37), .ref (a 38), .ref (a 39), .int (nI (jn)), .ref (a 40), .ref (a 41)]))) (w33 : G0[33]? = some (a 33, .inl (cI, 8, .inl (mx)))) (w34 : G0[34]? = some (a 34, .inl (cI, 8, .inl (my)))) (w35 : G0[35]? = some (a 35, .inl (cI, 8, .inl (mdx)))) (w36 : G0[36]? = some (a 36, .inl (cI, 8, .inl (mdy)))) (hm : mn ≤ 8) (hw4 : wh < 4) (h1 : gWi (nI wh) (nI 0) (nI 3) = true) (h3 : decide (0 < gSp mn (gPs mx mn 0 0) (gPs my mn 0 0) (gPs mdx mn 0 0) (gPs mdy mn 0 0) (gPs (fun j => mx j * mx j + my j * my j) mn 0 0) (gPs (fun j => mx j * mdx j + my j * mdy j) mn 0 0) (gPs (fun j => mx j * mdy j - my j * mdx j) mn 0 0)) = true) (hu : gMlab (gUpp wh mn (gPs mx mn 0 0) (gPs my mn 0 0) (gPs mdx mn 0 0) (gPs mdy mn 0 0) (gPs (fun j => mx j * mx j + my j * my j) mn 0 0) (gPs (fun j => mx j * mdx j + my j * mdy j) mn 0 0) (gPs (fun j => mx j * mdy j - my j * mdx j) mn 0 0)) = lN xa) (hw : gLow wh mn (gPs mx mn 0 0) (gPs my mn 0 0) (gPs mdx mn 0 0) (gPs mdy mn 0 0) (gPs (fun j => mx j * mx j + my j * my j) mn 0 0) (gPs (fun j => mx j * mdx j + my j * mdy j) mn 0 0) (gPs (fun j => mx j * mdy j - my j * mdx j) mn 0 0) = lN yb) (hx3 : xa < 2 ^ 63) (hy0 : 0 < yb) (hy3 : yb < 2 ^ 63) : gMl l D cI cZ A g yX8_fit wsX8_fit ({ frames := 1, cells := 0, slots := 0, locals := 35 }) [.ref (a 22), .int (nI (wh)), .int (nI (1))] G0 (gLow wh mn (gPs mx mn 0 0) (gPs my mn 0 0) (gPs mdx mn 0 0) (gPs mdy mn 0 0) (gPs (fun j => mx j * mx j + my j * my j) mn 0 0) (gPs (fun j => mx j * mdx j + my j * mdy j) mn 0 0) (gPs (fun j => mx j * mdy j - my j * mdx j) mn 0 0) / lN (Nat.gcd xa yb)) (fun G1 => G1[22]? = some (a 22, .inr (8, [.int (nI (zn)), .int (nI (tr)), .ref (a 23), .ref (a 24), .ref (a 25), .ref (a 26), .ref (a 27), .ref (a 28), .ref (a 29), .int (nI (sc)), .int (sg), .int (sr), .int (ss), .int (fed), .int (pap), .int (bar), .int (gB (st)), .ref (a 30), .ref (a 31), .ref (a 32), .int (nI (pn)), .ref (a 33), .ref (a 34), .ref (a 35), .ref (a 36), .int (nI (mn)), .long (gSp mn (gPs mx mn 0 0) (gPs my mn 0 0) (gPs mdx mn 0 0) (gPs mdy mn 0 0) (gPs (fun j => mx j * mx j + my j * my j) mn 0 0) (gPs (fun j => mx j * mdx j + my j * mdy j) mn 0 0) (gPs (fun j => mx j * mdy j - my j * mdx j) mn 0 0)), .long (gStr mn (gPs mx mn 0 0) (gPs my mn 0 0) (gPs mdx mn 0 0) (gPs mdy mn 0 0) (gPs (fun j => mx j * mx j + my j * my j) mn 0 0) (gPs (fun j => mx j * mdx j + my j * mdy j) mn 0 0) (gPs (fun j => mx j * mdy j - my j * mdx j) mn 0 0)), .long (gTu mn (gPs mx mn 0 0) (gPs my mn 0 0) (gPs mdx mn 0 0) (gPs mdy mn 0 0) (gPs (fun j => mx j * mx j + my j * my j) mn 0 0) (gPs (fun j => mx j * mdx j + my j * mdy j) mn 0 0) (gPs (fun j => mx j * mdy j - my j * mdx j) mn 0 0)), .long (gAc mn (gPs mx mn 0 0) (gPs my mn 0 0) (gPs mdx mn 0 0) (gPs mdy mn 0 0) (gPs (fun j => mx j * mx j + my j * my j) mn 0 0) (gPs (fun j => mx j * mdx j + my j * mdy j) mn 0 0) (gPs (fun j => mx j * mdy j - my j * mdx j) mn 0 0)), .long (gUp mn (gPs mx mn 0 0) (gPs my mn 0 0) (gPs mdx mn 0 0) (gPs mdy mn 0 0) (gPs (fun j => mx j * mx j + my j * my j) mn 0 0) (gPs (fun j => mx j * mdx j + my j * mdy j) mn 0 0) (gPs (fun j => mx j * mdy j - my j * mdx j) mn 0 0)), .ref (a 37), .ref (a 38), .ref (a 39), .int (nI (jn)), .ref (a 40), .ref (a 41)])) ∧ ∀ k, k ∉ [22] → G1[k]? = G0[k]?) := by
  refine gof_l (cc := cX8_fit) (maxL := 3) (by decide) rfl (Nat.le_of_ble_eq_true rfl) hD ?_
  intro p e s m args below meth c Q hx hb hml hts hown hK hN hZ hP hS hret ls hl
  have hown : s.vm.findClass RX8 = some m.cls := hown
  have hl : lv_has ls 3 [(0, .ref (a 22)), (1, .int (nI (wh))), (2, .int (nI (1)))] := hl
  obtain ⟨locs, elocs⟩ : ∃ q : List Loc, q = [] := ⟨_, rfl⟩
  rw [← elocs] at hS ⊢
  obtain ⟨H, eH⟩ : ∃ q : Heap, q = s.heap := ⟨_, rfl⟩
  have hP : va_P D vwCl G0 H := eH ▸ hP
  have hS : va_S A s.heap H locs := by rw [eH]; exact hS
  rw [← eH]
  clear elocs eH
  have hiX8 : ∀ w ∈ u_ws RX8 TX8 37, w ∈ wsX8_fit := by decide +kernel
  have hk : ∀ k, k ∉ [22] → G0[k]? = G0[k]? := fun _ _ => rfl
  rcases (show wh = 0 ∨ wh = 1 ∨ wh = 2 ∨ wh = 3 by omega) with rfl | rfl | rfl | rfl
  · skip
    refine lv_iload_n (pc := 0) hx hb dX8_fit_0 rfl (lv_at hl 1 rfl) ?_
    refine lv_i2l (v := (nI (0)).toInt64) (pc := 1) hx hb dX8_fit_1 rfl ?_
    refine lv_lconst (v := 0) (pc := 2) hx hb dX8_fit_2 (by decide) ?_
    refine lv_ldc2 (own := RX8) (v := (3)) (pc := 3) hx hb hown (hts (.constantLong RX8 178 (3)) (by decide +kernel)) dX8_fit_3 ?_
    refine mx_cSi (As := [.long ((nI (0)).toInt64), .long (0), .long ((3))]) (rest := []) (pc := 6) ⟨hx, hb, hml, hown, hts⟩ (k_X8_in (a := a) (v := (nI (0)).toInt64) (lo := 0) (hi := (3)) hD  ) (va_cwS 3 hts gX8_fit_X8_in rfl rfl rfl (by decide +kernel) ⟨Nat.le_of_ble_eq_true rfl, Nat.le_of_ble_eq_true rfl⟩) hK hN hZ hP hS rfl hl.1 rfl (Nat.le_of_ble_eq_true rfl) dX8_fit_6 ⟨Nat.zero_le _, Nat.zero_le _⟩ (fun G' H locs hP hD hS hB => ?_)
    rw [hB] at hP hD
    clear hB G'
    refine mx_beq (tgt := 22) (pc := 9) hx hb dX8_fit_9 (by decide) (fun c9 => absurd (c9.symm.trans ((gIn_w (a := nI 0) (b := nI 3) (by decide) (by decide)).trans h1)) (by decide)) (fun c9 => ?_)
    refine lv_iload_n (pc := 12) hx hb dX8_fit_12 rfl (lv_at hl 2 rfl) ?_
    refine lv_i2l (v := (nI (1)).toInt64) (pc := 13) hx hb dX8_fit_13 rfl ?_
    refine lv_lconst (v := 0) (pc := 14) hx hb dX8_fit_14 (by decide) ?_
    refine lv_lconst (v := 1) (pc := 15) hx hb dX8_fit_15 (by decide) ?_
    refine mx_cSi (As := [.long ((nI (1)).toInt64), .long (0), .long (1)]) (rest := []) (pc := 16) ⟨hx, hb, hml, hown, hts⟩ (k_X8_in (a := a) (v := (nI (1)).toInt64) (lo := 0) (hi := 1) hD  ) (va_cwS 3 hts gX8_fit_X8_in rfl rfl rfl (by decide +kernel) ⟨Nat.le_of_ble_eq_true rfl, Nat.le_of_ble_eq_true rfl⟩) hK hN hZ hP hS rfl hl.1 rfl (Nat.le_of_ble_eq_true rfl) dX8_fit_16 ⟨Nat.zero_le _, Nat.zero_le _⟩ (fun G' H locs hP hD hS hB => ?_)
    rw [hB] at hP hD
    clear hB G'
    refine mx_bne (tgt := 26) (pc := 19) hx hb dX8_fit_19 (by decide) (fun c19 => ?_) (fun c19 => absurd (c19.symm.trans ((gIn_w (a := nI 0) (b := nI 1) (by decide) (by decide)).trans (show gWi (nI 1) (nI 0) (nI 1) = true by decide))) (by decide))
    refine lv_aload_n (pc := 26) hx hb dX8_fit_26 rfl (lv_at hl 0 rfl) ?_
    refine mx_cVi (As := []) (rest := []) (pc := 27) ⟨hx, hb, hml, hown, hts⟩ (k_X8_findFit (a := a) (zn := zn) (tr := tr) (sc := sc) (pn := pn) (mn := mn) (jn := jn) (sg := sg) (sr := sr) (ss := ss) (fed := fed) (pap := pap) (bar := bar) (st := st) (q1 := q1) (q2 := q2) (q3 := q3) (q4 := q4) (q5 := q5) (mx := mx) (my := my) (mdx := mdx) (mdy := mdy) hD w22 w33 w34 w35 w36 (by omega)) (cwV 0 hts gX8_fit_X8_findFit rfl rfl rfl (by decide +kernel) ⟨Nat.le_of_ble_eq_true rfl, Nat.le_of_ble_eq_true rfl⟩) 22 rfl rfl w22 hK hN hZ hP hS rfl hl.1 rfl (Nat.le_of_ble_eq_true rfl) dX8_fit_27 ⟨Nat.zero_le _, Nat.zero_le _⟩ (fun G H locs hP hD hS hB => ?_)
    obtain ⟨w22, ho⟩ := hB
    have w22 : G[22]? = some (a 22, .inr (8, [.int (nI ((zn))), .int (nI ((tr))), .ref (a 23), .ref (a 24), .ref (a 25), .ref (a 26), .ref (a 27), .ref (a 28), .ref (a 29), .int (nI ((sc))), .int ((sg)), .int ((sr)), .int ((ss)), .int ((fed)), .int ((pap)), .int ((bar)), .int (gB ((st))), .ref (a 30), .ref (a 31), .ref (a 32), .int (nI ((pn))), .ref (a 33), .ref (a 34), .ref (a 35), .ref (a 36), .int (nI ((mn))), .long (gSp (mn) (gPs (mx) (mn) 0 0) (gPs (my) (mn) 0 0) (gPs (mdx) (mn) 0 0) (gPs (mdy) (mn) 0 0) (gPs (fun j => (mx) j * (mx) j + (my) j * (my) j) (mn) 0 0) (gPs (fun j => (mx) j * (mdx) j + (my) j * (mdy) j) (mn) 0 0) (gPs (fun j => (mx) j * (mdy) j - (my) j * (mdx) j) (mn) 0 0)), .long (gStr (mn) (gPs (mx) (mn) 0 0) (gPs (my) (mn) 0 0) (gPs (mdx) (mn) 0 0) (gPs (mdy) (mn) 0 0) (gPs (fun j => (mx) j * (mx) j + (my) j * (my) j) (mn) 0 0) (gPs (fun j => (mx) j * (mdx) j + (my) j * (mdy) j) (mn) 0 0) (gPs (fun j => (mx) j * (mdy) j - (my) j * (mdx) j) (mn) 0 0)), .long (gTu (mn) (gPs (mx) (mn) 0 0) (gPs (my) (mn) 0 0) (gPs (mdx) (mn) 0 0) (gPs (mdy) (mn) 0 0) (gPs (fun j => (mx) j * (mx) j + (my) j * (my) j) (mn) 0 0) (gPs (fun j => (mx) j * (mdx) j + (my) j * (mdy) j) (mn) 0 0) (gPs (fun j => (mx) j * (mdy) j - (my) j * (mdx) j) (mn) 0 0)), .long (gAc (mn) (gPs (mx) (mn) 0 0) (gPs (my) (mn) 0 0) (gPs (mdx) (mn) 0 0) (gPs (mdy) (mn) 0 0) (gPs (fun j => (mx) j * (mx) j + (my) j * (my) j) (mn) 0 0) (gPs (fun j => (mx) j * (mdx) j + (my) j * (mdy) j) (mn) 0 0) (gPs (fun j => (mx) j * (mdy) j - (my) j * (mdx) j) (mn) 0 0)), .long (gUp (mn) (gPs (mx) (mn) 0 0) (gPs (my) (mn) 0 0) (gPs (mdx) (mn) 0 0) (gPs (mdy) (mn) 0 0) (gPs (fun j => (mx) j * (mx) j + (my) j * (my) j) (mn) 0 0) (gPs (fun j => (mx) j * (mdx) j + (my) j * (mdy) j) (mn) 0 0) (gPs (fun j => (mx) j * (mdy) j - (my) j * (mdx) j) (mn) 0 0)), .ref (a 37), .ref (a 38), .ref (a 39), .int (nI ((jn))), .ref (a 40), .ref (a 41)])) := w22
    have w33 := (ho 33 (by decide)).trans w33
    have w34 := (ho 34 (by decide)).trans w34
    have w35 := (ho 35 (by decide)).trans w35
    have w36 := (ho 36 (by decide)).trans w36
    have hk := gk_call hk ho (by decide)
    clear ho
    refine mx_bne (tgt := 37) (pc := 30) hx hb dX8_fit_30 (by decide) (fun c30 => ?_) (fun c30 => absurd (c30.symm.trans h3) (by decide))
    refine lv_iload_n (pc := 37) hx hb dX8_fit_37 rfl (lv_at hl 1 rfl) ?_
    refine lv_tableIn (tgt := 64) (pc := 38) hx hb dX8_fit_38 (by decide) (by decide) rfl (by decide) ?_
    refine lv_aload_n (pc := 64) hx hb dX8_fit_64 rfl (lv_at hl 0 rfl) ?_
    refine va_get (ci := 8) (C := RX8) (T := TX8) (N := 37) (pc := 65) hx hb hts hiX8 hown hK hP 22 w22 rfl 27 (by decide) (hts (.fieldLink RX8 166 "InkPressModel" "stretch" "J") (by decide +kernel)) (fun _ h9 => h9) rfl dX8_fit_65 ?_
    refine lv_aload_n (pc := 68) hx hb dX8_fit_68 rfl (lv_at hl 0 rfl) ?_
    refine va_get (ci := 8) (C := RX8) (T := TX8) (N := 37) (pc := 69) hx hb hts hiX8 hown hK hP 22 w22 rfl 26 (by decide) (hts (.fieldLink RX8 162 "InkPressModel" "all" "J") (by decide +kernel)) (fun _ h9 => h9) rfl dX8_fit_69 ?_
    refine lv_iload_n (pc := 72) hx hb dX8_fit_72 rfl (lv_at hl 2 rfl) ?_
    refine mx_cSl (As := [.long (gStr (mn) (gPs (mx) (mn) 0 0) (gPs (my) (mn) 0 0) (gPs (mdx) (mn) 0 0) (gPs (mdy) (mn) 0 0) (gPs (fun j => (mx) j * (mx) j + (my) j * (my) j) (mn) 0 0) (gPs (fun j => (mx) j * (mdx) j + (my) j * (mdy) j) (mn) 0 0) (gPs (fun j => (mx) j * (mdy) j - (my) j * (mdx) j) (mn) 0 0)), .long (gSp (mn) (gPs (mx) (mn) 0 0) (gPs (my) (mn) 0 0) (gPs (mdx) (mn) 0 0) (gPs (mdy) (mn) 0 0) (gPs (fun j => (mx) j * (mx) j + (my) j * (my) j) (mn) 0 0) (gPs (fun j => (mx) j * (mdx) j + (my) j * (mdy) j) (mn) 0 0) (gPs (fun j => (mx) j * (mdy) j - (my) j * (mdx) j) (mn) 0 0)), .int (nI (1))]) (rest := []) (pc := 73) ⟨hx, hb, hml, hown, hts⟩ (k_X8_lowest_1 (a := a) (uu := gStr (mn) (gPs (mx) (mn) 0 0) (gPs (my) (mn) 0 0) (gPs (mdx) (mn) 0 0) (gPs (mdy) (mn) 0 0) (gPs (fun j => (mx) j * (mx) j + (my) j * (my) j) (mn) 0 0) (gPs (fun j => (mx) j * (mdx) j + (my) j * (mdy) j) (mn) 0 0) (gPs (fun j => (mx) j * (mdy) j - (my) j * (mdx) j) (mn) 0 0)) (lw := gSp (mn) (gPs (mx) (mn) 0 0) (gPs (my) (mn) 0 0) (gPs (mdx) (mn) 0 0) (gPs (mdy) (mn) 0 0) (gPs (fun j => (mx) j * (mx) j + (my) j * (my) j) (mn) 0 0) (gPs (fun j => (mx) j * (mdx) j + (my) j * (mdy) j) (mn) 0 0) (gPs (fun j => (mx) j * (mdy) j - (my) j * (mdx) j) (mn) 0 0)) (xa := xa) (yb := yb) hD  hu hw hx3 hy0 hy3) (va_cwS 3 hts gX8_fit_X8_lowest rfl rfl rfl (by decide +kernel) ⟨Nat.le_of_ble_eq_true rfl, Nat.le_of_ble_eq_true rfl⟩) hK hN hZ hP hS rfl hl.1 rfl (Nat.le_of_ble_eq_true rfl) dX8_fit_73 ⟨Nat.zero_le _, Nat.zero_le _⟩ (fun G' H locs hP hD hS hB => ?_)
    rw [hB] at hP hD
    clear hB G'
    exact hret _ _ _ _ _ _ hP hD hS rfl ⟨w22, hk⟩ dX8_fit_76
  · skip
    refine lv_iload_n (pc := 0) hx hb dX8_fit_0 rfl (lv_at hl 1 rfl) ?_
    refine lv_i2l (v := (nI (1)).toInt64) (pc := 1) hx hb dX8_fit_1 rfl ?_
    refine lv_lconst (v := 0) (pc := 2) hx hb dX8_fit_2 (by decide) ?_
    refine lv_ldc2 (own := RX8) (v := (3)) (pc := 3) hx hb hown (hts (.constantLong RX8 178 (3)) (by decide +kernel)) dX8_fit_3 ?_
    refine mx_cSi (As := [.long ((nI (1)).toInt64), .long (0), .long ((3))]) (rest := []) (pc := 6) ⟨hx, hb, hml, hown, hts⟩ (k_X8_in (a := a) (v := (nI (1)).toInt64) (lo := 0) (hi := (3)) hD  ) (va_cwS 3 hts gX8_fit_X8_in rfl rfl rfl (by decide +kernel) ⟨Nat.le_of_ble_eq_true rfl, Nat.le_of_ble_eq_true rfl⟩) hK hN hZ hP hS rfl hl.1 rfl (Nat.le_of_ble_eq_true rfl) dX8_fit_6 ⟨Nat.zero_le _, Nat.zero_le _⟩ (fun G' H locs hP hD hS hB => ?_)
    rw [hB] at hP hD
    clear hB G'
    refine mx_beq (tgt := 22) (pc := 9) hx hb dX8_fit_9 (by decide) (fun c9 => absurd (c9.symm.trans ((gIn_w (a := nI 0) (b := nI 3) (by decide) (by decide)).trans h1)) (by decide)) (fun c9 => ?_)
    refine lv_iload_n (pc := 12) hx hb dX8_fit_12 rfl (lv_at hl 2 rfl) ?_
    refine lv_i2l (v := (nI (1)).toInt64) (pc := 13) hx hb dX8_fit_13 rfl ?_
    refine lv_lconst (v := 0) (pc := 14) hx hb dX8_fit_14 (by decide) ?_
    refine lv_lconst (v := 1) (pc := 15) hx hb dX8_fit_15 (by decide) ?_
    refine mx_cSi (As := [.long ((nI (1)).toInt64), .long (0), .long (1)]) (rest := []) (pc := 16) ⟨hx, hb, hml, hown, hts⟩ (k_X8_in (a := a) (v := (nI (1)).toInt64) (lo := 0) (hi := 1) hD  ) (va_cwS 3 hts gX8_fit_X8_in rfl rfl rfl (by decide +kernel) ⟨Nat.le_of_ble_eq_true rfl, Nat.le_of_ble_eq_true rfl⟩) hK hN hZ hP hS rfl hl.1 rfl (Nat.le_of_ble_eq_true rfl) dX8_fit_16 ⟨Nat.zero_le _, Nat.zero_le _⟩ (fun G' H locs hP hD hS hB => ?_)
    rw [hB] at hP hD
    clear hB G'
    refine mx_bne (tgt := 26) (pc := 19) hx hb dX8_fit_19 (by decide) (fun c19 => ?_) (fun c19 => absurd (c19.symm.trans ((gIn_w (a := nI 0) (b := nI 1) (by decide) (by decide)).trans (show gWi (nI 1) (nI 0) (nI 1) = true by decide))) (by decide))
    refine lv_aload_n (pc := 26) hx hb dX8_fit_26 rfl (lv_at hl 0 rfl) ?_
    refine mx_cVi (As := []) (rest := []) (pc := 27) ⟨hx, hb, hml, hown, hts⟩ (k_X8_findFit (a := a) (zn := zn) (tr := tr) (sc := sc) (pn := pn) (mn := mn) (jn := jn) (sg := sg) (sr := sr) (ss := ss) (fed := fed) (pap := pap) (bar := bar) (st := st) (q1 := q1) (q2 := q2) (q3 := q3) (q4 := q4) (q5 := q5) (mx := mx) (my := my) (mdx := mdx) (mdy := mdy) hD w22 w33 w34 w35 w36 (by omega)) (cwV 0 hts gX8_fit_X8_findFit rfl rfl rfl (by decide +kernel) ⟨Nat.le_of_ble_eq_true rfl, Nat.le_of_ble_eq_true rfl⟩) 22 rfl rfl w22 hK hN hZ hP hS rfl hl.1 rfl (Nat.le_of_ble_eq_true rfl) dX8_fit_27 ⟨Nat.zero_le _, Nat.zero_le _⟩ (fun G H locs hP hD hS hB => ?_)
    obtain ⟨w22, ho⟩ := hB
    have w22 : G[22]? = some (a 22, .inr (8, [.int (nI ((zn))), .int (nI ((tr))), .ref (a 23), .ref (a 24), .ref (a 25), .ref (a 26), .ref (a 27), .ref (a 28), .ref (a 29), .int (nI ((sc))), .int ((sg)), .int ((sr)), .int ((ss)), .int ((fed)), .int ((pap)), .int ((bar)), .int (gB ((st))), .ref (a 30), .ref (a 31), .ref (a 32), .int (nI ((pn))), .ref (a 33), .ref (a 34), .ref (a 35), .ref (a 36), .int (nI ((mn))), .long (gSp (mn) (gPs (mx) (mn) 0 0) (gPs (my) (mn) 0 0) (gPs (mdx) (mn) 0 0) (gPs (mdy) (mn) 0 0) (gPs (fun j => (mx) j * (mx) j + (my) j * (my) j) (mn) 0 0) (gPs (fun j => (mx) j * (mdx) j + (my) j * (mdy) j) (mn) 0 0) (gPs (fun j => (mx) j * (mdy) j - (my) j * (mdx) j) (mn) 0 0)), .long (gStr (mn) (gPs (mx) (mn) 0 0) (gPs (my) (mn) 0 0) (gPs (mdx) (mn) 0 0) (gPs (mdy) (mn) 0 0) (gPs (fun j => (mx) j * (mx) j + (my) j * (my) j) (mn) 0 0) (gPs (fun j => (mx) j * (mdx) j + (my) j * (mdy) j) (mn) 0 0) (gPs (fun j => (mx) j * (mdy) j - (my) j * (mdx) j) (mn) 0 0)), .long (gTu (mn) (gPs (mx) (mn) 0 0) (gPs (my) (mn) 0 0) (gPs (mdx) (mn) 0 0) (gPs (mdy) (mn) 0 0) (gPs (fun j => (mx) j * (mx) j + (my) j * (my) j) (mn) 0 0) (gPs (fun j => (mx) j * (mdx) j + (my) j * (mdy) j) (mn) 0 0) (gPs (fun j => (mx) j * (mdy) j - (my) j * (mdx) j) (mn) 0 0)), .long (gAc (mn) (gPs (mx) (mn) 0 0) (gPs (my) (mn) 0 0) (gPs (mdx) (mn) 0 0) (gPs (mdy) (mn) 0 0) (gPs (fun j => (mx) j * (mx) j + (my) j * (my) j) (mn) 0 0) (gPs (fun j => (mx) j * (mdx) j + (my) j * (mdy) j) (mn) 0 0) (gPs (fun j => (mx) j * (mdy) j - (my) j * (mdx) j) (mn) 0 0)), .long (gUp (mn) (gPs (mx) (mn) 0 0) (gPs (my) (mn) 0 0) (gPs (mdx) (mn) 0 0) (gPs (mdy) (mn) 0 0) (gPs (fun j => (mx) j * (mx) j + (my) j * (my) j) (mn) 0 0) (gPs (fun j => (mx) j * (mdx) j + (my) j * (mdy) j) (mn) 0 0) (gPs (fun j => (mx) j * (mdy) j - (my) j * (mdx) j) (mn) 0 0)), .ref (a 37), .ref (a 38), .ref (a 39), .int (nI ((jn))), .ref (a 40), .ref (a 41)])) := w22
    have w33 := (ho 33 (by decide)).trans w33
    have w34 := (ho 34 (by decide)).trans w34
    have w35 := (ho 35 (by decide)).trans w35
    have w36 := (ho 36 (by decide)).trans w36
    have hk := gk_call hk ho (by decide)
    clear ho
    refine mx_bne (tgt := 37) (pc := 30) hx hb dX8_fit_30 (by decide) (fun c30 => ?_) (fun c30 => absurd (c30.symm.trans h3) (by decide))
    refine lv_iload_n (pc := 37) hx hb dX8_fit_37 rfl (lv_at hl 1 rfl) ?_
    refine lv_tableIn (tgt := 77) (pc := 38) hx hb dX8_fit_38 (by decide) (by decide) rfl (by decide) ?_
    refine lv_aload_n (pc := 77) hx hb dX8_fit_77 rfl (lv_at hl 0 rfl) ?_
    refine va_get (ci := 8) (C := RX8) (T := TX8) (N := 37) (pc := 78) hx hb hts hiX8 hown hK hP 22 w22 rfl 28 (by decide) (hts (.fieldLink RX8 169 "InkPressModel" "turn" "J") (by decide +kernel)) (fun _ h9 => h9) rfl dX8_fit_78 ?_
    refine lv_aload_n (pc := 81) hx hb dX8_fit_81 rfl (lv_at hl 0 rfl) ?_
    refine va_get (ci := 8) (C := RX8) (T := TX8) (N := 37) (pc := 82) hx hb hts hiX8 hown hK hP 22 w22 rfl 26 (by decide) (hts (.fieldLink RX8 162 "InkPressModel" "all" "J") (by decide +kernel)) (fun _ h9 => h9) rfl dX8_fit_82 ?_
    refine lv_iload_n (pc := 85) hx hb dX8_fit_85 rfl (lv_at hl 2 rfl) ?_
    refine mx_cSl (As := [.long (gTu (mn) (gPs (mx) (mn) 0 0) (gPs (my) (mn) 0 0) (gPs (mdx) (mn) 0 0) (gPs (mdy) (mn) 0 0) (gPs (fun j => (mx) j * (mx) j + (my) j * (my) j) (mn) 0 0) (gPs (fun j => (mx) j * (mdx) j + (my) j * (mdy) j) (mn) 0 0) (gPs (fun j => (mx) j * (mdy) j - (my) j * (mdx) j) (mn) 0 0)), .long (gSp (mn) (gPs (mx) (mn) 0 0) (gPs (my) (mn) 0 0) (gPs (mdx) (mn) 0 0) (gPs (mdy) (mn) 0 0) (gPs (fun j => (mx) j * (mx) j + (my) j * (my) j) (mn) 0 0) (gPs (fun j => (mx) j * (mdx) j + (my) j * (mdy) j) (mn) 0 0) (gPs (fun j => (mx) j * (mdy) j - (my) j * (mdx) j) (mn) 0 0)), .int (nI (1))]) (rest := []) (pc := 86) ⟨hx, hb, hml, hown, hts⟩ (k_X8_lowest_1 (a := a) (uu := gTu (mn) (gPs (mx) (mn) 0 0) (gPs (my) (mn) 0 0) (gPs (mdx) (mn) 0 0) (gPs (mdy) (mn) 0 0) (gPs (fun j => (mx) j * (mx) j + (my) j * (my) j) (mn) 0 0) (gPs (fun j => (mx) j * (mdx) j + (my) j * (mdy) j) (mn) 0 0) (gPs (fun j => (mx) j * (mdy) j - (my) j * (mdx) j) (mn) 0 0)) (lw := gSp (mn) (gPs (mx) (mn) 0 0) (gPs (my) (mn) 0 0) (gPs (mdx) (mn) 0 0) (gPs (mdy) (mn) 0 0) (gPs (fun j => (mx) j * (mx) j + (my) j * (my) j) (mn) 0 0) (gPs (fun j => (mx) j * (mdx) j + (my) j * (mdy) j) (mn) 0 0) (gPs (fun j => (mx) j * (mdy) j - (my) j * (mdx) j) (mn) 0 0)) (xa := xa) (yb := yb) hD  hu hw hx3 hy0 hy3) (va_cwS 3 hts gX8_fit_X8_lowest rfl rfl rfl (by decide +kernel) ⟨Nat.le_of_ble_eq_true rfl, Nat.le_of_ble_eq_true rfl⟩) hK hN hZ hP hS rfl hl.1 rfl (Nat.le_of_ble_eq_true rfl) dX8_fit_86 ⟨Nat.zero_le _, Nat.zero_le _⟩ (fun G' H locs hP hD hS hB => ?_)
    rw [hB] at hP hD
    clear hB G'
    exact hret _ _ _ _ _ _ hP hD hS rfl ⟨w22, hk⟩ dX8_fit_89
  · skip
    refine lv_iload_n (pc := 0) hx hb dX8_fit_0 rfl (lv_at hl 1 rfl) ?_
    refine lv_i2l (v := (nI (2)).toInt64) (pc := 1) hx hb dX8_fit_1 rfl ?_
    refine lv_lconst (v := 0) (pc := 2) hx hb dX8_fit_2 (by decide) ?_
    refine lv_ldc2 (own := RX8) (v := (3)) (pc := 3) hx hb hown (hts (.constantLong RX8 178 (3)) (by decide +kernel)) dX8_fit_3 ?_
    refine mx_cSi (As := [.long ((nI (2)).toInt64), .long (0), .long ((3))]) (rest := []) (pc := 6) ⟨hx, hb, hml, hown, hts⟩ (k_X8_in (a := a) (v := (nI (2)).toInt64) (lo := 0) (hi := (3)) hD  ) (va_cwS 3 hts gX8_fit_X8_in rfl rfl rfl (by decide +kernel) ⟨Nat.le_of_ble_eq_true rfl, Nat.le_of_ble_eq_true rfl⟩) hK hN hZ hP hS rfl hl.1 rfl (Nat.le_of_ble_eq_true rfl) dX8_fit_6 ⟨Nat.zero_le _, Nat.zero_le _⟩ (fun G' H locs hP hD hS hB => ?_)
    rw [hB] at hP hD
    clear hB G'
    refine mx_beq (tgt := 22) (pc := 9) hx hb dX8_fit_9 (by decide) (fun c9 => absurd (c9.symm.trans ((gIn_w (a := nI 0) (b := nI 3) (by decide) (by decide)).trans h1)) (by decide)) (fun c9 => ?_)
    refine lv_iload_n (pc := 12) hx hb dX8_fit_12 rfl (lv_at hl 2 rfl) ?_
    refine lv_i2l (v := (nI (1)).toInt64) (pc := 13) hx hb dX8_fit_13 rfl ?_
    refine lv_lconst (v := 0) (pc := 14) hx hb dX8_fit_14 (by decide) ?_
    refine lv_lconst (v := 1) (pc := 15) hx hb dX8_fit_15 (by decide) ?_
    refine mx_cSi (As := [.long ((nI (1)).toInt64), .long (0), .long (1)]) (rest := []) (pc := 16) ⟨hx, hb, hml, hown, hts⟩ (k_X8_in (a := a) (v := (nI (1)).toInt64) (lo := 0) (hi := 1) hD  ) (va_cwS 3 hts gX8_fit_X8_in rfl rfl rfl (by decide +kernel) ⟨Nat.le_of_ble_eq_true rfl, Nat.le_of_ble_eq_true rfl⟩) hK hN hZ hP hS rfl hl.1 rfl (Nat.le_of_ble_eq_true rfl) dX8_fit_16 ⟨Nat.zero_le _, Nat.zero_le _⟩ (fun G' H locs hP hD hS hB => ?_)
    rw [hB] at hP hD
    clear hB G'
    refine mx_bne (tgt := 26) (pc := 19) hx hb dX8_fit_19 (by decide) (fun c19 => ?_) (fun c19 => absurd (c19.symm.trans ((gIn_w (a := nI 0) (b := nI 1) (by decide) (by decide)).trans (show gWi (nI 1) (nI 0) (nI 1) = true by decide))) (by decide))
    refine lv_aload_n (pc := 26) hx hb dX8_fit_26 rfl (lv_at hl 0 rfl) ?_
    refine mx_cVi (As := []) (rest := []) (pc := 27) ⟨hx, hb, hml, hown, hts⟩ (k_X8_findFit (a := a) (zn := zn) (tr := tr) (sc := sc) (pn := pn) (mn := mn) (jn := jn) (sg := sg) (sr := sr) (ss := ss) (fed := fed) (pap := pap) (bar := bar) (st := st) (q1 := q1) (q2 := q2) (q3 := q3) (q4 := q4) (q5 := q5) (mx := mx) (my := my) (mdx := mdx) (mdy := mdy) hD w22 w33 w34 w35 w36 (by omega)) (cwV 0 hts gX8_fit_X8_findFit rfl rfl rfl (by decide +kernel) ⟨Nat.le_of_ble_eq_true rfl, Nat.le_of_ble_eq_true rfl⟩) 22 rfl rfl w22 hK hN hZ hP hS rfl hl.1 rfl (Nat.le_of_ble_eq_true rfl) dX8_fit_27 ⟨Nat.zero_le _, Nat.zero_le _⟩ (fun G H locs hP hD hS hB => ?_)
    obtain ⟨w22, ho⟩ := hB
    have w22 : G[22]? = some (a 22, .inr (8, [.int (nI ((zn))), .int (nI ((tr))), .ref (a 23), .ref (a 24), .ref (a 25), .ref (a 26), .ref (a 27), .ref (a 28), .ref (a 29), .int (nI ((sc))), .int ((sg)), .int ((sr)), .int ((ss)), .int ((fed)), .int ((pap)), .int ((bar)), .int (gB ((st))), .ref (a 30), .ref (a 31), .ref (a 32), .int (nI ((pn))), .ref (a 33), .ref (a 34), .ref (a 35), .ref (a 36), .int (nI ((mn))), .long (gSp (mn) (gPs (mx) (mn) 0 0) (gPs (my) (mn) 0 0) (gPs (mdx) (mn) 0 0) (gPs (mdy) (mn) 0 0) (gPs (fun j => (mx) j * (mx) j + (my) j * (my) j) (mn) 0 0) (gPs (fun j => (mx) j * (mdx) j + (my) j * (mdy) j) (mn) 0 0) (gPs (fun j => (mx) j * (mdy) j - (my) j * (mdx) j) (mn) 0 0)), .long (gStr (mn) (gPs (mx) (mn) 0 0) (gPs (my) (mn) 0 0) (gPs (mdx) (mn) 0 0) (gPs (mdy) (mn) 0 0) (gPs (fun j => (mx) j * (mx) j + (my) j * (my) j) (mn) 0 0) (gPs (fun j => (mx) j * (mdx) j + (my) j * (mdy) j) (mn) 0 0) (gPs (fun j => (mx) j * (mdy) j - (my) j * (mdx) j) (mn) 0 0)), .long (gTu (mn) (gPs (mx) (mn) 0 0) (gPs (my) (mn) 0 0) (gPs (mdx) (mn) 0 0) (gPs (mdy) (mn) 0 0) (gPs (fun j => (mx) j * (mx) j + (my) j * (my) j) (mn) 0 0) (gPs (fun j => (mx) j * (mdx) j + (my) j * (mdy) j) (mn) 0 0) (gPs (fun j => (mx) j * (mdy) j - (my) j * (mdx) j) (mn) 0 0)), .long (gAc (mn) (gPs (mx) (mn) 0 0) (gPs (my) (mn) 0 0) (gPs (mdx) (mn) 0 0) (gPs (mdy) (mn) 0 0) (gPs (fun j => (mx) j * (mx) j + (my) j * (my) j) (mn) 0 0) (gPs (fun j => (mx) j * (mdx) j + (my) j * (mdy) j) (mn) 0 0) (gPs (fun j => (mx) j * (mdy) j - (my) j * (mdx) j) (mn) 0 0)), .long (gUp (mn) (gPs (mx) (mn) 0 0) (gPs (my) (mn) 0 0) (gPs (mdx) (mn) 0 0) (gPs (mdy) (mn) 0 0) (gPs (fun j => (mx) j * (mx) j + (my) j * (my) j) (mn) 0 0) (gPs (fun j => (mx) j * (mdx) j + (my) j * (mdy) j) (mn) 0 0) (gPs (fun j => (mx) j * (mdy) j - (my) j * (mdx) j) (mn) 0 0)), .ref (a 37), .ref (a 38), .ref (a 39), .int (nI ((jn))), .ref (a 40), .ref (a 41)])) := w22
    have w33 := (ho 33 (by decide)).trans w33
    have w34 := (ho 34 (by decide)).trans w34
    have w35 := (ho 35 (by decide)).trans w35
    have w36 := (ho 36 (by decide)).trans w36
    have hk := gk_call hk ho (by decide)
    clear ho
    refine mx_bne (tgt := 37) (pc := 30) hx hb dX8_fit_30 (by decide) (fun c30 => ?_) (fun c30 => absurd (c30.symm.trans h3) (by decide))
    refine lv_iload_n (pc := 37) hx hb dX8_fit_37 rfl (lv_at hl 1 rfl) ?_
    refine lv_tableIn (tgt := 90) (pc := 38) hx hb dX8_fit_38 (by decide) (by decide) rfl (by decide) ?_
    refine lv_aload_n (pc := 90) hx hb dX8_fit_90 rfl (lv_at hl 0 rfl) ?_
    refine va_get (ci := 8) (C := RX8) (T := TX8) (N := 37) (pc := 91) hx hb hts hiX8 hown hK hP 22 w22 rfl 29 (by decide) (hts (.fieldLink RX8 172 "InkPressModel" "across" "J") (by decide +kernel)) (fun _ h9 => h9) rfl dX8_fit_91 ?_
    refine lv_aload_n (pc := 94) hx hb dX8_fit_94 rfl (lv_at hl 0 rfl) ?_
    refine va_get (ci := 8) (C := RX8) (T := TX8) (N := 37) (pc := 95) hx hb hts hiX8 hown hK hP 22 w22 rfl 26 (by decide) (hts (.fieldLink RX8 162 "InkPressModel" "all" "J") (by decide +kernel)) (fun _ h9 => h9) rfl dX8_fit_95 ?_
    refine lv_aload_n (pc := 98) hx hb dX8_fit_98 rfl (lv_at hl 0 rfl) ?_
    refine va_get (ci := 8) (C := RX8) (T := TX8) (N := 37) (pc := 99) hx hb hts hiX8 hown hK hP 22 w22 rfl 25 (by decide) (hts (.fieldLink RX8 159 "InkPressModel" "marks" "I") (by decide +kernel)) (fun _ h9 => h9) rfl dX8_fit_99 ?_
    refine lv_i2l (v := (nI ((mn))).toInt64) (pc := 102) hx hb dX8_fit_102 rfl ?_
    refine lv_lmul (pc := 103) hx hb dX8_fit_103 ?_
    refine lv_iload_n (pc := 104) hx hb dX8_fit_104 rfl (lv_at hl 2 rfl) ?_
    refine mx_cSl (As := [.long (gAc (mn) (gPs (mx) (mn) 0 0) (gPs (my) (mn) 0 0) (gPs (mdx) (mn) 0 0) (gPs (mdy) (mn) 0 0) (gPs (fun j => (mx) j * (mx) j + (my) j * (my) j) (mn) 0 0) (gPs (fun j => (mx) j * (mdx) j + (my) j * (mdy) j) (mn) 0 0) (gPs (fun j => (mx) j * (mdy) j - (my) j * (mdx) j) (mn) 0 0)), .long ((gSp (mn) (gPs (mx) (mn) 0 0) (gPs (my) (mn) 0 0) (gPs (mdx) (mn) 0 0) (gPs (mdy) (mn) 0 0) (gPs (fun j => (mx) j * (mx) j + (my) j * (my) j) (mn) 0 0) (gPs (fun j => (mx) j * (mdx) j + (my) j * (mdy) j) (mn) 0 0) (gPs (fun j => (mx) j * (mdy) j - (my) j * (mdx) j) (mn) 0 0) * (nI ((mn))).toInt64)), .int (nI (1))]) (rest := []) (pc := 105) ⟨hx, hb, hml, hown, hts⟩ (k_X8_lowest_1 (a := a) (uu := gAc (mn) (gPs (mx) (mn) 0 0) (gPs (my) (mn) 0 0) (gPs (mdx) (mn) 0 0) (gPs (mdy) (mn) 0 0) (gPs (fun j => (mx) j * (mx) j + (my) j * (my) j) (mn) 0 0) (gPs (fun j => (mx) j * (mdx) j + (my) j * (mdy) j) (mn) 0 0) (gPs (fun j => (mx) j * (mdy) j - (my) j * (mdx) j) (mn) 0 0)) (lw := (gSp (mn) (gPs (mx) (mn) 0 0) (gPs (my) (mn) 0 0) (gPs (mdx) (mn) 0 0) (gPs (mdy) (mn) 0 0) (gPs (fun j => (mx) j * (mx) j + (my) j * (my) j) (mn) 0 0) (gPs (fun j => (mx) j * (mdx) j + (my) j * (mdy) j) (mn) 0 0) (gPs (fun j => (mx) j * (mdy) j - (my) j * (mdx) j) (mn) 0 0) * (nI ((mn))).toInt64)) (xa := xa) (yb := yb) hD  hu hw hx3 hy0 hy3) (va_cwS 3 hts gX8_fit_X8_lowest rfl rfl rfl (by decide +kernel) ⟨Nat.le_of_ble_eq_true rfl, Nat.le_of_ble_eq_true rfl⟩) hK hN hZ hP hS rfl hl.1 rfl (Nat.le_of_ble_eq_true rfl) dX8_fit_105 ⟨Nat.zero_le _, Nat.zero_le _⟩ (fun G' H locs hP hD hS hB => ?_)
    rw [hB] at hP hD
    clear hB G'
    exact hret _ _ _ _ _ _ hP hD hS rfl ⟨w22, hk⟩ dX8_fit_108
  · skip
    refine lv_iload_n (pc := 0) hx hb dX8_fit_0 rfl (lv_at hl 1 rfl) ?_
    refine lv_i2l (v := (nI (3)).toInt64) (pc := 1) hx hb dX8_fit_1 rfl ?_
    refine lv_lconst (v := 0) (pc := 2) hx hb dX8_fit_2 (by decide) ?_
    refine lv_ldc2 (own := RX8) (v := (3)) (pc := 3) hx hb hown (hts (.constantLong RX8 178 (3)) (by decide +kernel)) dX8_fit_3 ?_
    refine mx_cSi (As := [.long ((nI (3)).toInt64), .long (0), .long ((3))]) (rest := []) (pc := 6) ⟨hx, hb, hml, hown, hts⟩ (k_X8_in (a := a) (v := (nI (3)).toInt64) (lo := 0) (hi := (3)) hD  ) (va_cwS 3 hts gX8_fit_X8_in rfl rfl rfl (by decide +kernel) ⟨Nat.le_of_ble_eq_true rfl, Nat.le_of_ble_eq_true rfl⟩) hK hN hZ hP hS rfl hl.1 rfl (Nat.le_of_ble_eq_true rfl) dX8_fit_6 ⟨Nat.zero_le _, Nat.zero_le _⟩ (fun G' H locs hP hD hS hB => ?_)
    rw [hB] at hP hD
    clear hB G'
    refine mx_beq (tgt := 22) (pc := 9) hx hb dX8_fit_9 (by decide) (fun c9 => absurd (c9.symm.trans ((gIn_w (a := nI 0) (b := nI 3) (by decide) (by decide)).trans h1)) (by decide)) (fun c9 => ?_)
    refine lv_iload_n (pc := 12) hx hb dX8_fit_12 rfl (lv_at hl 2 rfl) ?_
    refine lv_i2l (v := (nI (1)).toInt64) (pc := 13) hx hb dX8_fit_13 rfl ?_
    refine lv_lconst (v := 0) (pc := 14) hx hb dX8_fit_14 (by decide) ?_
    refine lv_lconst (v := 1) (pc := 15) hx hb dX8_fit_15 (by decide) ?_
    refine mx_cSi (As := [.long ((nI (1)).toInt64), .long (0), .long (1)]) (rest := []) (pc := 16) ⟨hx, hb, hml, hown, hts⟩ (k_X8_in (a := a) (v := (nI (1)).toInt64) (lo := 0) (hi := 1) hD  ) (va_cwS 3 hts gX8_fit_X8_in rfl rfl rfl (by decide +kernel) ⟨Nat.le_of_ble_eq_true rfl, Nat.le_of_ble_eq_true rfl⟩) hK hN hZ hP hS rfl hl.1 rfl (Nat.le_of_ble_eq_true rfl) dX8_fit_16 ⟨Nat.zero_le _, Nat.zero_le _⟩ (fun G' H locs hP hD hS hB => ?_)
    rw [hB] at hP hD
    clear hB G'
    refine mx_bne (tgt := 26) (pc := 19) hx hb dX8_fit_19 (by decide) (fun c19 => ?_) (fun c19 => absurd (c19.symm.trans ((gIn_w (a := nI 0) (b := nI 1) (by decide) (by decide)).trans (show gWi (nI 1) (nI 0) (nI 1) = true by decide))) (by decide))
    refine lv_aload_n (pc := 26) hx hb dX8_fit_26 rfl (lv_at hl 0 rfl) ?_
    refine mx_cVi (As := []) (rest := []) (pc := 27) ⟨hx, hb, hml, hown, hts⟩ (k_X8_findFit (a := a) (zn := zn) (tr := tr) (sc := sc) (pn := pn) (mn := mn) (jn := jn) (sg := sg) (sr := sr) (ss := ss) (fed := fed) (pap := pap) (bar := bar) (st := st) (q1 := q1) (q2 := q2) (q3 := q3) (q4 := q4) (q5 := q5) (mx := mx) (my := my) (mdx := mdx) (mdy := mdy) hD w22 w33 w34 w35 w36 (by omega)) (cwV 0 hts gX8_fit_X8_findFit rfl rfl rfl (by decide +kernel) ⟨Nat.le_of_ble_eq_true rfl, Nat.le_of_ble_eq_true rfl⟩) 22 rfl rfl w22 hK hN hZ hP hS rfl hl.1 rfl (Nat.le_of_ble_eq_true rfl) dX8_fit_27 ⟨Nat.zero_le _, Nat.zero_le _⟩ (fun G H locs hP hD hS hB => ?_)
    obtain ⟨w22, ho⟩ := hB
    have w22 : G[22]? = some (a 22, .inr (8, [.int (nI ((zn))), .int (nI ((tr))), .ref (a 23), .ref (a 24), .ref (a 25), .ref (a 26), .ref (a 27), .ref (a 28), .ref (a 29), .int (nI ((sc))), .int ((sg)), .int ((sr)), .int ((ss)), .int ((fed)), .int ((pap)), .int ((bar)), .int (gB ((st))), .ref (a 30), .ref (a 31), .ref (a 32), .int (nI ((pn))), .ref (a 33), .ref (a 34), .ref (a 35), .ref (a 36), .int (nI ((mn))), .long (gSp (mn) (gPs (mx) (mn) 0 0) (gPs (my) (mn) 0 0) (gPs (mdx) (mn) 0 0) (gPs (mdy) (mn) 0 0) (gPs (fun j => (mx) j * (mx) j + (my) j * (my) j) (mn) 0 0) (gPs (fun j => (mx) j * (mdx) j + (my) j * (mdy) j) (mn) 0 0) (gPs (fun j => (mx) j * (mdy) j - (my) j * (mdx) j) (mn) 0 0)), .long (gStr (mn) (gPs (mx) (mn) 0 0) (gPs (my) (mn) 0 0) (gPs (mdx) (mn) 0 0) (gPs (mdy) (mn) 0 0) (gPs (fun j => (mx) j * (mx) j + (my) j * (my) j) (mn) 0 0) (gPs (fun j => (mx) j * (mdx) j + (my) j * (mdy) j) (mn) 0 0) (gPs (fun j => (mx) j * (mdy) j - (my) j * (mdx) j) (mn) 0 0)), .long (gTu (mn) (gPs (mx) (mn) 0 0) (gPs (my) (mn) 0 0) (gPs (mdx) (mn) 0 0) (gPs (mdy) (mn) 0 0) (gPs (fun j => (mx) j * (mx) j + (my) j * (my) j) (mn) 0 0) (gPs (fun j => (mx) j * (mdx) j + (my) j * (mdy) j) (mn) 0 0) (gPs (fun j => (mx) j * (mdy) j - (my) j * (mdx) j) (mn) 0 0)), .long (gAc (mn) (gPs (mx) (mn) 0 0) (gPs (my) (mn) 0 0) (gPs (mdx) (mn) 0 0) (gPs (mdy) (mn) 0 0) (gPs (fun j => (mx) j * (mx) j + (my) j * (my) j) (mn) 0 0) (gPs (fun j => (mx) j * (mdx) j + (my) j * (mdy) j) (mn) 0 0) (gPs (fun j => (mx) j * (mdy) j - (my) j * (mdx) j) (mn) 0 0)), .long (gUp (mn) (gPs (mx) (mn) 0 0) (gPs (my) (mn) 0 0) (gPs (mdx) (mn) 0 0) (gPs (mdy) (mn) 0 0) (gPs (fun j => (mx) j * (mx) j + (my) j * (my) j) (mn) 0 0) (gPs (fun j => (mx) j * (mdx) j + (my) j * (mdy) j) (mn) 0 0) (gPs (fun j => (mx) j * (mdy) j - (my) j * (mdx) j) (mn) 0 0)), .ref (a 37), .ref (a 38), .ref (a 39), .int (nI ((jn))), .ref (a 40), .ref (a 41)])) := w22
    have w33 := (ho 33 (by decide)).trans w33
    have w34 := (ho 34 (by decide)).trans w34
    have w35 := (ho 35 (by decide)).trans w35
    have w36 := (ho 36 (by decide)).trans w36
    have hk := gk_call hk ho (by decide)
    clear ho
    refine mx_bne (tgt := 37) (pc := 30) hx hb dX8_fit_30 (by decide) (fun c30 => ?_) (fun c30 => absurd (c30.symm.trans h3) (by decide))
    refine lv_iload_n (pc := 37) hx hb dX8_fit_37 rfl (lv_at hl 1 rfl) ?_
    refine lv_tableOut (tgt := 109) (pc := 38) hx hb dX8_fit_38 (by decide) (by decide) ?_
    refine lv_aload_n (pc := 109) hx hb dX8_fit_109 rfl (lv_at hl 0 rfl) ?_
    refine va_get (ci := 8) (C := RX8) (T := TX8) (N := 37) (pc := 110) hx hb hts hiX8 hown hK hP 22 w22 rfl 30 (by decide) (hts (.fieldLink RX8 175 "InkPressModel" "above" "J") (by decide +kernel)) (fun _ h9 => h9) rfl dX8_fit_110 ?_
    refine lv_aload_n (pc := 113) hx hb dX8_fit_113 rfl (lv_at hl 0 rfl) ?_
    refine va_get (ci := 8) (C := RX8) (T := TX8) (N := 37) (pc := 114) hx hb hts hiX8 hown hK hP 22 w22 rfl 26 (by decide) (hts (.fieldLink RX8 162 "InkPressModel" "all" "J") (by decide +kernel)) (fun _ h9 => h9) rfl dX8_fit_114 ?_
    refine lv_aload_n (pc := 117) hx hb dX8_fit_117 rfl (lv_at hl 0 rfl) ?_
    refine va_get (ci := 8) (C := RX8) (T := TX8) (N := 37) (pc := 118) hx hb hts hiX8 hown hK hP 22 w22 rfl 25 (by decide) (hts (.fieldLink RX8 159 "InkPressModel" "marks" "I") (by decide +kernel)) (fun _ h9 => h9) rfl dX8_fit_118 ?_
    refine lv_i2l (v := (nI ((mn))).toInt64) (pc := 121) hx hb dX8_fit_121 rfl ?_
    refine lv_lmul (pc := 122) hx hb dX8_fit_122 ?_
    refine lv_iload_n (pc := 123) hx hb dX8_fit_123 rfl (lv_at hl 2 rfl) ?_
    refine mx_cSl (As := [.long (gUp (mn) (gPs (mx) (mn) 0 0) (gPs (my) (mn) 0 0) (gPs (mdx) (mn) 0 0) (gPs (mdy) (mn) 0 0) (gPs (fun j => (mx) j * (mx) j + (my) j * (my) j) (mn) 0 0) (gPs (fun j => (mx) j * (mdx) j + (my) j * (mdy) j) (mn) 0 0) (gPs (fun j => (mx) j * (mdy) j - (my) j * (mdx) j) (mn) 0 0)), .long ((gSp (mn) (gPs (mx) (mn) 0 0) (gPs (my) (mn) 0 0) (gPs (mdx) (mn) 0 0) (gPs (mdy) (mn) 0 0) (gPs (fun j => (mx) j * (mx) j + (my) j * (my) j) (mn) 0 0) (gPs (fun j => (mx) j * (mdx) j + (my) j * (mdy) j) (mn) 0 0) (gPs (fun j => (mx) j * (mdy) j - (my) j * (mdx) j) (mn) 0 0) * (nI ((mn))).toInt64)), .int (nI (1))]) (rest := []) (pc := 124) ⟨hx, hb, hml, hown, hts⟩ (k_X8_lowest_1 (a := a) (uu := gUp (mn) (gPs (mx) (mn) 0 0) (gPs (my) (mn) 0 0) (gPs (mdx) (mn) 0 0) (gPs (mdy) (mn) 0 0) (gPs (fun j => (mx) j * (mx) j + (my) j * (my) j) (mn) 0 0) (gPs (fun j => (mx) j * (mdx) j + (my) j * (mdy) j) (mn) 0 0) (gPs (fun j => (mx) j * (mdy) j - (my) j * (mdx) j) (mn) 0 0)) (lw := (gSp (mn) (gPs (mx) (mn) 0 0) (gPs (my) (mn) 0 0) (gPs (mdx) (mn) 0 0) (gPs (mdy) (mn) 0 0) (gPs (fun j => (mx) j * (mx) j + (my) j * (my) j) (mn) 0 0) (gPs (fun j => (mx) j * (mdx) j + (my) j * (mdy) j) (mn) 0 0) (gPs (fun j => (mx) j * (mdy) j - (my) j * (mdx) j) (mn) 0 0) * (nI ((mn))).toInt64)) (xa := xa) (yb := yb) hD  hu hw hx3 hy0 hy3) (va_cwS 3 hts gX8_fit_X8_lowest rfl rfl rfl (by decide +kernel) ⟨Nat.le_of_ble_eq_true rfl, Nat.le_of_ble_eq_true rfl⟩) hK hN hZ hP hS rfl hl.1 rfl (Nat.le_of_ble_eq_true rfl) dX8_fit_124 ⟨Nat.zero_le _, Nat.zero_le _⟩ (fun G' H locs hP hD hS hB => ?_)
    rw [hB] at hP hD
    clear hB G'
    exact hret _ _ _ _ _ _ hP hD hS rfl ⟨w22, hk⟩ dX8_fit_127
set_option maxHeartbeats 4000000 in
set_option maxRecDepth 100000 in
theorem k_X8_off_b {l : Launch} {D : va_G} {cI cZ : ClassId} {A : Nat → Prop} {g a : Nat → Nat} {G0 : va_W} {zn : Nat} {tr : Nat} {sc : Nat} {pn : Nat} {mn : Nat} {jn : Nat} {sg : Int32} {sr : Int32} {ss : Int32} {fed : Int32} {pap : Int32} {bar : Int32} {st : Bool} {q1 : Int64} {q2 : Int64} {q3 : Int64} {q4 : Int64} {q5 : Int64} {x : Int32} {y : Int32} (hD : va_D A G0) (w22 : G0[22]? = some (a 22, .inr (8, [.int (nI (zn)), .int (nI (tr)), .ref (a 23), .ref (a 24), .ref (a 25), .ref (a 26), .ref (a 27), .ref (a 28), .ref (a 29), .int (nI (sc)), .int (sg), .int (sr), .int (ss), .int (fed), .int (pap), .int (bar), .int (gB (st)), .ref (a 30), .ref (a 31), .ref (a 32), .int (nI (pn)), .ref (a 33), .ref (a 34), .ref (a 35), .ref (a 36), .int (nI (mn)), .long (q1), .long (q2), .long (q3), .long (q4), .long (q5), .ref (a 37), .ref (a 38), .ref (a 39), .int (nI (jn)), .ref (a 40), .ref (a 41)]))) (h1 : gIn (x).toInt64 0 (nI mn - nI 1).toInt64 = false) : gMi l D cI cZ A g yX8_off wsX8_off ({ frames := 1, cells := 0, slots := 0, locals := 25 }) [.ref (a 22), .int (x), .int (y)] G0 ((-1000001)) (fun G1 => G1 = G0) := by
  refine gof_i (cc := cX8_off) (maxL := 7) (by decide) rfl (Nat.le_of_ble_eq_true rfl) hD ?_
  intro p e s m args below meth c Q hx hb hml hts hown hK hN hZ hP hS hret ls hl
  have hown : s.vm.findClass RX8 = some m.cls := hown
  have hl : lv_has ls 7 [(0, .ref (a 22)), (1, .int (x)), (2, .int (y))] := hl
  obtain ⟨locs, elocs⟩ : ∃ q : List Loc, q = [] := ⟨_, rfl⟩
  rw [← elocs] at hS ⊢
  obtain ⟨H, eH⟩ : ∃ q : Heap, q = s.heap := ⟨_, rfl⟩
  have hP : va_P D vwCl G0 H := eH ▸ hP
  have hS : va_S A s.heap H locs := by rw [eH]; exact hS
  rw [← eH]
  clear elocs eH
  have hiX8 : ∀ w ∈ u_ws RX8 TX8 37, w ∈ wsX8_off := by decide +kernel
  have hk : ∀ k, k ∉ ([] : List Nat) → G0[k]? = G0[k]? := fun _ _ => rfl
  refine lv_iload_n (pc := 0) hx hb dX8_off_0 rfl (lv_at hl 1 rfl) ?_
  refine lv_i2l (v := (x).toInt64) (pc := 1) hx hb dX8_off_1 rfl ?_
  refine lv_lconst (v := 0) (pc := 2) hx hb dX8_off_2 (by decide) ?_
  refine lv_aload_n (pc := 3) hx hb dX8_off_3 rfl (lv_at hl 0 rfl) ?_
  refine va_get (ci := 8) (C := RX8) (T := TX8) (N := 37) (pc := 4) hx hb hts hiX8 hown hK hP 22 w22 rfl 25 (by decide) (hts (.fieldLink RX8 159 "InkPressModel" "marks" "I") (by decide +kernel)) (fun _ h9 => h9) rfl dX8_off_4 ?_
  refine lv_iconst (v := nI (1)) (pc := 7) hx hb dX8_off_7 (by decide) ?_
  refine lv_isub (pc := 8) hx hb dX8_off_8 ?_
  refine lv_i2l (v := ((nI (mn) - nI (1))).toInt64) (pc := 9) hx hb dX8_off_9 rfl ?_
  refine mx_cSi (As := [.long ((x).toInt64), .long (0), .long (((nI (mn) - nI (1))).toInt64)]) (rest := []) (pc := 10) ⟨hx, hb, hml, hown, hts⟩ (k_X8_in (a := a) (v := (x).toInt64) (lo := 0) (hi := ((nI (mn) - nI (1))).toInt64) hD  ) (va_cwS 3 hts gX8_off_X8_in rfl rfl rfl (by decide +kernel) ⟨Nat.le_of_ble_eq_true rfl, Nat.le_of_ble_eq_true rfl⟩) hK hN hZ hP hS rfl hl.1 rfl (Nat.le_of_ble_eq_true rfl) dX8_off_10 ⟨Nat.zero_le _, Nat.zero_le _⟩ (fun G' H locs hP hD hS hB => ?_)
  rw [hB] at hP hD
  clear hB G'
  refine mx_bne (tgt := 19) (pc := 13) hx hb dX8_off_13 (by decide) (fun c13 => absurd (c13.symm.trans h1) (by decide)) (fun c13 => ?_)
  refine lv_ldc (own := RX8) (v := (-1000001)) (pc := 16) hx hb hown (hts (.constant RX8 113 (-1000001)) (by decide +kernel)) dX8_off_16 ?_
  exact hret _ _ _ _ _ _ hP hD hS rfl rfl dX8_off_18
set_option maxHeartbeats 4000000 in
set_option maxRecDepth 100000 in
theorem k_X8_off_c {l : Launch} {D : va_G} {cI cZ : ClassId} {A : Nat → Prop} {g a : Nat → Nat} {G0 : va_W} {zn : Nat} {tr : Nat} {sc : Nat} {pn : Nat} {mn : Nat} {jn : Nat} {sg : Int32} {sr : Int32} {ss : Int32} {fed : Int32} {pap : Int32} {bar : Int32} {st : Bool} {q1 : Int64} {q2 : Int64} {q3 : Int64} {q4 : Int64} {q5 : Int64} {x : Int32} {y : Int32} (hD : va_D A G0) (w22 : G0[22]? = some (a 22, .inr (8, [.int (nI (zn)), .int (nI (tr)), .ref (a 23), .ref (a 24), .ref (a 25), .ref (a 26), .ref (a 27), .ref (a 28), .ref (a 29), .int (nI (sc)), .int (sg), .int (sr), .int (ss), .int (fed), .int (pap), .int (bar), .int (gB (st)), .ref (a 30), .ref (a 31), .ref (a 32), .int (nI (pn)), .ref (a 33), .ref (a 34), .ref (a 35), .ref (a 36), .int (nI (mn)), .long (q1), .long (q2), .long (q3), .long (q4), .long (q5), .ref (a 37), .ref (a 38), .ref (a 39), .int (nI (jn)), .ref (a 40), .ref (a 41)]))) (hm1 : 1 ≤ mn) (hm : mn ≤ 8) (h1 : gHas x (nI mn) = true) (h2 : gWi y (nI 0) (nI 1) = false) : gMi l D cI cZ A g yX8_off wsX8_off ({ frames := 1, cells := 0, slots := 0, locals := 25 }) [.ref (a 22), .int (x), .int (y)] G0 ((-1000002)) (fun G1 => G1 = G0) := by
  refine gof_i (cc := cX8_off) (maxL := 7) (by decide) rfl (Nat.le_of_ble_eq_true rfl) hD ?_
  intro p e s m args below meth c Q hx hb hml hts hown hK hN hZ hP hS hret ls hl
  have hown : s.vm.findClass RX8 = some m.cls := hown
  have hl : lv_has ls 7 [(0, .ref (a 22)), (1, .int (x)), (2, .int (y))] := hl
  obtain ⟨locs, elocs⟩ : ∃ q : List Loc, q = [] := ⟨_, rfl⟩
  rw [← elocs] at hS ⊢
  obtain ⟨H, eH⟩ : ∃ q : Heap, q = s.heap := ⟨_, rfl⟩
  have hP : va_P D vwCl G0 H := eH ▸ hP
  have hS : va_S A s.heap H locs := by rw [eH]; exact hS
  rw [← eH]
  clear elocs eH
  have hiX8 : ∀ w ∈ u_ws RX8 TX8 37, w ∈ wsX8_off := by decide +kernel
  have hk : ∀ k, k ∉ ([] : List Nat) → G0[k]? = G0[k]? := fun _ _ => rfl
  refine lv_iload_n (pc := 0) hx hb dX8_off_0 rfl (lv_at hl 1 rfl) ?_
  refine lv_i2l (v := (x).toInt64) (pc := 1) hx hb dX8_off_1 rfl ?_
  refine lv_lconst (v := 0) (pc := 2) hx hb dX8_off_2 (by decide) ?_
  refine lv_aload_n (pc := 3) hx hb dX8_off_3 rfl (lv_at hl 0 rfl) ?_
  refine va_get (ci := 8) (C := RX8) (T := TX8) (N := 37) (pc := 4) hx hb hts hiX8 hown hK hP 22 w22 rfl 25 (by decide) (hts (.fieldLink RX8 159 "InkPressModel" "marks" "I") (by decide +kernel)) (fun _ h9 => h9) rfl dX8_off_4 ?_
  refine lv_iconst (v := nI (1)) (pc := 7) hx hb dX8_off_7 (by decide) ?_
  refine mx_isub (pc := 8) hx hb hm1 dX8_off_8 ?_
  refine lv_i2l (v := (nI ((mn) - (1))).toInt64) (pc := 9) hx hb dX8_off_9 rfl ?_
  refine mx_cSi (As := [.long ((x).toInt64), .long (0), .long ((nI ((mn) - (1))).toInt64)]) (rest := []) (pc := 10) ⟨hx, hb, hml, hown, hts⟩ (k_X8_in (a := a) (v := (x).toInt64) (lo := 0) (hi := (nI ((mn) - (1))).toInt64) hD  ) (va_cwS 3 hts gX8_off_X8_in rfl rfl rfl (by decide +kernel) ⟨Nat.le_of_ble_eq_true rfl, Nat.le_of_ble_eq_true rfl⟩) hK hN hZ hP hS rfl hl.1 rfl (Nat.le_of_ble_eq_true rfl) dX8_off_10 ⟨Nat.zero_le _, Nat.zero_le _⟩ (fun G' H locs hP hD hS hB => ?_)
  rw [hB] at hP hD
  clear hB G'
  refine mx_bne (tgt := 19) (pc := 13) hx hb dX8_off_13 (by decide) (fun c13 => ?_) (fun c13 => absurd (c13.symm.trans ((gIn_has hm1 (by omega)).trans h1)) (by decide))
  refine lv_iload_n (pc := 19) hx hb dX8_off_19 rfl (lv_at hl 2 rfl) ?_
  refine lv_i2l (v := (y).toInt64) (pc := 20) hx hb dX8_off_20 rfl ?_
  refine lv_lconst (v := 0) (pc := 21) hx hb dX8_off_21 (by decide) ?_
  refine lv_lconst (v := 1) (pc := 22) hx hb dX8_off_22 (by decide) ?_
  refine mx_cSi (As := [.long ((y).toInt64), .long (0), .long (1)]) (rest := []) (pc := 23) ⟨hx, hb, hml, hown, hts⟩ (k_X8_in (a := a) (v := (y).toInt64) (lo := 0) (hi := 1) hD  ) (va_cwS 3 hts gX8_off_X8_in rfl rfl rfl (by decide +kernel) ⟨Nat.le_of_ble_eq_true rfl, Nat.le_of_ble_eq_true rfl⟩) hK hN hZ hP hS rfl hl.1 rfl (Nat.le_of_ble_eq_true rfl) dX8_off_23 ⟨Nat.zero_le _, Nat.zero_le _⟩ (fun G' H locs hP hD hS hB => ?_)
  rw [hB] at hP hD
  clear hB G'
  refine mx_bne (tgt := 32) (pc := 26) hx hb dX8_off_26 (by decide) (fun c26 => absurd (c26.symm.trans ((gIn_w (a := nI 0) (b := nI 1) (by decide) (by decide)).trans h2)) (by decide)) (fun c26 => ?_)
  refine lv_ldc (own := RX8) (v := (-1000002)) (pc := 29) hx hb hown (hts (.constant RX8 118 (-1000002)) (by decide +kernel)) dX8_off_29 ?_
  exact hret _ _ _ _ _ _ hP hD hS rfl rfl dX8_off_31
set_option maxHeartbeats 4000000 in
set_option maxRecDepth 100000 in
theorem k_X8_off_d {l : Launch} {D : va_G} {cI cZ : ClassId} {A : Nat → Prop} {g a : Nat → Nat} {G0 : va_W} {zn : Nat} {tr : Nat} {sc : Nat} {pn : Nat} {mn : Nat} {jn : Nat} {sg : Int32} {sr : Int32} {ss : Int32} {fed : Int32} {pap : Int32} {bar : Int32} {st : Bool} {q1 : Int64} {q2 : Int64} {q3 : Int64} {q4 : Int64} {q5 : Int64} {mx : Nat → Int32} {my : Nat → Int32} {mdx : Nat → Int32} {mdy : Nat → Int32} {x : Int32} {y : Int32} (hD : va_D A G0) (w22 : G0[22]? = some (a 22, .inr (8, [.int (nI (zn)), .int (nI (tr)), .ref (a 23), .ref (a 24), .ref (a 25), .ref (a 26), .ref (a 27), .ref (a 28), .ref (a 29), .int (nI (sc)), .int (sg), .int (sr), .int (ss), .int (fed), .int (pap), .int (bar), .int (gB (st)), .ref (a 30), .ref (a 31), .ref (a 32), .int (nI (pn)), .ref (a 33), .ref (a 34), .ref (a 35), .ref (a 36), .int (nI (mn)), .long (q1), .long (q2), .long (q3), .long (q4), .long (q5), .ref (a 37), .ref (a 38), .ref (a 39), .int (nI (jn)), .ref (a 40), .ref (a 41)]))) (w33 : G0[33]? = some (a 33, .inl (cI, 8, .inl (mx)))) (w34 : G0[34]? = some (a 34, .inl (cI, 8, .inl (my)))) (w35 : G0[35]? = some (a 35, .inl (cI, 8, .inl (mdx)))) (w36 : G0[36]? = some (a 36, .inl (cI, 8, .inl (mdy)))) (hm1 : 1 ≤ mn) (hm : mn ≤ 8) (h1 : gHas x (nI mn) = true) (h2 : gWi y (nI 0) (nI 1) = true) (h3 : decide (0 < gSp mn (gPs mx mn 0 0) (gPs my mn 0 0) (gPs mdx mn 0 0) (gPs mdy mn 0 0) (gPs (fun j => mx j * mx j + my j * my j) mn 0 0) (gPs (fun j => mx j * mdx j + my j * mdy j) mn 0 0) (gPs (fun j => mx j * mdy j - my j * mdx j) mn 0 0)) = false) : gMi l D cI cZ A g yX8_off wsX8_off ({ frames := 1, cells := 0, slots := 0, locals := 35 }) [.ref (a 22), .int (x), .int (y)] G0 ((-1000005)) (fun G1 => G1[22]? = some (a 22, .inr (8, [.int (nI (zn)), .int (nI (tr)), .ref (a 23), .ref (a 24), .ref (a 25), .ref (a 26), .ref (a 27), .ref (a 28), .ref (a 29), .int (nI (sc)), .int (sg), .int (sr), .int (ss), .int (fed), .int (pap), .int (bar), .int (gB (st)), .ref (a 30), .ref (a 31), .ref (a 32), .int (nI (pn)), .ref (a 33), .ref (a 34), .ref (a 35), .ref (a 36), .int (nI (mn)), .long (gSp mn (gPs mx mn 0 0) (gPs my mn 0 0) (gPs mdx mn 0 0) (gPs mdy mn 0 0) (gPs (fun j => mx j * mx j + my j * my j) mn 0 0) (gPs (fun j => mx j * mdx j + my j * mdy j) mn 0 0) (gPs (fun j => mx j * mdy j - my j * mdx j) mn 0 0)), .long (gStr mn (gPs mx mn 0 0) (gPs my mn 0 0) (gPs mdx mn 0 0) (gPs mdy mn 0 0) (gPs (fun j => mx j * mx j + my j * my j) mn 0 0) (gPs (fun j => mx j * mdx j + my j * mdy j) mn 0 0) (gPs (fun j => mx j * mdy j - my j * mdx j) mn 0 0)), .long (gTu mn (gPs mx mn 0 0) (gPs my mn 0 0) (gPs mdx mn 0 0) (gPs mdy mn 0 0) (gPs (fun j => mx j * mx j + my j * my j) mn 0 0) (gPs (fun j => mx j * mdx j + my j * mdy j) mn 0 0) (gPs (fun j => mx j * mdy j - my j * mdx j) mn 0 0)), .long (gAc mn (gPs mx mn 0 0) (gPs my mn 0 0) (gPs mdx mn 0 0) (gPs mdy mn 0 0) (gPs (fun j => mx j * mx j + my j * my j) mn 0 0) (gPs (fun j => mx j * mdx j + my j * mdy j) mn 0 0) (gPs (fun j => mx j * mdy j - my j * mdx j) mn 0 0)), .long (gUp mn (gPs mx mn 0 0) (gPs my mn 0 0) (gPs mdx mn 0 0) (gPs mdy mn 0 0) (gPs (fun j => mx j * mx j + my j * my j) mn 0 0) (gPs (fun j => mx j * mdx j + my j * mdy j) mn 0 0) (gPs (fun j => mx j * mdy j - my j * mdx j) mn 0 0)), .ref (a 37), .ref (a 38), .ref (a 39), .int (nI (jn)), .ref (a 40), .ref (a 41)])) ∧ ∀ k, k ∉ [22] → G1[k]? = G0[k]?) := by
  refine gof_i (cc := cX8_off) (maxL := 7) (by decide) rfl (Nat.le_of_ble_eq_true rfl) hD ?_
  intro p e s m args below meth c Q hx hb hml hts hown hK hN hZ hP hS hret ls hl
  have hown : s.vm.findClass RX8 = some m.cls := hown
  have hl : lv_has ls 7 [(0, .ref (a 22)), (1, .int (x)), (2, .int (y))] := hl
  obtain ⟨locs, elocs⟩ : ∃ q : List Loc, q = [] := ⟨_, rfl⟩
  rw [← elocs] at hS ⊢
  obtain ⟨H, eH⟩ : ∃ q : Heap, q = s.heap := ⟨_, rfl⟩
  have hP : va_P D vwCl G0 H := eH ▸ hP
  have hS : va_S A s.heap H locs := by rw [eH]; exact hS
  rw [← eH]
  clear elocs eH
  have hiX8 : ∀ w ∈ u_ws RX8 TX8 37, w ∈ wsX8_off := by decide +kernel
  have hk : ∀ k, k ∉ [22] → G0[k]? = G0[k]? := fun _ _ => rfl
  refine lv_iload_n (pc := 0) hx hb dX8_off_0 rfl (lv_at hl 1 rfl) ?_
  refine lv_i2l (v := (x).toInt64) (pc := 1) hx hb dX8_off_1 rfl ?_
  refine lv_lconst (v := 0) (pc := 2) hx hb dX8_off_2 (by decide) ?_
  refine lv_aload_n (pc := 3) hx hb dX8_off_3 rfl (lv_at hl 0 rfl) ?_
  refine va_get (ci := 8) (C := RX8) (T := TX8) (N := 37) (pc := 4) hx hb hts hiX8 hown hK hP 22 w22 rfl 25 (by decide) (hts (.fieldLink RX8 159 "InkPressModel" "marks" "I") (by decide +kernel)) (fun _ h9 => h9) rfl dX8_off_4 ?_
  refine lv_iconst (v := nI (1)) (pc := 7) hx hb dX8_off_7 (by decide) ?_
  refine mx_isub (pc := 8) hx hb hm1 dX8_off_8 ?_
  refine lv_i2l (v := (nI ((mn) - (1))).toInt64) (pc := 9) hx hb dX8_off_9 rfl ?_
  refine mx_cSi (As := [.long ((x).toInt64), .long (0), .long ((nI ((mn) - (1))).toInt64)]) (rest := []) (pc := 10) ⟨hx, hb, hml, hown, hts⟩ (k_X8_in (a := a) (v := (x).toInt64) (lo := 0) (hi := (nI ((mn) - (1))).toInt64) hD  ) (va_cwS 3 hts gX8_off_X8_in rfl rfl rfl (by decide +kernel) ⟨Nat.le_of_ble_eq_true rfl, Nat.le_of_ble_eq_true rfl⟩) hK hN hZ hP hS rfl hl.1 rfl (Nat.le_of_ble_eq_true rfl) dX8_off_10 ⟨Nat.zero_le _, Nat.zero_le _⟩ (fun G' H locs hP hD hS hB => ?_)
  rw [hB] at hP hD
  clear hB G'
  refine mx_bne (tgt := 19) (pc := 13) hx hb dX8_off_13 (by decide) (fun c13 => ?_) (fun c13 => absurd (c13.symm.trans ((gIn_has hm1 (by omega)).trans h1)) (by decide))
  refine lv_iload_n (pc := 19) hx hb dX8_off_19 rfl (lv_at hl 2 rfl) ?_
  refine lv_i2l (v := (y).toInt64) (pc := 20) hx hb dX8_off_20 rfl ?_
  refine lv_lconst (v := 0) (pc := 21) hx hb dX8_off_21 (by decide) ?_
  refine lv_lconst (v := 1) (pc := 22) hx hb dX8_off_22 (by decide) ?_
  refine mx_cSi (As := [.long ((y).toInt64), .long (0), .long (1)]) (rest := []) (pc := 23) ⟨hx, hb, hml, hown, hts⟩ (k_X8_in (a := a) (v := (y).toInt64) (lo := 0) (hi := 1) hD  ) (va_cwS 3 hts gX8_off_X8_in rfl rfl rfl (by decide +kernel) ⟨Nat.le_of_ble_eq_true rfl, Nat.le_of_ble_eq_true rfl⟩) hK hN hZ hP hS rfl hl.1 rfl (Nat.le_of_ble_eq_true rfl) dX8_off_23 ⟨Nat.zero_le _, Nat.zero_le _⟩ (fun G' H locs hP hD hS hB => ?_)
  rw [hB] at hP hD
  clear hB G'
  refine mx_bne (tgt := 32) (pc := 26) hx hb dX8_off_26 (by decide) (fun c26 => ?_) (fun c26 => absurd (c26.symm.trans ((gIn_w (a := nI 0) (b := nI 1) (by decide) (by decide)).trans h2)) (by decide))
  refine lv_aload_n (pc := 32) hx hb dX8_off_32 rfl (lv_at hl 0 rfl) ?_
  refine mx_cVi (As := []) (rest := []) (pc := 33) ⟨hx, hb, hml, hown, hts⟩ (k_X8_findFit (a := a) (zn := zn) (tr := tr) (sc := sc) (pn := pn) (mn := mn) (jn := jn) (sg := sg) (sr := sr) (ss := ss) (fed := fed) (pap := pap) (bar := bar) (st := st) (q1 := q1) (q2 := q2) (q3 := q3) (q4 := q4) (q5 := q5) (mx := mx) (my := my) (mdx := mdx) (mdy := mdy) hD w22 w33 w34 w35 w36 (by omega)) (cwV 0 hts gX8_off_X8_findFit rfl rfl rfl (by decide +kernel) ⟨Nat.le_of_ble_eq_true rfl, Nat.le_of_ble_eq_true rfl⟩) 22 rfl rfl w22 hK hN hZ hP hS rfl hl.1 rfl (Nat.le_of_ble_eq_true rfl) dX8_off_33 ⟨Nat.zero_le _, Nat.zero_le _⟩ (fun G H locs hP hD hS hB => ?_)
  obtain ⟨w22, ho⟩ := hB
  have w22 : G[22]? = some (a 22, .inr (8, [.int (nI ((zn))), .int (nI ((tr))), .ref (a 23), .ref (a 24), .ref (a 25), .ref (a 26), .ref (a 27), .ref (a 28), .ref (a 29), .int (nI ((sc))), .int ((sg)), .int ((sr)), .int ((ss)), .int ((fed)), .int ((pap)), .int ((bar)), .int (gB ((st))), .ref (a 30), .ref (a 31), .ref (a 32), .int (nI ((pn))), .ref (a 33), .ref (a 34), .ref (a 35), .ref (a 36), .int (nI ((mn))), .long (gSp (mn) (gPs (mx) (mn) 0 0) (gPs (my) (mn) 0 0) (gPs (mdx) (mn) 0 0) (gPs (mdy) (mn) 0 0) (gPs (fun j => (mx) j * (mx) j + (my) j * (my) j) (mn) 0 0) (gPs (fun j => (mx) j * (mdx) j + (my) j * (mdy) j) (mn) 0 0) (gPs (fun j => (mx) j * (mdy) j - (my) j * (mdx) j) (mn) 0 0)), .long (gStr (mn) (gPs (mx) (mn) 0 0) (gPs (my) (mn) 0 0) (gPs (mdx) (mn) 0 0) (gPs (mdy) (mn) 0 0) (gPs (fun j => (mx) j * (mx) j + (my) j * (my) j) (mn) 0 0) (gPs (fun j => (mx) j * (mdx) j + (my) j * (mdy) j) (mn) 0 0) (gPs (fun j => (mx) j * (mdy) j - (my) j * (mdx) j) (mn) 0 0)), .long (gTu (mn) (gPs (mx) (mn) 0 0) (gPs (my) (mn) 0 0) (gPs (mdx) (mn) 0 0) (gPs (mdy) (mn) 0 0) (gPs (fun j => (mx) j * (mx) j + (my) j * (my) j) (mn) 0 0) (gPs (fun j => (mx) j * (mdx) j + (my) j * (mdy) j) (mn) 0 0) (gPs (fun j => (mx) j * (mdy) j - (my) j * (mdx) j) (mn) 0 0)), .long (gAc (mn) (gPs (mx) (mn) 0 0) (gPs (my) (mn) 0 0) (gPs (mdx) (mn) 0 0) (gPs (mdy) (mn) 0 0) (gPs (fun j => (mx) j * (mx) j + (my) j * (my) j) (mn) 0 0) (gPs (fun j => (mx) j * (mdx) j + (my) j * (mdy) j) (mn) 0 0) (gPs (fun j => (mx) j * (mdy) j - (my) j * (mdx) j) (mn) 0 0)), .long (gUp (mn) (gPs (mx) (mn) 0 0) (gPs (my) (mn) 0 0) (gPs (mdx) (mn) 0 0) (gPs (mdy) (mn) 0 0) (gPs (fun j => (mx) j * (mx) j + (my) j * (my) j) (mn) 0 0) (gPs (fun j => (mx) j * (mdx) j + (my) j * (mdy) j) (mn) 0 0) (gPs (fun j => (mx) j * (mdy) j - (my) j * (mdx) j) (mn) 0 0)), .ref (a 37), .ref (a 38), .ref (a 39), .int (nI ((jn))), .ref (a 40), .ref (a 41)])) := w22
  have w33 := (ho 33 (by decide)).trans w33
  have w34 := (ho 34 (by decide)).trans w34
  have w35 := (ho 35 (by decide)).trans w35
  have w36 := (ho 36 (by decide)).trans w36
  have hk := gk_call hk ho (by decide)
  clear ho
  refine mx_bne (tgt := 42) (pc := 36) hx hb dX8_off_36 (by decide) (fun c36 => absurd (c36.symm.trans h3) (by decide)) (fun c36 => ?_)
  refine lv_ldc (own := RX8) (v := (-1000005)) (pc := 39) hx hb hown (hts (.constant RX8 192 (-1000005)) (by decide +kernel)) dX8_off_39 ?_
  exact hret _ _ _ _ _ _ hP hD hS rfl ⟨w22, hk⟩ dX8_off_41
set_option maxHeartbeats 4000000 in
set_option maxRecDepth 100000 in
theorem k_X8_off_0 {l : Launch} {D : va_G} {cI cZ : ClassId} {A : Nat → Prop} {g a : Nat → Nat} {G0 : va_W} {zn : Nat} {tr : Nat} {sc : Nat} {pn : Nat} {mn : Nat} {jn : Nat} {sg : Int32} {sr : Int32} {ss : Int32} {fed : Int32} {pap : Int32} {bar : Int32} {st : Bool} {q1 : Int64} {q2 : Int64} {q3 : Int64} {q4 : Int64} {q5 : Int64} {mx : Nat → Int32} {my : Nat → Int32} {mdx : Nat → Int32} {mdy : Nat → Int32} {i : Nat} (hD : va_D A G0) (w22 : G0[22]? = some (a 22, .inr (8, [.int (nI (zn)), .int (nI (tr)), .ref (a 23), .ref (a 24), .ref (a 25), .ref (a 26), .ref (a 27), .ref (a 28), .ref (a 29), .int (nI (sc)), .int (sg), .int (sr), .int (ss), .int (fed), .int (pap), .int (bar), .int (gB (st)), .ref (a 30), .ref (a 31), .ref (a 32), .int (nI (pn)), .ref (a 33), .ref (a 34), .ref (a 35), .ref (a 36), .int (nI (mn)), .long (q1), .long (q2), .long (q3), .long (q4), .long (q5), .ref (a 37), .ref (a 38), .ref (a 39), .int (nI (jn)), .ref (a 40), .ref (a 41)]))) (w33 : G0[33]? = some (a 33, .inl (cI, 8, .inl (mx)))) (w34 : G0[34]? = some (a 34, .inl (cI, 8, .inl (my)))) (w35 : G0[35]? = some (a 35, .inl (cI, 8, .inl (mdx)))) (w36 : G0[36]? = some (a 36, .inl (cI, 8, .inl (mdy)))) (hm1 : 1 ≤ mn) (hm : mn ≤ 8) (hi : i < 8) (h1 : gHas (nI i) (nI mn) = true) (h3 : decide (0 < gSp mn (gPs mx mn 0 0) (gPs my mn 0 0) (gPs mdx mn 0 0) (gPs mdy mn 0 0) (gPs (fun j => mx j * mx j + my j * my j) mn 0 0) (gPs (fun j => mx j * mdx j + my j * mdy j) mn 0 0) (gPs (fun j => mx j * mdy j - my j * mdx j) mn 0 0)) = true) (hlo : ¬ (gSp mn (gPs mx mn 0 0) (gPs my mn 0 0) (gPs mdx mn 0 0) (gPs mdy mn 0 0) (gPs (fun j => mx j * mx j + my j * my j) mn 0 0) (gPs (fun j => mx j * mdx j + my j * mdy j) mn 0 0) (gPs (fun j => mx j * mdy j - my j * mdx j) mn 0 0) * (nI mn).toInt64) = 0) : gMi l D cI cZ A g yX8_off wsX8_off ({ frames := 1, cells := 0, slots := 0, locals := 35 }) [.ref (a 22), .int (nI (i)), .int (nI (0))] G0 ((1000 * ((mdx i).toInt64 * (gSp mn (gPs mx mn 0 0) (gPs my mn 0 0) (gPs mdx mn 0 0) (gPs mdy mn 0 0) (gPs (fun j => mx j * mx j + my j * my j) mn 0 0) (gPs (fun j => mx j * mdx j + my j * mdy j) mn 0 0) (gPs (fun j => mx j * mdy j - my j * mdx j) mn 0 0) * (nI mn).toInt64) - (nI mn).toInt64 * (gStr mn (gPs mx mn 0 0) (gPs my mn 0 0) (gPs mdx mn 0 0) (gPs mdy mn 0 0) (gPs (fun j => mx j * mx j + my j * my j) mn 0 0) (gPs (fun j => mx j * mdx j + my j * mdy j) mn 0 0) (gPs (fun j => mx j * mdy j - my j * mdx j) mn 0 0) * (mx i).toInt64 - gTu mn (gPs mx mn 0 0) (gPs my mn 0 0) (gPs mdx mn 0 0) (gPs mdy mn 0 0) (gPs (fun j => mx j * mx j + my j * my j) mn 0 0) (gPs (fun j => mx j * mdx j + my j * mdy j) mn 0 0) (gPs (fun j => mx j * mdy j - my j * mdx j) mn 0 0) * (my i).toInt64) - gAc mn (gPs mx mn 0 0) (gPs my mn 0 0) (gPs mdx mn 0 0) (gPs mdy mn 0 0) (gPs (fun j => mx j * mx j + my j * my j) mn 0 0) (gPs (fun j => mx j * mdx j + my j * mdy j) mn 0 0) (gPs (fun j => mx j * mdy j - my j * mdx j) mn 0 0)) / (gSp mn (gPs mx mn 0 0) (gPs my mn 0 0) (gPs mdx mn 0 0) (gPs mdy mn 0 0) (gPs (fun j => mx j * mx j + my j * my j) mn 0 0) (gPs (fun j => mx j * mdx j + my j * mdy j) mn 0 0) (gPs (fun j => mx j * mdy j - my j * mdx j) mn 0 0) * (nI mn).toInt64)).toInt32) (fun G1 => G1[22]? = some (a 22, .inr (8, [.int (nI (zn)), .int (nI (tr)), .ref (a 23), .ref (a 24), .ref (a 25), .ref (a 26), .ref (a 27), .ref (a 28), .ref (a 29), .int (nI (sc)), .int (sg), .int (sr), .int (ss), .int (fed), .int (pap), .int (bar), .int (gB (st)), .ref (a 30), .ref (a 31), .ref (a 32), .int (nI (pn)), .ref (a 33), .ref (a 34), .ref (a 35), .ref (a 36), .int (nI (mn)), .long (gSp mn (gPs mx mn 0 0) (gPs my mn 0 0) (gPs mdx mn 0 0) (gPs mdy mn 0 0) (gPs (fun j => mx j * mx j + my j * my j) mn 0 0) (gPs (fun j => mx j * mdx j + my j * mdy j) mn 0 0) (gPs (fun j => mx j * mdy j - my j * mdx j) mn 0 0)), .long (gStr mn (gPs mx mn 0 0) (gPs my mn 0 0) (gPs mdx mn 0 0) (gPs mdy mn 0 0) (gPs (fun j => mx j * mx j + my j * my j) mn 0 0) (gPs (fun j => mx j * mdx j + my j * mdy j) mn 0 0) (gPs (fun j => mx j * mdy j - my j * mdx j) mn 0 0)), .long (gTu mn (gPs mx mn 0 0) (gPs my mn 0 0) (gPs mdx mn 0 0) (gPs mdy mn 0 0) (gPs (fun j => mx j * mx j + my j * my j) mn 0 0) (gPs (fun j => mx j * mdx j + my j * mdy j) mn 0 0) (gPs (fun j => mx j * mdy j - my j * mdx j) mn 0 0)), .long (gAc mn (gPs mx mn 0 0) (gPs my mn 0 0) (gPs mdx mn 0 0) (gPs mdy mn 0 0) (gPs (fun j => mx j * mx j + my j * my j) mn 0 0) (gPs (fun j => mx j * mdx j + my j * mdy j) mn 0 0) (gPs (fun j => mx j * mdy j - my j * mdx j) mn 0 0)), .long (gUp mn (gPs mx mn 0 0) (gPs my mn 0 0) (gPs mdx mn 0 0) (gPs mdy mn 0 0) (gPs (fun j => mx j * mx j + my j * my j) mn 0 0) (gPs (fun j => mx j * mdx j + my j * mdy j) mn 0 0) (gPs (fun j => mx j * mdy j - my j * mdx j) mn 0 0)), .ref (a 37), .ref (a 38), .ref (a 39), .int (nI (jn)), .ref (a 40), .ref (a 41)])) ∧ ∀ k, k ∉ [22] → G1[k]? = G0[k]?) := by
  refine gof_i (cc := cX8_off) (maxL := 7) (by decide) rfl (Nat.le_of_ble_eq_true rfl) hD ?_
  intro p e s m args below meth c Q hx hb hml hts hown hK hN hZ hP hS hret ls hl
  have hown : s.vm.findClass RX8 = some m.cls := hown
  have hl : lv_has ls 7 [(0, .ref (a 22)), (1, .int (nI (i))), (2, .int (nI (0)))] := hl
  obtain ⟨locs, elocs⟩ : ∃ q : List Loc, q = [] := ⟨_, rfl⟩
  rw [← elocs] at hS ⊢
  obtain ⟨H, eH⟩ : ∃ q : Heap, q = s.heap := ⟨_, rfl⟩
  have hP : va_P D vwCl G0 H := eH ▸ hP
  have hS : va_S A s.heap H locs := by rw [eH]; exact hS
  rw [← eH]
  clear elocs eH
  have hiX8 : ∀ w ∈ u_ws RX8 TX8 37, w ∈ wsX8_off := by decide +kernel
  have hk : ∀ k, k ∉ [22] → G0[k]? = G0[k]? := fun _ _ => rfl
  refine lv_iload_n (pc := 0) hx hb dX8_off_0 rfl (lv_at hl 1 rfl) ?_
  refine lv_i2l (v := (nI (i)).toInt64) (pc := 1) hx hb dX8_off_1 rfl ?_
  refine lv_lconst (v := 0) (pc := 2) hx hb dX8_off_2 (by decide) ?_
  refine lv_aload_n (pc := 3) hx hb dX8_off_3 rfl (lv_at hl 0 rfl) ?_
  refine va_get (ci := 8) (C := RX8) (T := TX8) (N := 37) (pc := 4) hx hb hts hiX8 hown hK hP 22 w22 rfl 25 (by decide) (hts (.fieldLink RX8 159 "InkPressModel" "marks" "I") (by decide +kernel)) (fun _ h9 => h9) rfl dX8_off_4 ?_
  refine lv_iconst (v := nI (1)) (pc := 7) hx hb dX8_off_7 (by decide) ?_
  refine mx_isub (pc := 8) hx hb hm1 dX8_off_8 ?_
  refine lv_i2l (v := (nI ((mn) - (1))).toInt64) (pc := 9) hx hb dX8_off_9 rfl ?_
  refine mx_cSi (As := [.long ((nI (i)).toInt64), .long (0), .long ((nI ((mn) - (1))).toInt64)]) (rest := []) (pc := 10) ⟨hx, hb, hml, hown, hts⟩ (k_X8_in (a := a) (v := (nI (i)).toInt64) (lo := 0) (hi := (nI ((mn) - (1))).toInt64) hD  ) (va_cwS 3 hts gX8_off_X8_in rfl rfl rfl (by decide +kernel) ⟨Nat.le_of_ble_eq_true rfl, Nat.le_of_ble_eq_true rfl⟩) hK hN hZ hP hS rfl hl.1 rfl (Nat.le_of_ble_eq_true rfl) dX8_off_10 ⟨Nat.zero_le _, Nat.zero_le _⟩ (fun G' H locs hP hD hS hB => ?_)
  rw [hB] at hP hD
  clear hB G'
  refine mx_bne (tgt := 19) (pc := 13) hx hb dX8_off_13 (by decide) (fun c13 => ?_) (fun c13 => absurd (c13.symm.trans ((gIn_has hm1 (by omega)).trans h1)) (by decide))
  refine lv_iload_n (pc := 19) hx hb dX8_off_19 rfl (lv_at hl 2 rfl) ?_
  refine lv_i2l (v := (nI (0)).toInt64) (pc := 20) hx hb dX8_off_20 rfl ?_
  refine lv_lconst (v := 0) (pc := 21) hx hb dX8_off_21 (by decide) ?_
  refine lv_lconst (v := 1) (pc := 22) hx hb dX8_off_22 (by decide) ?_
  refine mx_cSi (As := [.long ((nI (0)).toInt64), .long (0), .long (1)]) (rest := []) (pc := 23) ⟨hx, hb, hml, hown, hts⟩ (k_X8_in (a := a) (v := (nI (0)).toInt64) (lo := 0) (hi := 1) hD  ) (va_cwS 3 hts gX8_off_X8_in rfl rfl rfl (by decide +kernel) ⟨Nat.le_of_ble_eq_true rfl, Nat.le_of_ble_eq_true rfl⟩) hK hN hZ hP hS rfl hl.1 rfl (Nat.le_of_ble_eq_true rfl) dX8_off_23 ⟨Nat.zero_le _, Nat.zero_le _⟩ (fun G' H locs hP hD hS hB => ?_)
  rw [hB] at hP hD
  clear hB G'
  refine mx_bne (tgt := 32) (pc := 26) hx hb dX8_off_26 (by decide) (fun c26 => ?_) (fun c26 => absurd (c26.symm.trans ((gIn_w (a := nI 0) (b := nI 1) (by decide) (by decide)).trans (show gWi (nI 0) (nI 0) (nI 1) = true by decide))) (by decide))
  refine lv_aload_n (pc := 32) hx hb dX8_off_32 rfl (lv_at hl 0 rfl) ?_
  refine mx_cVi (As := []) (rest := []) (pc := 33) ⟨hx, hb, hml, hown, hts⟩ (k_X8_findFit (a := a) (zn := zn) (tr := tr) (sc := sc) (pn := pn) (mn := mn) (jn := jn) (sg := sg) (sr := sr) (ss := ss) (fed := fed) (pap := pap) (bar := bar) (st := st) (q1 := q1) (q2 := q2) (q3 := q3) (q4 := q4) (q5 := q5) (mx := mx) (my := my) (mdx := mdx) (mdy := mdy) hD w22 w33 w34 w35 w36 (by omega)) (cwV 0 hts gX8_off_X8_findFit rfl rfl rfl (by decide +kernel) ⟨Nat.le_of_ble_eq_true rfl, Nat.le_of_ble_eq_true rfl⟩) 22 rfl rfl w22 hK hN hZ hP hS rfl hl.1 rfl (Nat.le_of_ble_eq_true rfl) dX8_off_33 ⟨Nat.zero_le _, Nat.zero_le _⟩ (fun G H locs hP hD hS hB => ?_)
  obtain ⟨w22, ho⟩ := hB
  have w22 : G[22]? = some (a 22, .inr (8, [.int (nI ((zn))), .int (nI ((tr))), .ref (a 23), .ref (a 24), .ref (a 25), .ref (a 26), .ref (a 27), .ref (a 28), .ref (a 29), .int (nI ((sc))), .int ((sg)), .int ((sr)), .int ((ss)), .int ((fed)), .int ((pap)), .int ((bar)), .int (gB ((st))), .ref (a 30), .ref (a 31), .ref (a 32), .int (nI ((pn))), .ref (a 33), .ref (a 34), .ref (a 35), .ref (a 36), .int (nI ((mn))), .long (gSp (mn) (gPs (mx) (mn) 0 0) (gPs (my) (mn) 0 0) (gPs (mdx) (mn) 0 0) (gPs (mdy) (mn) 0 0) (gPs (fun j => (mx) j * (mx) j + (my) j * (my) j) (mn) 0 0) (gPs (fun j => (mx) j * (mdx) j + (my) j * (mdy) j) (mn) 0 0) (gPs (fun j => (mx) j * (mdy) j - (my) j * (mdx) j) (mn) 0 0)), .long (gStr (mn) (gPs (mx) (mn) 0 0) (gPs (my) (mn) 0 0) (gPs (mdx) (mn) 0 0) (gPs (mdy) (mn) 0 0) (gPs (fun j => (mx) j * (mx) j + (my) j * (my) j) (mn) 0 0) (gPs (fun j => (mx) j * (mdx) j + (my) j * (mdy) j) (mn) 0 0) (gPs (fun j => (mx) j * (mdy) j - (my) j * (mdx) j) (mn) 0 0)), .long (gTu (mn) (gPs (mx) (mn) 0 0) (gPs (my) (mn) 0 0) (gPs (mdx) (mn) 0 0) (gPs (mdy) (mn) 0 0) (gPs (fun j => (mx) j * (mx) j + (my) j * (my) j) (mn) 0 0) (gPs (fun j => (mx) j * (mdx) j + (my) j * (mdy) j) (mn) 0 0) (gPs (fun j => (mx) j * (mdy) j - (my) j * (mdx) j) (mn) 0 0)), .long (gAc (mn) (gPs (mx) (mn) 0 0) (gPs (my) (mn) 0 0) (gPs (mdx) (mn) 0 0) (gPs (mdy) (mn) 0 0) (gPs (fun j => (mx) j * (mx) j + (my) j * (my) j) (mn) 0 0) (gPs (fun j => (mx) j * (mdx) j + (my) j * (mdy) j) (mn) 0 0) (gPs (fun j => (mx) j * (mdy) j - (my) j * (mdx) j) (mn) 0 0)), .long (gUp (mn) (gPs (mx) (mn) 0 0) (gPs (my) (mn) 0 0) (gPs (mdx) (mn) 0 0) (gPs (mdy) (mn) 0 0) (gPs (fun j => (mx) j * (mx) j + (my) j * (my) j) (mn) 0 0) (gPs (fun j => (mx) j * (mdx) j + (my) j * (mdy) j) (mn) 0 0) (gPs (fun j => (mx) j * (mdy) j - (my) j * (mdx) j) (mn) 0 0)), .ref (a 37), .ref (a 38), .ref (a 39), .int (nI ((jn))), .ref (a 40), .ref (a 41)])) := w22
  have w33 := (ho 33 (by decide)).trans w33
  have w34 := (ho 34 (by decide)).trans w34
  have w35 := (ho 35 (by decide)).trans w35
  have w36 := (ho 36 (by decide)).trans w36
  have hk := gk_call hk ho (by decide)
  clear ho
  refine mx_bne (tgt := 42) (pc := 36) hx hb dX8_off_36 (by decide) (fun c36 => ?_) (fun c36 => absurd (c36.symm.trans h3) (by decide))
  refine lv_aload_n (pc := 42) hx hb dX8_off_42 rfl (lv_at hl 0 rfl) ?_
  refine va_get (ci := 8) (C := RX8) (T := TX8) (N := 37) (pc := 43) hx hb hts hiX8 hown hK hP 22 w22 rfl 26 (by decide) (hts (.fieldLink RX8 162 "InkPressModel" "all" "J") (by decide +kernel)) (fun _ h9 => h9) rfl dX8_off_43 ?_
  refine lv_aload_n (pc := 46) hx hb dX8_off_46 rfl (lv_at hl 0 rfl) ?_
  refine va_get (ci := 8) (C := RX8) (T := TX8) (N := 37) (pc := 47) hx hb hts hiX8 hown hK hP 22 w22 rfl 25 (by decide) (hts (.fieldLink RX8 159 "InkPressModel" "marks" "I") (by decide +kernel)) (fun _ h9 => h9) rfl dX8_off_47 ?_
  refine lv_i2l (v := (nI ((mn))).toInt64) (pc := 50) hx hb dX8_off_50 rfl ?_
  refine lv_lmul (pc := 51) hx hb dX8_off_51 ?_
  refine lv_lstore_n (lv' := [(3, .long ((gSp (mn) (gPs (mx) (mn) 0 0) (gPs (my) (mn) 0 0) (gPs (mdx) (mn) 0 0) (gPs (mdy) (mn) 0 0) (gPs (fun j => (mx) j * (mx) j + (my) j * (my) j) (mn) 0 0) (gPs (fun j => (mx) j * (mdx) j + (my) j * (mdy) j) (mn) 0 0) (gPs (fun j => (mx) j * (mdy) j - (my) j * (mdx) j) (mn) 0 0) * (nI ((mn))).toInt64))), (0, .ref (a 22)), (1, .int (nI (i))), (2, .int (nI (0)))]) (pc := 52) hx hb dX8_off_52 rfl hl (by decide) rfl (fun ls hl => ?_)
  refine lv_iload_n (pc := 53) hx hb dX8_off_53 rfl (lv_at hl 3 rfl) ?_
  refine lv_if_ne (tgt := 108) (pc := 54) hx hb dX8_off_54 (by decide) (fun c54 => absurd c54 (by decide)) (fun c54 => ?_)
  refine lv_aload_n (pc := 57) hx hb dX8_off_57 rfl (lv_at hl 1 rfl) ?_
  refine va_get (ci := 8) (C := RX8) (T := TX8) (N := 37) (pc := 58) hx hb hts hiX8 hown hK hP 22 w22 rfl 23 (by decide) (hts (.fieldLink RX8 57 "InkPressModel" "markDx" "[I") (by decide +kernel)) (fun _ h9 => h9) rfl dX8_off_58 ?_
  refine lv_iload_n (pc := 61) hx hb dX8_off_61 rfl (lv_at hl 2 rfl) ?_
  refine mx_iald (pc := 62) hx hb hK hP 35 w35 (i) (by omega) (by decide) dX8_off_62 ?_
  refine lv_i2l (v := ((mdx) (i)).toInt64) (pc := 63) hx hb dX8_off_63 rfl ?_
  refine lv_lload_n (pc := 64) hx hb dX8_off_64 rfl (lv_at hl 0 rfl) ?_
  refine lv_lmul (pc := 65) hx hb dX8_off_65 ?_
  refine lv_aload_n (pc := 66) hx hb dX8_off_66 rfl (lv_at hl 1 rfl) ?_
  refine va_get (ci := 8) (C := RX8) (T := TX8) (N := 37) (pc := 67) hx hb hts hiX8 hown hK hP 22 w22 rfl 25 (by decide) (hts (.fieldLink RX8 159 "InkPressModel" "marks" "I") (by decide +kernel)) (fun _ h9 => h9) rfl dX8_off_67 ?_
  refine lv_i2l (v := (nI ((mn))).toInt64) (pc := 70) hx hb dX8_off_70 rfl ?_
  refine lv_aload_n (pc := 71) hx hb dX8_off_71 rfl (lv_at hl 1 rfl) ?_
  refine va_get (ci := 8) (C := RX8) (T := TX8) (N := 37) (pc := 72) hx hb hts hiX8 hown hK hP 22 w22 rfl 27 (by decide) (hts (.fieldLink RX8 166 "InkPressModel" "stretch" "J") (by decide +kernel)) (fun _ h9 => h9) rfl dX8_off_72 ?_
  refine lv_aload_n (pc := 75) hx hb dX8_off_75 rfl (lv_at hl 1 rfl) ?_
  refine va_get (ci := 8) (C := RX8) (T := TX8) (N := 37) (pc := 76) hx hb hts hiX8 hown hK hP 22 w22 rfl 21 (by decide) (hts (.fieldLink RX8 51 "InkPressModel" "markX" "[I") (by decide +kernel)) (fun _ h9 => h9) rfl dX8_off_76 ?_
  refine lv_iload_n (pc := 79) hx hb dX8_off_79 rfl (lv_at hl 2 rfl) ?_
  refine mx_iald (pc := 80) hx hb hK hP 33 w33 (i) (by omega) (by decide) dX8_off_80 ?_
  refine lv_i2l (v := ((mx) (i)).toInt64) (pc := 81) hx hb dX8_off_81 rfl ?_
  refine lv_lmul (pc := 82) hx hb dX8_off_82 ?_
  refine lv_aload_n (pc := 83) hx hb dX8_off_83 rfl (lv_at hl 1 rfl) ?_
  refine va_get (ci := 8) (C := RX8) (T := TX8) (N := 37) (pc := 84) hx hb hts hiX8 hown hK hP 22 w22 rfl 28 (by decide) (hts (.fieldLink RX8 169 "InkPressModel" "turn" "J") (by decide +kernel)) (fun _ h9 => h9) rfl dX8_off_84 ?_
  refine lv_aload_n (pc := 87) hx hb dX8_off_87 rfl (lv_at hl 1 rfl) ?_
  refine va_get (ci := 8) (C := RX8) (T := TX8) (N := 37) (pc := 88) hx hb hts hiX8 hown hK hP 22 w22 rfl 22 (by decide) (hts (.fieldLink RX8 54 "InkPressModel" "markY" "[I") (by decide +kernel)) (fun _ h9 => h9) rfl dX8_off_88 ?_
  refine lv_iload_n (pc := 91) hx hb dX8_off_91 rfl (lv_at hl 2 rfl) ?_
  refine mx_iald (pc := 92) hx hb hK hP 34 w34 (i) (by omega) (by decide) dX8_off_92 ?_
  refine lv_i2l (v := ((my) (i)).toInt64) (pc := 93) hx hb dX8_off_93 rfl ?_
  refine lv_lmul (pc := 94) hx hb dX8_off_94 ?_
  refine lv_lsub (pc := 95) hx hb dX8_off_95 ?_
  refine lv_lmul (pc := 96) hx hb dX8_off_96 ?_
  refine lv_lsub (pc := 97) hx hb dX8_off_97 ?_
  refine lv_aload_n (pc := 98) hx hb dX8_off_98 rfl (lv_at hl 1 rfl) ?_
  refine va_get (ci := 8) (C := RX8) (T := TX8) (N := 37) (pc := 99) hx hb hts hiX8 hown hK hP 22 w22 rfl 29 (by decide) (hts (.fieldLink RX8 172 "InkPressModel" "across" "J") (by decide +kernel)) (fun _ h9 => h9) rfl dX8_off_99 ?_
  refine lv_lsub (pc := 102) hx hb dX8_off_102 ?_
  refine lv_lstore (lv' := [(5, .long ((((((mdx) (i)).toInt64 * (gSp (mn) (gPs (mx) (mn) 0 0) (gPs (my) (mn) 0 0) (gPs (mdx) (mn) 0 0) (gPs (mdy) (mn) 0 0) (gPs (fun j => (mx) j * (mx) j + (my) j * (my) j) (mn) 0 0) (gPs (fun j => (mx) j * (mdx) j + (my) j * (mdy) j) (mn) 0 0) (gPs (fun j => (mx) j * (mdy) j - (my) j * (mdx) j) (mn) 0 0) * (nI ((mn))).toInt64)) - ((nI ((mn))).toInt64 * ((gStr (mn) (gPs (mx) (mn) 0 0) (gPs (my) (mn) 0 0) (gPs (mdx) (mn) 0 0) (gPs (mdy) (mn) 0 0) (gPs (fun j => (mx) j * (mx) j + (my) j * (my) j) (mn) 0 0) (gPs (fun j => (mx) j * (mdx) j + (my) j * (mdy) j) (mn) 0 0) (gPs (fun j => (mx) j * (mdy) j - (my) j * (mdx) j) (mn) 0 0) * ((mx) (i)).toInt64) - (gTu (mn) (gPs (mx) (mn) 0 0) (gPs (my) (mn) 0 0) (gPs (mdx) (mn) 0 0) (gPs (mdy) (mn) 0 0) (gPs (fun j => (mx) j * (mx) j + (my) j * (my) j) (mn) 0 0) (gPs (fun j => (mx) j * (mdx) j + (my) j * (mdy) j) (mn) 0 0) (gPs (fun j => (mx) j * (mdy) j - (my) j * (mdx) j) (mn) 0 0) * ((my) (i)).toInt64)))) - gAc (mn) (gPs (mx) (mn) 0 0) (gPs (my) (mn) 0 0) (gPs (mdx) (mn) 0 0) (gPs (mdy) (mn) 0 0) (gPs (fun j => (mx) j * (mx) j + (my) j * (my) j) (mn) 0 0) (gPs (fun j => (mx) j * (mdx) j + (my) j * (mdy) j) (mn) 0 0) (gPs (fun j => (mx) j * (mdy) j - (my) j * (mdx) j) (mn) 0 0)))), (3, .long ((gSp (mn) (gPs (mx) (mn) 0 0) (gPs (my) (mn) 0 0) (gPs (mdx) (mn) 0 0) (gPs (mdy) (mn) 0 0) (gPs (fun j => (mx) j * (mx) j + (my) j * (my) j) (mn) 0 0) (gPs (fun j => (mx) j * (mdx) j + (my) j * (mdy) j) (mn) 0 0) (gPs (fun j => (mx) j * (mdy) j - (my) j * (mdx) j) (mn) 0 0) * (nI ((mn))).toInt64))), (0, .ref (a 22)), (1, .int (nI (i))), (2, .int (nI (0)))]) (pc := 103) hx hb dX8_off_103 hl (by decide) rfl (fun ls hl => ?_)
  refine lv_goto (tgt := 156) (pc := 105) hx hb dX8_off_105 (by decide) ?_
  refine lv_ldc2 (own := RX8) (v := (1000)) (pc := 156) hx hb hown (hts (.constantLong RX8 123 (1000)) (by decide +kernel)) dX8_off_156 ?_
  refine lv_lload (pc := 159) hx hb dX8_off_159 (lv_at hl 0 rfl) ?_
  refine lv_lmul (pc := 161) hx hb dX8_off_161 ?_
  refine lv_lload_n (pc := 162) hx hb dX8_off_162 rfl (lv_at hl 1 rfl) ?_
  refine lv_ldiv (pc := 163) hx hb dX8_off_163 hlo ?_
  refine lv_l2i (v := ((((1000) * (((((mdx) (i)).toInt64 * (gSp (mn) (gPs (mx) (mn) 0 0) (gPs (my) (mn) 0 0) (gPs (mdx) (mn) 0 0) (gPs (mdy) (mn) 0 0) (gPs (fun j => (mx) j * (mx) j + (my) j * (my) j) (mn) 0 0) (gPs (fun j => (mx) j * (mdx) j + (my) j * (mdy) j) (mn) 0 0) (gPs (fun j => (mx) j * (mdy) j - (my) j * (mdx) j) (mn) 0 0) * (nI ((mn))).toInt64)) - ((nI ((mn))).toInt64 * ((gStr (mn) (gPs (mx) (mn) 0 0) (gPs (my) (mn) 0 0) (gPs (mdx) (mn) 0 0) (gPs (mdy) (mn) 0 0) (gPs (fun j => (mx) j * (mx) j + (my) j * (my) j) (mn) 0 0) (gPs (fun j => (mx) j * (mdx) j + (my) j * (mdy) j) (mn) 0 0) (gPs (fun j => (mx) j * (mdy) j - (my) j * (mdx) j) (mn) 0 0) * ((mx) (i)).toInt64) - (gTu (mn) (gPs (mx) (mn) 0 0) (gPs (my) (mn) 0 0) (gPs (mdx) (mn) 0 0) (gPs (mdy) (mn) 0 0) (gPs (fun j => (mx) j * (mx) j + (my) j * (my) j) (mn) 0 0) (gPs (fun j => (mx) j * (mdx) j + (my) j * (mdy) j) (mn) 0 0) (gPs (fun j => (mx) j * (mdy) j - (my) j * (mdx) j) (mn) 0 0) * ((my) (i)).toInt64)))) - gAc (mn) (gPs (mx) (mn) 0 0) (gPs (my) (mn) 0 0) (gPs (mdx) (mn) 0 0) (gPs (mdy) (mn) 0 0) (gPs (fun j => (mx) j * (mx) j + (my) j * (my) j) (mn) 0 0) (gPs (fun j => (mx) j * (mdx) j + (my) j * (mdy) j) (mn) 0 0) (gPs (fun j => (mx) j * (mdy) j - (my) j * (mdx) j) (mn) 0 0))) / (gSp (mn) (gPs (mx) (mn) 0 0) (gPs (my) (mn) 0 0) (gPs (mdx) (mn) 0 0) (gPs (mdy) (mn) 0 0) (gPs (fun j => (mx) j * (mx) j + (my) j * (my) j) (mn) 0 0) (gPs (fun j => (mx) j * (mdx) j + (my) j * (mdy) j) (mn) 0 0) (gPs (fun j => (mx) j * (mdy) j - (my) j * (mdx) j) (mn) 0 0) * (nI ((mn))).toInt64))).toInt32) (pc := 164) hx hb dX8_off_164 rfl ?_
  exact hret _ _ _ _ _ _ hP hD hS rfl ⟨w22, hk⟩ dX8_off_165
set_option maxHeartbeats 4000000 in
set_option maxRecDepth 100000 in
theorem k_X8_off_1 {l : Launch} {D : va_G} {cI cZ : ClassId} {A : Nat → Prop} {g a : Nat → Nat} {G0 : va_W} {zn : Nat} {tr : Nat} {sc : Nat} {pn : Nat} {mn : Nat} {jn : Nat} {sg : Int32} {sr : Int32} {ss : Int32} {fed : Int32} {pap : Int32} {bar : Int32} {st : Bool} {q1 : Int64} {q2 : Int64} {q3 : Int64} {q4 : Int64} {q5 : Int64} {mx : Nat → Int32} {my : Nat → Int32} {mdx : Nat → Int32} {mdy : Nat → Int32} {i : Nat} (hD : va_D A G0) (w22 : G0[22]? = some (a 22, .inr (8, [.int (nI (zn)), .int (nI (tr)), .ref (a 23), .ref (a 24), .ref (a 25), .ref (a 26), .ref (a 27), .ref (a 28), .ref (a 29), .int (nI (sc)), .int (sg), .int (sr), .int (ss), .int (fed), .int (pap), .int (bar), .int (gB (st)), .ref (a 30), .ref (a 31), .ref (a 32), .int (nI (pn)), .ref (a 33), .ref (a 34), .ref (a 35), .ref (a 36), .int (nI (mn)), .long (q1), .long (q2), .long (q3), .long (q4), .long (q5), .ref (a 37), .ref (a 38), .ref (a 39), .int (nI (jn)), .ref (a 40), .ref (a 41)]))) (w33 : G0[33]? = some (a 33, .inl (cI, 8, .inl (mx)))) (w34 : G0[34]? = some (a 34, .inl (cI, 8, .inl (my)))) (w35 : G0[35]? = some (a 35, .inl (cI, 8, .inl (mdx)))) (w36 : G0[36]? = some (a 36, .inl (cI, 8, .inl (mdy)))) (hm1 : 1 ≤ mn) (hm : mn ≤ 8) (hi : i < 8) (h1 : gHas (nI i) (nI mn) = true) (h3 : decide (0 < gSp mn (gPs mx mn 0 0) (gPs my mn 0 0) (gPs mdx mn 0 0) (gPs mdy mn 0 0) (gPs (fun j => mx j * mx j + my j * my j) mn 0 0) (gPs (fun j => mx j * mdx j + my j * mdy j) mn 0 0) (gPs (fun j => mx j * mdy j - my j * mdx j) mn 0 0)) = true) (hlo : ¬ (gSp mn (gPs mx mn 0 0) (gPs my mn 0 0) (gPs mdx mn 0 0) (gPs mdy mn 0 0) (gPs (fun j => mx j * mx j + my j * my j) mn 0 0) (gPs (fun j => mx j * mdx j + my j * mdy j) mn 0 0) (gPs (fun j => mx j * mdy j - my j * mdx j) mn 0 0) * (nI mn).toInt64) = 0) : gMi l D cI cZ A g yX8_off wsX8_off ({ frames := 1, cells := 0, slots := 0, locals := 35 }) [.ref (a 22), .int (nI (i)), .int (nI (1))] G0 ((1000 * ((mdy i).toInt64 * (gSp mn (gPs mx mn 0 0) (gPs my mn 0 0) (gPs mdx mn 0 0) (gPs mdy mn 0 0) (gPs (fun j => mx j * mx j + my j * my j) mn 0 0) (gPs (fun j => mx j * mdx j + my j * mdy j) mn 0 0) (gPs (fun j => mx j * mdy j - my j * mdx j) mn 0 0) * (nI mn).toInt64) - (nI mn).toInt64 * (gTu mn (gPs mx mn 0 0) (gPs my mn 0 0) (gPs mdx mn 0 0) (gPs mdy mn 0 0) (gPs (fun j => mx j * mx j + my j * my j) mn 0 0) (gPs (fun j => mx j * mdx j + my j * mdy j) mn 0 0) (gPs (fun j => mx j * mdy j - my j * mdx j) mn 0 0) * (mx i).toInt64 + gStr mn (gPs mx mn 0 0) (gPs my mn 0 0) (gPs mdx mn 0 0) (gPs mdy mn 0 0) (gPs (fun j => mx j * mx j + my j * my j) mn 0 0) (gPs (fun j => mx j * mdx j + my j * mdy j) mn 0 0) (gPs (fun j => mx j * mdy j - my j * mdx j) mn 0 0) * (my i).toInt64) - gUp mn (gPs mx mn 0 0) (gPs my mn 0 0) (gPs mdx mn 0 0) (gPs mdy mn 0 0) (gPs (fun j => mx j * mx j + my j * my j) mn 0 0) (gPs (fun j => mx j * mdx j + my j * mdy j) mn 0 0) (gPs (fun j => mx j * mdy j - my j * mdx j) mn 0 0)) / (gSp mn (gPs mx mn 0 0) (gPs my mn 0 0) (gPs mdx mn 0 0) (gPs mdy mn 0 0) (gPs (fun j => mx j * mx j + my j * my j) mn 0 0) (gPs (fun j => mx j * mdx j + my j * mdy j) mn 0 0) (gPs (fun j => mx j * mdy j - my j * mdx j) mn 0 0) * (nI mn).toInt64)).toInt32) (fun G1 => G1[22]? = some (a 22, .inr (8, [.int (nI (zn)), .int (nI (tr)), .ref (a 23), .ref (a 24), .ref (a 25), .ref (a 26), .ref (a 27), .ref (a 28), .ref (a 29), .int (nI (sc)), .int (sg), .int (sr), .int (ss), .int (fed), .int (pap), .int (bar), .int (gB (st)), .ref (a 30), .ref (a 31), .ref (a 32), .int (nI (pn)), .ref (a 33), .ref (a 34), .ref (a 35), .ref (a 36), .int (nI (mn)), .long (gSp mn (gPs mx mn 0 0) (gPs my mn 0 0) (gPs mdx mn 0 0) (gPs mdy mn 0 0) (gPs (fun j => mx j * mx j + my j * my j) mn 0 0) (gPs (fun j => mx j * mdx j + my j * mdy j) mn 0 0) (gPs (fun j => mx j * mdy j - my j * mdx j) mn 0 0)), .long (gStr mn (gPs mx mn 0 0) (gPs my mn 0 0) (gPs mdx mn 0 0) (gPs mdy mn 0 0) (gPs (fun j => mx j * mx j + my j * my j) mn 0 0) (gPs (fun j => mx j * mdx j + my j * mdy j) mn 0 0) (gPs (fun j => mx j * mdy j - my j * mdx j) mn 0 0)), .long (gTu mn (gPs mx mn 0 0) (gPs my mn 0 0) (gPs mdx mn 0 0) (gPs mdy mn 0 0) (gPs (fun j => mx j * mx j + my j * my j) mn 0 0) (gPs (fun j => mx j * mdx j + my j * mdy j) mn 0 0) (gPs (fun j => mx j * mdy j - my j * mdx j) mn 0 0)), .long (gAc mn (gPs mx mn 0 0) (gPs my mn 0 0) (gPs mdx mn 0 0) (gPs mdy mn 0 0) (gPs (fun j => mx j * mx j + my j * my j) mn 0 0) (gPs (fun j => mx j * mdx j + my j * mdy j) mn 0 0) (gPs (fun j => mx j * mdy j - my j * mdx j) mn 0 0)), .long (gUp mn (gPs mx mn 0 0) (gPs my mn 0 0) (gPs mdx mn 0 0) (gPs mdy mn 0 0) (gPs (fun j => mx j * mx j + my j * my j) mn 0 0) (gPs (fun j => mx j * mdx j + my j * mdy j) mn 0 0) (gPs (fun j => mx j * mdy j - my j * mdx j) mn 0 0)), .ref (a 37), .ref (a 38), .ref (a 39), .int (nI (jn)), .ref (a 40), .ref (a 41)])) ∧ ∀ k, k ∉ [22] → G1[k]? = G0[k]?) := by
  refine gof_i (cc := cX8_off) (maxL := 7) (by decide) rfl (Nat.le_of_ble_eq_true rfl) hD ?_
  intro p e s m args below meth c Q hx hb hml hts hown hK hN hZ hP hS hret ls hl
  have hown : s.vm.findClass RX8 = some m.cls := hown
  have hl : lv_has ls 7 [(0, .ref (a 22)), (1, .int (nI (i))), (2, .int (nI (1)))] := hl
  obtain ⟨locs, elocs⟩ : ∃ q : List Loc, q = [] := ⟨_, rfl⟩
  rw [← elocs] at hS ⊢
  obtain ⟨H, eH⟩ : ∃ q : Heap, q = s.heap := ⟨_, rfl⟩
  have hP : va_P D vwCl G0 H := eH ▸ hP
  have hS : va_S A s.heap H locs := by rw [eH]; exact hS
  rw [← eH]
  clear elocs eH
  have hiX8 : ∀ w ∈ u_ws RX8 TX8 37, w ∈ wsX8_off := by decide +kernel
  have hk : ∀ k, k ∉ [22] → G0[k]? = G0[k]? := fun _ _ => rfl
  refine lv_iload_n (pc := 0) hx hb dX8_off_0 rfl (lv_at hl 1 rfl) ?_
  refine lv_i2l (v := (nI (i)).toInt64) (pc := 1) hx hb dX8_off_1 rfl ?_
  refine lv_lconst (v := 0) (pc := 2) hx hb dX8_off_2 (by decide) ?_
  refine lv_aload_n (pc := 3) hx hb dX8_off_3 rfl (lv_at hl 0 rfl) ?_
  refine va_get (ci := 8) (C := RX8) (T := TX8) (N := 37) (pc := 4) hx hb hts hiX8 hown hK hP 22 w22 rfl 25 (by decide) (hts (.fieldLink RX8 159 "InkPressModel" "marks" "I") (by decide +kernel)) (fun _ h9 => h9) rfl dX8_off_4 ?_
  refine lv_iconst (v := nI (1)) (pc := 7) hx hb dX8_off_7 (by decide) ?_
  refine mx_isub (pc := 8) hx hb hm1 dX8_off_8 ?_
  refine lv_i2l (v := (nI ((mn) - (1))).toInt64) (pc := 9) hx hb dX8_off_9 rfl ?_
  refine mx_cSi (As := [.long ((nI (i)).toInt64), .long (0), .long ((nI ((mn) - (1))).toInt64)]) (rest := []) (pc := 10) ⟨hx, hb, hml, hown, hts⟩ (k_X8_in (a := a) (v := (nI (i)).toInt64) (lo := 0) (hi := (nI ((mn) - (1))).toInt64) hD  ) (va_cwS 3 hts gX8_off_X8_in rfl rfl rfl (by decide +kernel) ⟨Nat.le_of_ble_eq_true rfl, Nat.le_of_ble_eq_true rfl⟩) hK hN hZ hP hS rfl hl.1 rfl (Nat.le_of_ble_eq_true rfl) dX8_off_10 ⟨Nat.zero_le _, Nat.zero_le _⟩ (fun G' H locs hP hD hS hB => ?_)
  rw [hB] at hP hD
  clear hB G'
  refine mx_bne (tgt := 19) (pc := 13) hx hb dX8_off_13 (by decide) (fun c13 => ?_) (fun c13 => absurd (c13.symm.trans ((gIn_has hm1 (by omega)).trans h1)) (by decide))
  refine lv_iload_n (pc := 19) hx hb dX8_off_19 rfl (lv_at hl 2 rfl) ?_
  refine lv_i2l (v := (nI (1)).toInt64) (pc := 20) hx hb dX8_off_20 rfl ?_
  refine lv_lconst (v := 0) (pc := 21) hx hb dX8_off_21 (by decide) ?_
  refine lv_lconst (v := 1) (pc := 22) hx hb dX8_off_22 (by decide) ?_
  refine mx_cSi (As := [.long ((nI (1)).toInt64), .long (0), .long (1)]) (rest := []) (pc := 23) ⟨hx, hb, hml, hown, hts⟩ (k_X8_in (a := a) (v := (nI (1)).toInt64) (lo := 0) (hi := 1) hD  ) (va_cwS 3 hts gX8_off_X8_in rfl rfl rfl (by decide +kernel) ⟨Nat.le_of_ble_eq_true rfl, Nat.le_of_ble_eq_true rfl⟩) hK hN hZ hP hS rfl hl.1 rfl (Nat.le_of_ble_eq_true rfl) dX8_off_23 ⟨Nat.zero_le _, Nat.zero_le _⟩ (fun G' H locs hP hD hS hB => ?_)
  rw [hB] at hP hD
  clear hB G'
  refine mx_bne (tgt := 32) (pc := 26) hx hb dX8_off_26 (by decide) (fun c26 => ?_) (fun c26 => absurd (c26.symm.trans ((gIn_w (a := nI 0) (b := nI 1) (by decide) (by decide)).trans (show gWi (nI 1) (nI 0) (nI 1) = true by decide))) (by decide))
  refine lv_aload_n (pc := 32) hx hb dX8_off_32 rfl (lv_at hl 0 rfl) ?_
  refine mx_cVi (As := []) (rest := []) (pc := 33) ⟨hx, hb, hml, hown, hts⟩ (k_X8_findFit (a := a) (zn := zn) (tr := tr) (sc := sc) (pn := pn) (mn := mn) (jn := jn) (sg := sg) (sr := sr) (ss := ss) (fed := fed) (pap := pap) (bar := bar) (st := st) (q1 := q1) (q2 := q2) (q3 := q3) (q4 := q4) (q5 := q5) (mx := mx) (my := my) (mdx := mdx) (mdy := mdy) hD w22 w33 w34 w35 w36 (by omega)) (cwV 0 hts gX8_off_X8_findFit rfl rfl rfl (by decide +kernel) ⟨Nat.le_of_ble_eq_true rfl, Nat.le_of_ble_eq_true rfl⟩) 22 rfl rfl w22 hK hN hZ hP hS rfl hl.1 rfl (Nat.le_of_ble_eq_true rfl) dX8_off_33 ⟨Nat.zero_le _, Nat.zero_le _⟩ (fun G H locs hP hD hS hB => ?_)
  obtain ⟨w22, ho⟩ := hB
  have w22 : G[22]? = some (a 22, .inr (8, [.int (nI ((zn))), .int (nI ((tr))), .ref (a 23), .ref (a 24), .ref (a 25), .ref (a 26), .ref (a 27), .ref (a 28), .ref (a 29), .int (nI ((sc))), .int ((sg)), .int ((sr)), .int ((ss)), .int ((fed)), .int ((pap)), .int ((bar)), .int (gB ((st))), .ref (a 30), .ref (a 31), .ref (a 32), .int (nI ((pn))), .ref (a 33), .ref (a 34), .ref (a 35), .ref (a 36), .int (nI ((mn))), .long (gSp (mn) (gPs (mx) (mn) 0 0) (gPs (my) (mn) 0 0) (gPs (mdx) (mn) 0 0) (gPs (mdy) (mn) 0 0) (gPs (fun j => (mx) j * (mx) j + (my) j * (my) j) (mn) 0 0) (gPs (fun j => (mx) j * (mdx) j + (my) j * (mdy) j) (mn) 0 0) (gPs (fun j => (mx) j * (mdy) j - (my) j * (mdx) j) (mn) 0 0)), .long (gStr (mn) (gPs (mx) (mn) 0 0) (gPs (my) (mn) 0 0) (gPs (mdx) (mn) 0 0) (gPs (mdy) (mn) 0 0) (gPs (fun j => (mx) j * (mx) j + (my) j * (my) j) (mn) 0 0) (gPs (fun j => (mx) j * (mdx) j + (my) j * (mdy) j) (mn) 0 0) (gPs (fun j => (mx) j * (mdy) j - (my) j * (mdx) j) (mn) 0 0)), .long (gTu (mn) (gPs (mx) (mn) 0 0) (gPs (my) (mn) 0 0) (gPs (mdx) (mn) 0 0) (gPs (mdy) (mn) 0 0) (gPs (fun j => (mx) j * (mx) j + (my) j * (my) j) (mn) 0 0) (gPs (fun j => (mx) j * (mdx) j + (my) j * (mdy) j) (mn) 0 0) (gPs (fun j => (mx) j * (mdy) j - (my) j * (mdx) j) (mn) 0 0)), .long (gAc (mn) (gPs (mx) (mn) 0 0) (gPs (my) (mn) 0 0) (gPs (mdx) (mn) 0 0) (gPs (mdy) (mn) 0 0) (gPs (fun j => (mx) j * (mx) j + (my) j * (my) j) (mn) 0 0) (gPs (fun j => (mx) j * (mdx) j + (my) j * (mdy) j) (mn) 0 0) (gPs (fun j => (mx) j * (mdy) j - (my) j * (mdx) j) (mn) 0 0)), .long (gUp (mn) (gPs (mx) (mn) 0 0) (gPs (my) (mn) 0 0) (gPs (mdx) (mn) 0 0) (gPs (mdy) (mn) 0 0) (gPs (fun j => (mx) j * (mx) j + (my) j * (my) j) (mn) 0 0) (gPs (fun j => (mx) j * (mdx) j + (my) j * (mdy) j) (mn) 0 0) (gPs (fun j => (mx) j * (mdy) j - (my) j * (mdx) j) (mn) 0 0)), .ref (a 37), .ref (a 38), .ref (a 39), .int (nI ((jn))), .ref (a 40), .ref (a 41)])) := w22
  have w33 := (ho 33 (by decide)).trans w33
  have w34 := (ho 34 (by decide)).trans w34
  have w35 := (ho 35 (by decide)).trans w35
  have w36 := (ho 36 (by decide)).trans w36
  have hk := gk_call hk ho (by decide)
  clear ho
  refine mx_bne (tgt := 42) (pc := 36) hx hb dX8_off_36 (by decide) (fun c36 => ?_) (fun c36 => absurd (c36.symm.trans h3) (by decide))
  refine lv_aload_n (pc := 42) hx hb dX8_off_42 rfl (lv_at hl 0 rfl) ?_
  refine va_get (ci := 8) (C := RX8) (T := TX8) (N := 37) (pc := 43) hx hb hts hiX8 hown hK hP 22 w22 rfl 26 (by decide) (hts (.fieldLink RX8 162 "InkPressModel" "all" "J") (by decide +kernel)) (fun _ h9 => h9) rfl dX8_off_43 ?_
  refine lv_aload_n (pc := 46) hx hb dX8_off_46 rfl (lv_at hl 0 rfl) ?_
  refine va_get (ci := 8) (C := RX8) (T := TX8) (N := 37) (pc := 47) hx hb hts hiX8 hown hK hP 22 w22 rfl 25 (by decide) (hts (.fieldLink RX8 159 "InkPressModel" "marks" "I") (by decide +kernel)) (fun _ h9 => h9) rfl dX8_off_47 ?_
  refine lv_i2l (v := (nI ((mn))).toInt64) (pc := 50) hx hb dX8_off_50 rfl ?_
  refine lv_lmul (pc := 51) hx hb dX8_off_51 ?_
  refine lv_lstore_n (lv' := [(3, .long ((gSp (mn) (gPs (mx) (mn) 0 0) (gPs (my) (mn) 0 0) (gPs (mdx) (mn) 0 0) (gPs (mdy) (mn) 0 0) (gPs (fun j => (mx) j * (mx) j + (my) j * (my) j) (mn) 0 0) (gPs (fun j => (mx) j * (mdx) j + (my) j * (mdy) j) (mn) 0 0) (gPs (fun j => (mx) j * (mdy) j - (my) j * (mdx) j) (mn) 0 0) * (nI ((mn))).toInt64))), (0, .ref (a 22)), (1, .int (nI (i))), (2, .int (nI (1)))]) (pc := 52) hx hb dX8_off_52 rfl hl (by decide) rfl (fun ls hl => ?_)
  refine lv_iload_n (pc := 53) hx hb dX8_off_53 rfl (lv_at hl 3 rfl) ?_
  refine lv_if_ne (tgt := 108) (pc := 54) hx hb dX8_off_54 (by decide) (fun c54 => ?_) (fun c54 => absurd c54 (by decide))
  refine lv_aload_n (pc := 108) hx hb dX8_off_108 rfl (lv_at hl 1 rfl) ?_
  refine va_get (ci := 8) (C := RX8) (T := TX8) (N := 37) (pc := 109) hx hb hts hiX8 hown hK hP 22 w22 rfl 24 (by decide) (hts (.fieldLink RX8 60 "InkPressModel" "markDy" "[I") (by decide +kernel)) (fun _ h9 => h9) rfl dX8_off_109 ?_
  refine lv_iload_n (pc := 112) hx hb dX8_off_112 rfl (lv_at hl 2 rfl) ?_
  refine mx_iald (pc := 113) hx hb hK hP 36 w36 (i) (by omega) (by decide) dX8_off_113 ?_
  refine lv_i2l (v := ((mdy) (i)).toInt64) (pc := 114) hx hb dX8_off_114 rfl ?_
  refine lv_lload_n (pc := 115) hx hb dX8_off_115 rfl (lv_at hl 0 rfl) ?_
  refine lv_lmul (pc := 116) hx hb dX8_off_116 ?_
  refine lv_aload_n (pc := 117) hx hb dX8_off_117 rfl (lv_at hl 1 rfl) ?_
  refine va_get (ci := 8) (C := RX8) (T := TX8) (N := 37) (pc := 118) hx hb hts hiX8 hown hK hP 22 w22 rfl 25 (by decide) (hts (.fieldLink RX8 159 "InkPressModel" "marks" "I") (by decide +kernel)) (fun _ h9 => h9) rfl dX8_off_118 ?_
  refine lv_i2l (v := (nI ((mn))).toInt64) (pc := 121) hx hb dX8_off_121 rfl ?_
  refine lv_aload_n (pc := 122) hx hb dX8_off_122 rfl (lv_at hl 1 rfl) ?_
  refine va_get (ci := 8) (C := RX8) (T := TX8) (N := 37) (pc := 123) hx hb hts hiX8 hown hK hP 22 w22 rfl 28 (by decide) (hts (.fieldLink RX8 169 "InkPressModel" "turn" "J") (by decide +kernel)) (fun _ h9 => h9) rfl dX8_off_123 ?_
  refine lv_aload_n (pc := 126) hx hb dX8_off_126 rfl (lv_at hl 1 rfl) ?_
  refine va_get (ci := 8) (C := RX8) (T := TX8) (N := 37) (pc := 127) hx hb hts hiX8 hown hK hP 22 w22 rfl 21 (by decide) (hts (.fieldLink RX8 51 "InkPressModel" "markX" "[I") (by decide +kernel)) (fun _ h9 => h9) rfl dX8_off_127 ?_
  refine lv_iload_n (pc := 130) hx hb dX8_off_130 rfl (lv_at hl 2 rfl) ?_
  refine mx_iald (pc := 131) hx hb hK hP 33 w33 (i) (by omega) (by decide) dX8_off_131 ?_
  refine lv_i2l (v := ((mx) (i)).toInt64) (pc := 132) hx hb dX8_off_132 rfl ?_
  refine lv_lmul (pc := 133) hx hb dX8_off_133 ?_
  refine lv_aload_n (pc := 134) hx hb dX8_off_134 rfl (lv_at hl 1 rfl) ?_
  refine va_get (ci := 8) (C := RX8) (T := TX8) (N := 37) (pc := 135) hx hb hts hiX8 hown hK hP 22 w22 rfl 27 (by decide) (hts (.fieldLink RX8 166 "InkPressModel" "stretch" "J") (by decide +kernel)) (fun _ h9 => h9) rfl dX8_off_135 ?_
  refine lv_aload_n (pc := 138) hx hb dX8_off_138 rfl (lv_at hl 1 rfl) ?_
  refine va_get (ci := 8) (C := RX8) (T := TX8) (N := 37) (pc := 139) hx hb hts hiX8 hown hK hP 22 w22 rfl 22 (by decide) (hts (.fieldLink RX8 54 "InkPressModel" "markY" "[I") (by decide +kernel)) (fun _ h9 => h9) rfl dX8_off_139 ?_
  refine lv_iload_n (pc := 142) hx hb dX8_off_142 rfl (lv_at hl 2 rfl) ?_
  refine mx_iald (pc := 143) hx hb hK hP 34 w34 (i) (by omega) (by decide) dX8_off_143 ?_
  refine lv_i2l (v := ((my) (i)).toInt64) (pc := 144) hx hb dX8_off_144 rfl ?_
  refine lv_lmul (pc := 145) hx hb dX8_off_145 ?_
  refine lv_ladd (pc := 146) hx hb dX8_off_146 ?_
  refine lv_lmul (pc := 147) hx hb dX8_off_147 ?_
  refine lv_lsub (pc := 148) hx hb dX8_off_148 ?_
  refine lv_aload_n (pc := 149) hx hb dX8_off_149 rfl (lv_at hl 1 rfl) ?_
  refine va_get (ci := 8) (C := RX8) (T := TX8) (N := 37) (pc := 150) hx hb hts hiX8 hown hK hP 22 w22 rfl 30 (by decide) (hts (.fieldLink RX8 175 "InkPressModel" "above" "J") (by decide +kernel)) (fun _ h9 => h9) rfl dX8_off_150 ?_
  refine lv_lsub (pc := 153) hx hb dX8_off_153 ?_
  refine lv_lstore (lv' := [(5, .long ((((((mdy) (i)).toInt64 * (gSp (mn) (gPs (mx) (mn) 0 0) (gPs (my) (mn) 0 0) (gPs (mdx) (mn) 0 0) (gPs (mdy) (mn) 0 0) (gPs (fun j => (mx) j * (mx) j + (my) j * (my) j) (mn) 0 0) (gPs (fun j => (mx) j * (mdx) j + (my) j * (mdy) j) (mn) 0 0) (gPs (fun j => (mx) j * (mdy) j - (my) j * (mdx) j) (mn) 0 0) * (nI ((mn))).toInt64)) - ((nI ((mn))).toInt64 * ((gTu (mn) (gPs (mx) (mn) 0 0) (gPs (my) (mn) 0 0) (gPs (mdx) (mn) 0 0) (gPs (mdy) (mn) 0 0) (gPs (fun j => (mx) j * (mx) j + (my) j * (my) j) (mn) 0 0) (gPs (fun j => (mx) j * (mdx) j + (my) j * (mdy) j) (mn) 0 0) (gPs (fun j => (mx) j * (mdy) j - (my) j * (mdx) j) (mn) 0 0) * ((mx) (i)).toInt64) + (gStr (mn) (gPs (mx) (mn) 0 0) (gPs (my) (mn) 0 0) (gPs (mdx) (mn) 0 0) (gPs (mdy) (mn) 0 0) (gPs (fun j => (mx) j * (mx) j + (my) j * (my) j) (mn) 0 0) (gPs (fun j => (mx) j * (mdx) j + (my) j * (mdy) j) (mn) 0 0) (gPs (fun j => (mx) j * (mdy) j - (my) j * (mdx) j) (mn) 0 0) * ((my) (i)).toInt64)))) - gUp (mn) (gPs (mx) (mn) 0 0) (gPs (my) (mn) 0 0) (gPs (mdx) (mn) 0 0) (gPs (mdy) (mn) 0 0) (gPs (fun j => (mx) j * (mx) j + (my) j * (my) j) (mn) 0 0) (gPs (fun j => (mx) j * (mdx) j + (my) j * (mdy) j) (mn) 0 0) (gPs (fun j => (mx) j * (mdy) j - (my) j * (mdx) j) (mn) 0 0)))), (3, .long ((gSp (mn) (gPs (mx) (mn) 0 0) (gPs (my) (mn) 0 0) (gPs (mdx) (mn) 0 0) (gPs (mdy) (mn) 0 0) (gPs (fun j => (mx) j * (mx) j + (my) j * (my) j) (mn) 0 0) (gPs (fun j => (mx) j * (mdx) j + (my) j * (mdy) j) (mn) 0 0) (gPs (fun j => (mx) j * (mdy) j - (my) j * (mdx) j) (mn) 0 0) * (nI ((mn))).toInt64))), (0, .ref (a 22)), (1, .int (nI (i))), (2, .int (nI (1)))]) (pc := 154) hx hb dX8_off_154 hl (by decide) rfl (fun ls hl => ?_)
  refine lv_ldc2 (own := RX8) (v := (1000)) (pc := 156) hx hb hown (hts (.constantLong RX8 123 (1000)) (by decide +kernel)) dX8_off_156 ?_
  refine lv_lload (pc := 159) hx hb dX8_off_159 (lv_at hl 0 rfl) ?_
  refine lv_lmul (pc := 161) hx hb dX8_off_161 ?_
  refine lv_lload_n (pc := 162) hx hb dX8_off_162 rfl (lv_at hl 1 rfl) ?_
  refine lv_ldiv (pc := 163) hx hb dX8_off_163 hlo ?_
  refine lv_l2i (v := ((((1000) * (((((mdy) (i)).toInt64 * (gSp (mn) (gPs (mx) (mn) 0 0) (gPs (my) (mn) 0 0) (gPs (mdx) (mn) 0 0) (gPs (mdy) (mn) 0 0) (gPs (fun j => (mx) j * (mx) j + (my) j * (my) j) (mn) 0 0) (gPs (fun j => (mx) j * (mdx) j + (my) j * (mdy) j) (mn) 0 0) (gPs (fun j => (mx) j * (mdy) j - (my) j * (mdx) j) (mn) 0 0) * (nI ((mn))).toInt64)) - ((nI ((mn))).toInt64 * ((gTu (mn) (gPs (mx) (mn) 0 0) (gPs (my) (mn) 0 0) (gPs (mdx) (mn) 0 0) (gPs (mdy) (mn) 0 0) (gPs (fun j => (mx) j * (mx) j + (my) j * (my) j) (mn) 0 0) (gPs (fun j => (mx) j * (mdx) j + (my) j * (mdy) j) (mn) 0 0) (gPs (fun j => (mx) j * (mdy) j - (my) j * (mdx) j) (mn) 0 0) * ((mx) (i)).toInt64) + (gStr (mn) (gPs (mx) (mn) 0 0) (gPs (my) (mn) 0 0) (gPs (mdx) (mn) 0 0) (gPs (mdy) (mn) 0 0) (gPs (fun j => (mx) j * (mx) j + (my) j * (my) j) (mn) 0 0) (gPs (fun j => (mx) j * (mdx) j + (my) j * (mdy) j) (mn) 0 0) (gPs (fun j => (mx) j * (mdy) j - (my) j * (mdx) j) (mn) 0 0) * ((my) (i)).toInt64)))) - gUp (mn) (gPs (mx) (mn) 0 0) (gPs (my) (mn) 0 0) (gPs (mdx) (mn) 0 0) (gPs (mdy) (mn) 0 0) (gPs (fun j => (mx) j * (mx) j + (my) j * (my) j) (mn) 0 0) (gPs (fun j => (mx) j * (mdx) j + (my) j * (mdy) j) (mn) 0 0) (gPs (fun j => (mx) j * (mdy) j - (my) j * (mdx) j) (mn) 0 0))) / (gSp (mn) (gPs (mx) (mn) 0 0) (gPs (my) (mn) 0 0) (gPs (mdx) (mn) 0 0) (gPs (mdy) (mn) 0 0) (gPs (fun j => (mx) j * (mx) j + (my) j * (my) j) (mn) 0 0) (gPs (fun j => (mx) j * (mdx) j + (my) j * (mdy) j) (mn) 0 0) (gPs (fun j => (mx) j * (mdy) j - (my) j * (mdx) j) (mn) 0 0) * (nI ((mn))).toInt64))).toInt32) (pc := 164) hx hb dX8_off_164 rfl ?_
  exact hret _ _ _ _ _ _ hP hD hS rfl ⟨w22, hk⟩ dX8_off_165
set_option maxHeartbeats 4000000 in
set_option maxRecDepth 100000 in
theorem k_X8_job_b {l : Launch} {D : va_G} {cI cZ : ClassId} {A : Nat → Prop} {g a : Nat → Nat} {G0 : va_W} {zn : Nat} {tr : Nat} {sc : Nat} {pn : Nat} {mn : Nat} {jn : Nat} {sg : Int32} {sr : Int32} {ss : Int32} {fed : Int32} {pap : Int32} {bar : Int32} {st : Bool} {q1 : Int64} {q2 : Int64} {q3 : Int64} {q4 : Int64} {q5 : Int64} {x : Int32} {y : Int32} (hD : va_D A G0) (w22 : G0[22]? = some (a 22, .inr (8, [.int (nI (zn)), .int (nI (tr)), .ref (a 23), .ref (a 24), .ref (a 25), .ref (a 26), .ref (a 27), .ref (a 28), .ref (a 29), .int (nI (sc)), .int (sg), .int (sr), .int (ss), .int (fed), .int (pap), .int (bar), .int (gB (st)), .ref (a 30), .ref (a 31), .ref (a 32), .int (nI (pn)), .ref (a 33), .ref (a 34), .ref (a 35), .ref (a 36), .int (nI (mn)), .long (q1), .long (q2), .long (q3), .long (q4), .long (q5), .ref (a 37), .ref (a 38), .ref (a 39), .int (nI (jn)), .ref (a 40), .ref (a 41)]))) (hbad : gHas x (nI 4) = false ∨ gHas y (nI 6) = false) : gMi l D cI cZ A g yX8_job wsX8_job ({ frames := 1, cells := 0, slots := 0, locals := 25 }) [.ref (a 22), .int (x), .int (y)] G0 ((-2)) (fun G1 => G1 = G0) := by
  refine gof_i (cc := cX8_job) (maxL := 3) (by decide) rfl (Nat.le_of_ble_eq_true rfl) hD ?_
  intro p e s m args below meth c Q hx hb hml hts hown hK hN hZ hP hS hret ls hl
  have hown : s.vm.findClass RX8 = some m.cls := hown
  have hl : lv_has ls 3 [(0, .ref (a 22)), (1, .int (x)), (2, .int (y))] := hl
  obtain ⟨locs, elocs⟩ : ∃ q : List Loc, q = [] := ⟨_, rfl⟩
  rw [← elocs] at hS ⊢
  obtain ⟨H, eH⟩ : ∃ q : Heap, q = s.heap := ⟨_, rfl⟩
  have hP : va_P D vwCl G0 H := eH ▸ hP
  have hS : va_S A s.heap H locs := by rw [eH]; exact hS
  rw [← eH]
  clear elocs eH
  have hk : ∀ k, k ∉ ([] : List Nat) → G0[k]? = G0[k]? := fun _ _ => rfl
  refine lv_iload_n (pc := 0) hx hb dX8_job_0 rfl (lv_at hl 1 rfl) ?_
  refine lv_i2l (v := (x).toInt64) (pc := 1) hx hb dX8_job_1 rfl ?_
  refine lv_lconst (v := 0) (pc := 2) hx hb dX8_job_2 (by decide) ?_
  refine lv_ldc2 (own := RX8) (v := (3)) (pc := 3) hx hb hown (hts (.constantLong RX8 178 (3)) (by decide +kernel)) dX8_job_3 ?_
  refine mx_cSi (As := [.long ((x).toInt64), .long (0), .long ((3))]) (rest := []) (pc := 6) ⟨hx, hb, hml, hown, hts⟩ (k_X8_in (a := a) (v := (x).toInt64) (lo := 0) (hi := (3)) hD  ) (va_cwS 3 hts gX8_job_X8_in rfl rfl rfl (by decide +kernel) ⟨Nat.le_of_ble_eq_true rfl, Nat.le_of_ble_eq_true rfl⟩) hK hN hZ hP hS rfl hl.1 rfl (Nat.le_of_ble_eq_true rfl) dX8_job_6 ⟨Nat.zero_le _, Nat.zero_le _⟩ (fun G' H locs hP hD hS hB => ?_)
  rw [hB] at hP hD
  clear hB G'
  refine mx_beq (tgt := 24) (pc := 9) hx hb dX8_job_9 (by decide) (fun c9 => ?_) (fun c9 => ?_)
  · skip
    refine lv_bipush (v := (-2)) (pc := 24) hx hb dX8_job_24 (by decide) ?_
    exact hret _ _ _ _ _ _ hP hD hS rfl rfl dX8_job_26
  · skip
    refine lv_iload_n (pc := 12) hx hb dX8_job_12 rfl (lv_at hl 2 rfl) ?_
    refine lv_i2l (v := (y).toInt64) (pc := 13) hx hb dX8_job_13 rfl ?_
    refine lv_lconst (v := 0) (pc := 14) hx hb dX8_job_14 (by decide) ?_
    refine lv_ldc2 (own := RX8) (v := (5)) (pc := 15) hx hb hown (hts (.constantLong RX8 111 (5)) (by decide +kernel)) dX8_job_15 ?_
    refine mx_cSi (As := [.long ((y).toInt64), .long (0), .long ((5))]) (rest := []) (pc := 18) ⟨hx, hb, hml, hown, hts⟩ (k_X8_in (a := a) (v := (y).toInt64) (lo := 0) (hi := (5)) hD  ) (va_cwS 3 hts gX8_job_X8_in rfl rfl rfl (by decide +kernel) ⟨Nat.le_of_ble_eq_true rfl, Nat.le_of_ble_eq_true rfl⟩) hK hN hZ hP hS rfl hl.1 rfl (Nat.le_of_ble_eq_true rfl) dX8_job_18 ⟨Nat.zero_le _, Nat.zero_le _⟩ (fun G' H locs hP hD hS hB => ?_)
    rw [hB] at hP hD
    clear hB G'
    refine mx_bne (tgt := 27) (pc := 21) hx hb dX8_job_21 (by decide) (fun c21 => ?_) (fun c21 => ?_)
    · skip
      exact (by rw [gIn_w (a := nI 0) (b := nI 3) (by decide) (by decide), gWi_has 3 (by decide)] at c9; rw [gIn_w (a := nI 0) (b := nI 5) (by decide) (by decide), gWi_has 5 (by decide)] at c21; simp [c9, c21] at hbad)
    · skip
      refine lv_bipush (v := (-2)) (pc := 24) hx hb dX8_job_24 (by decide) ?_
      exact hret _ _ _ _ _ _ hP hD hS rfl rfl dX8_job_26
set_option maxHeartbeats 4000000 in
set_option maxRecDepth 100000 in
theorem k_X8_job_c {l : Launch} {D : va_G} {cI cZ : ClassId} {A : Nat → Prop} {g a : Nat → Nat} {G0 : va_W} {zn : Nat} {tr : Nat} {sc : Nat} {pn : Nat} {mn : Nat} {jn : Nat} {sg : Int32} {sr : Int32} {ss : Int32} {fed : Int32} {pap : Int32} {bar : Int32} {st : Bool} {q1 : Int64} {q2 : Int64} {q3 : Int64} {q4 : Int64} {q5 : Int64} {x : Int32} {y : Int32} (hD : va_D A G0) (w22 : G0[22]? = some (a 22, .inr (8, [.int (nI (zn)), .int (nI (tr)), .ref (a 23), .ref (a 24), .ref (a 25), .ref (a 26), .ref (a 27), .ref (a 28), .ref (a 29), .int (nI (sc)), .int (sg), .int (sr), .int (ss), .int (fed), .int (pap), .int (bar), .int (gB (st)), .ref (a 30), .ref (a 31), .ref (a 32), .int (nI (pn)), .ref (a 33), .ref (a 34), .ref (a 35), .ref (a 36), .int (nI (mn)), .long (q1), .long (q2), .long (q3), .long (q4), .long (q5), .ref (a 37), .ref (a 38), .ref (a 39), .int (nI (jn)), .ref (a 40), .ref (a 41)]))) (hj : jn = 7) (h1 : gHas x (nI 4) = true) (h2 : gHas y (nI 6) = true) : gMi l D cI cZ A g yX8_job wsX8_job ({ frames := 1, cells := 0, slots := 0, locals := 25 }) [.ref (a 22), .int (x), .int (y)] G0 ((-4)) (fun G1 => G1 = G0) := by
  refine gof_i (cc := cX8_job) (maxL := 3) (by decide) rfl (Nat.le_of_ble_eq_true rfl) hD ?_
  intro p e s m args below meth c Q hx hb hml hts hown hK hN hZ hP hS hret ls hl
  have hown : s.vm.findClass RX8 = some m.cls := hown
  have hl : lv_has ls 3 [(0, .ref (a 22)), (1, .int (x)), (2, .int (y))] := hl
  obtain ⟨locs, elocs⟩ : ∃ q : List Loc, q = [] := ⟨_, rfl⟩
  rw [← elocs] at hS ⊢
  obtain ⟨H, eH⟩ : ∃ q : Heap, q = s.heap := ⟨_, rfl⟩
  have hP : va_P D vwCl G0 H := eH ▸ hP
  have hS : va_S A s.heap H locs := by rw [eH]; exact hS
  rw [← eH]
  clear elocs eH
  have hiX8 : ∀ w ∈ u_ws RX8 TX8 37, w ∈ wsX8_job := by decide +kernel
  have hk : ∀ k, k ∉ ([] : List Nat) → G0[k]? = G0[k]? := fun _ _ => rfl
  refine lv_iload_n (pc := 0) hx hb dX8_job_0 rfl (lv_at hl 1 rfl) ?_
  refine lv_i2l (v := (x).toInt64) (pc := 1) hx hb dX8_job_1 rfl ?_
  refine lv_lconst (v := 0) (pc := 2) hx hb dX8_job_2 (by decide) ?_
  refine lv_ldc2 (own := RX8) (v := (3)) (pc := 3) hx hb hown (hts (.constantLong RX8 178 (3)) (by decide +kernel)) dX8_job_3 ?_
  refine mx_cSi (As := [.long ((x).toInt64), .long (0), .long ((3))]) (rest := []) (pc := 6) ⟨hx, hb, hml, hown, hts⟩ (k_X8_in (a := a) (v := (x).toInt64) (lo := 0) (hi := (3)) hD  ) (va_cwS 3 hts gX8_job_X8_in rfl rfl rfl (by decide +kernel) ⟨Nat.le_of_ble_eq_true rfl, Nat.le_of_ble_eq_true rfl⟩) hK hN hZ hP hS rfl hl.1 rfl (Nat.le_of_ble_eq_true rfl) dX8_job_6 ⟨Nat.zero_le _, Nat.zero_le _⟩ (fun G' H locs hP hD hS hB => ?_)
  rw [hB] at hP hD
  clear hB G'
  refine mx_beq (tgt := 24) (pc := 9) hx hb dX8_job_9 (by decide) (fun c9 => absurd (c9.symm.trans ((gIn_w (a := nI 0) (b := nI 3) (by decide) (by decide)).trans ((gWi_has 3 (by decide)).trans h1))) (by decide)) (fun c9 => ?_)
  refine lv_iload_n (pc := 12) hx hb dX8_job_12 rfl (lv_at hl 2 rfl) ?_
  refine lv_i2l (v := (y).toInt64) (pc := 13) hx hb dX8_job_13 rfl ?_
  refine lv_lconst (v := 0) (pc := 14) hx hb dX8_job_14 (by decide) ?_
  refine lv_ldc2 (own := RX8) (v := (5)) (pc := 15) hx hb hown (hts (.constantLong RX8 111 (5)) (by decide +kernel)) dX8_job_15 ?_
  refine mx_cSi (As := [.long ((y).toInt64), .long (0), .long ((5))]) (rest := []) (pc := 18) ⟨hx, hb, hml, hown, hts⟩ (k_X8_in (a := a) (v := (y).toInt64) (lo := 0) (hi := (5)) hD  ) (va_cwS 3 hts gX8_job_X8_in rfl rfl rfl (by decide +kernel) ⟨Nat.le_of_ble_eq_true rfl, Nat.le_of_ble_eq_true rfl⟩) hK hN hZ hP hS rfl hl.1 rfl (Nat.le_of_ble_eq_true rfl) dX8_job_18 ⟨Nat.zero_le _, Nat.zero_le _⟩ (fun G' H locs hP hD hS hB => ?_)
  rw [hB] at hP hD
  clear hB G'
  refine mx_bne (tgt := 27) (pc := 21) hx hb dX8_job_21 (by decide) (fun c21 => ?_) (fun c21 => absurd (c21.symm.trans ((gIn_w (a := nI 0) (b := nI 5) (by decide) (by decide)).trans ((gWi_has 5 (by decide)).trans h2))) (by decide))
  refine lv_aload_n (pc := 27) hx hb dX8_job_27 rfl (lv_at hl 0 rfl) ?_
  refine va_get (ci := 8) (C := RX8) (T := TX8) (N := 37) (pc := 28) hx hb hts hiX8 hown hK hP 22 w22 rfl 34 (by decide) (hts (.fieldLink RX8 193 "InkPressModel" "jobs" "I") (by decide +kernel)) (fun _ h9 => h9) rfl dX8_job_28 ?_
  refine lv_bipush (v := nI (7)) (pc := 31) hx hb dX8_job_31 (by decide) ?_
  refine mx_cne (tgt := 39) (pc := 33) hx hb (by omega) (by omega) dX8_job_33 (by decide) (fun c33 => absurd hj c33) (fun c33 => ?_)
  refine lv_bipush (v := (-4)) (pc := 36) hx hb dX8_job_36 (by decide) ?_
  exact hret _ _ _ _ _ _ hP hD hS rfl rfl dX8_job_38
set_option maxHeartbeats 4000000 in
set_option maxRecDepth 100000 in
theorem k_X8_job_k {l : Launch} {D : va_G} {cI cZ : ClassId} {A : Nat → Prop} {g a : Nat → Nat} {G0 : va_W} {zn : Nat} {tr : Nat} {sc : Nat} {pn : Nat} {mn : Nat} {jn : Nat} {sg : Int32} {sr : Int32} {ss : Int32} {fed : Int32} {pap : Int32} {bar : Int32} {st : Bool} {q1 : Int64} {q2 : Int64} {q3 : Int64} {q4 : Int64} {q5 : Int64} {co : Nat → Nat} {pa : Nat → Int32} {cl : Nat} {pp : Int32} (hD : va_D A G0) (w22 : G0[22]? = some (a 22, .inr (8, [.int (nI (zn)), .int (nI (tr)), .ref (a 23), .ref (a 24), .ref (a 25), .ref (a 26), .ref (a 27), .ref (a 28), .ref (a 29), .int (nI (sc)), .int (sg), .int (sr), .int (ss), .int (fed), .int (pap), .int (bar), .int (gB (st)), .ref (a 30), .ref (a 31), .ref (a 32), .int (nI (pn)), .ref (a 33), .ref (a 34), .ref (a 35), .ref (a 36), .int (nI (mn)), .long (q1), .long (q2), .long (q3), .long (q4), .long (q5), .ref (a 37), .ref (a 38), .ref (a 39), .int (nI (jn)), .ref (a 40), .ref (a 41)]))) (w37 : G0[37]? = some (a 37, .inl (cI, 7, .inl (fun j => nI ((co) j))))) (w38 : G0[38]? = some (a 38, .inl (cI, 7, .inl (pa)))) (hj : jn < 7) (h1 : gHas (nI cl) (nI 4) = true) (h2 : gHas pp (nI 6) = true) : gMi l D cI cZ A g yX8_job wsX8_job ({ frames := 1, cells := 0, slots := 0, locals := 25 }) [.ref (a 22), .int (nI (cl)), .int (pp)] G0 (nI (jn)) (fun G1 => G1[22]? = some (a 22, .inr (8, [.int (nI (zn)), .int (nI (tr)), .ref (a 23), .ref (a 24), .ref (a 25), .ref (a 26), .ref (a 27), .ref (a 28), .ref (a 29), .int (nI (sc)), .int (sg), .int (sr), .int (ss), .int (fed), .int (pap), .int (bar), .int (gB (st)), .ref (a 30), .ref (a 31), .ref (a 32), .int (nI (pn)), .ref (a 33), .ref (a 34), .ref (a 35), .ref (a 36), .int (nI (mn)), .long (q1), .long (q2), .long (q3), .long (q4), .long (q5), .ref (a 37), .ref (a 38), .ref (a 39), .int (nI (jn + 1)), .ref (a 40), .ref (a 41)])) ∧ G1[37]? = some (a 37, .inl (cI, 7, .inl (fun j => nI ((vf_upd co jn cl) j)))) ∧ G1[38]? = some (a 38, .inl (cI, 7, .inl (upd pa jn pp))) ∧ ∀ k, k ∉ [22, 37, 38] → G1[k]? = G0[k]?) := by
  refine gof_i (cc := cX8_job) (maxL := 3) (by decide) rfl (Nat.le_of_ble_eq_true rfl) hD ?_
  intro p e s m args below meth c Q hx hb hml hts hown hK hN hZ hP hS hret ls hl
  have hown : s.vm.findClass RX8 = some m.cls := hown
  have hl : lv_has ls 3 [(0, .ref (a 22)), (1, .int (nI (cl))), (2, .int (pp))] := hl
  obtain ⟨locs, elocs⟩ : ∃ q : List Loc, q = [] := ⟨_, rfl⟩
  rw [← elocs] at hS ⊢
  obtain ⟨H, eH⟩ : ∃ q : Heap, q = s.heap := ⟨_, rfl⟩
  have hP : va_P D vwCl G0 H := eH ▸ hP
  have hS : va_S A s.heap H locs := by rw [eH]; exact hS
  rw [← eH]
  clear elocs eH
  have hiX8 : ∀ w ∈ u_ws RX8 TX8 37, w ∈ wsX8_job := by decide +kernel
  have hk : ∀ k, k ∉ [22, 37, 38] → G0[k]? = G0[k]? := fun _ _ => rfl
  refine lv_iload_n (pc := 0) hx hb dX8_job_0 rfl (lv_at hl 1 rfl) ?_
  refine lv_i2l (v := (nI (cl)).toInt64) (pc := 1) hx hb dX8_job_1 rfl ?_
  refine lv_lconst (v := 0) (pc := 2) hx hb dX8_job_2 (by decide) ?_
  refine lv_ldc2 (own := RX8) (v := (3)) (pc := 3) hx hb hown (hts (.constantLong RX8 178 (3)) (by decide +kernel)) dX8_job_3 ?_
  refine mx_cSi (As := [.long ((nI (cl)).toInt64), .long (0), .long ((3))]) (rest := []) (pc := 6) ⟨hx, hb, hml, hown, hts⟩ (k_X8_in (a := a) (v := (nI (cl)).toInt64) (lo := 0) (hi := (3)) hD  ) (va_cwS 3 hts gX8_job_X8_in rfl rfl rfl (by decide +kernel) ⟨Nat.le_of_ble_eq_true rfl, Nat.le_of_ble_eq_true rfl⟩) hK hN hZ hP hS rfl hl.1 rfl (Nat.le_of_ble_eq_true rfl) dX8_job_6 ⟨Nat.zero_le _, Nat.zero_le _⟩ (fun G' H locs hP hD hS hB => ?_)
  rw [hB] at hP hD
  clear hB G'
  refine mx_beq (tgt := 24) (pc := 9) hx hb dX8_job_9 (by decide) (fun c9 => absurd (c9.symm.trans ((gIn_w (a := nI 0) (b := nI 3) (by decide) (by decide)).trans ((gWi_has 3 (by decide)).trans h1))) (by decide)) (fun c9 => ?_)
  refine lv_iload_n (pc := 12) hx hb dX8_job_12 rfl (lv_at hl 2 rfl) ?_
  refine lv_i2l (v := (pp).toInt64) (pc := 13) hx hb dX8_job_13 rfl ?_
  refine lv_lconst (v := 0) (pc := 14) hx hb dX8_job_14 (by decide) ?_
  refine lv_ldc2 (own := RX8) (v := (5)) (pc := 15) hx hb hown (hts (.constantLong RX8 111 (5)) (by decide +kernel)) dX8_job_15 ?_
  refine mx_cSi (As := [.long ((pp).toInt64), .long (0), .long ((5))]) (rest := []) (pc := 18) ⟨hx, hb, hml, hown, hts⟩ (k_X8_in (a := a) (v := (pp).toInt64) (lo := 0) (hi := (5)) hD  ) (va_cwS 3 hts gX8_job_X8_in rfl rfl rfl (by decide +kernel) ⟨Nat.le_of_ble_eq_true rfl, Nat.le_of_ble_eq_true rfl⟩) hK hN hZ hP hS rfl hl.1 rfl (Nat.le_of_ble_eq_true rfl) dX8_job_18 ⟨Nat.zero_le _, Nat.zero_le _⟩ (fun G' H locs hP hD hS hB => ?_)
  rw [hB] at hP hD
  clear hB G'
  refine mx_bne (tgt := 27) (pc := 21) hx hb dX8_job_21 (by decide) (fun c21 => ?_) (fun c21 => absurd (c21.symm.trans ((gIn_w (a := nI 0) (b := nI 5) (by decide) (by decide)).trans ((gWi_has 5 (by decide)).trans h2))) (by decide))
  refine lv_aload_n (pc := 27) hx hb dX8_job_27 rfl (lv_at hl 0 rfl) ?_
  refine va_get (ci := 8) (C := RX8) (T := TX8) (N := 37) (pc := 28) hx hb hts hiX8 hown hK hP 22 w22 rfl 34 (by decide) (hts (.fieldLink RX8 193 "InkPressModel" "jobs" "I") (by decide +kernel)) (fun _ h9 => h9) rfl dX8_job_28 ?_
  refine lv_bipush (v := nI (7)) (pc := 31) hx hb dX8_job_31 (by decide) ?_
  refine mx_cne (tgt := 39) (pc := 33) hx hb (by omega) (by omega) dX8_job_33 (by decide) (fun c33 => ?_) (fun c33 => absurd c33 (by omega))
  refine lv_aload_n (pc := 39) hx hb dX8_job_39 rfl (lv_at hl 0 rfl) ?_
  refine va_get (ci := 8) (C := RX8) (T := TX8) (N := 37) (pc := 40) hx hb hts hiX8 hown hK hP 22 w22 rfl 31 (by decide) (hts (.fieldLink RX8 63 "InkPressModel" "colour" "[I") (by decide +kernel)) (fun _ h9 => h9) rfl dX8_job_40 ?_
  refine lv_aload_n (pc := 43) hx hb dX8_job_43 rfl (lv_at hl 0 rfl) ?_
  refine va_get (ci := 8) (C := RX8) (T := TX8) (N := 37) (pc := 44) hx hb hts hiX8 hown hK hP 22 w22 rfl 34 (by decide) (hts (.fieldLink RX8 193 "InkPressModel" "jobs" "I") (by decide +kernel)) (fun _ h9 => h9) rfl dX8_job_44 ?_
  refine lv_iload_n (pc := 47) hx hb dX8_job_47 rfl (lv_at hl 1 rfl) ?_
  refine mx_iast (x := nI (cl)) (pc := 48) hx hb hK hP hD hS 37 w37 (jn) (by omega) (by decide) dX8_job_48 (fun H locs G hP hD hS w37 ho => ?_)
  rw [gUpdN] at w37
  have w22 := (ho 22 (by decide)).trans w22
  have w38 := (ho 38 (by decide)).trans w38
  have w37 : G[37]? = some (a 37, .inl (cI, 7, .inl (fun j => nI ((vf_upd (co) (jn) (cl)) j)))) := w37
  have hk := gk_step hk ho (by decide)
  clear ho
  refine lv_aload_n (pc := 49) hx hb dX8_job_49 rfl (lv_at hl 0 rfl) ?_
  refine va_get (ci := 8) (C := RX8) (T := TX8) (N := 37) (pc := 50) hx hb hts hiX8 hown hK hP 22 w22 rfl 32 (by decide) (hts (.fieldLink RX8 66 "InkPressModel" "sheetOf" "[I") (by decide +kernel)) (fun _ h9 => h9) rfl dX8_job_50 ?_
  refine lv_aload_n (pc := 53) hx hb dX8_job_53 rfl (lv_at hl 0 rfl) ?_
  refine va_get (ci := 8) (C := RX8) (T := TX8) (N := 37) (pc := 54) hx hb hts hiX8 hown hK hP 22 w22 rfl 34 (by decide) (hts (.fieldLink RX8 193 "InkPressModel" "jobs" "I") (by decide +kernel)) (fun _ h9 => h9) rfl dX8_job_54 ?_
  refine lv_iload_n (pc := 57) hx hb dX8_job_57 rfl (lv_at hl 2 rfl) ?_
  refine mx_iast (x := pp) (pc := 58) hx hb hK hP hD hS 38 w38 (jn) (by omega) (by decide) dX8_job_58 (fun H locs G hP hD hS w38 ho => ?_)
  have w22 := (ho 22 (by decide)).trans w22
  have w37 := (ho 37 (by decide)).trans w37
  have w38 : G[38]? = some (a 38, .inl (cI, 7, .inl (upd (pa) (jn) (pp)))) := w38
  have hk := gk_step hk ho (by decide)
  clear ho
  refine lv_aload_n (pc := 59) hx hb dX8_job_59 rfl (lv_at hl 0 rfl) ?_
  refine lv_dup (pc := 60) hx hb dX8_job_60 rfl ?_
  refine va_get (ci := 8) (C := RX8) (T := TX8) (N := 37) (pc := 61) hx hb hts hiX8 hown hK hP 22 w22 rfl 34 (by decide) (hts (.fieldLink RX8 193 "InkPressModel" "jobs" "I") (by decide +kernel)) (fun _ h9 => h9) rfl dX8_job_61 ?_
  refine lv_iconst (v := nI (1)) (pc := 64) hx hb dX8_job_64 (by decide) ?_
  refine mx_iadd (pc := 65) hx hb dX8_job_65 ?_
  refine mx_put (ci := 8) (v := .int (nI (jn + 1))) (ty := .int) (C := RX8) (T := TX8) (N := 37) (pc := 66) hx hb hts hiX8 tyX8 tyX8_ok nmX8 hown hK hP hD hS 22 w22 rfl 34 (by decide) (hts (.fieldLink RX8 193 "InkPressModel" "jobs" "I") (by decide +kernel)) (fun _ h9 => h9) rfl (by decide +kernel) rfl rfl (Nat.le_of_ble_eq_true rfl) dX8_job_66 (fun H locs G hP hD hS w22 ho => ?_)
  have w37 := (ho 37 (by decide)).trans w37
  have w38 := (ho 38 (by decide)).trans w38
  have w22 : G[22]? = some (a 22, .inr (8, [.int (nI (zn)), .int (nI (tr)), .ref (a 23), .ref (a 24), .ref (a 25), .ref (a 26), .ref (a 27), .ref (a 28), .ref (a 29), .int (nI (sc)), .int (sg), .int (sr), .int (ss), .int (fed), .int (pap), .int (bar), .int (gB (st)), .ref (a 30), .ref (a 31), .ref (a 32), .int (nI (pn)), .ref (a 33), .ref (a 34), .ref (a 35), .ref (a 36), .int (nI (mn)), .long (q1), .long (q2), .long (q3), .long (q4), .long (q5), .ref (a 37), .ref (a 38), .ref (a 39), .int (nI (jn + 1)), .ref (a 40), .ref (a 41)])) := w22
  have hk := gk_step hk ho (by decide)
  clear ho
  refine lv_aload_n (pc := 69) hx hb dX8_job_69 rfl (lv_at hl 0 rfl) ?_
  refine va_get (ci := 8) (C := RX8) (T := TX8) (N := 37) (pc := 70) hx hb hts hiX8 hown hK hP 22 w22 rfl 34 (by decide) (hts (.fieldLink RX8 193 "InkPressModel" "jobs" "I") (by decide +kernel)) (fun _ h9 => h9) rfl dX8_job_70 ?_
  refine lv_iconst (v := nI (1)) (pc := 73) hx hb dX8_job_73 (by decide) ?_
  refine mx_isub (pc := 74) hx hb (by omega) dX8_job_74 ?_
  exact hret _ _ _ _ _ _ hP hD hS (by rw [Nat.add_sub_cancel]) ⟨w22, w37, w38, hk⟩ dX8_job_75
set_option maxHeartbeats 4000000 in
set_option maxRecDepth 100000 in
theorem k_X8_forget {l : Launch} {D : va_G} {cI cZ : ClassId} {A : Nat → Prop} {g a : Nat → Nat} {G0 : va_W} {zn : Nat} {tr : Nat} {sc : Nat} {pn : Nat} {mn : Nat} {jn : Nat} {sg : Int32} {sr : Int32} {ss : Int32} {fed : Int32} {pap : Int32} {bar : Int32} {st : Bool} {q1 : Int64} {q2 : Int64} {q3 : Int64} {q4 : Int64} {q5 : Int64} (hD : va_D A G0) (w22 : G0[22]? = some (a 22, .inr (8, [.int (nI (zn)), .int (nI (tr)), .ref (a 23), .ref (a 24), .ref (a 25), .ref (a 26), .ref (a 27), .ref (a 28), .ref (a 29), .int (nI (sc)), .int (sg), .int (sr), .int (ss), .int (fed), .int (pap), .int (bar), .int (gB (st)), .ref (a 30), .ref (a 31), .ref (a 32), .int (nI (pn)), .ref (a 33), .ref (a 34), .ref (a 35), .ref (a 36), .int (nI (mn)), .long (q1), .long (q2), .long (q3), .long (q4), .long (q5), .ref (a 37), .ref (a 38), .ref (a 39), .int (nI (jn)), .ref (a 40), .ref (a 41)]))) : gMi l D cI cZ A g yX8_forget wsX8_forget ({ frames := 0, cells := 0, slots := 0, locals := 0 }) [.ref (a 22)] G0 (nI (jn)) (fun G1 => G1[22]? = some (a 22, .inr (8, [.int (nI (zn)), .int (nI (tr)), .ref (a 23), .ref (a 24), .ref (a 25), .ref (a 26), .ref (a 27), .ref (a 28), .ref (a 29), .int (nI (sc)), .int (sg), .int (sr), .int (ss), .int (fed), .int (pap), .int (bar), .int (gB (st)), .ref (a 30), .ref (a 31), .ref (a 32), .int (nI (pn)), .ref (a 33), .ref (a 34), .ref (a 35), .ref (a 36), .int (nI (mn)), .long (q1), .long (q2), .long (q3), .long (q4), .long (q5), .ref (a 37), .ref (a 38), .ref (a 39), .int (nI (0)), .ref (a 40), .ref (a 41)])) ∧ ∀ k, k ∉ [22] → G1[k]? = G0[k]?) := by
  refine gof_i (cc := cX8_forget) (maxL := 2) (by decide) rfl (Nat.le_of_ble_eq_true rfl) hD ?_
  intro p e s m args below meth c Q hx hb hml hts hown hK hN hZ hP hS hret ls hl
  have hown : s.vm.findClass RX8 = some m.cls := hown
  have hl : lv_has ls 2 [(0, .ref (a 22))] := hl
  obtain ⟨locs, elocs⟩ : ∃ q : List Loc, q = [] := ⟨_, rfl⟩
  rw [← elocs] at hS ⊢
  obtain ⟨H, eH⟩ : ∃ q : Heap, q = s.heap := ⟨_, rfl⟩
  have hP : va_P D vwCl G0 H := eH ▸ hP
  have hS : va_S A s.heap H locs := by rw [eH]; exact hS
  rw [← eH]
  clear elocs eH
  have hiX8 : ∀ w ∈ u_ws RX8 TX8 37, w ∈ wsX8_forget := by decide +kernel
  have hk : ∀ k, k ∉ [22] → G0[k]? = G0[k]? := fun _ _ => rfl
  refine lv_aload_n (pc := 0) hx hb dX8_forget_0 rfl (lv_at hl 0 rfl) ?_
  refine va_get (ci := 8) (C := RX8) (T := TX8) (N := 37) (pc := 1) hx hb hts hiX8 hown hK hP 22 w22 rfl 34 (by decide) (hts (.fieldLink RX8 193 "InkPressModel" "jobs" "I") (by decide +kernel)) (fun _ h9 => h9) rfl dX8_forget_1 ?_
  refine lv_istore_n (lv' := [(1, .int (nI (jn))), (0, .ref (a 22))]) (pc := 4) hx hb dX8_forget_4 rfl hl (by decide) rfl (fun ls hl => ?_)
  refine lv_aload_n (pc := 5) hx hb dX8_forget_5 rfl (lv_at hl 1 rfl) ?_
  refine lv_iconst (v := nI (0)) (pc := 6) hx hb dX8_forget_6 (by decide) ?_
  refine mx_put (ci := 8) (v := .int (nI (0))) (ty := .int) (C := RX8) (T := TX8) (N := 37) (pc := 7) hx hb hts hiX8 tyX8 tyX8_ok nmX8 hown hK hP hD hS 22 w22 rfl 34 (by decide) (hts (.fieldLink RX8 193 "InkPressModel" "jobs" "I") (by decide +kernel)) (fun _ h9 => h9) rfl (by decide +kernel) rfl rfl (Nat.le_of_ble_eq_true rfl) dX8_forget_7 (fun H locs G hP hD hS w22 ho => ?_)
  have w22 : G[22]? = some (a 22, .inr (8, [.int (nI (zn)), .int (nI (tr)), .ref (a 23), .ref (a 24), .ref (a 25), .ref (a 26), .ref (a 27), .ref (a 28), .ref (a 29), .int (nI (sc)), .int (sg), .int (sr), .int (ss), .int (fed), .int (pap), .int (bar), .int (gB (st)), .ref (a 30), .ref (a 31), .ref (a 32), .int (nI (pn)), .ref (a 33), .ref (a 34), .ref (a 35), .ref (a 36), .int (nI (mn)), .long (q1), .long (q2), .long (q3), .long (q4), .long (q5), .ref (a 37), .ref (a 38), .ref (a 39), .int (nI (0)), .ref (a 40), .ref (a 41)])) := w22
  have hk := gk_step hk ho (by decide)
  clear ho
  refine lv_iload_n (pc := 10) hx hb dX8_forget_10 rfl (lv_at hl 0 rfl) ?_
  exact hret _ _ _ _ _ _ hP hD hS rfl ⟨w22, hk⟩ dX8_forget_11
set_option maxHeartbeats 4000000 in
set_option maxRecDepth 100000 in
theorem k_X8_wash_b {l : Launch} {D : va_G} {cI cZ : ClassId} {A : Nat → Prop} {g a : Nat → Nat} {G0 : va_W} {zn : Nat} {tr : Nat} {sc : Nat} {pn : Nat} {mn : Nat} {jn : Nat} {sg : Int32} {sr : Int32} {ss : Int32} {fed : Int32} {pap : Int32} {bar : Int32} {st : Bool} {q1 : Int64} {q2 : Int64} {q3 : Int64} {q4 : Int64} {q5 : Int64} {x : Int32} {y : Int32} {v : Int32} (hD : va_D A G0) (w22 : G0[22]? = some (a 22, .inr (8, [.int (nI (zn)), .int (nI (tr)), .ref (a 23), .ref (a 24), .ref (a 25), .ref (a 26), .ref (a 27), .ref (a 28), .ref (a 29), .int (nI (sc)), .int (sg), .int (sr), .int (ss), .int (fed), .int (pap), .int (bar), .int (gB (st)), .ref (a 30), .ref (a 31), .ref (a 32), .int (nI (pn)), .ref (a 33), .ref (a 34), .ref (a 35), .ref (a 36), .int (nI (mn)), .long (q1), .long (q2), .long (q3), .long (q4), .long (q5), .ref (a 37), .ref (a 38), .ref (a 39), .int (nI (jn)), .ref (a 40), .ref (a 41)]))) (hbad : gHas x (nI 4) = false ∨ gHas y (nI 4) = false) : gMi l D cI cZ A g yX8_wash wsX8_wash ({ frames := 1, cells := 0, slots := 0, locals := 25 }) [.ref (a 22), .int (x), .int (y), .int (v)] G0 ((-1)) (fun G1 => G1 = G0) := by
  refine gof_i (cc := cX8_wash) (maxL := 5) (by decide) rfl (Nat.le_of_ble_eq_true rfl) hD ?_
  intro p e s m args below meth c Q hx hb hml hts hown hK hN hZ hP hS hret ls hl
  have hown : s.vm.findClass RX8 = some m.cls := hown
  have hl : lv_has ls 5 [(0, .ref (a 22)), (1, .int (x)), (2, .int (y)), (3, .int (v))] := hl
  obtain ⟨locs, elocs⟩ : ∃ q : List Loc, q = [] := ⟨_, rfl⟩
  rw [← elocs] at hS ⊢
  obtain ⟨H, eH⟩ : ∃ q : Heap, q = s.heap := ⟨_, rfl⟩
  have hP : va_P D vwCl G0 H := eH ▸ hP
  have hS : va_S A s.heap H locs := by rw [eH]; exact hS
  rw [← eH]
  clear elocs eH
  have hk : ∀ k, k ∉ ([] : List Nat) → G0[k]? = G0[k]? := fun _ _ => rfl
  refine lv_iload_n (pc := 0) hx hb dX8_wash_0 rfl (lv_at hl 1 rfl) ?_
  refine lv_i2l (v := (x).toInt64) (pc := 1) hx hb dX8_wash_1 rfl ?_
  refine lv_lconst (v := 0) (pc := 2) hx hb dX8_wash_2 (by decide) ?_
  refine lv_ldc2 (own := RX8) (v := (3)) (pc := 3) hx hb hown (hts (.constantLong RX8 178 (3)) (by decide +kernel)) dX8_wash_3 ?_
  refine mx_cSi (As := [.long ((x).toInt64), .long (0), .long ((3))]) (rest := []) (pc := 6) ⟨hx, hb, hml, hown, hts⟩ (k_X8_in (a := a) (v := (x).toInt64) (lo := 0) (hi := (3)) hD  ) (va_cwS 3 hts gX8_wash_X8_in rfl rfl rfl (by decide +kernel) ⟨Nat.le_of_ble_eq_true rfl, Nat.le_of_ble_eq_true rfl⟩) hK hN hZ hP hS rfl hl.1 rfl (Nat.le_of_ble_eq_true rfl) dX8_wash_6 ⟨Nat.zero_le _, Nat.zero_le _⟩ (fun G' H locs hP hD hS hB => ?_)
  rw [hB] at hP hD
  clear hB G'
  refine mx_beq (tgt := 24) (pc := 9) hx hb dX8_wash_9 (by decide) (fun c9 => ?_) (fun c9 => ?_)
  · skip
    refine lv_iconst (v := (-1)) (pc := 24) hx hb dX8_wash_24 (by decide) ?_
    exact hret _ _ _ _ _ _ hP hD hS rfl rfl dX8_wash_25
  · skip
    refine lv_iload_n (pc := 12) hx hb dX8_wash_12 rfl (lv_at hl 2 rfl) ?_
    refine lv_i2l (v := (y).toInt64) (pc := 13) hx hb dX8_wash_13 rfl ?_
    refine lv_lconst (v := 0) (pc := 14) hx hb dX8_wash_14 (by decide) ?_
    refine lv_ldc2 (own := RX8) (v := (3)) (pc := 15) hx hb hown (hts (.constantLong RX8 178 (3)) (by decide +kernel)) dX8_wash_15 ?_
    refine mx_cSi (As := [.long ((y).toInt64), .long (0), .long ((3))]) (rest := []) (pc := 18) ⟨hx, hb, hml, hown, hts⟩ (k_X8_in (a := a) (v := (y).toInt64) (lo := 0) (hi := (3)) hD  ) (va_cwS 3 hts gX8_wash_X8_in rfl rfl rfl (by decide +kernel) ⟨Nat.le_of_ble_eq_true rfl, Nat.le_of_ble_eq_true rfl⟩) hK hN hZ hP hS rfl hl.1 rfl (Nat.le_of_ble_eq_true rfl) dX8_wash_18 ⟨Nat.zero_le _, Nat.zero_le _⟩ (fun G' H locs hP hD hS hB => ?_)
    rw [hB] at hP hD
    clear hB G'
    refine mx_bne (tgt := 26) (pc := 21) hx hb dX8_wash_21 (by decide) (fun c21 => ?_) (fun c21 => ?_)
    · skip
      exact (by rw [gIn_w (a := nI 0) (b := nI 3) (by decide) (by decide), gWi_has 3 (by decide)] at c9 c21; simp [c9, c21] at hbad)
    · skip
      refine lv_iconst (v := (-1)) (pc := 24) hx hb dX8_wash_24 (by decide) ?_
      exact hret _ _ _ _ _ _ hP hD hS rfl rfl dX8_wash_25
set_option maxHeartbeats 4000000 in
set_option maxRecDepth 100000 in
theorem k_X8_wash_c {l : Launch} {D : va_G} {cI cZ : ClassId} {A : Nat → Prop} {g a : Nat → Nat} {G0 : va_W} {zn : Nat} {tr : Nat} {sc : Nat} {pn : Nat} {mn : Nat} {jn : Nat} {sg : Int32} {sr : Int32} {ss : Int32} {fed : Int32} {pap : Int32} {bar : Int32} {st : Bool} {q1 : Int64} {q2 : Int64} {q3 : Int64} {q4 : Int64} {q5 : Int64} {x : Int32} {y : Int32} {v : Int32} (hD : va_D A G0) (w22 : G0[22]? = some (a 22, .inr (8, [.int (nI (zn)), .int (nI (tr)), .ref (a 23), .ref (a 24), .ref (a 25), .ref (a 26), .ref (a 27), .ref (a 28), .ref (a 29), .int (nI (sc)), .int (sg), .int (sr), .int (ss), .int (fed), .int (pap), .int (bar), .int (gB (st)), .ref (a 30), .ref (a 31), .ref (a 32), .int (nI (pn)), .ref (a 33), .ref (a 34), .ref (a 35), .ref (a 36), .int (nI (mn)), .long (q1), .long (q2), .long (q3), .long (q4), .long (q5), .ref (a 37), .ref (a 38), .ref (a 39), .int (nI (jn)), .ref (a 40), .ref (a 41)]))) (h1 : gHas x (nI 4) = true) (h2 : gHas y (nI 4) = true) (h3 : gWi v (nI 0) (nI 100) = false) : gMi l D cI cZ A g yX8_wash wsX8_wash ({ frames := 1, cells := 0, slots := 0, locals := 25 }) [.ref (a 22), .int (x), .int (y), .int (v)] G0 ((-2)) (fun G1 => G1 = G0) := by
  refine gof_i (cc := cX8_wash) (maxL := 5) (by decide) rfl (Nat.le_of_ble_eq_true rfl) hD ?_
  intro p e s m args below meth c Q hx hb hml hts hown hK hN hZ hP hS hret ls hl
  have hown : s.vm.findClass RX8 = some m.cls := hown
  have hl : lv_has ls 5 [(0, .ref (a 22)), (1, .int (x)), (2, .int (y)), (3, .int (v))] := hl
  obtain ⟨locs, elocs⟩ : ∃ q : List Loc, q = [] := ⟨_, rfl⟩
  rw [← elocs] at hS ⊢
  obtain ⟨H, eH⟩ : ∃ q : Heap, q = s.heap := ⟨_, rfl⟩
  have hP : va_P D vwCl G0 H := eH ▸ hP
  have hS : va_S A s.heap H locs := by rw [eH]; exact hS
  rw [← eH]
  clear elocs eH
  have hk : ∀ k, k ∉ ([] : List Nat) → G0[k]? = G0[k]? := fun _ _ => rfl
  refine lv_iload_n (pc := 0) hx hb dX8_wash_0 rfl (lv_at hl 1 rfl) ?_
  refine lv_i2l (v := (x).toInt64) (pc := 1) hx hb dX8_wash_1 rfl ?_
  refine lv_lconst (v := 0) (pc := 2) hx hb dX8_wash_2 (by decide) ?_
  refine lv_ldc2 (own := RX8) (v := (3)) (pc := 3) hx hb hown (hts (.constantLong RX8 178 (3)) (by decide +kernel)) dX8_wash_3 ?_
  refine mx_cSi (As := [.long ((x).toInt64), .long (0), .long ((3))]) (rest := []) (pc := 6) ⟨hx, hb, hml, hown, hts⟩ (k_X8_in (a := a) (v := (x).toInt64) (lo := 0) (hi := (3)) hD  ) (va_cwS 3 hts gX8_wash_X8_in rfl rfl rfl (by decide +kernel) ⟨Nat.le_of_ble_eq_true rfl, Nat.le_of_ble_eq_true rfl⟩) hK hN hZ hP hS rfl hl.1 rfl (Nat.le_of_ble_eq_true rfl) dX8_wash_6 ⟨Nat.zero_le _, Nat.zero_le _⟩ (fun G' H locs hP hD hS hB => ?_)
  rw [hB] at hP hD
  clear hB G'
  refine mx_beq (tgt := 24) (pc := 9) hx hb dX8_wash_9 (by decide) (fun c9 => absurd (c9.symm.trans ((gIn_w (a := nI 0) (b := nI 3) (by decide) (by decide)).trans ((gWi_has 3 (by decide)).trans h1))) (by decide)) (fun c9 => ?_)
  refine lv_iload_n (pc := 12) hx hb dX8_wash_12 rfl (lv_at hl 2 rfl) ?_
  refine lv_i2l (v := (y).toInt64) (pc := 13) hx hb dX8_wash_13 rfl ?_
  refine lv_lconst (v := 0) (pc := 14) hx hb dX8_wash_14 (by decide) ?_
  refine lv_ldc2 (own := RX8) (v := (3)) (pc := 15) hx hb hown (hts (.constantLong RX8 178 (3)) (by decide +kernel)) dX8_wash_15 ?_
  refine mx_cSi (As := [.long ((y).toInt64), .long (0), .long ((3))]) (rest := []) (pc := 18) ⟨hx, hb, hml, hown, hts⟩ (k_X8_in (a := a) (v := (y).toInt64) (lo := 0) (hi := (3)) hD  ) (va_cwS 3 hts gX8_wash_X8_in rfl rfl rfl (by decide +kernel) ⟨Nat.le_of_ble_eq_true rfl, Nat.le_of_ble_eq_true rfl⟩) hK hN hZ hP hS rfl hl.1 rfl (Nat.le_of_ble_eq_true rfl) dX8_wash_18 ⟨Nat.zero_le _, Nat.zero_le _⟩ (fun G' H locs hP hD hS hB => ?_)
  rw [hB] at hP hD
  clear hB G'
  refine mx_bne (tgt := 26) (pc := 21) hx hb dX8_wash_21 (by decide) (fun c21 => ?_) (fun c21 => absurd (c21.symm.trans ((gIn_w (a := nI 0) (b := nI 3) (by decide) (by decide)).trans ((gWi_has 3 (by decide)).trans h2))) (by decide))
  refine lv_iload_n (pc := 26) hx hb dX8_wash_26 rfl (lv_at hl 3 rfl) ?_
  refine lv_i2l (v := (v).toInt64) (pc := 27) hx hb dX8_wash_27 rfl ?_
  refine lv_lconst (v := 0) (pc := 28) hx hb dX8_wash_28 (by decide) ?_
  refine lv_ldc2 (own := RX8) (v := (100)) (pc := 29) hx hb hown (hts (.constantLong RX8 125 (100)) (by decide +kernel)) dX8_wash_29 ?_
  refine mx_cSi (As := [.long ((v).toInt64), .long (0), .long ((100))]) (rest := []) (pc := 32) ⟨hx, hb, hml, hown, hts⟩ (k_X8_in (a := a) (v := (v).toInt64) (lo := 0) (hi := (100)) hD  ) (va_cwS 3 hts gX8_wash_X8_in rfl rfl rfl (by decide +kernel) ⟨Nat.le_of_ble_eq_true rfl, Nat.le_of_ble_eq_true rfl⟩) hK hN hZ hP hS rfl hl.1 rfl (Nat.le_of_ble_eq_true rfl) dX8_wash_32 ⟨Nat.zero_le _, Nat.zero_le _⟩ (fun G' H locs hP hD hS hB => ?_)
  rw [hB] at hP hD
  clear hB G'
  refine mx_bne (tgt := 41) (pc := 35) hx hb dX8_wash_35 (by decide) (fun c35 => absurd (c35.symm.trans ((gIn_w (a := nI 0) (b := nI 100) (by decide) (by decide)).trans h3)) (by decide)) (fun c35 => ?_)
  refine lv_bipush (v := (-2)) (pc := 38) hx hb dX8_wash_38 (by decide) ?_
  exact hret _ _ _ _ _ _ hP hD hS rfl rfl dX8_wash_40
set_option maxHeartbeats 4000000 in
set_option maxRecDepth 100000 in
theorem k_X8_wash_d {l : Launch} {D : va_G} {cI cZ : ClassId} {A : Nat → Prop} {g a : Nat → Nat} {G0 : va_W} {zn : Nat} {tr : Nat} {sc : Nat} {pn : Nat} {mn : Nat} {jn : Nat} {sg : Int32} {sr : Int32} {ss : Int32} {fed : Int32} {pap : Int32} {bar : Int32} {st : Bool} {q1 : Int64} {q2 : Int64} {q3 : Int64} {q4 : Int64} {q5 : Int64} {x : Int32} {y : Int32} {v : Int32} (hD : va_D A G0) (w22 : G0[22]? = some (a 22, .inr (8, [.int (nI (zn)), .int (nI (tr)), .ref (a 23), .ref (a 24), .ref (a 25), .ref (a 26), .ref (a 27), .ref (a 28), .ref (a 29), .int (nI (sc)), .int (sg), .int (sr), .int (ss), .int (fed), .int (pap), .int (bar), .int (gB (st)), .ref (a 30), .ref (a 31), .ref (a 32), .int (nI (pn)), .ref (a 33), .ref (a 34), .ref (a 35), .ref (a 36), .int (nI (mn)), .long (q1), .long (q2), .long (q3), .long (q4), .long (q5), .ref (a 37), .ref (a 38), .ref (a 39), .int (nI (jn)), .ref (a 40), .ref (a 41)]))) (h1 : gHas x (nI 4) = true) (h2 : gHas y (nI 4) = true) (h3 : gWi v (nI 0) (nI 100) = true) (h4 : x = y) : gMi l D cI cZ A g yX8_wash wsX8_wash ({ frames := 1, cells := 0, slots := 0, locals := 25 }) [.ref (a 22), .int (x), .int (y), .int (v)] G0 ((-5)) (fun G1 => G1 = G0) := by
  refine gof_i (cc := cX8_wash) (maxL := 5) (by decide) rfl (Nat.le_of_ble_eq_true rfl) hD ?_
  intro p e s m args below meth c Q hx hb hml hts hown hK hN hZ hP hS hret ls hl
  have hown : s.vm.findClass RX8 = some m.cls := hown
  have hl : lv_has ls 5 [(0, .ref (a 22)), (1, .int (x)), (2, .int (y)), (3, .int (v))] := hl
  obtain ⟨locs, elocs⟩ : ∃ q : List Loc, q = [] := ⟨_, rfl⟩
  rw [← elocs] at hS ⊢
  obtain ⟨H, eH⟩ : ∃ q : Heap, q = s.heap := ⟨_, rfl⟩
  have hP : va_P D vwCl G0 H := eH ▸ hP
  have hS : va_S A s.heap H locs := by rw [eH]; exact hS
  rw [← eH]
  clear elocs eH
  have hk : ∀ k, k ∉ ([] : List Nat) → G0[k]? = G0[k]? := fun _ _ => rfl
  refine lv_iload_n (pc := 0) hx hb dX8_wash_0 rfl (lv_at hl 1 rfl) ?_
  refine lv_i2l (v := (x).toInt64) (pc := 1) hx hb dX8_wash_1 rfl ?_
  refine lv_lconst (v := 0) (pc := 2) hx hb dX8_wash_2 (by decide) ?_
  refine lv_ldc2 (own := RX8) (v := (3)) (pc := 3) hx hb hown (hts (.constantLong RX8 178 (3)) (by decide +kernel)) dX8_wash_3 ?_
  refine mx_cSi (As := [.long ((x).toInt64), .long (0), .long ((3))]) (rest := []) (pc := 6) ⟨hx, hb, hml, hown, hts⟩ (k_X8_in (a := a) (v := (x).toInt64) (lo := 0) (hi := (3)) hD  ) (va_cwS 3 hts gX8_wash_X8_in rfl rfl rfl (by decide +kernel) ⟨Nat.le_of_ble_eq_true rfl, Nat.le_of_ble_eq_true rfl⟩) hK hN hZ hP hS rfl hl.1 rfl (Nat.le_of_ble_eq_true rfl) dX8_wash_6 ⟨Nat.zero_le _, Nat.zero_le _⟩ (fun G' H locs hP hD hS hB => ?_)
  rw [hB] at hP hD
  clear hB G'
  refine mx_beq (tgt := 24) (pc := 9) hx hb dX8_wash_9 (by decide) (fun c9 => absurd (c9.symm.trans ((gIn_w (a := nI 0) (b := nI 3) (by decide) (by decide)).trans ((gWi_has 3 (by decide)).trans h1))) (by decide)) (fun c9 => ?_)
  refine lv_iload_n (pc := 12) hx hb dX8_wash_12 rfl (lv_at hl 2 rfl) ?_
  refine lv_i2l (v := (y).toInt64) (pc := 13) hx hb dX8_wash_13 rfl ?_
  refine lv_lconst (v := 0) (pc := 14) hx hb dX8_wash_14 (by decide) ?_
  refine lv_ldc2 (own := RX8) (v := (3)) (pc := 15) hx hb hown (hts (.constantLong RX8 178 (3)) (by decide +kernel)) dX8_wash_15 ?_
  refine mx_cSi (As := [.long ((y).toInt64), .long (0), .long ((3))]) (rest := []) (pc := 18) ⟨hx, hb, hml, hown, hts⟩ (k_X8_in (a := a) (v := (y).toInt64) (lo := 0) (hi := (3)) hD  ) (va_cwS 3 hts gX8_wash_X8_in rfl rfl rfl (by decide +kernel) ⟨Nat.le_of_ble_eq_true rfl, Nat.le_of_ble_eq_true rfl⟩) hK hN hZ hP hS rfl hl.1 rfl (Nat.le_of_ble_eq_true rfl) dX8_wash_18 ⟨Nat.zero_le _, Nat.zero_le _⟩ (fun G' H locs hP hD hS hB => ?_)
  rw [hB] at hP hD
  clear hB G'
  refine mx_bne (tgt := 26) (pc := 21) hx hb dX8_wash_21 (by decide) (fun c21 => ?_) (fun c21 => absurd (c21.symm.trans ((gIn_w (a := nI 0) (b := nI 3) (by decide) (by decide)).trans ((gWi_has 3 (by decide)).trans h2))) (by decide))
  refine lv_iload_n (pc := 26) hx hb dX8_wash_26 rfl (lv_at hl 3 rfl) ?_
  refine lv_i2l (v := (v).toInt64) (pc := 27) hx hb dX8_wash_27 rfl ?_
  refine lv_lconst (v := 0) (pc := 28) hx hb dX8_wash_28 (by decide) ?_
  refine lv_ldc2 (own := RX8) (v := (100)) (pc := 29) hx hb hown (hts (.constantLong RX8 125 (100)) (by decide +kernel)) dX8_wash_29 ?_
  refine mx_cSi (As := [.long ((v).toInt64), .long (0), .long ((100))]) (rest := []) (pc := 32) ⟨hx, hb, hml, hown, hts⟩ (k_X8_in (a := a) (v := (v).toInt64) (lo := 0) (hi := (100)) hD  ) (va_cwS 3 hts gX8_wash_X8_in rfl rfl rfl (by decide +kernel) ⟨Nat.le_of_ble_eq_true rfl, Nat.le_of_ble_eq_true rfl⟩) hK hN hZ hP hS rfl hl.1 rfl (Nat.le_of_ble_eq_true rfl) dX8_wash_32 ⟨Nat.zero_le _, Nat.zero_le _⟩ (fun G' H locs hP hD hS hB => ?_)
  rw [hB] at hP hD
  clear hB G'
  refine mx_bne (tgt := 41) (pc := 35) hx hb dX8_wash_35 (by decide) (fun c35 => ?_) (fun c35 => absurd (c35.symm.trans ((gIn_w (a := nI 0) (b := nI 100) (by decide) (by decide)).trans h3)) (by decide))
  refine lv_iload_n (pc := 41) hx hb dX8_wash_41 rfl (lv_at hl 1 rfl) ?_
  refine lv_iload_n (pc := 42) hx hb dX8_wash_42 rfl (lv_at hl 2 rfl) ?_
  refine lv_icmp_ne (tgt := 49) (pc := 43) hx hb dX8_wash_43 (by decide) (fun c43 => absurd h4 c43) (fun c43 => ?_)
  refine lv_bipush (v := (-5)) (pc := 46) hx hb dX8_wash_46 (by decide) ?_
  exact hret _ _ _ _ _ _ hP hD hS rfl rfl dX8_wash_48
set_option maxHeartbeats 4000000 in
set_option maxRecDepth 100000 in
theorem k_X8_wash_k {l : Launch} {D : va_G} {cI cZ : ClassId} {A : Nat → Prop} {g a : Nat → Nat} {G0 : va_W} {zn : Nat} {tr : Nat} {sc : Nat} {pn : Nat} {mn : Nat} {jn : Nat} {sg : Int32} {sr : Int32} {ss : Int32} {fed : Int32} {pap : Int32} {bar : Int32} {st : Bool} {q1 : Int64} {q2 : Int64} {q3 : Int64} {q4 : Int64} {q5 : Int64} {wa : Nat → Int32} {fr : Nat} {to : Nat} {v : Int32} (hD : va_D A G0) (w22 : G0[22]? = some (a 22, .inr (8, [.int (nI (zn)), .int (nI (tr)), .ref (a 23), .ref (a 24), .ref (a 25), .ref (a 26), .ref (a 27), .ref (a 28), .ref (a 29), .int (nI (sc)), .int (sg), .int (sr), .int (ss), .int (fed), .int (pap), .int (bar), .int (gB (st)), .ref (a 30), .ref (a 31), .ref (a 32), .int (nI (pn)), .ref (a 33), .ref (a 34), .ref (a 35), .ref (a 36), .int (nI (mn)), .long (q1), .long (q2), .long (q3), .long (q4), .long (q5), .ref (a 37), .ref (a 38), .ref (a 39), .int (nI (jn)), .ref (a 40), .ref (a 41)]))) (w39 : G0[39]? = some (a 39, .inl (cI, 16, .inl (wa)))) (hf : fr < 4) (ht : to < 4) (hne : fr ≠ to) (h1 : gHas (nI fr) (nI 4) = true) (h2 : gHas (nI to) (nI 4) = true) (h3 : gWi v (nI 0) (nI 100) = true) : gMi l D cI cZ A g yX8_wash wsX8_wash ({ frames := 1, cells := 0, slots := 0, locals := 25 }) [.ref (a 22), .int (nI (fr)), .int (nI (to)), .int (v)] G0 (wa (4 * fr + to)) (fun G1 => G1[39]? = some (a 39, .inl (cI, 16, .inl (upd wa (4 * fr + to) v))) ∧ ∀ k, k ∉ [39] → G1[k]? = G0[k]?) := by
  refine gof_i (cc := cX8_wash) (maxL := 5) (by decide) rfl (Nat.le_of_ble_eq_true rfl) hD ?_
  intro p e s m args below meth c Q hx hb hml hts hown hK hN hZ hP hS hret ls hl
  have hown : s.vm.findClass RX8 = some m.cls := hown
  have hl : lv_has ls 5 [(0, .ref (a 22)), (1, .int (nI (fr))), (2, .int (nI (to))), (3, .int (v))] := hl
  obtain ⟨locs, elocs⟩ : ∃ q : List Loc, q = [] := ⟨_, rfl⟩
  rw [← elocs] at hS ⊢
  obtain ⟨H, eH⟩ : ∃ q : Heap, q = s.heap := ⟨_, rfl⟩
  have hP : va_P D vwCl G0 H := eH ▸ hP
  have hS : va_S A s.heap H locs := by rw [eH]; exact hS
  rw [← eH]
  clear elocs eH
  have hiX8 : ∀ w ∈ u_ws RX8 TX8 37, w ∈ wsX8_wash := by decide +kernel
  have hk : ∀ k, k ∉ [39] → G0[k]? = G0[k]? := fun _ _ => rfl
  refine lv_iload_n (pc := 0) hx hb dX8_wash_0 rfl (lv_at hl 1 rfl) ?_
  refine lv_i2l (v := (nI (fr)).toInt64) (pc := 1) hx hb dX8_wash_1 rfl ?_
  refine lv_lconst (v := 0) (pc := 2) hx hb dX8_wash_2 (by decide) ?_
  refine lv_ldc2 (own := RX8) (v := (3)) (pc := 3) hx hb hown (hts (.constantLong RX8 178 (3)) (by decide +kernel)) dX8_wash_3 ?_
  refine mx_cSi (As := [.long ((nI (fr)).toInt64), .long (0), .long ((3))]) (rest := []) (pc := 6) ⟨hx, hb, hml, hown, hts⟩ (k_X8_in (a := a) (v := (nI (fr)).toInt64) (lo := 0) (hi := (3)) hD  ) (va_cwS 3 hts gX8_wash_X8_in rfl rfl rfl (by decide +kernel) ⟨Nat.le_of_ble_eq_true rfl, Nat.le_of_ble_eq_true rfl⟩) hK hN hZ hP hS rfl hl.1 rfl (Nat.le_of_ble_eq_true rfl) dX8_wash_6 ⟨Nat.zero_le _, Nat.zero_le _⟩ (fun G' H locs hP hD hS hB => ?_)
  rw [hB] at hP hD
  clear hB G'
  refine mx_beq (tgt := 24) (pc := 9) hx hb dX8_wash_9 (by decide) (fun c9 => absurd (c9.symm.trans ((gIn_w (a := nI 0) (b := nI 3) (by decide) (by decide)).trans ((gWi_has 3 (by decide)).trans h1))) (by decide)) (fun c9 => ?_)
  refine lv_iload_n (pc := 12) hx hb dX8_wash_12 rfl (lv_at hl 2 rfl) ?_
  refine lv_i2l (v := (nI (to)).toInt64) (pc := 13) hx hb dX8_wash_13 rfl ?_
  refine lv_lconst (v := 0) (pc := 14) hx hb dX8_wash_14 (by decide) ?_
  refine lv_ldc2 (own := RX8) (v := (3)) (pc := 15) hx hb hown (hts (.constantLong RX8 178 (3)) (by decide +kernel)) dX8_wash_15 ?_
  refine mx_cSi (As := [.long ((nI (to)).toInt64), .long (0), .long ((3))]) (rest := []) (pc := 18) ⟨hx, hb, hml, hown, hts⟩ (k_X8_in (a := a) (v := (nI (to)).toInt64) (lo := 0) (hi := (3)) hD  ) (va_cwS 3 hts gX8_wash_X8_in rfl rfl rfl (by decide +kernel) ⟨Nat.le_of_ble_eq_true rfl, Nat.le_of_ble_eq_true rfl⟩) hK hN hZ hP hS rfl hl.1 rfl (Nat.le_of_ble_eq_true rfl) dX8_wash_18 ⟨Nat.zero_le _, Nat.zero_le _⟩ (fun G' H locs hP hD hS hB => ?_)
  rw [hB] at hP hD
  clear hB G'
  refine mx_bne (tgt := 26) (pc := 21) hx hb dX8_wash_21 (by decide) (fun c21 => ?_) (fun c21 => absurd (c21.symm.trans ((gIn_w (a := nI 0) (b := nI 3) (by decide) (by decide)).trans ((gWi_has 3 (by decide)).trans h2))) (by decide))
  refine lv_iload_n (pc := 26) hx hb dX8_wash_26 rfl (lv_at hl 3 rfl) ?_
  refine lv_i2l (v := (v).toInt64) (pc := 27) hx hb dX8_wash_27 rfl ?_
  refine lv_lconst (v := 0) (pc := 28) hx hb dX8_wash_28 (by decide) ?_
  refine lv_ldc2 (own := RX8) (v := (100)) (pc := 29) hx hb hown (hts (.constantLong RX8 125 (100)) (by decide +kernel)) dX8_wash_29 ?_
  refine mx_cSi (As := [.long ((v).toInt64), .long (0), .long ((100))]) (rest := []) (pc := 32) ⟨hx, hb, hml, hown, hts⟩ (k_X8_in (a := a) (v := (v).toInt64) (lo := 0) (hi := (100)) hD  ) (va_cwS 3 hts gX8_wash_X8_in rfl rfl rfl (by decide +kernel) ⟨Nat.le_of_ble_eq_true rfl, Nat.le_of_ble_eq_true rfl⟩) hK hN hZ hP hS rfl hl.1 rfl (Nat.le_of_ble_eq_true rfl) dX8_wash_32 ⟨Nat.zero_le _, Nat.zero_le _⟩ (fun G' H locs hP hD hS hB => ?_)
  rw [hB] at hP hD
  clear hB G'
  refine mx_bne (tgt := 41) (pc := 35) hx hb dX8_wash_35 (by decide) (fun c35 => ?_) (fun c35 => absurd (c35.symm.trans ((gIn_w (a := nI 0) (b := nI 100) (by decide) (by decide)).trans h3)) (by decide))
  refine lv_iload_n (pc := 41) hx hb dX8_wash_41 rfl (lv_at hl 1 rfl) ?_
  refine lv_iload_n (pc := 42) hx hb dX8_wash_42 rfl (lv_at hl 2 rfl) ?_
  refine mx_cne (tgt := 49) (pc := 43) hx hb (by omega) (by omega) dX8_wash_43 (by decide) (fun c43 => ?_) (fun c43 => absurd c43 hne)
  refine lv_aload_n (pc := 49) hx hb dX8_wash_49 rfl (lv_at hl 0 rfl) ?_
  refine va_get (ci := 8) (C := RX8) (T := TX8) (N := 37) (pc := 50) hx hb hts hiX8 hown hK hP 22 w22 rfl 33 (by decide) (hts (.fieldLink RX8 69 "InkPressModel" "washes" "[I") (by decide +kernel)) (fun _ h9 => h9) rfl dX8_wash_50 ?_
  refine lv_iconst (v := nI (4)) (pc := 53) hx hb dX8_wash_53 (by decide) ?_
  refine lv_iload_n (pc := 54) hx hb dX8_wash_54 rfl (lv_at hl 1 rfl) ?_
  refine mx_imul (pc := 55) hx hb dX8_wash_55 ?_
  refine lv_iload_n (pc := 56) hx hb dX8_wash_56 rfl (lv_at hl 2 rfl) ?_
  refine mx_iadd (pc := 57) hx hb dX8_wash_57 ?_
  refine mx_iald (pc := 58) hx hb hK hP 39 w39 ((4) * (fr) + to) (by omega) (by decide) dX8_wash_58 ?_
  refine lv_istore (lv' := [(4, .int ((wa) ((4) * (fr) + to))), (0, .ref (a 22)), (1, .int (nI (fr))), (2, .int (nI (to))), (3, .int (v))]) (pc := 59) hx hb dX8_wash_59 hl (by decide) rfl (fun ls hl => ?_)
  refine lv_aload_n (pc := 61) hx hb dX8_wash_61 rfl (lv_at hl 1 rfl) ?_
  refine va_get (ci := 8) (C := RX8) (T := TX8) (N := 37) (pc := 62) hx hb hts hiX8 hown hK hP 22 w22 rfl 33 (by decide) (hts (.fieldLink RX8 69 "InkPressModel" "washes" "[I") (by decide +kernel)) (fun _ h9 => h9) rfl dX8_wash_62 ?_
  refine lv_iconst (v := nI (4)) (pc := 65) hx hb dX8_wash_65 (by decide) ?_
  refine lv_iload_n (pc := 66) hx hb dX8_wash_66 rfl (lv_at hl 2 rfl) ?_
  refine mx_imul (pc := 67) hx hb dX8_wash_67 ?_
  refine lv_iload_n (pc := 68) hx hb dX8_wash_68 rfl (lv_at hl 3 rfl) ?_
  refine mx_iadd (pc := 69) hx hb dX8_wash_69 ?_
  refine lv_iload_n (pc := 70) hx hb dX8_wash_70 rfl (lv_at hl 4 rfl) ?_
  refine mx_iast (x := v) (pc := 71) hx hb hK hP hD hS 39 w39 ((4) * (fr) + to) (by omega) (by decide) dX8_wash_71 (fun H locs G hP hD hS w39 ho => ?_)
  have w22 := (ho 22 (by decide)).trans w22
  have w39 : G[39]? = some (a 39, .inl (cI, 16, .inl (upd (wa) ((4) * (fr) + to) (v)))) := w39
  have hk := gk_step hk ho (by decide)
  clear ho
  refine lv_iload (pc := 72) hx hb dX8_wash_72 (lv_at hl 0 rfl) ?_
  exact hret _ _ _ _ _ _ hP hD hS rfl ⟨w39, hk⟩ dX8_wash_74
