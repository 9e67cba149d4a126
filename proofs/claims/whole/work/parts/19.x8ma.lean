/-! the reference: marks, small methods of jobs -/
def gPl (x y : Int32) (n : Nat) : Bool := gIn x.toInt64 (-(nI n)).toInt64 (nI n).toInt64 && gIn y.toInt64 (-(nI n)).toInt64 (nI n).toInt64
theorem gPl_0 {x y : Int32} {n : Nat} (h : gIn x.toInt64 (-(nI n)).toInt64 (nI n).toInt64 = false) : nI 0 = gB (gPl x y n) := by
  unfold gPl
  rw [h]
  rfl
theorem gPl_1 {x y : Int32} {n : Nat} (h : gIn y.toInt64 (-(nI n)).toInt64 (nI n).toInt64 = false) : nI 0 = gB (gPl x y n) := by
  unfold gPl
  rw [h, Bool.and_false]
  rfl
theorem gPl_2 {x y : Int32} {n : Nat} (h : gIn x.toInt64 (-(nI n)).toInt64 (nI n).toInt64 = true) (h2 : gIn y.toInt64 (-(nI n)).toInt64 (nI n).toInt64 = true) : nI 1 = gB (gPl x y n) := by
  unfold gPl
  rw [h, h2]
  rfl
def gMlab (u : Int64) : Int64 := if 0 ≤ u then u else -u
theorem gMlab_p {u : Int64} (h : 0 ≤ u) : gMlab u = u := if_pos h
theorem gMlab_n {u : Int64} (h : ¬ 0 ≤ u) : gMlab u = -u := if_neg h
theorem gGcdN {x y : Nat} (_h : 0 < y) : Nat.gcd x y = Nat.gcd y (x % y) := by
  rw [Nat.gcd_comm x y, Nat.gcd_rec y x, Nat.gcd_comm]
theorem gGcd_ne {x y : Nat} (h : 0 < y) (_hx : x < 2 ^ 63) (hy : y < 2 ^ 63) : ¬ lN (Nat.gcd x y) = 0 := by
  intro q
  have h1 : Nat.gcd x y ≤ y := Nat.gcd_le_right x h
  have h2 : 0 < Nat.gcd x y := Nat.gcd_pos_of_pos_right x h
  have := (pk_lEQ (by omega) (by decide)).mp (show lN (Nat.gcd x y) = lN 0 from q)
  omega
set_option maxHeartbeats 4000000 in
set_option maxRecDepth 100000 in
theorem k_X8_isPlace {l : Launch} {D : va_G} {cI cZ : ClassId} {A : Nat → Prop} {g a : Nat → Nat} {G0 : va_W} {x : Int32} {y : Int32} {fa : Nat} (hD : va_D A G0) : gMi l D cI cZ A g yX8_isPlace wsX8_isPlace ({ frames := 1, cells := 0, slots := 0, locals := 25 }) [.int (x), .int (y), .int (nI (fa))] G0 (gB (gPl x y fa)) (fun G1 => G1 = G0) := by
  refine gof_z (cc := cX8_isPlace) (maxL := 3) (by decide) rfl (Nat.le_of_ble_eq_true rfl) hD ?_
  intro p e s m args below meth c Q hx hb hml hts hown hK hN hZ hP hS hret ls hl
  have hown : s.vm.findClass RX8 = some m.cls := hown
  have hl : lv_has ls 3 [(0, .int (x)), (1, .int (y)), (2, .int (nI (fa)))] := hl
  obtain ⟨locs, elocs⟩ : ∃ q : List Loc, q = [] := ⟨_, rfl⟩
  rw [← elocs] at hS ⊢
  obtain ⟨H, eH⟩ : ∃ q : Heap, q = s.heap := ⟨_, rfl⟩
  have hP : va_P D vwCl G0 H := eH ▸ hP
  have hS : va_S A s.heap H locs := by rw [eH]; exact hS
  rw [← eH]
  clear elocs eH
  have hk : ∀ k, k ∉ ([] : List Nat) → G0[k]? = G0[k]? := fun _ _ => rfl
  refine lv_iload_n (pc := 0) hx hb dX8_isPlace_0 rfl (lv_at hl 0 rfl) ?_
  refine lv_i2l (v := (x).toInt64) (pc := 1) hx hb dX8_isPlace_1 rfl ?_
  refine lv_iload_n (pc := 2) hx hb dX8_isPlace_2 rfl (lv_at hl 2 rfl) ?_
  refine lv_ineg (pc := 3) hx hb dX8_isPlace_3 ?_
  refine lv_i2l (v := ((-(nI (fa)))).toInt64) (pc := 4) hx hb dX8_isPlace_4 rfl ?_
  refine lv_iload_n (pc := 5) hx hb dX8_isPlace_5 rfl (lv_at hl 2 rfl) ?_
  refine lv_i2l (v := (nI (fa)).toInt64) (pc := 6) hx hb dX8_isPlace_6 rfl ?_
  refine mx_cSi (As := [.long ((x).toInt64), .long (((-(nI (fa)))).toInt64), .long ((nI (fa)).toInt64)]) (rest := []) (pc := 7) ⟨hx, hb, hml, hown, hts⟩ (k_X8_in (a := a) (v := (x).toInt64) (lo := ((-(nI (fa)))).toInt64) (hi := (nI (fa)).toInt64) hD  ) (va_cwS 3 hts gX8_isPlace_X8_in rfl rfl rfl (by decide +kernel) ⟨Nat.le_of_ble_eq_true rfl, Nat.le_of_ble_eq_true rfl⟩) hK hN hZ hP hS rfl hl.1 rfl (Nat.le_of_ble_eq_true rfl) dX8_isPlace_7 ⟨Nat.zero_le _, Nat.zero_le _⟩ (fun G' H locs hP hD hS hB => ?_)
  rw [hB] at hP hD
  clear hB G'
  refine mx_beq (tgt := 30) (pc := 10) hx hb dX8_isPlace_10 (by decide) (fun c10 => ?_) (fun c10 => ?_)
  · skip
    refine lv_iconst (v := nI (0)) (pc := 30) hx hb dX8_isPlace_30 (by decide) ?_
    exact hret _ _ _ _ _ _ hP hD hS rfl (gPl_0 c10) rfl dX8_isPlace_31
  · skip
    refine lv_iload_n (pc := 13) hx hb dX8_isPlace_13 rfl (lv_at hl 1 rfl) ?_
    refine lv_i2l (v := (y).toInt64) (pc := 14) hx hb dX8_isPlace_14 rfl ?_
    refine lv_iload_n (pc := 15) hx hb dX8_isPlace_15 rfl (lv_at hl 2 rfl) ?_
    refine lv_ineg (pc := 16) hx hb dX8_isPlace_16 ?_
    refine lv_i2l (v := ((-(nI (fa)))).toInt64) (pc := 17) hx hb dX8_isPlace_17 rfl ?_
    refine lv_iload_n (pc := 18) hx hb dX8_isPlace_18 rfl (lv_at hl 2 rfl) ?_
    refine lv_i2l (v := (nI (fa)).toInt64) (pc := 19) hx hb dX8_isPlace_19 rfl ?_
    refine mx_cSi (As := [.long ((y).toInt64), .long (((-(nI (fa)))).toInt64), .long ((nI (fa)).toInt64)]) (rest := []) (pc := 20) ⟨hx, hb, hml, hown, hts⟩ (k_X8_in (a := a) (v := (y).toInt64) (lo := ((-(nI (fa)))).toInt64) (hi := (nI (fa)).toInt64) hD  ) (va_cwS 3 hts gX8_isPlace_X8_in rfl rfl rfl (by decide +kernel) ⟨Nat.le_of_ble_eq_true rfl, Nat.le_of_ble_eq_true rfl⟩) hK hN hZ hP hS rfl hl.1 rfl (Nat.le_of_ble_eq_true rfl) dX8_isPlace_20 ⟨Nat.zero_le _, Nat.zero_le _⟩ (fun G' H locs hP hD hS hB => ?_)
    rw [hB] at hP hD
    clear hB G'
    refine mx_beq (tgt := 30) (pc := 23) hx hb dX8_isPlace_23 (by decide) (fun c23 => ?_) (fun c23 => ?_)
    · skip
      refine lv_iconst (v := nI (0)) (pc := 30) hx hb dX8_isPlace_30 (by decide) ?_
      exact hret _ _ _ _ _ _ hP hD hS rfl (gPl_1 c23) rfl dX8_isPlace_31
    · skip
      refine lv_iconst (v := nI (1)) (pc := 26) hx hb dX8_isPlace_26 (by decide) ?_
      refine lv_goto (tgt := 31) (pc := 27) hx hb dX8_isPlace_27 (by decide) ?_
      exact hret _ _ _ _ _ _ hP hD hS rfl (gPl_2 c10 c23) rfl dX8_isPlace_31
set_option maxHeartbeats 4000000 in
set_option maxRecDepth 100000 in
theorem k_X8_mark_b {l : Launch} {D : va_G} {cI cZ : ClassId} {A : Nat → Prop} {g a : Nat → Nat} {G0 : va_W} {zn : Nat} {tr : Nat} {sc : Nat} {pn : Nat} {mn : Nat} {jn : Nat} {sg : Int32} {sr : Int32} {ss : Int32} {fed : Int32} {pap : Int32} {bar : Int32} {st : Bool} {q1 : Int64} {q2 : Int64} {q3 : Int64} {q4 : Int64} {q5 : Int64} {x : Int32} {y : Int32} {u : Int32} {v : Int32} (hD : va_D A G0) (w22 : G0[22]? = some (a 22, .inr (8, [.int (nI (zn)), .int (nI (tr)), .ref (a 23), .ref (a 24), .ref (a 25), .ref (a 26), .ref (a 27), .ref (a 28), .ref (a 29), .int (nI (sc)), .int (sg), .int (sr), .int (ss), .int (fed), .int (pap), .int (bar), .int (gB (st)), .ref (a 30), .ref (a 31), .ref (a 32), .int (nI (pn)), .ref (a 33), .ref (a 34), .ref (a 35), .ref (a 36), .int (nI (mn)), .long (q1), .long (q2), .long (q3), .long (q4), .long (q5), .ref (a 37), .ref (a 38), .ref (a 39), .int (nI (jn)), .ref (a 40), .ref (a 41)]))) (hbad : gPl x y 1000 = false ∨ gPl u v 100 = false) : gMi l D cI cZ A g yX8_mark wsX8_mark ({ frames := 2, cells := 0, slots := 0, locals := 47 }) [.ref (a 22), .int (x), .int (y), .int (u), .int (v)] G0 ((-2)) (fun G1 => G1 = G0) := by
  refine gof_i (cc := cX8_mark) (maxL := 5) (by decide) rfl (Nat.le_of_ble_eq_true rfl) hD ?_
  intro p e s m args below meth c Q hx hb hml hts hown hK hN hZ hP hS hret ls hl
  have hown : s.vm.findClass RX8 = some m.cls := hown
  have hl : lv_has ls 5 [(0, .ref (a 22)), (1, .int (x)), (2, .int (y)), (3, .int (u)), (4, .int (v))] := hl
  obtain ⟨locs, elocs⟩ : ∃ q : List Loc, q = [] := ⟨_, rfl⟩
  rw [← elocs] at hS ⊢
  obtain ⟨H, eH⟩ : ∃ q : Heap, q = s.heap := ⟨_, rfl⟩
  have hP : va_P D vwCl G0 H := eH ▸ hP
  have hS : va_S A s.heap H locs := by rw [eH]; exact hS
  rw [← eH]
  clear elocs eH
  have hk : ∀ k, k ∉ ([] : List Nat) → G0[k]? = G0[k]? := fun _ _ => rfl
  refine lv_iload_n (pc := 0) hx hb dX8_mark_0 rfl (lv_at hl 1 rfl) ?_
  refine lv_iload_n (pc := 1) hx hb dX8_mark_1 rfl (lv_at hl 2 rfl) ?_
  refine lv_sipush (v := nI (1000)) (pc := 2) hx hb dX8_mark_2 (by decide) ?_
  refine mx_cSi (As := [.int (x), .int (y), .int (nI (1000))]) (rest := []) (pc := 5) ⟨hx, hb, hml, hown, hts⟩ (k_X8_isPlace (a := a) (x := x) (y := y) (fa := 1000) hD  ) (va_cwS 3 hts gX8_mark_X8_isPlace rfl rfl rfl (by decide +kernel) ⟨Nat.le_of_ble_eq_true rfl, Nat.le_of_ble_eq_true rfl⟩) hK hN hZ hP hS rfl hl.1 rfl (Nat.le_of_ble_eq_true rfl) dX8_mark_5 ⟨Nat.zero_le _, Nat.zero_le _⟩ (fun G' H locs hP hD hS hB => ?_)
  rw [hB] at hP hD
  clear hB G'
  refine mx_beq (tgt := 22) (pc := 8) hx hb dX8_mark_8 (by decide) (fun c8 => ?_) (fun c8 => ?_)
  · skip
    refine lv_bipush (v := (-2)) (pc := 22) hx hb dX8_mark_22 (by decide) ?_
    exact hret _ _ _ _ _ _ hP hD hS rfl rfl dX8_mark_24
  · skip
    refine lv_iload_n (pc := 11) hx hb dX8_mark_11 rfl (lv_at hl 3 rfl) ?_
    refine lv_iload (pc := 12) hx hb dX8_mark_12 (lv_at hl 4 rfl) ?_
    refine lv_bipush (v := nI (100)) (pc := 14) hx hb dX8_mark_14 (by decide) ?_
    refine mx_cSi (As := [.int (u), .int (v), .int (nI (100))]) (rest := []) (pc := 16) ⟨hx, hb, hml, hown, hts⟩ (k_X8_isPlace (a := a) (x := u) (y := v) (fa := 100) hD  ) (va_cwS 3 hts gX8_mark_X8_isPlace rfl rfl rfl (by decide +kernel) ⟨Nat.le_of_ble_eq_true rfl, Nat.le_of_ble_eq_true rfl⟩) hK hN hZ hP hS rfl hl.1 rfl (Nat.le_of_ble_eq_true rfl) dX8_mark_16 ⟨Nat.zero_le _, Nat.zero_le _⟩ (fun G' H locs hP hD hS hB => ?_)
    rw [hB] at hP hD
    clear hB G'
    refine mx_bne (tgt := 25) (pc := 19) hx hb dX8_mark_19 (by decide) (fun c19 => ?_) (fun c19 => ?_)
    · skip
      exact (by simp [c8, c19] at hbad)
    · skip
      refine lv_bipush (v := (-2)) (pc := 22) hx hb dX8_mark_22 (by decide) ?_
      exact hret _ _ _ _ _ _ hP hD hS rfl rfl dX8_mark_24
set_option maxHeartbeats 4000000 in
set_option maxRecDepth 100000 in
theorem k_X8_mark_c {l : Launch} {D : va_G} {cI cZ : ClassId} {A : Nat → Prop} {g a : Nat → Nat} {G0 : va_W} {zn : Nat} {tr : Nat} {sc : Nat} {pn : Nat} {mn : Nat} {jn : Nat} {sg : Int32} {sr : Int32} {ss : Int32} {fed : Int32} {pap : Int32} {bar : Int32} {st : Bool} {q1 : Int64} {q2 : Int64} {q3 : Int64} {q4 : Int64} {q5 : Int64} {x : Int32} {y : Int32} {u : Int32} {v : Int32} (hD : va_D A G0) (w22 : G0[22]? = some (a 22, .inr (8, [.int (nI (zn)), .int (nI (tr)), .ref (a 23), .ref (a 24), .ref (a 25), .ref (a 26), .ref (a 27), .ref (a 28), .ref (a 29), .int (nI (sc)), .int (sg), .int (sr), .int (ss), .int (fed), .int (pap), .int (bar), .int (gB (st)), .ref (a 30), .ref (a 31), .ref (a 32), .int (nI (pn)), .ref (a 33), .ref (a 34), .ref (a 35), .ref (a 36), .int (nI (mn)), .long (q1), .long (q2), .long (q3), .long (q4), .long (q5), .ref (a 37), .ref (a 38), .ref (a 39), .int (nI (jn)), .ref (a 40), .ref (a 41)]))) (hm : mn = 8) (h1 : gPl x y 1000 = true) (h2 : gPl u v 100 = true) : gMi l D cI cZ A g yX8_mark wsX8_mark ({ frames := 2, cells := 0, slots := 0, locals := 47 }) [.ref (a 22), .int (x), .int (y), .int (u), .int (v)] G0 ((-4)) (fun G1 => G1 = G0) := by
  refine gof_i (cc := cX8_mark) (maxL := 5) (by decide) rfl (Nat.le_of_ble_eq_true rfl) hD ?_
  intro p e s m args below meth c Q hx hb hml hts hown hK hN hZ hP hS hret ls hl
  have hown : s.vm.findClass RX8 = some m.cls := hown
  have hl : lv_has ls 5 [(0, .ref (a 22)), (1, .int (x)), (2, .int (y)), (3, .int (u)), (4, .int (v))] := hl
  obtain ⟨locs, elocs⟩ : ∃ q : List Loc, q = [] := ⟨_, rfl⟩
  rw [← elocs] at hS ⊢
  obtain ⟨H, eH⟩ : ∃ q : Heap, q = s.heap := ⟨_, rfl⟩
  have hP : va_P D vwCl G0 H := eH ▸ hP
  have hS : va_S A s.heap H locs := by rw [eH]; exact hS
  rw [← eH]
  clear elocs eH
  have hiX8 : ∀ w ∈ u_ws RX8 TX8 37, w ∈ wsX8_mark := by decide +kernel
  have hk : ∀ k, k ∉ ([] : List Nat) → G0[k]? = G0[k]? := fun _ _ => rfl
  refine lv_iload_n (pc := 0) hx hb dX8_mark_0 rfl (lv_at hl 1 rfl) ?_
  refine lv_iload_n (pc := 1) hx hb dX8_mark_1 rfl (lv_at hl 2 rfl) ?_
  refine lv_sipush (v := nI (1000)) (pc := 2) hx hb dX8_mark_2 (by decide) ?_
  refine mx_cSi (As := [.int (x), .int (y), .int (nI (1000))]) (rest := []) (pc := 5) ⟨hx, hb, hml, hown, hts⟩ (k_X8_isPlace (a := a) (x := x) (y := y) (fa := 1000) hD  ) (va_cwS 3 hts gX8_mark_X8_isPlace rfl rfl rfl (by decide +kernel) ⟨Nat.le_of_ble_eq_true rfl, Nat.le_of_ble_eq_true rfl⟩) hK hN hZ hP hS rfl hl.1 rfl (Nat.le_of_ble_eq_true rfl) dX8_mark_5 ⟨Nat.zero_le _, Nat.zero_le _⟩ (fun G' H locs hP hD hS hB => ?_)
  rw [hB] at hP hD
  clear hB G'
  refine mx_beq (tgt := 22) (pc := 8) hx hb dX8_mark_8 (by decide) (fun c8 => absurd (c8.symm.trans h1) (by decide)) (fun c8 => ?_)
  refine lv_iload_n (pc := 11) hx hb dX8_mark_11 rfl (lv_at hl 3 rfl) ?_
  refine lv_iload (pc := 12) hx hb dX8_mark_12 (lv_at hl 4 rfl) ?_
  refine lv_bipush (v := nI (100)) (pc := 14) hx hb dX8_mark_14 (by decide) ?_
  refine mx_cSi (As := [.int (u), .int (v), .int (nI (100))]) (rest := []) (pc := 16) ⟨hx, hb, hml, hown, hts⟩ (k_X8_isPlace (a := a) (x := u) (y := v) (fa := 100) hD  ) (va_cwS 3 hts gX8_mark_X8_isPlace rfl rfl rfl (by decide +kernel) ⟨Nat.le_of_ble_eq_true rfl, Nat.le_of_ble_eq_true rfl⟩) hK hN hZ hP hS rfl hl.1 rfl (Nat.le_of_ble_eq_true rfl) dX8_mark_16 ⟨Nat.zero_le _, Nat.zero_le _⟩ (fun G' H locs hP hD hS hB => ?_)
  rw [hB] at hP hD
  clear hB G'
  refine mx_bne (tgt := 25) (pc := 19) hx hb dX8_mark_19 (by decide) (fun c19 => ?_) (fun c19 => absurd (c19.symm.trans h2) (by decide))
  refine lv_aload_n (pc := 25) hx hb dX8_mark_25 rfl (lv_at hl 0 rfl) ?_
  refine va_get (ci := 8) (C := RX8) (T := TX8) (N := 37) (pc := 26) hx hb hts hiX8 hown hK hP 22 w22 rfl 25 (by decide) (hts (.fieldLink RX8 159 "InkPressModel" "marks" "I") (by decide +kernel)) (fun _ h9 => h9) rfl dX8_mark_26 ?_
  refine lv_bipush (v := nI (8)) (pc := 29) hx hb dX8_mark_29 (by decide) ?_
  refine mx_cne (tgt := 37) (pc := 31) hx hb (by omega) (by omega) dX8_mark_31 (by decide) (fun c31 => absurd hm c31) (fun c31 => ?_)
  refine lv_bipush (v := (-4)) (pc := 34) hx hb dX8_mark_34 (by decide) ?_
  exact hret _ _ _ _ _ _ hP hD hS rfl rfl dX8_mark_36
set_option maxHeartbeats 4000000 in
set_option maxRecDepth 100000 in
theorem k_X8_mark_k {l : Launch} {D : va_G} {cI cZ : ClassId} {A : Nat → Prop} {g a : Nat → Nat} {G0 : va_W} {zn : Nat} {tr : Nat} {sc : Nat} {pn : Nat} {mn : Nat} {jn : Nat} {sg : Int32} {sr : Int32} {ss : Int32} {fed : Int32} {pap : Int32} {bar : Int32} {st : Bool} {q1 : Int64} {q2 : Int64} {q3 : Int64} {q4 : Int64} {q5 : Int64} {mx : Nat → Int32} {my : Nat → Int32} {mdx : Nat → Int32} {mdy : Nat → Int32} {x : Int32} {y : Int32} {u : Int32} {v : Int32} (hD : va_D A G0) (w22 : G0[22]? = some (a 22, .inr (8, [.int (nI (zn)), .int (nI (tr)), .ref (a 23), .ref (a 24), .ref (a 25), .ref (a 26), .ref (a 27), .ref (a 28), .ref (a 29), .int (nI (sc)), .int (sg), .int (sr), .int (ss), .int (fed), .int (pap), .int (bar), .int (gB (st)), .ref (a 30), .ref (a 31), .ref (a 32), .int (nI (pn)), .ref (a 33), .ref (a 34), .ref (a 35), .ref (a 36), .int (nI (mn)), .long (q1), .long (q2), .long (q3), .long (q4), .long (q5), .ref (a 37), .ref (a 38), .ref (a 39), .int (nI (jn)), .ref (a 40), .ref (a 41)]))) (w33 : G0[33]? = some (a 33, .inl (cI, 8, .inl (mx)))) (w34 : G0[34]? = some (a 34, .inl (cI, 8, .inl (my)))) (w35 : G0[35]? = some (a 35, .inl (cI, 8, .inl (mdx)))) (w36 : G0[36]? = some (a 36, .inl (cI, 8, .inl (mdy)))) (hm : mn < 8) (h1 : gPl x y 1000 = true) (h2 : gPl u v 100 = true) : gMi l D cI cZ A g yX8_mark wsX8_mark ({ frames := 2, cells := 0, slots := 0, locals := 47 }) [.ref (a 22), .int (x), .int (y), .int (u), .int (v)] G0 (nI (mn + 1)) (fun G1 => G1[22]? = some (a 22, .inr (8, [.int (nI (zn)), .int (nI (tr)), .ref (a 23), .ref (a 24), .ref (a 25), .ref (a 26), .ref (a 27), .ref (a 28), .ref (a 29), .int (nI (sc)), .int (sg), .int (sr), .int (ss), .int (fed), .int (pap), .int (bar), .int (gB (st)), .ref (a 30), .ref (a 31), .ref (a 32), .int (nI (pn)), .ref (a 33), .ref (a 34), .ref (a 35), .ref (a 36), .int (nI (mn + 1)), .long (q1), .long (q2), .long (q3), .long (q4), .long (q5), .ref (a 37), .ref (a 38), .ref (a 39), .int (nI (jn)), .ref (a 40), .ref (a 41)])) ∧ G1[33]? = some (a 33, .inl (cI, 8, .inl (upd mx mn x))) ∧ G1[34]? = some (a 34, .inl (cI, 8, .inl (upd my mn y))) ∧ G1[35]? = some (a 35, .inl (cI, 8, .inl (upd mdx mn u))) ∧ G1[36]? = some (a 36, .inl (cI, 8, .inl (upd mdy mn v))) ∧ ∀ k, k ∉ [22, 33, 34, 35, 36] → G1[k]? = G0[k]?) := by
  refine gof_i (cc := cX8_mark) (maxL := 5) (by decide) rfl (Nat.le_of_ble_eq_true rfl) hD ?_
  intro p e s m args below meth c Q hx hb hml hts hown hK hN hZ hP hS hret ls hl
  have hown : s.vm.findClass RX8 = some m.cls := hown
  have hl : lv_has ls 5 [(0, .ref (a 22)), (1, .int (x)), (2, .int (y)), (3, .int (u)), (4, .int (v))] := hl
  obtain ⟨locs, elocs⟩ : ∃ q : List Loc, q = [] := ⟨_, rfl⟩
  rw [← elocs] at hS ⊢
  obtain ⟨H, eH⟩ : ∃ q : Heap, q = s.heap := ⟨_, rfl⟩
  have hP : va_P D vwCl G0 H := eH ▸ hP
  have hS : va_S A s.heap H locs := by rw [eH]; exact hS
  rw [← eH]
  clear elocs eH
  have hiX8 : ∀ w ∈ u_ws RX8 TX8 37, w ∈ wsX8_mark := by decide +kernel
  have hk : ∀ k, k ∉ [22, 33, 34, 35, 36] → G0[k]? = G0[k]? := fun _ _ => rfl
  refine lv_iload_n (pc := 0) hx hb dX8_mark_0 rfl (lv_at hl 1 rfl) ?_
  refine lv_iload_n (pc := 1) hx hb dX8_mark_1 rfl (lv_at hl 2 rfl) ?_
  refine lv_sipush (v := nI (1000)) (pc := 2) hx hb dX8_mark_2 (by decide) ?_
  refine mx_cSi (As := [.int (x), .int (y), .int (nI (1000))]) (rest := []) (pc := 5) ⟨hx, hb, hml, hown, hts⟩ (k_X8_isPlace (a := a) (x := x) (y := y) (fa := 1000) hD  ) (va_cwS 3 hts gX8_mark_X8_isPlace rfl rfl rfl (by decide +kernel) ⟨Nat.le_of_ble_eq_true rfl, Nat.le_of_ble_eq_true rfl⟩) hK hN hZ hP hS rfl hl.1 rfl (Nat.le_of_ble_eq_true rfl) dX8_mark_5 ⟨Nat.zero_le _, Nat.zero_le _⟩ (fun G' H locs hP hD hS hB => ?_)
  rw [hB] at hP hD
  clear hB G'
  refine mx_beq (tgt := 22) (pc := 8) hx hb dX8_mark_8 (by decide) (fun c8 => absurd (c8.symm.trans h1) (by decide)) (fun c8 => ?_)
  refine lv_iload_n (pc := 11) hx hb dX8_mark_11 rfl (lv_at hl 3 rfl) ?_
  refine lv_iload (pc := 12) hx hb dX8_mark_12 (lv_at hl 4 rfl) ?_
  refine lv_bipush (v := nI (100)) (pc := 14) hx hb dX8_mark_14 (by decide) ?_
  refine mx_cSi (As := [.int (u), .int (v), .int (nI (100))]) (rest := []) (pc := 16) ⟨hx, hb, hml, hown, hts⟩ (k_X8_isPlace (a := a) (x := u) (y := v) (fa := 100) hD  ) (va_cwS 3 hts gX8_mark_X8_isPlace rfl rfl rfl (by decide +kernel) ⟨Nat.le_of_ble_eq_true rfl, Nat.le_of_ble_eq_true rfl⟩) hK hN hZ hP hS rfl hl.1 rfl (Nat.le_of_ble_eq_true rfl) dX8_mark_16 ⟨Nat.zero_le _, Nat.zero_le _⟩ (fun G' H locs hP hD hS hB => ?_)
  rw [hB] at hP hD
  clear hB G'
  refine mx_bne (tgt := 25) (pc := 19) hx hb dX8_mark_19 (by decide) (fun c19 => ?_) (fun c19 => absurd (c19.symm.trans h2) (by decide))
  refine lv_aload_n (pc := 25) hx hb dX8_mark_25 rfl (lv_at hl 0 rfl) ?_
  refine va_get (ci := 8) (C := RX8) (T := TX8) (N := 37) (pc := 26) hx hb hts hiX8 hown hK hP 22 w22 rfl 25 (by decide) (hts (.fieldLink RX8 159 "InkPressModel" "marks" "I") (by decide +kernel)) (fun _ h9 => h9) rfl dX8_mark_26 ?_
  refine lv_bipush (v := nI (8)) (pc := 29) hx hb dX8_mark_29 (by decide) ?_
  refine mx_cne (tgt := 37) (pc := 31) hx hb (by omega) (by omega) dX8_mark_31 (by decide) (fun c31 => ?_) (fun c31 => absurd c31 (by omega))
  refine lv_aload_n (pc := 37) hx hb dX8_mark_37 rfl (lv_at hl 0 rfl) ?_
  refine va_get (ci := 8) (C := RX8) (T := TX8) (N := 37) (pc := 38) hx hb hts hiX8 hown hK hP 22 w22 rfl 21 (by decide) (hts (.fieldLink RX8 51 "InkPressModel" "markX" "[I") (by decide +kernel)) (fun _ h9 => h9) rfl dX8_mark_38 ?_
  refine lv_aload_n (pc := 41) hx hb dX8_mark_41 rfl (lv_at hl 0 rfl) ?_
  refine va_get (ci := 8) (C := RX8) (T := TX8) (N := 37) (pc := 42) hx hb hts hiX8 hown hK hP 22 w22 rfl 25 (by decide) (hts (.fieldLink RX8 159 "InkPressModel" "marks" "I") (by decide +kernel)) (fun _ h9 => h9) rfl dX8_mark_42 ?_
  refine lv_iload_n (pc := 45) hx hb dX8_mark_45 rfl (lv_at hl 1 rfl) ?_
  refine mx_iast (x := x) (pc := 46) hx hb hK hP hD hS 33 w33 (mn) (by omega) (by decide) dX8_mark_46 (fun H locs G hP hD hS w33 ho => ?_)
  have w22 := (ho 22 (by decide)).trans w22
  have w34 := (ho 34 (by decide)).trans w34
  have w35 := (ho 35 (by decide)).trans w35
  have w36 := (ho 36 (by decide)).trans w36
  have w33 : G[33]? = some (a 33, .inl (cI, 8, .inl (upd (mx) (mn) (x)))) := w33
  have hk := gk_step hk ho (by decide)
  clear ho
  refine lv_aload_n (pc := 47) hx hb dX8_mark_47 rfl (lv_at hl 0 rfl) ?_
  refine va_get (ci := 8) (C := RX8) (T := TX8) (N := 37) (pc := 48) hx hb hts hiX8 hown hK hP 22 w22 rfl 22 (by decide) (hts (.fieldLink RX8 54 "InkPressModel" "markY" "[I") (by decide +kernel)) (fun _ h9 => h9) rfl dX8_mark_48 ?_
  refine lv_aload_n (pc := 51) hx hb dX8_mark_51 rfl (lv_at hl 0 rfl) ?_
  refine va_get (ci := 8) (C := RX8) (T := TX8) (N := 37) (pc := 52) hx hb hts hiX8 hown hK hP 22 w22 rfl 25 (by decide) (hts (.fieldLink RX8 159 "InkPressModel" "marks" "I") (by decide +kernel)) (fun _ h9 => h9) rfl dX8_mark_52 ?_
  refine lv_iload_n (pc := 55) hx hb dX8_mark_55 rfl (lv_at hl 2 rfl) ?_
  refine mx_iast (x := y) (pc := 56) hx hb hK hP hD hS 34 w34 (mn) (by omega) (by decide) dX8_mark_56 (fun H locs G hP hD hS w34 ho => ?_)
  have w22 := (ho 22 (by decide)).trans w22
  have w33 := (ho 33 (by decide)).trans w33
  have w35 := (ho 35 (by decide)).trans w35
  have w36 := (ho 36 (by decide)).trans w36
  have w34 : G[34]? = some (a 34, .inl (cI, 8, .inl (upd (my) (mn) (y)))) := w34
  have hk := gk_step hk ho (by decide)
  clear ho
  refine lv_aload_n (pc := 57) hx hb dX8_mark_57 rfl (lv_at hl 0 rfl) ?_
  refine va_get (ci := 8) (C := RX8) (T := TX8) (N := 37) (pc := 58) hx hb hts hiX8 hown hK hP 22 w22 rfl 23 (by decide) (hts (.fieldLink RX8 57 "InkPressModel" "markDx" "[I") (by decide +kernel)) (fun _ h9 => h9) rfl dX8_mark_58 ?_
  refine lv_aload_n (pc := 61) hx hb dX8_mark_61 rfl (lv_at hl 0 rfl) ?_
  refine va_get (ci := 8) (C := RX8) (T := TX8) (N := 37) (pc := 62) hx hb hts hiX8 hown hK hP 22 w22 rfl 25 (by decide) (hts (.fieldLink RX8 159 "InkPressModel" "marks" "I") (by decide +kernel)) (fun _ h9 => h9) rfl dX8_mark_62 ?_
  refine lv_iload_n (pc := 65) hx hb dX8_mark_65 rfl (lv_at hl 3 rfl) ?_
  refine mx_iast (x := u) (pc := 66) hx hb hK hP hD hS 35 w35 (mn) (by omega) (by decide) dX8_mark_66 (fun H locs G hP hD hS w35 ho => ?_)
  have w22 := (ho 22 (by decide)).trans w22
  have w33 := (ho 33 (by decide)).trans w33
  have w34 := (ho 34 (by decide)).trans w34
  have w36 := (ho 36 (by decide)).trans w36
  have w35 : G[35]? = some (a 35, .inl (cI, 8, .inl (upd (mdx) (mn) (u)))) := w35
  have hk := gk_step hk ho (by decide)
  clear ho
  refine lv_aload_n (pc := 67) hx hb dX8_mark_67 rfl (lv_at hl 0 rfl) ?_
  refine va_get (ci := 8) (C := RX8) (T := TX8) (N := 37) (pc := 68) hx hb hts hiX8 hown hK hP 22 w22 rfl 24 (by decide) (hts (.fieldLink RX8 60 "InkPressModel" "markDy" "[I") (by decide +kernel)) (fun _ h9 => h9) rfl dX8_mark_68 ?_
  refine lv_aload_n (pc := 71) hx hb dX8_mark_71 rfl (lv_at hl 0 rfl) ?_
  refine va_get (ci := 8) (C := RX8) (T := TX8) (N := 37) (pc := 72) hx hb hts hiX8 hown hK hP 22 w22 rfl 25 (by decide) (hts (.fieldLink RX8 159 "InkPressModel" "marks" "I") (by decide +kernel)) (fun _ h9 => h9) rfl dX8_mark_72 ?_
  refine lv_iload (pc := 75) hx hb dX8_mark_75 (lv_at hl 4 rfl) ?_
  refine mx_iast (x := v) (pc := 77) hx hb hK hP hD hS 36 w36 (mn) (by omega) (by decide) dX8_mark_77 (fun H locs G hP hD hS w36 ho => ?_)
  have w22 := (ho 22 (by decide)).trans w22
  have w33 := (ho 33 (by decide)).trans w33
  have w34 := (ho 34 (by decide)).trans w34
  have w35 := (ho 35 (by decide)).trans w35
  have w36 : G[36]? = some (a 36, .inl (cI, 8, .inl (upd (mdy) (mn) (v)))) := w36
  have hk := gk_step hk ho (by decide)
  clear ho
  refine lv_aload_n (pc := 78) hx hb dX8_mark_78 rfl (lv_at hl 0 rfl) ?_
  refine lv_dup (pc := 79) hx hb dX8_mark_79 rfl ?_
  refine va_get (ci := 8) (C := RX8) (T := TX8) (N := 37) (pc := 80) hx hb hts hiX8 hown hK hP 22 w22 rfl 25 (by decide) (hts (.fieldLink RX8 159 "InkPressModel" "marks" "I") (by decide +kernel)) (fun _ h9 => h9) rfl dX8_mark_80 ?_
  refine lv_iconst (v := nI (1)) (pc := 83) hx hb dX8_mark_83 (by decide) ?_
  refine mx_iadd (pc := 84) hx hb dX8_mark_84 ?_
  refine mx_put (ci := 8) (v := .int (nI (mn + 1))) (ty := .int) (C := RX8) (T := TX8) (N := 37) (pc := 85) hx hb hts hiX8 tyX8 tyX8_ok nmX8 hown hK hP hD hS 22 w22 rfl 25 (by decide) (hts (.fieldLink RX8 159 "InkPressModel" "marks" "I") (by decide +kernel)) (fun _ h9 => h9) rfl (by decide +kernel) rfl rfl (Nat.le_of_ble_eq_true rfl) dX8_mark_85 (fun H locs G hP hD hS w22 ho => ?_)
  have w33 := (ho 33 (by decide)).trans w33
  have w34 := (ho 34 (by decide)).trans w34
  have w35 := (ho 35 (by decide)).trans w35
  have w36 := (ho 36 (by decide)).trans w36
  have w22 : G[22]? = some (a 22, .inr (8, [.int (nI (zn)), .int (nI (tr)), .ref (a 23), .ref (a 24), .ref (a 25), .ref (a 26), .ref (a 27), .ref (a 28), .ref (a 29), .int (nI (sc)), .int (sg), .int (sr), .int (ss), .int (fed), .int (pap), .int (bar), .int (gB (st)), .ref (a 30), .ref (a 31), .ref (a 32), .int (nI (pn)), .ref (a 33), .ref (a 34), .ref (a 35), .ref (a 36), .int (nI (mn + 1)), .long (q1), .long (q2), .long (q3), .long (q4), .long (q5), .ref (a 37), .ref (a 38), .ref (a 39), .int (nI (jn)), .ref (a 40), .ref (a 41)])) := w22
  have hk := gk_step hk ho (by decide)
  clear ho
  refine lv_aload_n (pc := 88) hx hb dX8_mark_88 rfl (lv_at hl 0 rfl) ?_
  refine va_get (ci := 8) (C := RX8) (T := TX8) (N := 37) (pc := 89) hx hb hts hiX8 hown hK hP 22 w22 rfl 25 (by decide) (hts (.fieldLink RX8 159 "InkPressModel" "marks" "I") (by decide +kernel)) (fun _ h9 => h9) rfl dX8_mark_89 ?_
  exact hret _ _ _ _ _ _ hP hD hS rfl ⟨w22, w33, w34, w35, w36, hk⟩ dX8_mark_92
set_option maxHeartbeats 4000000 in
set_option maxRecDepth 100000 in
theorem k_X8_clear {l : Launch} {D : va_G} {cI cZ : ClassId} {A : Nat → Prop} {g a : Nat → Nat} {G0 : va_W} {zn : Nat} {tr : Nat} {sc : Nat} {pn : Nat} {mn : Nat} {jn : Nat} {sg : Int32} {sr : Int32} {ss : Int32} {fed : Int32} {pap : Int32} {bar : Int32} {st : Bool} {q1 : Int64} {q2 : Int64} {q3 : Int64} {q4 : Int64} {q5 : Int64} (hD : va_D A G0) (w22 : G0[22]? = some (a 22, .inr (8, [.int (nI (zn)), .int (nI (tr)), .ref (a 23), .ref (a 24), .ref (a 25), .ref (a 26), .ref (a 27), .ref (a 28), .ref (a 29), .int (nI (sc)), .int (sg), .int (sr), .int (ss), .int (fed), .int (pap), .int (bar), .int (gB (st)), .ref (a 30), .ref (a 31), .ref (a 32), .int (nI (pn)), .ref (a 33), .ref (a 34), .ref (a 35), .ref (a 36), .int (nI (mn)), .long (q1), .long (q2), .long (q3), .long (q4), .long (q5), .ref (a 37), .ref (a 38), .ref (a 39), .int (nI (jn)), .ref (a 40), .ref (a 41)]))) : gMi l D cI cZ A g yX8_clear wsX8_clear ({ frames := 0, cells := 0, slots := 0, locals := 0 }) [.ref (a 22)] G0 (nI (mn)) (fun G1 => G1[22]? = some (a 22, .inr (8, [.int (nI (zn)), .int (nI (tr)), .ref (a 23), .ref (a 24), .ref (a 25), .ref (a 26), .ref (a 27), .ref (a 28), .ref (a 29), .int (nI (sc)), .int (sg), .int (sr), .int (ss), .int (fed), .int (pap), .int (bar), .int (gB (st)), .ref (a 30), .ref (a 31), .ref (a 32), .int (nI (pn)), .ref (a 33), .ref (a 34), .ref (a 35), .ref (a 36), .int (nI (0)), .long (q1), .long (q2), .long (q3), .long (q4), .long (q5), .ref (a 37), .ref (a 38), .ref (a 39), .int (nI (jn)), .ref (a 40), .ref (a 41)])) ∧ ∀ k, k ∉ [22] → G1[k]? = G0[k]?) := by
  refine gof_i (cc := cX8_clear) (maxL := 2) (by decide) rfl (Nat.le_of_ble_eq_true rfl) hD ?_
  intro p e s m args below meth c Q hx hb hml hts hown hK hN hZ hP hS hret ls hl
  have hown : s.vm.findClass RX8 = some m.cls := hown
  have hl : lv_has ls 2 [(0, .ref (a 22))] := hl
  obtain ⟨locs, elocs⟩ : ∃ q : List Loc, q = [] := ⟨_, rfl⟩
  rw [← elocs] at hS ⊢
  obtain ⟨H, eH⟩ : ∃ q : Heap, q = s.heap := ⟨_, rfl⟩
  have hP : va_P D vwCl G0 H := eH ▸ hP
  have hS : va_S A s.heap H locs := by rw [eH]; exact hS
  rw [← eH]
  clear elocs eH
  have hiX8 : ∀ w ∈ u_ws RX8 TX8 37, w ∈ wsX8_clear := by decide +kernel
  have hk : ∀ k, k ∉ [22] → G0[k]? = G0[k]? := fun _ _ => rfl
  refine lv_aload_n (pc := 0) hx hb dX8_clear_0 rfl (lv_at hl 0 rfl) ?_
  refine va_get (ci := 8) (C := RX8) (T := TX8) (N := 37) (pc := 1) hx hb hts hiX8 hown hK hP 22 w22 rfl 25 (by decide) (hts (.fieldLink RX8 159 "InkPressModel" "marks" "I") (by decide +kernel)) (fun _ h9 => h9) rfl dX8_clear_1 ?_
  refine lv_istore_n (lv' := [(1, .int (nI (mn))), (0, .ref (a 22))]) (pc := 4) hx hb dX8_clear_4 rfl hl (by decide) rfl (fun ls hl => ?_)
  refine lv_aload_n (pc := 5) hx hb dX8_clear_5 rfl (lv_at hl 1 rfl) ?_
  refine lv_iconst (v := nI (0)) (pc := 6) hx hb dX8_clear_6 (by decide) ?_
  refine mx_put (ci := 8) (v := .int (nI (0))) (ty := .int) (C := RX8) (T := TX8) (N := 37) (pc := 7) hx hb hts hiX8 tyX8 tyX8_ok nmX8 hown hK hP hD hS 22 w22 rfl 25 (by decide) (hts (.fieldLink RX8 159 "InkPressModel" "marks" "I") (by decide +kernel)) (fun _ h9 => h9) rfl (by decide +kernel) rfl rfl (Nat.le_of_ble_eq_true rfl) dX8_clear_7 (fun H locs G hP hD hS w22 ho => ?_)
  have w22 : G[22]? = some (a 22, .inr (8, [.int (nI (zn)), .int (nI (tr)), .ref (a 23), .ref (a 24), .ref (a 25), .ref (a 26), .ref (a 27), .ref (a 28), .ref (a 29), .int (nI (sc)), .int (sg), .int (sr), .int (ss), .int (fed), .int (pap), .int (bar), .int (gB (st)), .ref (a 30), .ref (a 31), .ref (a 32), .int (nI (pn)), .ref (a 33), .ref (a 34), .ref (a 35), .ref (a 36), .int (nI (0)), .long (q1), .long (q2), .long (q3), .long (q4), .long (q5), .ref (a 37), .ref (a 38), .ref (a 39), .int (nI (jn)), .ref (a 40), .ref (a 41)])) := w22
  have hk := gk_step hk ho (by decide)
  clear ho
  refine lv_iload_n (pc := 10) hx hb dX8_clear_10 rfl (lv_at hl 0 rfl) ?_
  exact hret _ _ _ _ _ _ hP hD hS rfl ⟨w22, hk⟩ dX8_clear_11
set_option maxHeartbeats 4000000 in
set_option maxRecDepth 100000 in
theorem k_X8_findFit {l : Launch} {D : va_G} {cI cZ : ClassId} {A : Nat → Prop} {g a : Nat → Nat} {G0 : va_W} {zn : Nat} {tr : Nat} {sc : Nat} {pn : Nat} {mn : Nat} {jn : Nat} {sg : Int32} {sr : Int32} {ss : Int32} {fed : Int32} {pap : Int32} {bar : Int32} {st : Bool} {q1 : Int64} {q2 : Int64} {q3 : Int64} {q4 : Int64} {q5 : Int64} {mx : Nat → Int32} {my : Nat → Int32} {mdx : Nat → Int32} {mdy : Nat → Int32} (hD : va_D A G0) (w22 : G0[22]? = some (a 22, .inr (8, [.int (nI (zn)), .int (nI (tr)), .ref (a 23), .ref (a 24), .ref (a 25), .ref (a 26), .ref (a 27), .ref (a 28), .ref (a 29), .int (nI (sc)), .int (sg), .int (sr), .int (ss), .int (fed), .int (pap), .int (bar), .int (gB (st)), .ref (a 30), .ref (a 31), .ref (a 32), .int (nI (pn)), .ref (a 33), .ref (a 34), .ref (a 35), .ref (a 36), .int (nI (mn)), .long (q1), .long (q2), .long (q3), .long (q4), .long (q5), .ref (a 37), .ref (a 38), .ref (a 39), .int (nI (jn)), .ref (a 40), .ref (a 41)]))) (w33 : G0[33]? = some (a 33, .inl (cI, 8, .inl (mx)))) (w34 : G0[34]? = some (a 34, .inl (cI, 8, .inl (my)))) (w35 : G0[35]? = some (a 35, .inl (cI, 8, .inl (mdx)))) (w36 : G0[36]? = some (a 36, .inl (cI, 8, .inl (mdy)))) (hm : mn ≤ 8) : gMi l D cI cZ A g yX8_findFit wsX8_findFit ({ frames := 0, cells := 0, slots := 0, locals := 0 }) [.ref (a 22)] G0 (gB (decide (0 < gSp mn (gPs mx mn 0 0) (gPs my mn 0 0) (gPs mdx mn 0 0) (gPs mdy mn 0 0) (gPs (fun j => mx j * mx j + my j * my j) mn 0 0) (gPs (fun j => mx j * mdx j + my j * mdy j) mn 0 0) (gPs (fun j => mx j * mdy j - my j * mdx j) mn 0 0)))) (fun G1 => G1[22]? = some (a 22, .inr (8, [.int (nI (zn)), .int (nI (tr)), .ref (a 23), .ref (a 24), .ref (a 25), .ref (a 26), .ref (a 27), .ref (a 28), .ref (a 29), .int (nI (sc)), .int (sg), .int (sr), .int (ss), .int (fed), .int (pap), .int (bar), .int (gB (st)), .ref (a 30), .ref (a 31), .ref (a 32), .int (nI (pn)), .ref (a 33), .ref (a 34), .ref (a 35), .ref (a 36), .int (nI (mn)), .long (gSp mn (gPs mx mn 0 0) (gPs my mn 0 0) (gPs mdx mn 0 0) (gPs mdy mn 0 0) (gPs (fun j => mx j * mx j + my j * my j) mn 0 0) (gPs (fun j => mx j * mdx j + my j * mdy j) mn 0 0) (gPs (fun j => mx j * mdy j - my j * mdx j) mn 0 0)), .long (gStr mn (gPs mx mn 0 0) (gPs my mn 0 0) (gPs mdx mn 0 0) (gPs mdy mn 0 0) (gPs (fun j => mx j * mx j + my j * my j) mn 0 0) (gPs (fun j => mx j * mdx j + my j * mdy j) mn 0 0) (gPs (fun j => mx j * mdy j - my j * mdx j) mn 0 0)), .long (gTu mn (gPs mx mn 0 0) (gPs my mn 0 0) (gPs mdx mn 0 0) (gPs mdy mn 0 0) (gPs (fun j => mx j * mx j + my j * my j) mn 0 0) (gPs (fun j => mx j * mdx j + my j * mdy j) mn 0 0) (gPs (fun j => mx j * mdy j - my j * mdx j) mn 0 0)), .long (gAc mn (gPs mx mn 0 0) (gPs my mn 0 0) (gPs mdx mn 0 0) (gPs mdy mn 0 0) (gPs (fun j => mx j * mx j + my j * my j) mn 0 0) (gPs (fun j => mx j * mdx j + my j * mdy j) mn 0 0) (gPs (fun j => mx j * mdy j - my j * mdx j) mn 0 0)), .long (gUp mn (gPs mx mn 0 0) (gPs my mn 0 0) (gPs mdx mn 0 0) (gPs mdy mn 0 0) (gPs (fun j => mx j * mx j + my j * my j) mn 0 0) (gPs (fun j => mx j * mdx j + my j * mdy j) mn 0 0) (gPs (fun j => mx j * mdy j - my j * mdx j) mn 0 0)), .ref (a 37), .ref (a 38), .ref (a 39), .int (nI (jn)), .ref (a 40), .ref (a 41)])) ∧ ∀ k, k ∉ [22] → G1[k]? = G0[k]?) := by
  refine gof_z (cc := cX8_findFit) (maxL := 16) (by decide) rfl (Nat.le_of_ble_eq_true rfl) hD ?_
  intro p e s m args below meth c Q hx hb hml hts hown hK hN hZ hP hS hret ls hl
  have hown : s.vm.findClass RX8 = some m.cls := hown
  have hl : lv_has ls 16 [(0, .ref (a 22))] := hl
  obtain ⟨locs, elocs⟩ : ∃ q : List Loc, q = [] := ⟨_, rfl⟩
  rw [← elocs] at hS ⊢
  obtain ⟨H, eH⟩ : ∃ q : Heap, q = s.heap := ⟨_, rfl⟩
  have hP : va_P D vwCl G0 H := eH ▸ hP
  have hS : va_S A s.heap H locs := by rw [eH]; exact hS
  rw [← eH]
  clear elocs eH
  have hiX8 : ∀ w ∈ u_ws RX8 TX8 37, w ∈ wsX8_findFit := by decide +kernel
  have hk : ∀ k, k ∉ [22] → G0[k]? = G0[k]? := fun _ _ => rfl
  refine lv_lconst (v := 0) (pc := 0) hx hb dX8_findFit_0 (by decide) ?_
  refine lv_lstore_n (lv' := [(1, .long (0)), (0, .ref (a 22))]) (pc := 1) hx hb dX8_findFit_1 rfl hl (by decide) rfl (fun ls hl => ?_)
  refine lv_lconst (v := 0) (pc := 2) hx hb dX8_findFit_2 (by decide) ?_
  refine lv_lstore_n (lv' := [(3, .long (0)), (1, .long (0)), (0, .ref (a 22))]) (pc := 3) hx hb dX8_findFit_3 rfl hl (by decide) rfl (fun ls hl => ?_)
  refine lv_lconst (v := 0) (pc := 4) hx hb dX8_findFit_4 (by decide) ?_
  refine lv_lstore (lv' := [(5, .long (0)), (3, .long (0)), (1, .long (0)), (0, .ref (a 22))]) (pc := 5) hx hb dX8_findFit_5 hl (by decide) rfl (fun ls hl => ?_)
  refine lv_lconst (v := 0) (pc := 7) hx hb dX8_findFit_7 (by decide) ?_
  refine lv_lstore (lv' := [(7, .long (0)), (5, .long (0)), (3, .long (0)), (1, .long (0)), (0, .ref (a 22))]) (pc := 8) hx hb dX8_findFit_8 hl (by decide) rfl (fun ls hl => ?_)
  refine lv_lconst (v := 0) (pc := 10) hx hb dX8_findFit_10 (by decide) ?_
  refine lv_lstore (lv' := [(9, .long (0)), (7, .long (0)), (5, .long (0)), (3, .long (0)), (1, .long (0)), (0, .ref (a 22))]) (pc := 11) hx hb dX8_findFit_11 hl (by decide) rfl (fun ls hl => ?_)
  refine lv_lconst (v := 0) (pc := 13) hx hb dX8_findFit_13 (by decide) ?_
  refine lv_lstore (lv' := [(11, .long (0)), (9, .long (0)), (7, .long (0)), (5, .long (0)), (3, .long (0)), (1, .long (0)), (0, .ref (a 22))]) (pc := 14) hx hb dX8_findFit_14 hl (by decide) rfl (fun ls hl => ?_)
  refine lv_lconst (v := 0) (pc := 16) hx hb dX8_findFit_16 (by decide) ?_
  refine lv_lstore (lv' := [(13, .long (0)), (11, .long (0)), (9, .long (0)), (7, .long (0)), (5, .long (0)), (3, .long (0)), (1, .long (0)), (0, .ref (a 22))]) (pc := 17) hx hb dX8_findFit_17 hl (by decide) rfl (fun ls hl => ?_)
  refine lv_iconst (v := nI (0)) (pc := 19) hx hb dX8_findFit_19 (by decide) ?_
  refine lv_istore (lv' := [(15, .int (nI (0))), (13, .long (0)), (11, .long (0)), (9, .long (0)), (7, .long (0)), (5, .long (0)), (3, .long (0)), (1, .long (0)), (0, .ref (a 22))]) (pc := 20) hx hb dX8_findFit_20 hl (by decide) rfl (fun ls hl => ?_)
  have LP : ∀ (k : Nat) (i : Nat) (s1 : Int64) (s2 : Int64) (s3 : Int64) (s4 : Int64) (s5 : Int64) (s6 : Int64) (s7 : Int64), i + k = mn → ∀ (G : va_W) (H : Heap) (locs : List Loc) (ls : Array Slot), va_P D vwCl G H → va_D A G → va_S A s.heap H locs → (∀ j, j ∉ [22] → G[j]? = G0[j]?) → G[22]? = some (a 22, .inr (8, [.int (nI (zn)), .int (nI (tr)), .ref (a 23), .ref (a 24), .ref (a 25), .ref (a 26), .ref (a 27), .ref (a 28), .ref (a 29), .int (nI (sc)), .int (sg), .int (sr), .int (ss), .int (fed), .int (pap), .int (bar), .int (gB (st)), .ref (a 30), .ref (a 31), .ref (a 32), .int (nI (pn)), .ref (a 33), .ref (a 34), .ref (a 35), .ref (a 36), .int (nI (mn)), .long (q1), .long (q2), .long (q3), .long (q4), .long (q5), .ref (a 37), .ref (a 38), .ref (a 39), .int (nI (jn)), .ref (a 40), .ref (a 41)])) → G[33]? = some (a 33, .inl (cI, 8, .inl (mx))) → G[34]? = some (a 34, .inl (cI, 8, .inl (my))) → G[35]? = some (a 35, .inl (cI, 8, .inl (mdx))) → G[36]? = some (a 36, .inl (cI, 8, .inl (mdy))) → lv_has ls 16 [(0, .ref (a 22)), (1, .long (s1)), (3, .long (s2)), (5, .long (s3)), (7, .long (s4)), (9, .long (s5)), (11, .long (s6)), (13, .long (s7)), (15, .int (nI (i)))] → (∀ (G : va_W) (H : Heap) (locs : List Loc) (ls : Array Slot), va_P D vwCl G H → va_D A G → va_S A s.heap H locs → (∀ j, j ∉ [22] → G[j]? = G0[j]?) → G[22]? = some (a 22, .inr (8, [.int (nI (zn)), .int (nI (tr)), .ref (a 23), .ref (a 24), .ref (a 25), .ref (a 26), .ref (a 27), .ref (a 28), .ref (a 29), .int (nI (sc)), .int (sg), .int (sr), .int (ss), .int (fed), .int (pap), .int (bar), .int (gB (st)), .ref (a 30), .ref (a 31), .ref (a 32), .int (nI (pn)), .ref (a 33), .ref (a 34), .ref (a 35), .ref (a 36), .int (nI (mn)), .long (q1), .long (q2), .long (q3), .long (q4), .long (q5), .ref (a 37), .ref (a 38), .ref (a 39), .int (nI (jn)), .ref (a 40), .ref (a 41)])) → G[33]? = some (a 33, .inl (cI, 8, .inl (mx))) → G[34]? = some (a 34, .inl (cI, 8, .inl (my))) → G[35]? = some (a 35, .inl (cI, 8, .inl (mdx))) → G[36]? = some (a 36, .inl (cI, 8, .inl (mdy))) → lv_has ls 16 [(0, .ref (a 22)), (1, .long (gPs mx k i s1)), (3, .long (gPs my k i s2)), (5, .long (gPs mdx k i s3)), (7, .long (gPs mdy k i s4)), (9, .long (gPs (fun j => mx j * mx j + my j * my j) k i s5)), (11, .long (gPs (fun j => mx j * mdx j + my j * mdy j) k i s6)), (13, .long (gPs (fun j => mx j * mdy j - my j * mdx j) k i s7))] → W p l e ({ frames := 0, cells := 0, slots := 0, locals := 0 } : Room) s m args below meth c H locs 0 0 Q (F0 m 196 ls [])) → W p l e ({ frames := 0, cells := 0, slots := 0, locals := 0 } : Room) s m args below meth c H locs 0 0 Q (F0 m 22 ls []) := by
    intro k
    induction k with
    | zero =>
      intro i s1 s2 s3 s4 s5 s6 s7 hi G H locs ls hP hD hS hk w22 w33 w34 w35 w36 hl hcont
      refine lv_iload (pc := 22) hx hb dX8_findFit_22 (lv_at hl 8 rfl) ?_
      refine lv_aload_n (pc := 24) hx hb dX8_findFit_24 rfl (lv_at hl 0 rfl) ?_
      refine va_get (ci := 8) (C := RX8) (T := TX8) (N := 37) (pc := 25) hx hb hts hiX8 hown hK hP 22 w22 rfl 25 (by decide) (hts (.fieldLink RX8 159 "InkPressModel" "marks" "I") (by decide +kernel)) (fun _ h9 => h9) rfl dX8_findFit_25 ?_
      refine mx_cge (tgt := 196) (pc := 28) hx hb (by omega) (by omega) dX8_findFit_28 (by decide) (fun c28 => ?_) (fun c28 => absurd c28 (by omega))
      exact hcont G H locs ls hP hD hS hk w22 w33 w34 w35 w36 (lv_sub hl [0, 1, 2, 3, 4, 5, 6, 7] rfl)
    | succ k ih =>
      intro i s1 s2 s3 s4 s5 s6 s7 hi G H locs ls hP hD hS hk w22 w33 w34 w35 w36 hl hcont
      refine lv_iload (pc := 22) hx hb dX8_findFit_22 (lv_at hl 8 rfl) ?_
      refine lv_aload_n (pc := 24) hx hb dX8_findFit_24 rfl (lv_at hl 0 rfl) ?_
      refine va_get (ci := 8) (C := RX8) (T := TX8) (N := 37) (pc := 25) hx hb hts hiX8 hown hK hP 22 w22 rfl 25 (by decide) (hts (.fieldLink RX8 159 "InkPressModel" "marks" "I") (by decide +kernel)) (fun _ h9 => h9) rfl dX8_findFit_25 ?_
      refine mx_cge (tgt := 196) (pc := 28) hx hb (by omega) (by omega) dX8_findFit_28 (by decide) (fun c28 => absurd c28 (by omega)) (fun c28 => ?_)
      refine lv_lload_n (pc := 31) hx hb dX8_findFit_31 rfl (lv_at hl 1 rfl) ?_
      refine lv_aload_n (pc := 32) hx hb dX8_findFit_32 rfl (lv_at hl 0 rfl) ?_
      refine va_get (ci := 8) (C := RX8) (T := TX8) (N := 37) (pc := 33) hx hb hts hiX8 hown hK hP 22 w22 rfl 21 (by decide) (hts (.fieldLink RX8 51 "InkPressModel" "markX" "[I") (by decide +kernel)) (fun _ h9 => h9) rfl dX8_findFit_33 ?_
      refine lv_iload (pc := 36) hx hb dX8_findFit_36 (lv_at hl 8 rfl) ?_
      refine mx_iald (pc := 38) hx hb hK hP 33 w33 (i) (by omega) (by decide) dX8_findFit_38 ?_
      refine lv_i2l (v := ((mx) (i)).toInt64) (pc := 39) hx hb dX8_findFit_39 rfl ?_
      refine lv_ladd (pc := 40) hx hb dX8_findFit_40 ?_
      refine lv_lstore_n (lv' := [(1, .long ((s1 + ((mx) (i)).toInt64))), (0, .ref (a 22)), (3, .long (s2)), (5, .long (s3)), (7, .long (s4)), (9, .long (s5)), (11, .long (s6)), (13, .long (s7)), (15, .int (nI (i)))]) (pc := 41) hx hb dX8_findFit_41 rfl hl (by decide) rfl (fun ls hl => ?_)
      refine lv_lload_n (pc := 42) hx hb dX8_findFit_42 rfl (lv_at hl 2 rfl) ?_
      refine lv_aload_n (pc := 43) hx hb dX8_findFit_43 rfl (lv_at hl 1 rfl) ?_
      refine va_get (ci := 8) (C := RX8) (T := TX8) (N := 37) (pc := 44) hx hb hts hiX8 hown hK hP 22 w22 rfl 22 (by decide) (hts (.fieldLink RX8 54 "InkPressModel" "markY" "[I") (by decide +kernel)) (fun _ h9 => h9) rfl dX8_findFit_44 ?_
      refine lv_iload (pc := 47) hx hb dX8_findFit_47 (lv_at hl 8 rfl) ?_
      refine mx_iald (pc := 49) hx hb hK hP 34 w34 (i) (by omega) (by decide) dX8_findFit_49 ?_
      refine lv_i2l (v := ((my) (i)).toInt64) (pc := 50) hx hb dX8_findFit_50 rfl ?_
      refine lv_ladd (pc := 51) hx hb dX8_findFit_51 ?_
      refine lv_lstore_n (lv' := [(3, .long ((s2 + ((my) (i)).toInt64))), (1, .long ((s1 + ((mx) (i)).toInt64))), (0, .ref (a 22)), (5, .long (s3)), (7, .long (s4)), (9, .long (s5)), (11, .long (s6)), (13, .long (s7)), (15, .int (nI (i)))]) (pc := 52) hx hb dX8_findFit_52 rfl hl (by decide) rfl (fun ls hl => ?_)
      refine lv_lload (pc := 53) hx hb dX8_findFit_53 (lv_at hl 3 rfl) ?_
      refine lv_aload_n (pc := 55) hx hb dX8_findFit_55 rfl (lv_at hl 2 rfl) ?_
      refine va_get (ci := 8) (C := RX8) (T := TX8) (N := 37) (pc := 56) hx hb hts hiX8 hown hK hP 22 w22 rfl 23 (by decide) (hts (.fieldLink RX8 57 "InkPressModel" "markDx" "[I") (by decide +kernel)) (fun _ h9 => h9) rfl dX8_findFit_56 ?_
      refine lv_iload (pc := 59) hx hb dX8_findFit_59 (lv_at hl 8 rfl) ?_
      refine mx_iald (pc := 61) hx hb hK hP 35 w35 (i) (by omega) (by decide) dX8_findFit_61 ?_
      refine lv_i2l (v := ((mdx) (i)).toInt64) (pc := 62) hx hb dX8_findFit_62 rfl ?_
      refine lv_ladd (pc := 63) hx hb dX8_findFit_63 ?_
      refine lv_lstore (lv' := [(5, .long ((s3 + ((mdx) (i)).toInt64))), (3, .long ((s2 + ((my) (i)).toInt64))), (1, .long ((s1 + ((mx) (i)).toInt64))), (0, .ref (a 22)), (7, .long (s4)), (9, .long (s5)), (11, .long (s6)), (13, .long (s7)), (15, .int (nI (i)))]) (pc := 64) hx hb dX8_findFit_64 hl (by decide) rfl (fun ls hl => ?_)
      refine lv_lload (pc := 66) hx hb dX8_findFit_66 (lv_at hl 4 rfl) ?_
      refine lv_aload_n (pc := 68) hx hb dX8_findFit_68 rfl (lv_at hl 3 rfl) ?_
      refine va_get (ci := 8) (C := RX8) (T := TX8) (N := 37) (pc := 69) hx hb hts hiX8 hown hK hP 22 w22 rfl 24 (by decide) (hts (.fieldLink RX8 60 "InkPressModel" "markDy" "[I") (by decide +kernel)) (fun _ h9 => h9) rfl dX8_findFit_69 ?_
      refine lv_iload (pc := 72) hx hb dX8_findFit_72 (lv_at hl 8 rfl) ?_
      refine mx_iald (pc := 74) hx hb hK hP 36 w36 (i) (by omega) (by decide) dX8_findFit_74 ?_
      refine lv_i2l (v := ((mdy) (i)).toInt64) (pc := 75) hx hb dX8_findFit_75 rfl ?_
      refine lv_ladd (pc := 76) hx hb dX8_findFit_76 ?_
      refine lv_lstore (lv' := [(7, .long ((s4 + ((mdy) (i)).toInt64))), (5, .long ((s3 + ((mdx) (i)).toInt64))), (3, .long ((s2 + ((my) (i)).toInt64))), (1, .long ((s1 + ((mx) (i)).toInt64))), (0, .ref (a 22)), (9, .long (s5)), (11, .long (s6)), (13, .long (s7)), (15, .int (nI (i)))]) (pc := 77) hx hb dX8_findFit_77 hl (by decide) rfl (fun ls hl => ?_)
      refine lv_lload (pc := 79) hx hb dX8_findFit_79 (lv_at hl 5 rfl) ?_
      refine lv_aload_n (pc := 81) hx hb dX8_findFit_81 rfl (lv_at hl 4 rfl) ?_
      refine va_get (ci := 8) (C := RX8) (T := TX8) (N := 37) (pc := 82) hx hb hts hiX8 hown hK hP 22 w22 rfl 21 (by decide) (hts (.fieldLink RX8 51 "InkPressModel" "markX" "[I") (by decide +kernel)) (fun _ h9 => h9) rfl dX8_findFit_82 ?_
      refine lv_iload (pc := 85) hx hb dX8_findFit_85 (lv_at hl 8 rfl) ?_
      refine mx_iald (pc := 87) hx hb hK hP 33 w33 (i) (by omega) (by decide) dX8_findFit_87 ?_
      refine lv_aload_n (pc := 88) hx hb dX8_findFit_88 rfl (lv_at hl 4 rfl) ?_
      refine va_get (ci := 8) (C := RX8) (T := TX8) (N := 37) (pc := 89) hx hb hts hiX8 hown hK hP 22 w22 rfl 21 (by decide) (hts (.fieldLink RX8 51 "InkPressModel" "markX" "[I") (by decide +kernel)) (fun _ h9 => h9) rfl dX8_findFit_89 ?_
      refine lv_iload (pc := 92) hx hb dX8_findFit_92 (lv_at hl 8 rfl) ?_
      refine mx_iald (pc := 94) hx hb hK hP 33 w33 (i) (by omega) (by decide) dX8_findFit_94 ?_
      refine lv_imul (pc := 95) hx hb dX8_findFit_95 ?_
      refine lv_aload_n (pc := 96) hx hb dX8_findFit_96 rfl (lv_at hl 4 rfl) ?_
      refine va_get (ci := 8) (C := RX8) (T := TX8) (N := 37) (pc := 97) hx hb hts hiX8 hown hK hP 22 w22 rfl 22 (by decide) (hts (.fieldLink RX8 54 "InkPressModel" "markY" "[I") (by decide +kernel)) (fun _ h9 => h9) rfl dX8_findFit_97 ?_
      refine lv_iload (pc := 100) hx hb dX8_findFit_100 (lv_at hl 8 rfl) ?_
      refine mx_iald (pc := 102) hx hb hK hP 34 w34 (i) (by omega) (by decide) dX8_findFit_102 ?_
      refine lv_aload_n (pc := 103) hx hb dX8_findFit_103 rfl (lv_at hl 4 rfl) ?_
      refine va_get (ci := 8) (C := RX8) (T := TX8) (N := 37) (pc := 104) hx hb hts hiX8 hown hK hP 22 w22 rfl 22 (by decide) (hts (.fieldLink RX8 54 "InkPressModel" "markY" "[I") (by decide +kernel)) (fun _ h9 => h9) rfl dX8_findFit_104 ?_
      refine lv_iload (pc := 107) hx hb dX8_findFit_107 (lv_at hl 8 rfl) ?_
      refine mx_iald (pc := 109) hx hb hK hP 34 w34 (i) (by omega) (by decide) dX8_findFit_109 ?_
      refine lv_imul (pc := 110) hx hb dX8_findFit_110 ?_
      refine lv_iadd (pc := 111) hx hb dX8_findFit_111 ?_
      refine lv_i2l (v := ((((mx) (i) * (mx) (i)) + ((my) (i) * (my) (i)))).toInt64) (pc := 112) hx hb dX8_findFit_112 rfl ?_
      refine lv_ladd (pc := 113) hx hb dX8_findFit_113 ?_
      refine lv_lstore (lv' := [(9, .long ((s5 + ((((mx) (i) * (mx) (i)) + ((my) (i) * (my) (i)))).toInt64))), (7, .long ((s4 + ((mdy) (i)).toInt64))), (5, .long ((s3 + ((mdx) (i)).toInt64))), (3, .long ((s2 + ((my) (i)).toInt64))), (1, .long ((s1 + ((mx) (i)).toInt64))), (0, .ref (a 22)), (11, .long (s6)), (13, .long (s7)), (15, .int (nI (i)))]) (pc := 114) hx hb dX8_findFit_114 hl (by decide) rfl (fun ls hl => ?_)
      refine lv_lload (pc := 116) hx hb dX8_findFit_116 (lv_at hl 6 rfl) ?_
      refine lv_aload_n (pc := 118) hx hb dX8_findFit_118 rfl (lv_at hl 5 rfl) ?_
      refine va_get (ci := 8) (C := RX8) (T := TX8) (N := 37) (pc := 119) hx hb hts hiX8 hown hK hP 22 w22 rfl 21 (by decide) (hts (.fieldLink RX8 51 "InkPressModel" "markX" "[I") (by decide +kernel)) (fun _ h9 => h9) rfl dX8_findFit_119 ?_
      refine lv_iload (pc := 122) hx hb dX8_findFit_122 (lv_at hl 8 rfl) ?_
      refine mx_iald (pc := 124) hx hb hK hP 33 w33 (i) (by omega) (by decide) dX8_findFit_124 ?_
      refine lv_aload_n (pc := 125) hx hb dX8_findFit_125 rfl (lv_at hl 5 rfl) ?_
      refine va_get (ci := 8) (C := RX8) (T := TX8) (N := 37) (pc := 126) hx hb hts hiX8 hown hK hP 22 w22 rfl 23 (by decide) (hts (.fieldLink RX8 57 "InkPressModel" "markDx" "[I") (by decide +kernel)) (fun _ h9 => h9) rfl dX8_findFit_126 ?_
      refine lv_iload (pc := 129) hx hb dX8_findFit_129 (lv_at hl 8 rfl) ?_
      refine mx_iald (pc := 131) hx hb hK hP 35 w35 (i) (by omega) (by decide) dX8_findFit_131 ?_
      refine lv_imul (pc := 132) hx hb dX8_findFit_132 ?_
      refine lv_aload_n (pc := 133) hx hb dX8_findFit_133 rfl (lv_at hl 5 rfl) ?_
      refine va_get (ci := 8) (C := RX8) (T := TX8) (N := 37) (pc := 134) hx hb hts hiX8 hown hK hP 22 w22 rfl 22 (by decide) (hts (.fieldLink RX8 54 "InkPressModel" "markY" "[I") (by decide +kernel)) (fun _ h9 => h9) rfl dX8_findFit_134 ?_
      refine lv_iload (pc := 137) hx hb dX8_findFit_137 (lv_at hl 8 rfl) ?_
      refine mx_iald (pc := 139) hx hb hK hP 34 w34 (i) (by omega) (by decide) dX8_findFit_139 ?_
      refine lv_aload_n (pc := 140) hx hb dX8_findFit_140 rfl (lv_at hl 5 rfl) ?_
      refine va_get (ci := 8) (C := RX8) (T := TX8) (N := 37) (pc := 141) hx hb hts hiX8 hown hK hP 22 w22 rfl 24 (by decide) (hts (.fieldLink RX8 60 "InkPressModel" "markDy" "[I") (by decide +kernel)) (fun _ h9 => h9) rfl dX8_findFit_141 ?_
      refine lv_iload (pc := 144) hx hb dX8_findFit_144 (lv_at hl 8 rfl) ?_
      refine mx_iald (pc := 146) hx hb hK hP 36 w36 (i) (by omega) (by decide) dX8_findFit_146 ?_
      refine lv_imul (pc := 147) hx hb dX8_findFit_147 ?_
      refine lv_iadd (pc := 148) hx hb dX8_findFit_148 ?_
      refine lv_i2l (v := ((((mx) (i) * (mdx) (i)) + ((my) (i) * (mdy) (i)))).toInt64) (pc := 149) hx hb dX8_findFit_149 rfl ?_
      refine lv_ladd (pc := 150) hx hb dX8_findFit_150 ?_
      refine lv_lstore (lv' := [(11, .long ((s6 + ((((mx) (i) * (mdx) (i)) + ((my) (i) * (mdy) (i)))).toInt64))), (9, .long ((s5 + ((((mx) (i) * (mx) (i)) + ((my) (i) * (my) (i)))).toInt64))), (7, .long ((s4 + ((mdy) (i)).toInt64))), (5, .long ((s3 + ((mdx) (i)).toInt64))), (3, .long ((s2 + ((my) (i)).toInt64))), (1, .long ((s1 + ((mx) (i)).toInt64))), (0, .ref (a 22)), (13, .long (s7)), (15, .int (nI (i)))]) (pc := 151) hx hb dX8_findFit_151 hl (by decide) rfl (fun ls hl => ?_)
      refine lv_lload (pc := 153) hx hb dX8_findFit_153 (lv_at hl 7 rfl) ?_
      refine lv_aload_n (pc := 155) hx hb dX8_findFit_155 rfl (lv_at hl 6 rfl) ?_
      refine va_get (ci := 8) (C := RX8) (T := TX8) (N := 37) (pc := 156) hx hb hts hiX8 hown hK hP 22 w22 rfl 21 (by decide) (hts (.fieldLink RX8 51 "InkPressModel" "markX" "[I") (by decide +kernel)) (fun _ h9 => h9) rfl dX8_findFit_156 ?_
      refine lv_iload (pc := 159) hx hb dX8_findFit_159 (lv_at hl 8 rfl) ?_
      refine mx_iald (pc := 161) hx hb hK hP 33 w33 (i) (by omega) (by decide) dX8_findFit_161 ?_
      refine lv_aload_n (pc := 162) hx hb dX8_findFit_162 rfl (lv_at hl 6 rfl) ?_
      refine va_get (ci := 8) (C := RX8) (T := TX8) (N := 37) (pc := 163) hx hb hts hiX8 hown hK hP 22 w22 rfl 24 (by decide) (hts (.fieldLink RX8 60 "InkPressModel" "markDy" "[I") (by decide +kernel)) (fun _ h9 => h9) rfl dX8_findFit_163 ?_
      refine lv_iload (pc := 166) hx hb dX8_findFit_166 (lv_at hl 8 rfl) ?_
      refine mx_iald (pc := 168) hx hb hK hP 36 w36 (i) (by omega) (by decide) dX8_findFit_168 ?_
      refine lv_imul (pc := 169) hx hb dX8_findFit_169 ?_
      refine lv_aload_n (pc := 170) hx hb dX8_findFit_170 rfl (lv_at hl 6 rfl) ?_
      refine va_get (ci := 8) (C := RX8) (T := TX8) (N := 37) (pc := 171) hx hb hts hiX8 hown hK hP 22 w22 rfl 22 (by decide) (hts (.fieldLink RX8 54 "InkPressModel" "markY" "[I") (by decide +kernel)) (fun _ h9 => h9) rfl dX8_findFit_171 ?_
      refine lv_iload (pc := 174) hx hb dX8_findFit_174 (lv_at hl 8 rfl) ?_
      refine mx_iald (pc := 176) hx hb hK hP 34 w34 (i) (by omega) (by decide) dX8_findFit_176 ?_
      refine lv_aload_n (pc := 177) hx hb dX8_findFit_177 rfl (lv_at hl 6 rfl) ?_
      refine va_get (ci := 8) (C := RX8) (T := TX8) (N := 37) (pc := 178) hx hb hts hiX8 hown hK hP 22 w22 rfl 23 (by decide) (hts (.fieldLink RX8 57 "InkPressModel" "markDx" "[I") (by decide +kernel)) (fun _ h9 => h9) rfl dX8_findFit_178 ?_
      refine lv_iload (pc := 181) hx hb dX8_findFit_181 (lv_at hl 8 rfl) ?_
      refine mx_iald (pc := 183) hx hb hK hP 35 w35 (i) (by omega) (by decide) dX8_findFit_183 ?_
      refine lv_imul (pc := 184) hx hb dX8_findFit_184 ?_
      refine lv_isub (pc := 185) hx hb dX8_findFit_185 ?_
      refine lv_i2l (v := ((((mx) (i) * (mdy) (i)) - ((my) (i) * (mdx) (i)))).toInt64) (pc := 186) hx hb dX8_findFit_186 rfl ?_
      refine lv_ladd (pc := 187) hx hb dX8_findFit_187 ?_
      refine lv_lstore (lv' := [(13, .long ((s7 + ((((mx) (i) * (mdy) (i)) - ((my) (i) * (mdx) (i)))).toInt64))), (11, .long ((s6 + ((((mx) (i) * (mdx) (i)) + ((my) (i) * (mdy) (i)))).toInt64))), (9, .long ((s5 + ((((mx) (i) * (mx) (i)) + ((my) (i) * (my) (i)))).toInt64))), (7, .long ((s4 + ((mdy) (i)).toInt64))), (5, .long ((s3 + ((mdx) (i)).toInt64))), (3, .long ((s2 + ((my) (i)).toInt64))), (1, .long ((s1 + ((mx) (i)).toInt64))), (0, .ref (a 22)), (15, .int (nI (i)))]) (pc := 188) hx hb dX8_findFit_188 hl (by decide) rfl (fun ls hl => ?_)
      refine lv_iinc (v := nI (i + 1)) (lv' := [(15, .int (nI (i + 1))), (13, .long ((s7 + ((((mx) (i) * (mdy) (i)) - ((my) (i) * (mdx) (i)))).toInt64))), (11, .long ((s6 + ((((mx) (i) * (mdx) (i)) + ((my) (i) * (mdy) (i)))).toInt64))), (9, .long ((s5 + ((((mx) (i) * (mx) (i)) + ((my) (i) * (my) (i)))).toInt64))), (7, .long ((s4 + ((mdy) (i)).toInt64))), (5, .long ((s3 + ((mdx) (i)).toInt64))), (3, .long ((s2 + ((my) (i)).toInt64))), (1, .long ((s1 + ((mx) (i)).toInt64))), (0, .ref (a 22))]) (pc := 190) hx hb dX8_findFit_190 hl (k := 8) rfl (mx_inc1 _) (by decide) rfl (fun ls hl => ?_)
      refine lv_goto (tgt := 22) (pc := 193) hx hb dX8_findFit_193 (by decide) ?_
      exact ih (i + 1) ((s1 + ((mx) (i)).toInt64)) ((s2 + ((my) (i)).toInt64)) ((s3 + ((mdx) (i)).toInt64)) ((s4 + ((mdy) (i)).toInt64)) ((s5 + ((((mx) (i) * (mx) (i)) + ((my) (i) * (my) (i)))).toInt64)) ((s6 + ((((mx) (i) * (mdx) (i)) + ((my) (i) * (mdy) (i)))).toInt64)) ((s7 + ((((mx) (i) * (mdy) (i)) - ((my) (i) * (mdx) (i)))).toInt64)) (by omega) G H locs ls hP hD hS hk w22 w33 w34 w35 w36 (lv_sub hl [8, 7, 6, 5, 4, 3, 2, 1, 0] rfl) hcont
  refine LP mn (0) (0) (0) (0) (0) (0) (0) (0) (by omega) G0 H locs ls hP hD hS hk w22 w33 w34 w35 w36 (lv_sub hl [8, 7, 6, 5, 4, 3, 2, 1, 0] rfl) (fun G H locs ls hP hD hS hk w22 w33 w34 w35 w36 hl => ?_)
  refine lv_aload_n (pc := 196) hx hb dX8_findFit_196 rfl (lv_at hl 0 rfl) ?_
  refine lv_aload_n (pc := 197) hx hb dX8_findFit_197 rfl (lv_at hl 0 rfl) ?_
  refine va_get (ci := 8) (C := RX8) (T := TX8) (N := 37) (pc := 198) hx hb hts hiX8 hown hK hP 22 w22 rfl 25 (by decide) (hts (.fieldLink RX8 159 "InkPressModel" "marks" "I") (by decide +kernel)) (fun _ h9 => h9) rfl dX8_findFit_198 ?_
  refine lv_i2l (v := (nI (mn)).toInt64) (pc := 201) hx hb dX8_findFit_201 rfl ?_
  refine lv_lload (pc := 202) hx hb dX8_findFit_202 (lv_at hl 5 rfl) ?_
  refine lv_lmul (pc := 204) hx hb dX8_findFit_204 ?_
  refine lv_lload_n (pc := 205) hx hb dX8_findFit_205 rfl (lv_at hl 1 rfl) ?_
  refine lv_lload_n (pc := 206) hx hb dX8_findFit_206 rfl (lv_at hl 1 rfl) ?_
  refine lv_lmul (pc := 207) hx hb dX8_findFit_207 ?_
  refine lv_lsub (pc := 208) hx hb dX8_findFit_208 ?_
  refine lv_lload_n (pc := 209) hx hb dX8_findFit_209 rfl (lv_at hl 2 rfl) ?_
  refine lv_lload_n (pc := 210) hx hb dX8_findFit_210 rfl (lv_at hl 2 rfl) ?_
  refine lv_lmul (pc := 211) hx hb dX8_findFit_211 ?_
  refine lv_lsub (pc := 212) hx hb dX8_findFit_212 ?_
  refine mx_put (ci := 8) (v := .long (((((nI (mn)).toInt64 * gPs (fun j => mx j * mx j + my j * my j) (mn) (0) (0)) - (gPs mx (mn) (0) (0) * gPs mx (mn) (0) (0))) - (gPs my (mn) (0) (0) * gPs my (mn) (0) (0))))) (ty := .long) (C := RX8) (T := TX8) (N := 37) (pc := 213) hx hb hts hiX8 tyX8 tyX8_ok nmX8 hown hK hP hD hS 22 w22 rfl 26 (by decide) (hts (.fieldLink RX8 162 "InkPressModel" "all" "J") (by decide +kernel)) (fun _ h9 => h9) rfl (by decide +kernel) rfl rfl (Nat.le_of_ble_eq_true rfl) dX8_findFit_213 (fun H locs G hP hD hS w22 ho => ?_)
  have w33 := (ho 33 (by decide)).trans w33
  have w34 := (ho 34 (by decide)).trans w34
  have w35 := (ho 35 (by decide)).trans w35
  have w36 := (ho 36 (by decide)).trans w36
  have w22 : G[22]? = some (a 22, .inr (8, [.int (nI (zn)), .int (nI (tr)), .ref (a 23), .ref (a 24), .ref (a 25), .ref (a 26), .ref (a 27), .ref (a 28), .ref (a 29), .int (nI (sc)), .int (sg), .int (sr), .int (ss), .int (fed), .int (pap), .int (bar), .int (gB (st)), .ref (a 30), .ref (a 31), .ref (a 32), .int (nI (pn)), .ref (a 33), .ref (a 34), .ref (a 35), .ref (a 36), .int (nI (mn)), .long (((((nI (mn)).toInt64 * gPs (fun j => mx j * mx j + my j * my j) (mn) (0) (0)) - (gPs mx (mn) (0) (0) * gPs mx (mn) (0) (0))) - (gPs my (mn) (0) (0) * gPs my (mn) (0) (0)))), .long (q2), .long (q3), .long (q4), .long (q5), .ref (a 37), .ref (a 38), .ref (a 39), .int (nI (jn)), .ref (a 40), .ref (a 41)])) := w22
  have hk := gk_step hk ho (by decide)
  clear ho
  refine lv_aload_n (pc := 216) hx hb dX8_findFit_216 rfl (lv_at hl 0 rfl) ?_
  refine lv_aload_n (pc := 217) hx hb dX8_findFit_217 rfl (lv_at hl 0 rfl) ?_
  refine va_get (ci := 8) (C := RX8) (T := TX8) (N := 37) (pc := 218) hx hb hts hiX8 hown hK hP 22 w22 rfl 25 (by decide) (hts (.fieldLink RX8 159 "InkPressModel" "marks" "I") (by decide +kernel)) (fun _ h9 => h9) rfl dX8_findFit_218 ?_
  refine lv_i2l (v := (nI (mn)).toInt64) (pc := 221) hx hb dX8_findFit_221 rfl ?_
  refine lv_lload (pc := 222) hx hb dX8_findFit_222 (lv_at hl 6 rfl) ?_
  refine lv_lmul (pc := 224) hx hb dX8_findFit_224 ?_
  refine lv_lload_n (pc := 225) hx hb dX8_findFit_225 rfl (lv_at hl 1 rfl) ?_
  refine lv_lload (pc := 226) hx hb dX8_findFit_226 (lv_at hl 3 rfl) ?_
  refine lv_lmul (pc := 228) hx hb dX8_findFit_228 ?_
  refine lv_lsub (pc := 229) hx hb dX8_findFit_229 ?_
  refine lv_lload_n (pc := 230) hx hb dX8_findFit_230 rfl (lv_at hl 2 rfl) ?_
  refine lv_lload (pc := 231) hx hb dX8_findFit_231 (lv_at hl 4 rfl) ?_
  refine lv_lmul (pc := 233) hx hb dX8_findFit_233 ?_
  refine lv_lsub (pc := 234) hx hb dX8_findFit_234 ?_
  refine mx_put (ci := 8) (v := .long (((((nI (mn)).toInt64 * gPs (fun j => mx j * mdx j + my j * mdy j) (mn) (0) (0)) - (gPs mx (mn) (0) (0) * gPs mdx (mn) (0) (0))) - (gPs my (mn) (0) (0) * gPs mdy (mn) (0) (0))))) (ty := .long) (C := RX8) (T := TX8) (N := 37) (pc := 235) hx hb hts hiX8 tyX8 tyX8_ok nmX8 hown hK hP hD hS 22 w22 rfl 27 (by decide) (hts (.fieldLink RX8 166 "InkPressModel" "stretch" "J") (by decide +kernel)) (fun _ h9 => h9) rfl (by decide +kernel) rfl rfl (Nat.le_of_ble_eq_true rfl) dX8_findFit_235 (fun H locs G hP hD hS w22 ho => ?_)
  have w33 := (ho 33 (by decide)).trans w33
  have w34 := (ho 34 (by decide)).trans w34
  have w35 := (ho 35 (by decide)).trans w35
  have w36 := (ho 36 (by decide)).trans w36
  have w22 : G[22]? = some (a 22, .inr (8, [.int (nI (zn)), .int (nI (tr)), .ref (a 23), .ref (a 24), .ref (a 25), .ref (a 26), .ref (a 27), .ref (a 28), .ref (a 29), .int (nI (sc)), .int (sg), .int (sr), .int (ss), .int (fed), .int (pap), .int (bar), .int (gB (st)), .ref (a 30), .ref (a 31), .ref (a 32), .int (nI (pn)), .ref (a 33), .ref (a 34), .ref (a 35), .ref (a 36), .int (nI (mn)), .long (((((nI (mn)).toInt64 * gPs (fun j => mx j * mx j + my j * my j) (mn) (0) (0)) - (gPs mx (mn) (0) (0) * gPs mx (mn) (0) (0))) - (gPs my (mn) (0) (0) * gPs my (mn) (0) (0)))), .long (((((nI (mn)).toInt64 * gPs (fun j => mx j * mdx j + my j * mdy j) (mn) (0) (0)) - (gPs mx (mn) (0) (0) * gPs mdx (mn) (0) (0))) - (gPs my (mn) (0) (0) * gPs mdy (mn) (0) (0)))), .long (q3), .long (q4), .long (q5), .ref (a 37), .ref (a 38), .ref (a 39), .int (nI (jn)), .ref (a 40), .ref (a 41)])) := w22
  have hk := gk_step hk ho (by decide)
  clear ho
  refine lv_aload_n (pc := 238) hx hb dX8_findFit_238 rfl (lv_at hl 0 rfl) ?_
  refine lv_aload_n (pc := 239) hx hb dX8_findFit_239 rfl (lv_at hl 0 rfl) ?_
  refine va_get (ci := 8) (C := RX8) (T := TX8) (N := 37) (pc := 240) hx hb hts hiX8 hown hK hP 22 w22 rfl 25 (by decide) (hts (.fieldLink RX8 159 "InkPressModel" "marks" "I") (by decide +kernel)) (fun _ h9 => h9) rfl dX8_findFit_240 ?_
  refine lv_i2l (v := (nI (mn)).toInt64) (pc := 243) hx hb dX8_findFit_243 rfl ?_
  refine lv_lload (pc := 244) hx hb dX8_findFit_244 (lv_at hl 7 rfl) ?_
  refine lv_lmul (pc := 246) hx hb dX8_findFit_246 ?_
  refine lv_lload_n (pc := 247) hx hb dX8_findFit_247 rfl (lv_at hl 1 rfl) ?_
  refine lv_lload (pc := 248) hx hb dX8_findFit_248 (lv_at hl 4 rfl) ?_
  refine lv_lmul (pc := 250) hx hb dX8_findFit_250 ?_
  refine lv_lsub (pc := 251) hx hb dX8_findFit_251 ?_
  refine lv_lload_n (pc := 252) hx hb dX8_findFit_252 rfl (lv_at hl 2 rfl) ?_
  refine lv_lload (pc := 253) hx hb dX8_findFit_253 (lv_at hl 3 rfl) ?_
  refine lv_lmul (pc := 255) hx hb dX8_findFit_255 ?_
  refine lv_ladd (pc := 256) hx hb dX8_findFit_256 ?_
  refine mx_put (ci := 8) (v := .long (((((nI (mn)).toInt64 * gPs (fun j => mx j * mdy j - my j * mdx j) (mn) (0) (0)) - (gPs mx (mn) (0) (0) * gPs mdy (mn) (0) (0))) + (gPs my (mn) (0) (0) * gPs mdx (mn) (0) (0))))) (ty := .long) (C := RX8) (T := TX8) (N := 37) (pc := 257) hx hb hts hiX8 tyX8 tyX8_ok nmX8 hown hK hP hD hS 22 w22 rfl 28 (by decide) (hts (.fieldLink RX8 169 "InkPressModel" "turn" "J") (by decide +kernel)) (fun _ h9 => h9) rfl (by decide +kernel) rfl rfl (Nat.le_of_ble_eq_true rfl) dX8_findFit_257 (fun H locs G hP hD hS w22 ho => ?_)
  have w33 := (ho 33 (by decide)).trans w33
  have w34 := (ho 34 (by decide)).trans w34
  have w35 := (ho 35 (by decide)).trans w35
  have w36 := (ho 36 (by decide)).trans w36
  have w22 : G[22]? = some (a 22, .inr (8, [.int (nI (zn)), .int (nI (tr)), .ref (a 23), .ref (a 24), .ref (a 25), .ref (a 26), .ref (a 27), .ref (a 28), .ref (a 29), .int (nI (sc)), .int (sg), .int (sr), .int (ss), .int (fed), .int (pap), .int (bar), .int (gB (st)), .ref (a 30), .ref (a 31), .ref (a 32), .int (nI (pn)), .ref (a 33), .ref (a 34), .ref (a 35), .ref (a 36), .int (nI (mn)), .long (((((nI (mn)).toInt64 * gPs (fun j => mx j * mx j + my j * my j) (mn) (0) (0)) - (gPs mx (mn) (0) (0) * gPs mx (mn) (0) (0))) - (gPs my (mn) (0) (0) * gPs my (mn) (0) (0)))), .long (((((nI (mn)).toInt64 * gPs (fun j => mx j * mdx j + my j * mdy j) (mn) (0) (0)) - (gPs mx (mn) (0) (0) * gPs mdx (mn) (0) (0))) - (gPs my (mn) (0) (0) * gPs mdy (mn) (0) (0)))), .long (((((nI (mn)).toInt64 * gPs (fun j => mx j * mdy j - my j * mdx j) (mn) (0) (0)) - (gPs mx (mn) (0) (0) * gPs mdy (mn) (0) (0))) + (gPs my (mn) (0) (0) * gPs mdx (mn) (0) (0)))), .long (q4), .long (q5), .ref (a 37), .ref (a 38), .ref (a 39), .int (nI (jn)), .ref (a 40), .ref (a 41)])) := w22
  have hk := gk_step hk ho (by decide)
  clear ho
  refine lv_aload_n (pc := 260) hx hb dX8_findFit_260 rfl (lv_at hl 0 rfl) ?_
  refine lv_lload (pc := 261) hx hb dX8_findFit_261 (lv_at hl 3 rfl) ?_
  refine lv_aload_n (pc := 263) hx hb dX8_findFit_263 rfl (lv_at hl 0 rfl) ?_
  refine va_get (ci := 8) (C := RX8) (T := TX8) (N := 37) (pc := 264) hx hb hts hiX8 hown hK hP 22 w22 rfl 26 (by decide) (hts (.fieldLink RX8 162 "InkPressModel" "all" "J") (by decide +kernel)) (fun _ h9 => h9) rfl dX8_findFit_264 ?_
  refine lv_lmul (pc := 267) hx hb dX8_findFit_267 ?_
  refine lv_aload_n (pc := 268) hx hb dX8_findFit_268 rfl (lv_at hl 0 rfl) ?_
  refine va_get (ci := 8) (C := RX8) (T := TX8) (N := 37) (pc := 269) hx hb hts hiX8 hown hK hP 22 w22 rfl 27 (by decide) (hts (.fieldLink RX8 166 "InkPressModel" "stretch" "J") (by decide +kernel)) (fun _ h9 => h9) rfl dX8_findFit_269 ?_
  refine lv_lload_n (pc := 272) hx hb dX8_findFit_272 rfl (lv_at hl 1 rfl) ?_
  refine lv_lmul (pc := 273) hx hb dX8_findFit_273 ?_
  refine lv_lsub (pc := 274) hx hb dX8_findFit_274 ?_
  refine lv_aload_n (pc := 275) hx hb dX8_findFit_275 rfl (lv_at hl 0 rfl) ?_
  refine va_get (ci := 8) (C := RX8) (T := TX8) (N := 37) (pc := 276) hx hb hts hiX8 hown hK hP 22 w22 rfl 28 (by decide) (hts (.fieldLink RX8 169 "InkPressModel" "turn" "J") (by decide +kernel)) (fun _ h9 => h9) rfl dX8_findFit_276 ?_
  refine lv_lload_n (pc := 279) hx hb dX8_findFit_279 rfl (lv_at hl 2 rfl) ?_
  refine lv_lmul (pc := 280) hx hb dX8_findFit_280 ?_
  refine lv_ladd (pc := 281) hx hb dX8_findFit_281 ?_
  refine mx_put (ci := 8) (v := .long ((((gPs mdx (mn) (0) (0) * ((((nI (mn)).toInt64 * gPs (fun j => mx j * mx j + my j * my j) (mn) (0) (0)) - (gPs mx (mn) (0) (0) * gPs mx (mn) (0) (0))) - (gPs my (mn) (0) (0) * gPs my (mn) (0) (0)))) - (((((nI (mn)).toInt64 * gPs (fun j => mx j * mdx j + my j * mdy j) (mn) (0) (0)) - (gPs mx (mn) (0) (0) * gPs mdx (mn) (0) (0))) - (gPs my (mn) (0) (0) * gPs mdy (mn) (0) (0))) * gPs mx (mn) (0) (0))) + (((((nI (mn)).toInt64 * gPs (fun j => mx j * mdy j - my j * mdx j) (mn) (0) (0)) - (gPs mx (mn) (0) (0) * gPs mdy (mn) (0) (0))) + (gPs my (mn) (0) (0) * gPs mdx (mn) (0) (0))) * gPs my (mn) (0) (0))))) (ty := .long) (C := RX8) (T := TX8) (N := 37) (pc := 282) hx hb hts hiX8 tyX8 tyX8_ok nmX8 hown hK hP hD hS 22 w22 rfl 29 (by decide) (hts (.fieldLink RX8 172 "InkPressModel" "across" "J") (by decide +kernel)) (fun _ h9 => h9) rfl (by decide +kernel) rfl rfl (Nat.le_of_ble_eq_true rfl) dX8_findFit_282 (fun H locs G hP hD hS w22 ho => ?_)
  have w33 := (ho 33 (by decide)).trans w33
  have w34 := (ho 34 (by decide)).trans w34
  have w35 := (ho 35 (by decide)).trans w35
  have w36 := (ho 36 (by decide)).trans w36
  have w22 : G[22]? = some (a 22, .inr (8, [.int (nI (zn)), .int (nI (tr)), .ref (a 23), .ref (a 24), .ref (a 25), .ref (a 26), .ref (a 27), .ref (a 28), .ref (a 29), .int (nI (sc)), .int (sg), .int (sr), .int (ss), .int (fed), .int (pap), .int (bar), .int (gB (st)), .ref (a 30), .ref (a 31), .ref (a 32), .int (nI (pn)), .ref (a 33), .ref (a 34), .ref (a 35), .ref (a 36), .int (nI (mn)), .long (((((nI (mn)).toInt64 * gPs (fun j => mx j * mx j + my j * my j) (mn) (0) (0)) - (gPs mx (mn) (0) (0) * gPs mx (mn) (0) (0))) - (gPs my (mn) (0) (0) * gPs my (mn) (0) (0)))), .long (((((nI (mn)).toInt64 * gPs (fun j => mx j * mdx j + my j * mdy j) (mn) (0) (0)) - (gPs mx (mn) (0) (0) * gPs mdx (mn) (0) (0))) - (gPs my (mn) (0) (0) * gPs mdy (mn) (0) (0)))), .long (((((nI (mn)).toInt64 * gPs (fun j => mx j * mdy j - my j * mdx j) (mn) (0) (0)) - (gPs mx (mn) (0) (0) * gPs mdy (mn) (0) (0))) + (gPs my (mn) (0) (0) * gPs mdx (mn) (0) (0)))), .long ((((gPs mdx (mn) (0) (0) * ((((nI (mn)).toInt64 * gPs (fun j => mx j * mx j + my j * my j) (mn) (0) (0)) - (gPs mx (mn) (0) (0) * gPs mx (mn) (0) (0))) - (gPs my (mn) (0) (0) * gPs my (mn) (0) (0)))) - (((((nI (mn)).toInt64 * gPs (fun j => mx j * mdx j + my j * mdy j) (mn) (0) (0)) - (gPs mx (mn) (0) (0) * gPs mdx (mn) (0) (0))) - (gPs my (mn) (0) (0) * gPs mdy (mn) (0) (0))) * gPs mx (mn) (0) (0))) + (((((nI (mn)).toInt64 * gPs (fun j => mx j * mdy j - my j * mdx j) (mn) (0) (0)) - (gPs mx (mn) (0) (0) * gPs mdy (mn) (0) (0))) + (gPs my (mn) (0) (0) * gPs mdx (mn) (0) (0))) * gPs my (mn) (0) (0)))), .long (q5), .ref (a 37), .ref (a 38), .ref (a 39), .int (nI (jn)), .ref (a 40), .ref (a 41)])) := w22
  have hk := gk_step hk ho (by decide)
  clear ho
  refine lv_aload_n (pc := 285) hx hb dX8_findFit_285 rfl (lv_at hl 0 rfl) ?_
  refine lv_lload (pc := 286) hx hb dX8_findFit_286 (lv_at hl 4 rfl) ?_
  refine lv_aload_n (pc := 288) hx hb dX8_findFit_288 rfl (lv_at hl 0 rfl) ?_
  refine va_get (ci := 8) (C := RX8) (T := TX8) (N := 37) (pc := 289) hx hb hts hiX8 hown hK hP 22 w22 rfl 26 (by decide) (hts (.fieldLink RX8 162 "InkPressModel" "all" "J") (by decide +kernel)) (fun _ h9 => h9) rfl dX8_findFit_289 ?_
  refine lv_lmul (pc := 292) hx hb dX8_findFit_292 ?_
  refine lv_aload_n (pc := 293) hx hb dX8_findFit_293 rfl (lv_at hl 0 rfl) ?_
  refine va_get (ci := 8) (C := RX8) (T := TX8) (N := 37) (pc := 294) hx hb hts hiX8 hown hK hP 22 w22 rfl 27 (by decide) (hts (.fieldLink RX8 166 "InkPressModel" "stretch" "J") (by decide +kernel)) (fun _ h9 => h9) rfl dX8_findFit_294 ?_
  refine lv_lload_n (pc := 297) hx hb dX8_findFit_297 rfl (lv_at hl 2 rfl) ?_
  refine lv_lmul (pc := 298) hx hb dX8_findFit_298 ?_
  refine lv_lsub (pc := 299) hx hb dX8_findFit_299 ?_
  refine lv_aload_n (pc := 300) hx hb dX8_findFit_300 rfl (lv_at hl 0 rfl) ?_
  refine va_get (ci := 8) (C := RX8) (T := TX8) (N := 37) (pc := 301) hx hb hts hiX8 hown hK hP 22 w22 rfl 28 (by decide) (hts (.fieldLink RX8 169 "InkPressModel" "turn" "J") (by decide +kernel)) (fun _ h9 => h9) rfl dX8_findFit_301 ?_
  refine lv_lload_n (pc := 304) hx hb dX8_findFit_304 rfl (lv_at hl 1 rfl) ?_
  refine lv_lmul (pc := 305) hx hb dX8_findFit_305 ?_
  refine lv_lsub (pc := 306) hx hb dX8_findFit_306 ?_
  refine mx_put (ci := 8) (v := .long ((((gPs mdy (mn) (0) (0) * ((((nI (mn)).toInt64 * gPs (fun j => mx j * mx j + my j * my j) (mn) (0) (0)) - (gPs mx (mn) (0) (0) * gPs mx (mn) (0) (0))) - (gPs my (mn) (0) (0) * gPs my (mn) (0) (0)))) - (((((nI (mn)).toInt64 * gPs (fun j => mx j * mdx j + my j * mdy j) (mn) (0) (0)) - (gPs mx (mn) (0) (0) * gPs mdx (mn) (0) (0))) - (gPs my (mn) (0) (0) * gPs mdy (mn) (0) (0))) * gPs my (mn) (0) (0))) - (((((nI (mn)).toInt64 * gPs (fun j => mx j * mdy j - my j * mdx j) (mn) (0) (0)) - (gPs mx (mn) (0) (0) * gPs mdy (mn) (0) (0))) + (gPs my (mn) (0) (0) * gPs mdx (mn) (0) (0))) * gPs mx (mn) (0) (0))))) (ty := .long) (C := RX8) (T := TX8) (N := 37) (pc := 307) hx hb hts hiX8 tyX8 tyX8_ok nmX8 hown hK hP hD hS 22 w22 rfl 30 (by decide) (hts (.fieldLink RX8 175 "InkPressModel" "above" "J") (by decide +kernel)) (fun _ h9 => h9) rfl (by decide +kernel) rfl rfl (Nat.le_of_ble_eq_true rfl) dX8_findFit_307 (fun H locs G hP hD hS w22 ho => ?_)
  have w33 := (ho 33 (by decide)).trans w33
  have w34 := (ho 34 (by decide)).trans w34
  have w35 := (ho 35 (by decide)).trans w35
  have w36 := (ho 36 (by decide)).trans w36
  have w22 : G[22]? = some (a 22, .inr (8, [.int (nI (zn)), .int (nI (tr)), .ref (a 23), .ref (a 24), .ref (a 25), .ref (a 26), .ref (a 27), .ref (a 28), .ref (a 29), .int (nI (sc)), .int (sg), .int (sr), .int (ss), .int (fed), .int (pap), .int (bar), .int (gB (st)), .ref (a 30), .ref (a 31), .ref (a 32), .int (nI (pn)), .ref (a 33), .ref (a 34), .ref (a 35), .ref (a 36), .int (nI (mn)), .long (((((nI (mn)).toInt64 * gPs (fun j => mx j * mx j + my j * my j) (mn) (0) (0)) - (gPs mx (mn) (0) (0) * gPs mx (mn) (0) (0))) - (gPs my (mn) (0) (0) * gPs my (mn) (0) (0)))), .long (((((nI (mn)).toInt64 * gPs (fun j => mx j * mdx j + my j * mdy j) (mn) (0) (0)) - (gPs mx (mn) (0) (0) * gPs mdx (mn) (0) (0))) - (gPs my (mn) (0) (0) * gPs mdy (mn) (0) (0)))), .long (((((nI (mn)).toInt64 * gPs (fun j => mx j * mdy j - my j * mdx j) (mn) (0) (0)) - (gPs mx (mn) (0) (0) * gPs mdy (mn) (0) (0))) + (gPs my (mn) (0) (0) * gPs mdx (mn) (0) (0)))), .long ((((gPs mdx (mn) (0) (0) * ((((nI (mn)).toInt64 * gPs (fun j => mx j * mx j + my j * my j) (mn) (0) (0)) - (gPs mx (mn) (0) (0) * gPs mx (mn) (0) (0))) - (gPs my (mn) (0) (0) * gPs my (mn) (0) (0)))) - (((((nI (mn)).toInt64 * gPs (fun j => mx j * mdx j + my j * mdy j) (mn) (0) (0)) - (gPs mx (mn) (0) (0) * gPs mdx (mn) (0) (0))) - (gPs my (mn) (0) (0) * gPs mdy (mn) (0) (0))) * gPs mx (mn) (0) (0))) + (((((nI (mn)).toInt64 * gPs (fun j => mx j * mdy j - my j * mdx j) (mn) (0) (0)) - (gPs mx (mn) (0) (0) * gPs mdy (mn) (0) (0))) + (gPs my (mn) (0) (0) * gPs mdx (mn) (0) (0))) * gPs my (mn) (0) (0)))), .long ((((gPs mdy (mn) (0) (0) * ((((nI (mn)).toInt64 * gPs (fun j => mx j * mx j + my j * my j) (mn) (0) (0)) - (gPs mx (mn) (0) (0) * gPs mx (mn) (0) (0))) - (gPs my (mn) (0) (0) * gPs my (mn) (0) (0)))) - (((((nI (mn)).toInt64 * gPs (fun j => mx j * mdx j + my j * mdy j) (mn) (0) (0)) - (gPs mx (mn) (0) (0) * gPs mdx (mn) (0) (0))) - (gPs my (mn) (0) (0) * gPs mdy (mn) (0) (0))) * gPs my (mn) (0) (0))) - (((((nI (mn)).toInt64 * gPs (fun j => mx j * mdy j - my j * mdx j) (mn) (0) (0)) - (gPs mx (mn) (0) (0) * gPs mdy (mn) (0) (0))) + (gPs my (mn) (0) (0) * gPs mdx (mn) (0) (0))) * gPs mx (mn) (0) (0)))), .ref (a 37), .ref (a 38), .ref (a 39), .int (nI (jn)), .ref (a 40), .ref (a 41)])) := w22
  have hk := gk_step hk ho (by decide)
  clear ho
  have w22 : G[22]? = some (a 22, .inr (8, [.int (nI (zn)), .int (nI (tr)), .ref (a 23), .ref (a 24), .ref (a 25), .ref (a 26), .ref (a 27), .ref (a 28), .ref (a 29), .int (nI (sc)), .int (sg), .int (sr), .int (ss), .int (fed), .int (pap), .int (bar), .int (gB (st)), .ref (a 30), .ref (a 31), .ref (a 32), .int (nI (pn)), .ref (a 33), .ref (a 34), .ref (a 35), .ref (a 36), .int (nI (mn)), .long (gSp mn (gPs mx mn 0 0) (gPs my mn 0 0) (gPs mdx mn 0 0) (gPs mdy mn 0 0) (gPs (fun j => mx j * mx j + my j * my j) mn 0 0) (gPs (fun j => mx j * mdx j + my j * mdy j) mn 0 0) (gPs (fun j => mx j * mdy j - my j * mdx j) mn 0 0)), .long (gStr mn (gPs mx mn 0 0) (gPs my mn 0 0) (gPs mdx mn 0 0) (gPs mdy mn 0 0) (gPs (fun j => mx j * mx j + my j * my j) mn 0 0) (gPs (fun j => mx j * mdx j + my j * mdy j) mn 0 0) (gPs (fun j => mx j * mdy j - my j * mdx j) mn 0 0)), .long (gTu mn (gPs mx mn 0 0) (gPs my mn 0 0) (gPs mdx mn 0 0) (gPs mdy mn 0 0) (gPs (fun j => mx j * mx j + my j * my j) mn 0 0) (gPs (fun j => mx j * mdx j + my j * mdy j) mn 0 0) (gPs (fun j => mx j * mdy j - my j * mdx j) mn 0 0)), .long (gAc mn (gPs mx mn 0 0) (gPs my mn 0 0) (gPs mdx mn 0 0) (gPs mdy mn 0 0) (gPs (fun j => mx j * mx j + my j * my j) mn 0 0) (gPs (fun j => mx j * mdx j + my j * mdy j) mn 0 0) (gPs (fun j => mx j * mdy j - my j * mdx j) mn 0 0)), .long (gUp mn (gPs mx mn 0 0) (gPs my mn 0 0) (gPs mdx mn 0 0) (gPs mdy mn 0 0) (gPs (fun j => mx j * mx j + my j * my j) mn 0 0) (gPs (fun j => mx j * mdx j + my j * mdy j) mn 0 0) (gPs (fun j => mx j * mdy j - my j * mdx j) mn 0 0)), .ref (a 37), .ref (a 38), .ref (a 39), .int (nI (jn)), .ref (a 40), .ref (a 41)])) := w22
  refine lv_aload_n (pc := 310) hx hb dX8_findFit_310 rfl (lv_at hl 0 rfl) ?_
  refine va_get (ci := 8) (C := RX8) (T := TX8) (N := 37) (pc := 311) hx hb hts hiX8 hown hK hP 22 w22 rfl 26 (by decide) (hts (.fieldLink RX8 162 "InkPressModel" "all" "J") (by decide +kernel)) (fun _ h9 => h9) rfl dX8_findFit_311 ?_
  refine lv_lconst (v := 0) (pc := 314) hx hb dX8_findFit_314 (by decide) ?_
  refine W.lcmp (pc := 315) hx hb dX8_findFit_315 ?_
  refine lv_if_le (tgt := 323) (pc := 316) hx hb dX8_findFit_316 (by decide) (fun c316 => ?_) (fun c316 => ?_)
  · skip
    have c316 := lg_le.mp c316
    refine lv_iconst (v := nI (0)) (pc := 323) hx hb dX8_findFit_323 (by decide) ?_
    exact hret _ _ _ _ _ _ hP hD hS rfl (gDe_f (Int64.not_lt.mpr c316)) ⟨w22, hk⟩ dX8_findFit_324
  · skip
    have c316 := fun z => c316 (lg_le.mpr z)
    refine lv_iconst (v := nI (1)) (pc := 319) hx hb dX8_findFit_319 (by decide) ?_
    refine lv_goto (tgt := 324) (pc := 320) hx hb dX8_findFit_320 (by decide) ?_
    exact hret _ _ _ _ _ _ hP hD hS rfl (gDe_t (Int64.not_le.mp c316)) ⟨w22, hk⟩ dX8_findFit_324
set_option maxHeartbeats 4000000 in
set_option maxRecDepth 100000 in
theorem k_X8_lowest_0 {l : Launch} {D : va_G} {cI cZ : ClassId} {A : Nat → Prop} {g a : Nat → Nat} {G0 : va_W} {uu : Int64} {lw : Int64} {xa : Nat} {yb : Nat} (hD : va_D A G0) (hu : gMlab uu = lN xa) (hw : lw = lN yb) (hx3 : xa < 2 ^ 63) (hy0 : 0 < yb) (hy3 : yb < 2 ^ 63) : gMl l D cI cZ A g yX8_lowest wsX8_lowest ({ frames := 0, cells := 0, slots := 0, locals := 0 }) [.long (uu), .long (lw), .int (nI (0))] G0 (uu / lN (Nat.gcd xa yb)) (fun G1 => G1 = G0) := by
  refine gof_l (cc := cX8_lowest) (maxL := 11) (by decide) rfl (Nat.le_of_ble_eq_true rfl) hD ?_
  intro p e s m args below meth c Q hx hb hml hts hown hK hN hZ hP hS hret ls hl
  have hown : s.vm.findClass RX8 = some m.cls := hown
  have hl : lv_has ls 11 [(0, .long (uu)), (2, .long (lw)), (4, .int (nI (0)))] := hl
  obtain ⟨locs, elocs⟩ : ∃ q : List Loc, q = [] := ⟨_, rfl⟩
  rw [← elocs] at hS ⊢
  obtain ⟨H, eH⟩ : ∃ q : Heap, q = s.heap := ⟨_, rfl⟩
  have hP : va_P D vwCl G0 H := eH ▸ hP
  have hS : va_S A s.heap H locs := by rw [eH]; exact hS
  rw [← eH]
  clear elocs eH
  have hk : ∀ k, k ∉ ([] : List Nat) → G0[k]? = G0[k]? := fun _ _ => rfl
  refine lv_lload_n (pc := 0) hx hb dX8_lowest_0 rfl (lv_at hl 0 rfl) ?_
  refine lv_lconst (v := 0) (pc := 1) hx hb dX8_lowest_1 (by decide) ?_
  refine W.lcmp (pc := 2) hx hb dX8_lowest_2 ?_
  refine lv_if_ge (tgt := 11) (pc := 3) hx hb dX8_lowest_3 (by decide) (fun c3 => ?_) (fun c3 => ?_)
  · skip
    have c3 := lg_ge.mp c3
    have e5 : uu = lN xa := (gMlab_p c3).symm.trans hu
    refine lv_lload_n (pc := 11) hx hb dX8_lowest_11 rfl (lv_at hl 0 rfl) ?_
    refine lv_lstore (lv' := [(5, .long (uu)), (0, .long (uu)), (2, .long (lw)), (4, .int (nI (0)))]) (pc := 12) hx hb dX8_lowest_12 hl (by decide) rfl (fun ls hl => ?_)
    refine lv_lload_n (pc := 14) hx hb dX8_lowest_14 rfl (lv_at hl 2 rfl) ?_
    refine lv_lstore (lv' := [(7, .long (lw)), (5, .long (uu)), (0, .long (uu)), (2, .long (lw)), (4, .int (nI (0)))]) (pc := 15) hx hb dX8_lowest_15 hl (by decide) rfl (fun ls hl => ?_)
    have LP : ∀ (k : Nat) (x : Nat) (y : Nat), y ≤ k → x < 2 ^ 63 → y < 2 ^ 63 → ∀ (H : Heap) (locs : List Loc) (ls : Array Slot), va_P D vwCl G0 H → va_D A G0 → va_S A s.heap H locs → (∀ j, j ∉ ([] : List Nat) → G0[j]? = G0[j]?) → True → lv_has ls 11 [(0, .long (uu)), (2, .long (lw)), (4, .int (nI (0))), (5, .long (lN x)), (7, .long (lN y))] → (∀ (H : Heap) (locs : List Loc) (ls : Array Slot), va_P D vwCl G0 H → va_D A G0 → va_S A s.heap H locs → (∀ j, j ∉ ([] : List Nat) → G0[j]? = G0[j]?) → True → lv_has ls 11 [(0, .long (uu)), (2, .long (lw)), (4, .int (nI (0))), (5, .long (lN (Nat.gcd x y)))] → W p l e ({ frames := 0, cells := 0, slots := 0, locals := 0 } : Room) s m args below meth c H locs 0 0 Q (F0 m 42 ls [])) → W p l e ({ frames := 0, cells := 0, slots := 0, locals := 0 } : Room) s m args below meth c H locs 0 0 Q (F0 m 17 ls []) := by
      intro k
      induction k with
      | zero =>
        intro x y hk9 hx9 hy9 H locs ls hP hD hS hk _ hl hcont
        obtain rfl : y = 0 := by omega
        refine lv_lload (pc := 17) hx hb dX8_lowest_17 (lv_at hl 4 rfl) ?_
        refine lv_lconst (v := 0) (pc := 19) hx hb dX8_lowest_19 (by decide) ?_
        refine W.lcmp (pc := 20) hx hb dX8_lowest_20 ?_
        refine lv_if_eq (tgt := 42) (pc := 21) hx hb dX8_lowest_21 (by decide) (fun c21 => ?_) (fun c21 => absurd rfl c21)
        exact hcont H locs ls hP hD hS hk trivial (lv_sub hl [0, 1, 2, 3] (by rw [Nat.gcd_zero_right]; rfl))
      | succ k ih =>
        intro x y hk9 hx9 hy9 H locs ls hP hD hS hk _ hl hcont
        refine lv_lload (pc := 17) hx hb dX8_lowest_17 (lv_at hl 4 rfl) ?_
        refine lv_lconst (v := 0) (pc := 19) hx hb dX8_lowest_19 (by decide) ?_
        refine W.lcmp (pc := 20) hx hb dX8_lowest_20 ?_
        refine lv_if_eq (tgt := 42) (pc := 21) hx hb dX8_lowest_21 (by decide) (fun c21 => ?_) (fun c21 => ?_)
        · skip
          have c21 := lg_eq.mp c21
          obtain rfl : y = 0 := (pk_lEQ hy9 (by decide)).mp c21
          exact hcont H locs ls hP hD hS hk trivial (lv_sub hl [0, 1, 2, 3] (by rw [Nat.gcd_zero_right]; rfl))
        · skip
          have c21 := fun z => c21 (lg_eq.mpr z)
          refine lv_lload (pc := 24) hx hb dX8_lowest_24 (lv_at hl 3 rfl) ?_
          refine lv_lload (pc := 26) hx hb dX8_lowest_26 (lv_at hl 4 rfl) ?_
          refine lv_lrem (pc := 28) hx hb dX8_lowest_28 c21 ?_
          refine lv_lstore (lv' := [(9, .long ((lN x - lN x / lN y * lN y))), (0, .long (uu)), (2, .long (lw)), (4, .int (nI (0))), (5, .long (lN x)), (7, .long (lN y))]) (pc := 29) hx hb dX8_lowest_29 hl (by decide) rfl (fun ls hl => ?_)
          refine lv_lload (pc := 31) hx hb dX8_lowest_31 (lv_at hl 5 rfl) ?_
          refine lv_lstore (lv' := [(5, .long (lN y)), (9, .long ((lN x - lN x / lN y * lN y))), (0, .long (uu)), (2, .long (lw)), (4, .int (nI (0))), (7, .long (lN y))]) (pc := 33) hx hb dX8_lowest_33 hl (by decide) rfl (fun ls hl => ?_)
          refine lv_lload (pc := 35) hx hb dX8_lowest_35 (lv_at hl 1 rfl) ?_
          refine lv_lstore (lv' := [(7, .long ((lN x - lN x / lN y * lN y))), (5, .long (lN y)), (9, .long ((lN x - lN x / lN y * lN y))), (0, .long (uu)), (2, .long (lw)), (4, .int (nI (0)))]) (pc := 37) hx hb dX8_lowest_37 hl (by decide) rfl (fun ls hl => ?_)
          refine lv_goto (tgt := 17) (pc := 39) hx hb dX8_lowest_39 (by decide) ?_
          have y0 : 0 < y := Nat.pos_of_ne_zero (fun q9 => c21 (by rw [q9]; rfl))
          rw [gGcdN y0] at hcont
          have m9 := Nat.mod_lt x y0
          exact ih (y) (x % y) (by omega) (by omega) (by omega) H locs ls hP hD hS hk trivial (lv_sub hl [3, 4, 5, 1, 0] (by rw [← pk_lRem hx9 y0 hy9]; rfl)) hcont
    refine LP yb (xa) (yb) (Nat.le_refl _) hx3 hy3  H locs ls hP hD hS hk trivial (lv_sub hl [2, 3, 4, 1, 0] (by rw [← e5, ← hw]; rfl)) (fun H locs ls hP hD hS hk _ hl => ?_)
    have g0 := gGcd_ne hy0 hx3 hy3 (x := xa)
    refine lv_iload (pc := 42) hx hb dX8_lowest_42 (lv_at hl 2 rfl) ?_
    refine lv_if_ne (tgt := 54) (pc := 44) hx hb dX8_lowest_44 (by decide) (fun c44 => absurd c44 (by decide)) (fun c44 => ?_)
    refine lv_lload_n (pc := 47) hx hb dX8_lowest_47 rfl (lv_at hl 0 rfl) ?_
    refine lv_lload (pc := 48) hx hb dX8_lowest_48 (lv_at hl 3 rfl) ?_
    refine lv_ldiv (pc := 50) hx hb dX8_lowest_50 g0 ?_
    refine lv_goto (tgt := 58) (pc := 51) hx hb dX8_lowest_51 (by decide) ?_
    exact hret _ _ _ _ _ _ hP hD hS rfl rfl dX8_lowest_58
  · skip
    have c3 := fun z => c3 (lg_ge.mpr z)
    have e5 : -(uu) = lN xa := (gMlab_n c3).symm.trans hu
    refine lv_lload_n (pc := 6) hx hb dX8_lowest_6 rfl (lv_at hl 0 rfl) ?_
    refine lv_lneg (pc := 7) hx hb dX8_lowest_7 ?_
    refine lv_goto (tgt := 12) (pc := 8) hx hb dX8_lowest_8 (by decide) ?_
    refine lv_lstore (lv' := [(5, .long ((-(uu)))), (0, .long (uu)), (2, .long (lw)), (4, .int (nI (0)))]) (pc := 12) hx hb dX8_lowest_12 hl (by decide) rfl (fun ls hl => ?_)
    refine lv_lload_n (pc := 14) hx hb dX8_lowest_14 rfl (lv_at hl 2 rfl) ?_
    refine lv_lstore (lv' := [(7, .long (lw)), (5, .long ((-(uu)))), (0, .long (uu)), (2, .long (lw)), (4, .int (nI (0)))]) (pc := 15) hx hb dX8_lowest_15 hl (by decide) rfl (fun ls hl => ?_)
    have LP : ∀ (k : Nat) (x : Nat) (y : Nat), y ≤ k → x < 2 ^ 63 → y < 2 ^ 63 → ∀ (H : Heap) (locs : List Loc) (ls : Array Slot), va_P D vwCl G0 H → va_D A G0 → va_S A s.heap H locs → (∀ j, j ∉ ([] : List Nat) → G0[j]? = G0[j]?) → True → lv_has ls 11 [(0, .long (uu)), (2, .long (lw)), (4, .int (nI (0))), (5, .long (lN x)), (7, .long (lN y))] → (∀ (H : Heap) (locs : List Loc) (ls : Array Slot), va_P D vwCl G0 H → va_D A G0 → va_S A s.heap H locs → (∀ j, j ∉ ([] : List Nat) → G0[j]? = G0[j]?) → True → lv_has ls 11 [(0, .long (uu)), (2, .long (lw)), (4, .int (nI (0))), (5, .long (lN (Nat.gcd x y)))] → W p l e ({ frames := 0, cells := 0, slots := 0, locals := 0 } : Room) s m args below meth c H locs 0 0 Q (F0 m 42 ls [])) → W p l e ({ frames := 0, cells := 0, slots := 0, locals := 0 } : Room) s m args below meth c H locs 0 0 Q (F0 m 17 ls []) := by
      intro k
      induction k with
      | zero =>
        intro x y hk9 hx9 hy9 H locs ls hP hD hS hk _ hl hcont
        obtain rfl : y = 0 := by omega
        refine lv_lload (pc := 17) hx hb dX8_lowest_17 (lv_at hl 4 rfl) ?_
        refine lv_lconst (v := 0) (pc := 19) hx hb dX8_lowest_19 (by decide) ?_
        refine W.lcmp (pc := 20) hx hb dX8_lowest_20 ?_
        refine lv_if_eq (tgt := 42) (pc := 21) hx hb dX8_lowest_21 (by decide) (fun c21 => ?_) (fun c21 => absurd rfl c21)
        exact hcont H locs ls hP hD hS hk trivial (lv_sub hl [0, 1, 2, 3] (by rw [Nat.gcd_zero_right]; rfl))
      | succ k ih =>
        intro x y hk9 hx9 hy9 H locs ls hP hD hS hk _ hl hcont
        refine lv_lload (pc := 17) hx hb dX8_lowest_17 (lv_at hl 4 rfl) ?_
        refine lv_lconst (v := 0) (pc := 19) hx hb dX8_lowest_19 (by decide) ?_
        refine W.lcmp (pc := 20) hx hb dX8_lowest_20 ?_
        refine lv_if_eq (tgt := 42) (pc := 21) hx hb dX8_lowest_21 (by decide) (fun c21 => ?_) (fun c21 => ?_)
        · skip
          have c21 := lg_eq.mp c21
          obtain rfl : y = 0 := (pk_lEQ hy9 (by decide)).mp c21
          exact hcont H locs ls hP hD hS hk trivial (lv_sub hl [0, 1, 2, 3] (by rw [Nat.gcd_zero_right]; rfl))
        · skip
          have c21 := fun z => c21 (lg_eq.mpr z)
          refine lv_lload (pc := 24) hx hb dX8_lowest_24 (lv_at hl 3 rfl) ?_
          refine lv_lload (pc := 26) hx hb dX8_lowest_26 (lv_at hl 4 rfl) ?_
          refine lv_lrem (pc := 28) hx hb dX8_lowest_28 c21 ?_
          refine lv_lstore (lv' := [(9, .long ((lN x - lN x / lN y * lN y))), (0, .long (uu)), (2, .long (lw)), (4, .int (nI (0))), (5, .long (lN x)), (7, .long (lN y))]) (pc := 29) hx hb dX8_lowest_29 hl (by decide) rfl (fun ls hl => ?_)
          refine lv_lload (pc := 31) hx hb dX8_lowest_31 (lv_at hl 5 rfl) ?_
          refine lv_lstore (lv' := [(5, .long (lN y)), (9, .long ((lN x - lN x / lN y * lN y))), (0, .long (uu)), (2, .long (lw)), (4, .int (nI (0))), (7, .long (lN y))]) (pc := 33) hx hb dX8_lowest_33 hl (by decide) rfl (fun ls hl => ?_)
          refine lv_lload (pc := 35) hx hb dX8_lowest_35 (lv_at hl 1 rfl) ?_
          refine lv_lstore (lv' := [(7, .long ((lN x - lN x / lN y * lN y))), (5, .long (lN y)), (9, .long ((lN x - lN x / lN y * lN y))), (0, .long (uu)), (2, .long (lw)), (4, .int (nI (0)))]) (pc := 37) hx hb dX8_lowest_37 hl (by decide) rfl (fun ls hl => ?_)
          refine lv_goto (tgt := 17) (pc := 39) hx hb dX8_lowest_39 (by decide) ?_
          have y0 : 0 < y := Nat.pos_of_ne_zero (fun q9 => c21 (by rw [q9]; rfl))
          rw [gGcdN y0] at hcont
          have m9 := Nat.mod_lt x y0
          exact ih (y) (x % y) (by omega) (by omega) (by omega) H locs ls hP hD hS hk trivial (lv_sub hl [3, 4, 5, 1, 0] (by rw [← pk_lRem hx9 y0 hy9]; rfl)) hcont
    refine LP yb (xa) (yb) (Nat.le_refl _) hx3 hy3  H locs ls hP hD hS hk trivial (lv_sub hl [2, 3, 4, 1, 0] (by rw [← e5, ← hw]; rfl)) (fun H locs ls hP hD hS hk _ hl => ?_)
    have g0 := gGcd_ne hy0 hx3 hy3 (x := xa)
    refine lv_iload (pc := 42) hx hb dX8_lowest_42 (lv_at hl 2 rfl) ?_
    refine lv_if_ne (tgt := 54) (pc := 44) hx hb dX8_lowest_44 (by decide) (fun c44 => absurd c44 (by decide)) (fun c44 => ?_)
    refine lv_lload_n (pc := 47) hx hb dX8_lowest_47 rfl (lv_at hl 0 rfl) ?_
    refine lv_lload (pc := 48) hx hb dX8_lowest_48 (lv_at hl 3 rfl) ?_
    refine lv_ldiv (pc := 50) hx hb dX8_lowest_50 g0 ?_
    refine lv_goto (tgt := 58) (pc := 51) hx hb dX8_lowest_51 (by decide) ?_
    exact hret _ _ _ _ _ _ hP hD hS rfl rfl dX8_lowest_58
set_option maxHeartbeats 4000000 in
set_option maxRecDepth 100000 in
theorem k_X8_lowest_1 {l : Launch} {D : va_G} {cI cZ : ClassId} {A : Nat → Prop} {g a : Nat → Nat} {G0 : va_W} {uu : Int64} {lw : Int64} {xa : Nat} {yb : Nat} (hD : va_D A G0) (hu : gMlab uu = lN xa) (hw : lw = lN yb) (hx3 : xa < 2 ^ 63) (hy0 : 0 < yb) (hy3 : yb < 2 ^ 63) : gMl l D cI cZ A g yX8_lowest wsX8_lowest ({ frames := 0, cells := 0, slots := 0, locals := 0 }) [.long (uu), .long (lw), .int (nI (1))] G0 (lw / lN (Nat.gcd xa yb)) (fun G1 => G1 = G0) := by
  refine gof_l (cc := cX8_lowest) (maxL := 11) (by decide) rfl (Nat.le_of_ble_eq_true rfl) hD ?_
  intro p e s m args below meth c Q hx hb hml hts hown hK hN hZ hP hS hret ls hl
  have hown : s.vm.findClass RX8 = some m.cls := hown
  have hl : lv_has ls 11 [(0, .long (uu)), (2, .long (lw)), (4, .int (nI (1)))] := hl
  obtain ⟨locs, elocs⟩ : ∃ q : List Loc, q = [] := ⟨_, rfl⟩
  rw [← elocs] at hS ⊢
  obtain ⟨H, eH⟩ : ∃ q : Heap, q = s.heap := ⟨_, rfl⟩
  have hP : va_P D vwCl G0 H := eH ▸ hP
  have hS : va_S A s.heap H locs := by rw [eH]; exact hS
  rw [← eH]
  clear elocs eH
  have hk : ∀ k, k ∉ ([] : List Nat) → G0[k]? = G0[k]? := fun _ _ => rfl
  refine lv_lload_n (pc := 0) hx hb dX8_lowest_0 rfl (lv_at hl 0 rfl) ?_
  refine lv_lconst (v := 0) (pc := 1) hx hb dX8_lowest_1 (by decide) ?_
  refine W.lcmp (pc := 2) hx hb dX8_lowest_2 ?_
  refine lv_if_ge (tgt := 11) (pc := 3) hx hb dX8_lowest_3 (by decide) (fun c3 => ?_) (fun c3 => ?_)
  · skip
    have c3 := lg_ge.mp c3
    have e5 : uu = lN xa := (gMlab_p c3).symm.trans hu
    refine lv_lload_n (pc := 11) hx hb dX8_lowest_11 rfl (lv_at hl 0 rfl) ?_
    refine lv_lstore (lv' := [(5, .long (uu)), (0, .long (uu)), (2, .long (lw)), (4, .int (nI (1)))]) (pc := 12) hx hb dX8_lowest_12 hl (by decide) rfl (fun ls hl => ?_)
    refine lv_lload_n (pc := 14) hx hb dX8_lowest_14 rfl (lv_at hl 2 rfl) ?_
    refine lv_lstore (lv' := [(7, .long (lw)), (5, .long (uu)), (0, .long (uu)), (2, .long (lw)), (4, .int (nI (1)))]) (pc := 15) hx hb dX8_lowest_15 hl (by decide) rfl (fun ls hl => ?_)
    have LP : ∀ (k : Nat) (x : Nat) (y : Nat), y ≤ k → x < 2 ^ 63 → y < 2 ^ 63 → ∀ (H : Heap) (locs : List Loc) (ls : Array Slot), va_P D vwCl G0 H → va_D A G0 → va_S A s.heap H locs → (∀ j, j ∉ ([] : List Nat) → G0[j]? = G0[j]?) → True → lv_has ls 11 [(0, .long (uu)), (2, .long (lw)), (4, .int (nI (1))), (5, .long (lN x)), (7, .long (lN y))] → (∀ (H : Heap) (locs : List Loc) (ls : Array Slot), va_P D vwCl G0 H → va_D A G0 → va_S A s.heap H locs → (∀ j, j ∉ ([] : List Nat) → G0[j]? = G0[j]?) → True → lv_has ls 11 [(0, .long (uu)), (2, .long (lw)), (4, .int (nI (1))), (5, .long (lN (Nat.gcd x y)))] → W p l e ({ frames := 0, cells := 0, slots := 0, locals := 0 } : Room) s m args below meth c H locs 0 0 Q (F0 m 42 ls [])) → W p l e ({ frames := 0, cells := 0, slots := 0, locals := 0 } : Room) s m args below meth c H locs 0 0 Q (F0 m 17 ls []) := by
      intro k
      induction k with
      | zero =>
        intro x y hk9 hx9 hy9 H locs ls hP hD hS hk _ hl hcont
        obtain rfl : y = 0 := by omega
        refine lv_lload (pc := 17) hx hb dX8_lowest_17 (lv_at hl 4 rfl) ?_
        refine lv_lconst (v := 0) (pc := 19) hx hb dX8_lowest_19 (by decide) ?_
        refine W.lcmp (pc := 20) hx hb dX8_lowest_20 ?_
        refine lv_if_eq (tgt := 42) (pc := 21) hx hb dX8_lowest_21 (by decide) (fun c21 => ?_) (fun c21 => absurd rfl c21)
        exact hcont H locs ls hP hD hS hk trivial (lv_sub hl [0, 1, 2, 3] (by rw [Nat.gcd_zero_right]; rfl))
      | succ k ih =>
        intro x y hk9 hx9 hy9 H locs ls hP hD hS hk _ hl hcont
        refine lv_lload (pc := 17) hx hb dX8_lowest_17 (lv_at hl 4 rfl) ?_
        refine lv_lconst (v := 0) (pc := 19) hx hb dX8_lowest_19 (by decide) ?_
        refine W.lcmp (pc := 20) hx hb dX8_lowest_20 ?_
        refine lv_if_eq (tgt := 42) (pc := 21) hx hb dX8_lowest_21 (by decide) (fun c21 => ?_) (fun c21 => ?_)
        · skip
          have c21 := lg_eq.mp c21
          obtain rfl : y = 0 := (pk_lEQ hy9 (by decide)).mp c21
          exact hcont H locs ls hP hD hS hk trivial (lv_sub hl [0, 1, 2, 3] (by rw [Nat.gcd_zero_right]; rfl))
        · skip
          have c21 := fun z => c21 (lg_eq.mpr z)
          refine lv_lload (pc := 24) hx hb dX8_lowest_24 (lv_at hl 3 rfl) ?_
          refine lv_lload (pc := 26) hx hb dX8_lowest_26 (lv_at hl 4 rfl) ?_
          refine lv_lrem (pc := 28) hx hb dX8_lowest_28 c21 ?_
          refine lv_lstore (lv' := [(9, .long ((lN x - lN x / lN y * lN y))), (0, .long (uu)), (2, .long (lw)), (4, .int (nI (1))), (5, .long (lN x)), (7, .long (lN y))]) (pc := 29) hx hb dX8_lowest_29 hl (by decide) rfl (fun ls hl => ?_)
          refine lv_lload (pc := 31) hx hb dX8_lowest_31 (lv_at hl 5 rfl) ?_
          refine lv_lstore (lv' := [(5, .long (lN y)), (9, .long ((lN x - lN x / lN y * lN y))), (0, .long (uu)), (2, .long (lw)), (4, .int (nI (1))), (7, .long (lN y))]) (pc := 33) hx hb dX8_lowest_33 hl (by decide) rfl (fun ls hl => ?_)
          refine lv_lload (pc := 35) hx hb dX8_lowest_35 (lv_at hl 1 rfl) ?_
          refine lv_lstore (lv' := [(7, .long ((lN x - lN x / lN y * lN y))), (5, .long (lN y)), (9, .long ((lN x - lN x / lN y * lN y))), (0, .long (uu)), (2, .long (lw)), (4, .int (nI (1)))]) (pc := 37) hx hb dX8_lowest_37 hl (by decide) rfl (fun ls hl => ?_)
          refine lv_goto (tgt := 17) (pc := 39) hx hb dX8_lowest_39 (by decide) ?_
          have y0 : 0 < y := Nat.pos_of_ne_zero (fun q9 => c21 (by rw [q9]; rfl))
          rw [gGcdN y0] at hcont
          have m9 := Nat.mod_lt x y0
          exact ih (y) (x % y) (by omega) (by omega) (by omega) H locs ls hP hD hS hk trivial (lv_sub hl [3, 4, 5, 1, 0] (by rw [← pk_lRem hx9 y0 hy9]; rfl)) hcont
    refine LP yb (xa) (yb) (Nat.le_refl _) hx3 hy3  H locs ls hP hD hS hk trivial (lv_sub hl [2, 3, 4, 1, 0] (by rw [← e5, ← hw]; rfl)) (fun H locs ls hP hD hS hk _ hl => ?_)
    have g0 := gGcd_ne hy0 hx3 hy3 (x := xa)
    refine lv_iload (pc := 42) hx hb dX8_lowest_42 (lv_at hl 2 rfl) ?_
    refine lv_if_ne (tgt := 54) (pc := 44) hx hb dX8_lowest_44 (by decide) (fun c44 => ?_) (fun c44 => absurd c44 (by decide))
    refine lv_lload_n (pc := 54) hx hb dX8_lowest_54 rfl (lv_at hl 1 rfl) ?_
    refine lv_lload (pc := 55) hx hb dX8_lowest_55 (lv_at hl 3 rfl) ?_
    refine lv_ldiv (pc := 57) hx hb dX8_lowest_57 g0 ?_
    exact hret _ _ _ _ _ _ hP hD hS rfl rfl dX8_lowest_58
  · skip
    have c3 := fun z => c3 (lg_ge.mpr z)
    have e5 : -(uu) = lN xa := (gMlab_n c3).symm.trans hu
    refine lv_lload_n (pc := 6) hx hb dX8_lowest_6 rfl (lv_at hl 0 rfl) ?_
    refine lv_lneg (pc := 7) hx hb dX8_lowest_7 ?_
    refine lv_goto (tgt := 12) (pc := 8) hx hb dX8_lowest_8 (by decide) ?_
    refine lv_lstore (lv' := [(5, .long ((-(uu)))), (0, .long (uu)), (2, .long (lw)), (4, .int (nI (1)))]) (pc := 12) hx hb dX8_lowest_12 hl (by decide) rfl (fun ls hl => ?_)
    refine lv_lload_n (pc := 14) hx hb dX8_lowest_14 rfl (lv_at hl 2 rfl) ?_
    refine lv_lstore (lv' := [(7, .long (lw)), (5, .long ((-(uu)))), (0, .long (uu)), (2, .long (lw)), (4, .int (nI (1)))]) (pc := 15) hx hb dX8_lowest_15 hl (by decide) rfl (fun ls hl => ?_)
    have LP : ∀ (k : Nat) (x : Nat) (y : Nat), y ≤ k → x < 2 ^ 63 → y < 2 ^ 63 → ∀ (H : Heap) (locs : List Loc) (ls : Array Slot), va_P D vwCl G0 H → va_D A G0 → va_S A s.heap H locs → (∀ j, j ∉ ([] : List Nat) → G0[j]? = G0[j]?) → True → lv_has ls 11 [(0, .long (uu)), (2, .long (lw)), (4, .int (nI (1))), (5, .long (lN x)), (7, .long (lN y))] → (∀ (H : Heap) (locs : List Loc) (ls : Array Slot), va_P D vwCl G0 H → va_D A G0 → va_S A s.heap H locs → (∀ j, j ∉ ([] : List Nat) → G0[j]? = G0[j]?) → True → lv_has ls 11 [(0, .long (uu)), (2, .long (lw)), (4, .int (nI (1))), (5, .long (lN (Nat.gcd x y)))] → W p l e ({ frames := 0, cells := 0, slots := 0, locals := 0 } : Room) s m args below meth c H locs 0 0 Q (F0 m 42 ls [])) → W p l e ({ frames := 0, cells := 0, slots := 0, locals := 0 } : Room) s m args below meth c H locs 0 0 Q (F0 m 17 ls []) := by
      intro k
      induction k with
      | zero =>
        intro x y hk9 hx9 hy9 H locs ls hP hD hS hk _ hl hcont
        obtain rfl : y = 0 := by omega
        refine lv_lload (pc := 17) hx hb dX8_lowest_17 (lv_at hl 4 rfl) ?_
        refine lv_lconst (v := 0) (pc := 19) hx hb dX8_lowest_19 (by decide) ?_
        refine W.lcmp (pc := 20) hx hb dX8_lowest_20 ?_
        refine lv_if_eq (tgt := 42) (pc := 21) hx hb dX8_lowest_21 (by decide) (fun c21 => ?_) (fun c21 => absurd rfl c21)
        exact hcont H locs ls hP hD hS hk trivial (lv_sub hl [0, 1, 2, 3] (by rw [Nat.gcd_zero_right]; rfl))
      | succ k ih =>
        intro x y hk9 hx9 hy9 H locs ls hP hD hS hk _ hl hcont
        refine lv_lload (pc := 17) hx hb dX8_lowest_17 (lv_at hl 4 rfl) ?_
        refine lv_lconst (v := 0) (pc := 19) hx hb dX8_lowest_19 (by decide) ?_
        refine W.lcmp (pc := 20) hx hb dX8_lowest_20 ?_
        refine lv_if_eq (tgt := 42) (pc := 21) hx hb dX8_lowest_21 (by decide) (fun c21 => ?_) (fun c21 => ?_)
        · skip
          have c21 := lg_eq.mp c21
          obtain rfl : y = 0 := (pk_lEQ hy9 (by decide)).mp c21
          exact hcont H locs ls hP hD hS hk trivial (lv_sub hl [0, 1, 2, 3] (by rw [Nat.gcd_zero_right]; rfl))
        · skip
          have c21 := fun z => c21 (lg_eq.mpr z)
          refine lv_lload (pc := 24) hx hb dX8_lowest_24 (lv_at hl 3 rfl) ?_
          refine lv_lload (pc := 26) hx hb dX8_lowest_26 (lv_at hl 4 rfl) ?_
          refine lv_lrem (pc := 28) hx hb dX8_lowest_28 c21 ?_
          refine lv_lstore (lv' := [(9, .long ((lN x - lN x / lN y * lN y))), (0, .long (uu)), (2, .long (lw)), (4, .int (nI (1))), (5, .long (lN x)), (7, .long (lN y))]) (pc := 29) hx hb dX8_lowest_29 hl (by decide) rfl (fun ls hl => ?_)
          refine lv_lload (pc := 31) hx hb dX8_lowest_31 (lv_at hl 5 rfl) ?_
          refine lv_lstore (lv' := [(5, .long (lN y)), (9, .long ((lN x - lN x / lN y * lN y))), (0, .long (uu)), (2, .long (lw)), (4, .int (nI (1))), (7, .long (lN y))]) (pc := 33) hx hb dX8_lowest_33 hl (by decide) rfl (fun ls hl => ?_)
          refine lv_lload (pc := 35) hx hb dX8_lowest_35 (lv_at hl 1 rfl) ?_
          refine lv_lstore (lv' := [(7, .long ((lN x - lN x / lN y * lN y))), (5, .long (lN y)), (9, .long ((lN x - lN x / lN y * lN y))), (0, .long (uu)), (2, .long (lw)), (4, .int (nI (1)))]) (pc := 37) hx hb dX8_lowest_37 hl (by decide) rfl (fun ls hl => ?_)
          refine lv_goto (tgt := 17) (pc := 39) hx hb dX8_lowest_39 (by decide) ?_
          have y0 : 0 < y := Nat.pos_of_ne_zero (fun q9 => c21 (by rw [q9]; rfl))
          rw [gGcdN y0] at hcont
          have m9 := Nat.mod_lt x y0
          exact ih (y) (x % y) (by omega) (by omega) (by omega) H locs ls hP hD hS hk trivial (lv_sub hl [3, 4, 5, 1, 0] (by rw [← pk_lRem hx9 y0 hy9]; rfl)) hcont
    refine LP yb (xa) (yb) (Nat.le_refl _) hx3 hy3  H locs ls hP hD hS hk trivial (lv_sub hl [2, 3, 4, 1, 0] (by rw [← e5, ← hw]; rfl)) (fun H locs ls hP hD hS hk _ hl => ?_)
    have g0 := gGcd_ne hy0 hx3 hy3 (x := xa)
    refine lv_iload (pc := 42) hx hb dX8_lowest_42 (lv_at hl 2 rfl) ?_
    refine lv_if_ne (tgt := 54) (pc := 44) hx hb dX8_lowest_44 (by decide) (fun c44 => ?_) (fun c44 => absurd c44 (by decide))
    refine lv_lload_n (pc := 54) hx hb dX8_lowest_54 rfl (lv_at hl 1 rfl) ?_
    refine lv_lload (pc := 55) hx hb dX8_lowest_55 (lv_at hl 3 rfl) ?_
    refine lv_ldiv (pc := 57) hx hb dX8_lowest_57 g0 ?_
    exact hret _ _ _ _ _ _ hP hD hS rfl rfl dX8_lowest_58
set_option maxHeartbeats 4000000 in
set_option maxRecDepth 100000 in
theorem k_X8_fit_b {l : Launch} {D : va_G} {cI cZ : ClassId} {A : Nat → Prop} {g a : Nat → Nat} {G0 : va_W} {zn : Nat} {tr : Nat} {sc : Nat} {pn : Nat} {mn : Nat} {jn : Nat} {sg : Int32} {sr : Int32} {ss : Int32} {fed : Int32} {pap : Int32} {bar : Int32} {st : Bool} {q1 : Int64} {q2 : Int64} {q3 : Int64} {q4 : Int64} {q5 : Int64} {x : Int32} {y : Int32} (hD : va_D A G0) (w22 : G0[22]? = some (a 22, .inr (8, [.int (nI (zn)), .int (nI (tr)), .ref (a 23), .ref (a 24), .ref (a 25), .ref (a 26), .ref (a 27), .ref (a 28), .ref (a 29), .int (nI (sc)), .int (sg), .int (sr), .int (ss), .int (fed), .int (pap), .int (bar), .int (gB (st)), .ref (a 30), .ref (a 31), .ref (a 32), .int (nI (pn)), .ref (a 33), .ref (a 34), .ref (a 35), .ref (a 36), .int (nI (mn)), .long (q1), .long (q2), .long (q3), .long (q4), .long (q5), .ref (a 37), .ref (a 38), .ref (a 39), .int (nI (jn)), .ref (a 40), .ref (a 41)]))) (hbad : gWi x (nI 0) (nI 3) = false ∨ gWi y (nI 0) (nI 1) = false) : gMl l D cI cZ A g yX8_fit wsX8_fit ({ frames := 1, cells := 0, slots := 0, locals := 25 }) [.ref (a 22), .int (x), .int (y)] G0 ((-1000002)) (fun G1 => G1 = G0) := by
  refine gof_l (cc := cX8_fit) (maxL := 3) (by decide) rfl (Nat.le_of_ble_eq_true rfl) hD ?_
  intro p e s m args below meth c Q hx hb hml hts hown hK hN hZ hP hS hret ls hl
  have hown : s.vm.findClass RX8 = some m.cls := hown
  have hl : lv_has ls 3 [(0, .ref (a 22)), (1, .int (x)), (2, .int (y))] := hl
  obtain ⟨locs, elocs⟩ : ∃ q : List Loc, q = [] := ⟨_, rfl⟩
  rw [← elocs] at hS ⊢
  obtain ⟨H, eH⟩ : ∃ q : Heap, q = s.heap := ⟨_, rfl⟩
  have hP : va_P D vwCl G0 H := eH ▸ hP
  have hS : va_S A s.heap H locs := by rw [eH]; exact hS
  rw [← eH]
  clear elocs eH
  have hk : ∀ k, k ∉ ([] : List Nat) → G0[k]? = G0[k]? := fun _ _ => rfl
  refine lv_iload_n (pc := 0) hx hb dX8_fit_0 rfl (lv_at hl 1 rfl) ?_
  refine lv_i2l (v := (x).toInt64) (pc := 1) hx hb dX8_fit_1 rfl ?_
  refine lv_lconst (v := 0) (pc := 2) hx hb dX8_fit_2 (by decide) ?_
  refine lv_ldc2 (own := RX8) (v := (3)) (pc := 3) hx hb hown (hts (.constantLong RX8 178 (3)) (by decide +kernel)) dX8_fit_3 ?_
  refine mx_cSi (As := [.long ((x).toInt64), .long (0), .long ((3))]) (rest := []) (pc := 6) ⟨hx, hb, hml, hown, hts⟩ (k_X8_in (a := a) (v := (x).toInt64) (lo := 0) (hi := (3)) hD  ) (va_cwS 3 hts gX8_fit_X8_in rfl rfl rfl (by decide +kernel) ⟨Nat.le_of_ble_eq_true rfl, Nat.le_of_ble_eq_true rfl⟩) hK hN hZ hP hS rfl hl.1 rfl (Nat.le_of_ble_eq_true rfl) dX8_fit_6 ⟨Nat.zero_le _, Nat.zero_le _⟩ (fun G' H locs hP hD hS hB => ?_)
  rw [hB] at hP hD
  clear hB G'
  refine mx_beq (tgt := 22) (pc := 9) hx hb dX8_fit_9 (by decide) (fun c9 => ?_) (fun c9 => ?_)
  · skip
    refine lv_ldc2 (own := RX8) (v := (-1000002)) (pc := 22) hx hb hown (hts (.constantLong RX8 180 (-1000002)) (by decide +kernel)) dX8_fit_22 ?_
    exact hret _ _ _ _ _ _ hP hD hS rfl rfl dX8_fit_25
  · skip
    refine lv_iload_n (pc := 12) hx hb dX8_fit_12 rfl (lv_at hl 2 rfl) ?_
    refine lv_i2l (v := (y).toInt64) (pc := 13) hx hb dX8_fit_13 rfl ?_
    refine lv_lconst (v := 0) (pc := 14) hx hb dX8_fit_14 (by decide) ?_
    refine lv_lconst (v := 1) (pc := 15) hx hb dX8_fit_15 (by decide) ?_
    refine mx_cSi (As := [.long ((y).toInt64), .long (0), .long (1)]) (rest := []) (pc := 16) ⟨hx, hb, hml, hown, hts⟩ (k_X8_in (a := a) (v := (y).toInt64) (lo := 0) (hi := 1) hD  ) (va_cwS 3 hts gX8_fit_X8_in rfl rfl rfl (by decide +kernel) ⟨Nat.le_of_ble_eq_true rfl, Nat.le_of_ble_eq_true rfl⟩) hK hN hZ hP hS rfl hl.1 rfl (Nat.le_of_ble_eq_true rfl) dX8_fit_16 ⟨Nat.zero_le _, Nat.zero_le _⟩ (fun G' H locs hP hD hS hB => ?_)
    rw [hB] at hP hD
    clear hB G'
    refine mx_bne (tgt := 26) (pc := 19) hx hb dX8_fit_19 (by decide) (fun c19 => ?_) (fun c19 => ?_)
    · skip
      exact (by rw [gIn_w (a := nI 0) (b := nI 3) (by decide) (by decide)] at c9; rw [gIn_w (a := nI 0) (b := nI 1) (by decide) (by decide)] at c19; simp [c9, c19] at hbad)
    · skip
      refine lv_ldc2 (own := RX8) (v := (-1000002)) (pc := 22) hx hb hown (hts (.constantLong RX8 180 (-1000002)) (by decide +kernel)) dX8_fit_22 ?_
      exact hret _ _ _ _ _ _ hP hD hS rfl rfl dX8_fit_25
set_option maxHeartbeats 4000000 in
set_option maxRecDepth 100000 in
theorem k_X8_fit_c {l : Launch} {D : va_G} {cI cZ : ClassId} {A : Nat → Prop} {g a : Nat → Nat} {G0 : va_W} {zn : Nat} {tr : Nat} {sc : Nat} {pn : Nat} {mn : Nat} {jn : Nat} {sg : Int32} {sr : Int32} {ss : Int32} {fed : Int32} {pap : Int32} {bar : Int32} {st : Bool} {q1 : Int64} {q2 : Int64} {q3 : Int64} {q4 : Int64} {q5 : Int64} {mx : Nat → Int32} {my : Nat → Int32} {mdx : Nat → Int32} {mdy : Nat → Int32} {x : Int32} {y : Int32} (hD : va_D A G0) (w22 : G0[22]? = some (a 22, .inr (8, [.int (nI (zn)), .int (nI (tr)), .ref (a 23), .ref (a 24), .ref (a 25), .ref (a 26), .ref (a 27), .ref (a 28), .ref (a 29), .int (nI (sc)), .int (sg), .int (sr), .int (ss), .int (fed), .int (pap), .int (bar), .int (gB (st)), .ref (a 30), .ref (a 31), .ref (a 32), .int (nI (pn)), .ref (a 33), .ref (a 34), .ref (a 35), .ref (a 36), .int (nI (mn)), .long (q1), .long (q2), .long (q3), .long (q4), .long (q5), .ref (a 37), .ref (a 38), .ref (a 39), .int (nI (jn)), .ref (a 40), .ref (a 41)]))) (w33 : G0[33]? = some (a 33, .inl (cI, 8, .inl (mx)))) (w34 : G0[34]? = some (a 34, .inl (cI, 8, .inl (my)))) (w35 : G0[35]? = some (a 35, .inl (cI, 8, .inl (mdx)))) (w36 : G0[36]? = some (a 36, .inl (cI, 8, .inl (mdy)))) (hm : mn ≤ 8) (h1 : gWi x (nI 0) (nI 3) = true) (h2 : gWi y (nI 0) (nI 1) = true) (h3 : decide (0 < gSp mn (gPs mx mn 0 0) (gPs my mn 0 0) (gPs mdx mn 0 0) (gPs mdy mn 0 0) (gPs (fun j => mx j * mx j + my j * my j) mn 0 0) (gPs (fun j => mx j * mdx j + my j * mdy j) mn 0 0) (gPs (fun j => mx j * mdy j - my j * mdx j) mn 0 0)) = false) : gMl l D cI cZ A g yX8_fit wsX8_fit ({ frames := 1, cells := 0, slots := 0, locals := 35 }) [.ref (a 22), .int (x), .int (y)] G0 ((-1000005)) (fun G1 => G1[22]? = some (a 22, .inr (8, [.int (nI (zn)), .int (nI (tr)), .ref (a 23), .ref (a 24), .ref (a 25), .ref (a 26), .ref (a 27), .ref (a 28), .ref (a 29), .int (nI (sc)), .int (sg), .int (sr), .int (ss), .int (fed), .int (pap), .int (bar), .int (gB (st)), .ref (a 30), .ref (a 31), .ref (a 32), .int (nI (pn)), .ref (a 33), .ref (a 34), .ref (a 35), .ref (a 36), .int (nI (mn)), .long (gSp mn (gPs mx mn 0 0) (gPs my mn 0 0) (gPs mdx mn 0 0) (gPs mdy mn 0 0) (gPs (fun j => mx j * mx j + my j * my j) mn 0 0) (gPs (fun j => mx j * mdx j + my j * mdy j) mn 0 0) (gPs (fun j => mx j * mdy j - my j * mdx j) mn 0 0)), .long (gStr mn (gPs mx mn 0 0) (gPs my mn 0 0) (gPs mdx mn 0 0) (gPs mdy mn 0 0) (gPs (fun j => mx j * mx j + my j * my j) mn 0 0) (gPs (fun j => mx j * mdx j + my j * mdy j) mn 0 0) (gPs (fun j => mx j * mdy j - my j * mdx j) mn 0 0)), .long (gTu mn (gPs mx mn 0 0) (gPs my mn 0 0) (gPs mdx mn 0 0) (gPs mdy mn 0 0) (gPs (fun j => mx j * mx j + my j * my j) mn 0 0) (gPs (fun j => mx j * mdx j + my j * mdy j) mn 0 0) (gPs (fun j => mx j * mdy j - my j * mdx j) mn 0 0)), .long (gAc mn (gPs mx mn 0 0) (gPs my mn 0 0) (gPs mdx mn 0 0) (gPs mdy mn 0 0) (gPs (fun j => mx j * mx j + my j * my j) mn 0 0) (gPs (fun j => mx j * mdx j + my j * mdy j) mn 0 0) (gPs (fun j => mx j * mdy j - my j * mdx j) mn 0 0)), .long (gUp mn (gPs mx mn 0 0) (gPs my mn 0 0) (gPs mdx mn 0 0) (gPs mdy mn 0 0) (gPs (fun j => mx j * mx j + my j * my j) mn 0 0) (gPs (fun j => mx j * mdx j + my j * mdy j) mn 0 0) (gPs (fun j => mx j * mdy j - my j * mdx j) mn 0 0)), .ref (a 37), .ref (a 38), .ref (a 39), .int (nI (jn)), .ref (a 40), .ref (a 41)])) ∧ ∀ k, k ∉ [22] → G1[k]? = G0[k]?) := by
  refine gof_l (cc := cX8_fit) (maxL := 3) (by decide) rfl (Nat.le_of_ble_eq_true rfl) hD ?_
  intro p e s m args below meth c Q hx hb hml hts hown hK hN hZ hP hS hret ls hl
  have hown : s.vm.findClass RX8 = some m.cls := hown
  have hl : lv_has ls 3 [(0, .ref (a 22)), (1, .int (x)), (2, .int (y))] := hl
  obtain ⟨locs, elocs⟩ : ∃ q : List Loc, q = [] := ⟨_, rfl⟩
  rw [← elocs] at hS ⊢
  obtain ⟨H, eH⟩ : ∃ q : Heap, q = s.heap := ⟨_, rfl⟩
  have hP : va_P D vwCl G0 H := eH ▸ hP
  have hS : va_S A s.heap H locs := by rw [eH]; exact hS
  rw [← eH]
  clear elocs eH
  have hk : ∀ k, k ∉ [22] → G0[k]? = G0[k]? := fun _ _ => rfl
  refine lv_iload_n (pc := 0) hx hb dX8_fit_0 rfl (lv_at hl 1 rfl) ?_
  refine lv_i2l (v := (x).toInt64) (pc := 1) hx hb dX8_fit_1 rfl ?_
  refine lv_lconst (v := 0) (pc := 2) hx hb dX8_fit_2 (by decide) ?_
  refine lv_ldc2 (own := RX8) (v := (3)) (pc := 3) hx hb hown (hts (.constantLong RX8 178 (3)) (by decide +kernel)) dX8_fit_3 ?_
  refine mx_cSi (As := [.long ((x).toInt64), .long (0), .long ((3))]) (rest := []) (pc := 6) ⟨hx, hb, hml, hown, hts⟩ (k_X8_in (a := a) (v := (x).toInt64) (lo := 0) (hi := (3)) hD  ) (va_cwS 3 hts gX8_fit_X8_in rfl rfl rfl (by decide +kernel) ⟨Nat.le_of_ble_eq_true rfl, Nat.le_of_ble_eq_true rfl⟩) hK hN hZ hP hS rfl hl.1 rfl (Nat.le_of_ble_eq_true rfl) dX8_fit_6 ⟨Nat.zero_le _, Nat.zero_le _⟩ (fun G' H locs hP hD hS hB => ?_)
  rw [hB] at hP hD
  clear hB G'
  refine mx_beq (tgt := 22) (pc := 9) hx hb dX8_fit_9 (by decide) (fun c9 => absurd (c9.symm.trans ((gIn_w (a := nI 0) (b := nI 3) (by decide) (by decide)).trans h1)) (by decide)) (fun c9 => ?_)
  refine lv_iload_n (pc := 12) hx hb dX8_fit_12 rfl (lv_at hl 2 rfl) ?_
  refine lv_i2l (v := (y).toInt64) (pc := 13) hx hb dX8_fit_13 rfl ?_
  refine lv_lconst (v := 0) (pc := 14) hx hb dX8_fit_14 (by decide) ?_
  refine lv_lconst (v := 1) (pc := 15) hx hb dX8_fit_15 (by decide) ?_
  refine mx_cSi (As := [.long ((y).toInt64), .long (0), .long (1)]) (rest := []) (pc := 16) ⟨hx, hb, hml, hown, hts⟩ (k_X8_in (a := a) (v := (y).toInt64) (lo := 0) (hi := 1) hD  ) (va_cwS 3 hts gX8_fit_X8_in rfl rfl rfl (by decide +kernel) ⟨Nat.le_of_ble_eq_true rfl, Nat.le_of_ble_eq_true rfl⟩) hK hN hZ hP hS rfl hl.1 rfl (Nat.le_of_ble_eq_true rfl) dX8_fit_16 ⟨Nat.zero_le _, Nat.zero_le _⟩ (fun G' H locs hP hD hS hB => ?_)
  rw [hB] at hP hD
  clear hB G'
  refine mx_bne (tgt := 26) (pc := 19) hx hb dX8_fit_19 (by decide) (fun c19 => ?_) (fun c19 => absurd (c19.symm.trans ((gIn_w (a := nI 0) (b := nI 1) (by decide) (by decide)).trans h2)) (by decide))
  refine lv_aload_n (pc := 26) hx hb dX8_fit_26 rfl (lv_at hl 0 rfl) ?_
  refine mx_cVi (As := []) (rest := []) (pc := 27) ⟨hx, hb, hml, hown, hts⟩ (k_X8_findFit (a := a) (zn := zn) (tr := tr) (sc := sc) (pn := pn) (mn := mn) (jn := jn) (sg := sg) (sr := sr) (ss := ss) (fed := fed) (pap := pap) (bar := bar) (st := st) (q1 := q1) (q2 := q2) (q3 := q3) (q4 := q4) (q5 := q5) (mx := mx) (my := my) (mdx := mdx) (mdy := mdy) hD w22 w33 w34 w35 w36 (by omega)) (cwV 0 hts gX8_fit_X8_findFit rfl rfl rfl (by decide +kernel) ⟨Nat.le_of_ble_eq_true rfl, Nat.le_of_ble_eq_true rfl⟩) 22 rfl rfl w22 hK hN hZ hP hS rfl hl.1 rfl (Nat.le_of_ble_eq_true rfl) dX8_fit_27 ⟨Nat.zero_le _, Nat.zero_le _⟩ (fun G H locs hP hD hS hB => ?_)
  obtain ⟨w22, ho⟩ := hB
  have w22 : G[22]? = some (a 22, .inr (8, [.int (nI ((zn))), .int (nI ((tr))), .ref (a 23), .ref (a 24), .ref (a 25), .ref (a 26), .ref (a 27), .ref (a 28), .ref (a 29), .int (nI ((sc))), .int ((sg)), .int ((sr)), .int ((ss)), .int ((fed)), .int ((pap)), .int ((bar)), .int (gB ((st))), .ref (a 30), .ref (a 31), .ref (a 32), .int (nI ((pn))), .ref (a 33), .ref (a 34), .ref (a 35), .ref (a 36), .int (nI ((mn))), .long (gSp (mn) (gPs (mx) (mn) 0 0) (gPs (my) (mn) 0 0) (gPs (mdx) (mn) 0 0) (gPs (mdy) (mn) 0 0) (gPs (fun j => (mx) j * (mx) j + (my) j * (my) j) (mn) 0 0) (gPs (fun j => (mx) j * (mdx) j + (my) j * (mdy) j) (mn) 0 0) (gPs (fun j => (mx) j * (mdy) j - (my) j * (mdx) j) (mn) 0 0)), .long (gStr (mn) (gPs (mx) (mn) 0 0) (gPs (my) (mn) 0 0) (gPs (mdx) (mn) 0 0) (gPs (mdy) (mn) 0 0) (gPs (fun j => (mx) j * (mx) j + (my) j * (my) j) (mn) 0 0) (gPs (fun j => (mx) j * (mdx) j + (my) j * (mdy) j) (mn) 0 0) (gPs (fun j => (mx) j * (mdy) j - (my) j * (mdx) j) (mn) 0 0)), .long (gTu (mn) (gPs (mx) (mn) 0 0) (gPs (my) (mn) 0 0) (gPs (mdx) (mn) 0 0) (gPs (mdy) (mn) 0 0) (gPs (fun j => (mx) j * (mx) j + (my) j * (my) j) (mn) 0 0) (gPs (fun j => (mx) j * (mdx) j + (my) j * (mdy) j) (mn) 0 0) (gPs (fun j => (mx) j * (mdy) j - (my) j * (mdx) j) (mn) 0 0)), .long (gAc (mn) (gPs (mx) (mn) 0 0) (gPs (my) (mn) 0 0) (gPs (mdx) (mn) 0 0) (gPs (mdy) (mn) 0 0) (gPs (fun j => (mx) j * (mx) j + (my) j * (my) j) (mn) 0 0) (gPs (fun j => (mx) j * (mdx) j + (my) j * (mdy) j) (mn) 0 0) (gPs (fun j => (mx) j * (mdy) j - (my) j * (mdx) j) (mn) 0 0)), .long (gUp (mn) (gPs (mx) (mn) 0 0) (gPs (my) (mn) 0 0) (gPs (mdx) (mn) 0 0) (gPs (mdy) (mn) 0 0) (gPs (fun j => (mx) j * (mx) j + (my) j * (my) j) (mn) 0 0) (gPs (fun j => (mx) j * (mdx) j + (my) j * (mdy) j) (mn) 0 0) (gPs (fun j => (mx) j * (mdy) j - (my) j * (mdx) j) (mn) 0 0)), .ref (a 37), .ref (a 38), .ref (a 39), .int (nI ((jn))), .ref (a 40), .ref (a 41)])) := w22
  have w33 := (ho 33 (by decide)).trans w33
  have w34 := (ho 34 (by decide)).trans w34
  have w35 := (ho 35 (by decide)).trans w35
  have w36 := (ho 36 (by decide)).trans w36
  have hk := gk_call hk ho (by decide)
  clear ho
  refine mx_bne (tgt := 37) (pc := 30) hx hb dX8_fit_30 (by decide) (fun c30 => absurd (c30.symm.trans h3) (by decide)) (fun c30 => ?_)
  refine lv_ldc2 (own := RX8) (v := (-1000005)) (pc := 33) hx hb hown (hts (.constantLong RX8 186 (-1000005)) (by decide +kernel)) dX8_fit_33 ?_
  exact hret _ _ _ _ _ _ hP hD hS rfl ⟨w22, hk⟩ dX8_fit_36
