/-! the class's own methods, on -/
set_option maxHeartbeats 4000000 in
set_option maxRecDepth 100000 in
theorem k_X7_mark_c {l : Launch} {D : va_G} {cI cZ : ClassId} {A : Nat → Prop} {g a : Nat → Nat} {G0 : va_W} {st : Bool} {mx : Nat → Int32} {my : Nat → Int32} {mdx : Nat → Int32} {mdy : Nat → Int32} {mn : Nat} {m1 : Int64} {m2 : Int64} {m3 : Int64} {m4 : Int64} {m5 : Int64} {m6 : Int64} {m7 : Int64} {x : Int32} {y : Int32} {u : Int32} {v : Int32} (hD : va_D A G0) (w0 : G0[0]? = some (a 0, .inr (7, [.ref (a 1), .ref (a 3), .ref (a 5), .ref (a 7), .ref (a 10), .ref (a 11), .ref (a 16), .int (gB (st))]))) (w11 : G0[11]? = some (a 11, .inr (1, [.ref (a 12), .ref (a 13), .ref (a 14), .ref (a 15), .int (nI (mn)), .long (m1), .long (m2), .long (m3), .long (m4), .long (m5), .long (m6), .long (m7)]))) (w12 : G0[12]? = some (a 12, .inl (cI, 8, .inl (mx)))) (w13 : G0[13]? = some (a 13, .inl (cI, 8, .inl (my)))) (w14 : G0[14]? = some (a 14, .inl (cI, 8, .inl (mdx)))) (w15 : G0[15]? = some (a 15, .inl (cI, 8, .inl (mdy)))) (hm : mn = 8) (h1 : gWi x (-1000) (nI 1000) = true) (h2 : gWi y (-1000) (nI 1000) = true) (h3 : gWi u (-100) (nI 100) = true) (h4 : gWi v (-100) (nI 100) = true) : gMi l D cI cZ A g yX7_mark wsX7_mark ({ frames := 2, cells := 0, slots := 0, locals := 42 }) [.ref (a 0), .int (x), .int (y), .int (u), .int (v)] G0 ((-4)) (fun G1 => G1 = G0) := by
  refine gof_i (cc := cX7_mark) (maxL := 5) (by decide) rfl (Nat.le_of_ble_eq_true rfl) hD ?_
  intro p e s m args below meth c Q hx hb hml hts hown hK hN hZ hP hS hret ls hl
  have hown : s.vm.findClass RX7 = some m.cls := hown
  have hl : lv_has ls 5 [(0, .ref (a 0)), (1, .int (x)), (2, .int (y)), (3, .int (u)), (4, .int (v))] := hl
  obtain ⟨locs, elocs⟩ : ∃ q : List Loc, q = [] := ⟨_, rfl⟩
  rw [← elocs] at hS ⊢
  obtain ⟨H, eH⟩ : ∃ q : Heap, q = s.heap := ⟨_, rfl⟩
  have hP : va_P D vwCl G0 H := eH ▸ hP
  have hS : va_S A s.heap H locs := by rw [eH]; exact hS
  rw [← eH]
  clear elocs eH
  have hiX7 : ∀ w ∈ u_ws RX7 TX7 8, w ∈ wsX7_mark := by decide +kernel
  have hk : ∀ k, k ∉ ([] : List Nat) → G0[k]? = G0[k]? := fun _ _ => rfl
  refine lv_iload_n (pc := 0) hx hb dX7_mark_0 rfl (lv_at hl 1 rfl) ?_
  refine mx_cSi (As := [.int (x)]) (rest := []) (pc := 1) ⟨hx, hb, hml, hown, hts⟩ (k_X1_isPlace (a := a) (v := x) hD  ) (va_cwS 1 hts gX7_mark_X1_isPlace rfl rfl rfl (by decide +kernel) ⟨Nat.le_of_ble_eq_true rfl, Nat.le_of_ble_eq_true rfl⟩) hK hN hZ hP hS rfl hl.1 rfl (Nat.le_of_ble_eq_true rfl) dX7_mark_1 ⟨Nat.zero_le _, Nat.zero_le _⟩ (fun G' H locs hP hD hS hB => ?_)
  rw [hB] at hP hD
  clear hB G'
  refine mx_beq (tgt := 29) (pc := 4) hx hb dX7_mark_4 (by decide) (fun c4 => absurd (c4.symm.trans h1) (by decide)) (fun c4 => ?_)
  refine lv_iload_n (pc := 7) hx hb dX7_mark_7 rfl (lv_at hl 2 rfl) ?_
  refine mx_cSi (As := [.int (y)]) (rest := []) (pc := 8) ⟨hx, hb, hml, hown, hts⟩ (k_X1_isPlace (a := a) (v := y) hD  ) (va_cwS 1 hts gX7_mark_X1_isPlace rfl rfl rfl (by decide +kernel) ⟨Nat.le_of_ble_eq_true rfl, Nat.le_of_ble_eq_true rfl⟩) hK hN hZ hP hS rfl hl.1 rfl (Nat.le_of_ble_eq_true rfl) dX7_mark_8 ⟨Nat.zero_le _, Nat.zero_le _⟩ (fun G' H locs hP hD hS hB => ?_)
  rw [hB] at hP hD
  clear hB G'
  refine mx_beq (tgt := 29) (pc := 11) hx hb dX7_mark_11 (by decide) (fun c11 => absurd (c11.symm.trans h2) (by decide)) (fun c11 => ?_)
  refine lv_iload_n (pc := 14) hx hb dX7_mark_14 rfl (lv_at hl 3 rfl) ?_
  refine mx_cSi (As := [.int (u)]) (rest := []) (pc := 15) ⟨hx, hb, hml, hown, hts⟩ (k_X1_isOffset (a := a) (v := u) hD  ) (va_cwS 1 hts gX7_mark_X1_isOffset rfl rfl rfl (by decide +kernel) ⟨Nat.le_of_ble_eq_true rfl, Nat.le_of_ble_eq_true rfl⟩) hK hN hZ hP hS rfl hl.1 rfl (Nat.le_of_ble_eq_true rfl) dX7_mark_15 ⟨Nat.zero_le _, Nat.zero_le _⟩ (fun G' H locs hP hD hS hB => ?_)
  rw [hB] at hP hD
  clear hB G'
  refine mx_beq (tgt := 29) (pc := 18) hx hb dX7_mark_18 (by decide) (fun c18 => absurd (c18.symm.trans h3) (by decide)) (fun c18 => ?_)
  refine lv_iload (pc := 21) hx hb dX7_mark_21 (lv_at hl 4 rfl) ?_
  refine mx_cSi (As := [.int (v)]) (rest := []) (pc := 23) ⟨hx, hb, hml, hown, hts⟩ (k_X1_isOffset (a := a) (v := v) hD  ) (va_cwS 1 hts gX7_mark_X1_isOffset rfl rfl rfl (by decide +kernel) ⟨Nat.le_of_ble_eq_true rfl, Nat.le_of_ble_eq_true rfl⟩) hK hN hZ hP hS rfl hl.1 rfl (Nat.le_of_ble_eq_true rfl) dX7_mark_23 ⟨Nat.zero_le _, Nat.zero_le _⟩ (fun G' H locs hP hD hS hB => ?_)
  rw [hB] at hP hD
  clear hB G'
  refine mx_bne (tgt := 32) (pc := 26) hx hb dX7_mark_26 (by decide) (fun c26 => ?_) (fun c26 => absurd (c26.symm.trans h4) (by decide))
  refine lv_aload_n (pc := 32) hx hb dX7_mark_32 rfl (lv_at hl 0 rfl) ?_
  refine va_get (ci := 7) (C := RX7) (T := TX7) (N := 8) (pc := 33) hx hb hts hiX7 hown hK hP 0 w0 rfl 5 (by decide) (hts (.fieldLink RX7 47 "InkPress" "marks" "LInkPress$Marks;") (by decide +kernel)) (fun _ h9 => h9) rfl dX7_mark_33 ?_
  refine mx_cVi (As := []) (rest := []) (pc := 36) ⟨hx, hb, hml, hown, hts⟩ (k_X1_isFull (a := a) (mx := mx) (my := my) (mdx := mdx) (mdy := mdy) (mn := mn) (m1 := m1) (m2 := m2) (m3 := m3) (m4 := m4) (m5 := m5) (m6 := m6) (m7 := m7) hD w11 w12 w13 w14 w15 (by omega)) (cwV 0 hts gX7_mark_X1_isFull rfl rfl rfl (by decide +kernel) ⟨Nat.le_of_ble_eq_true rfl, Nat.le_of_ble_eq_true rfl⟩) 11 rfl rfl w11 hK hN hZ hP hS rfl hl.1 rfl (Nat.le_of_ble_eq_true rfl) dX7_mark_36 ⟨Nat.zero_le _, Nat.zero_le _⟩ (fun G' H locs hP hD hS hB => ?_)
  rw [hB] at hP hD
  clear hB G'
  refine mx_beq (tgt := 45) (pc := 39) hx hb dX7_mark_39 (by decide) (fun c39 => absurd (c39.symm.trans (show decide (8 ≤ mn) = true by rw [hm]; decide)) (by decide)) (fun c39 => ?_)
  refine lv_bipush (v := (-4)) (pc := 42) hx hb dX7_mark_42 (by decide) ?_
  exact hret _ _ _ _ _ _ hP hD hS rfl rfl dX7_mark_44
set_option maxHeartbeats 4000000 in
set_option maxRecDepth 100000 in
theorem k_X7_mark_k {l : Launch} {D : va_G} {cI cZ : ClassId} {A : Nat → Prop} {g a : Nat → Nat} {G0 : va_W} {st : Bool} {mx : Nat → Int32} {my : Nat → Int32} {mdx : Nat → Int32} {mdy : Nat → Int32} {mn : Nat} {m1 : Int64} {m2 : Int64} {m3 : Int64} {m4 : Int64} {m5 : Int64} {m6 : Int64} {m7 : Int64} {x : Int32} {y : Int32} {u : Int32} {v : Int32} (hD : va_D A G0) (w0 : G0[0]? = some (a 0, .inr (7, [.ref (a 1), .ref (a 3), .ref (a 5), .ref (a 7), .ref (a 10), .ref (a 11), .ref (a 16), .int (gB (st))]))) (w11 : G0[11]? = some (a 11, .inr (1, [.ref (a 12), .ref (a 13), .ref (a 14), .ref (a 15), .int (nI (mn)), .long (m1), .long (m2), .long (m3), .long (m4), .long (m5), .long (m6), .long (m7)]))) (w12 : G0[12]? = some (a 12, .inl (cI, 8, .inl (mx)))) (w13 : G0[13]? = some (a 13, .inl (cI, 8, .inl (my)))) (w14 : G0[14]? = some (a 14, .inl (cI, 8, .inl (mdx)))) (w15 : G0[15]? = some (a 15, .inl (cI, 8, .inl (mdy)))) (hm : mn < 8) (h1 : gWi x (-1000) (nI 1000) = true) (h2 : gWi y (-1000) (nI 1000) = true) (h3 : gWi u (-100) (nI 100) = true) (h4 : gWi v (-100) (nI 100) = true) : gMi l D cI cZ A g yX7_mark wsX7_mark ({ frames := 2, cells := 0, slots := 0, locals := 42 }) [.ref (a 0), .int (x), .int (y), .int (u), .int (v)] G0 (nI (mn + 1)) (fun G1 => G1[11]? = some (a 11, .inr (1, [.ref (a 12), .ref (a 13), .ref (a 14), .ref (a 15), .int (nI (mn + 1)), .long ((m1 + (x).toInt64)), .long ((m2 + (y).toInt64)), .long ((m3 + (u).toInt64)), .long ((m4 + (v).toInt64)), .long ((m5 + (((x * x) + (y * y))).toInt64)), .long ((m6 + (((x * u) + (y * v))).toInt64)), .long ((m7 + (((x * v) - (y * u))).toInt64))])) ∧ G1[12]? = some (a 12, .inl (cI, 8, .inl (upd mx mn x))) ∧ G1[13]? = some (a 13, .inl (cI, 8, .inl (upd my mn y))) ∧ G1[14]? = some (a 14, .inl (cI, 8, .inl (upd mdx mn u))) ∧ G1[15]? = some (a 15, .inl (cI, 8, .inl (upd mdy mn v))) ∧ ∀ k, k ∉ [11, 12, 13, 14, 15] → G1[k]? = G0[k]?) := by
  refine gof_i (cc := cX7_mark) (maxL := 5) (by decide) rfl (Nat.le_of_ble_eq_true rfl) hD ?_
  intro p e s m args below meth c Q hx hb hml hts hown hK hN hZ hP hS hret ls hl
  have hown : s.vm.findClass RX7 = some m.cls := hown
  have hl : lv_has ls 5 [(0, .ref (a 0)), (1, .int (x)), (2, .int (y)), (3, .int (u)), (4, .int (v))] := hl
  obtain ⟨locs, elocs⟩ : ∃ q : List Loc, q = [] := ⟨_, rfl⟩
  rw [← elocs] at hS ⊢
  obtain ⟨H, eH⟩ : ∃ q : Heap, q = s.heap := ⟨_, rfl⟩
  have hP : va_P D vwCl G0 H := eH ▸ hP
  have hS : va_S A s.heap H locs := by rw [eH]; exact hS
  rw [← eH]
  clear elocs eH
  have hiX7 : ∀ w ∈ u_ws RX7 TX7 8, w ∈ wsX7_mark := by decide +kernel
  have hk : ∀ k, k ∉ [11, 12, 13, 14, 15] → G0[k]? = G0[k]? := fun _ _ => rfl
  refine lv_iload_n (pc := 0) hx hb dX7_mark_0 rfl (lv_at hl 1 rfl) ?_
  refine mx_cSi (As := [.int (x)]) (rest := []) (pc := 1) ⟨hx, hb, hml, hown, hts⟩ (k_X1_isPlace (a := a) (v := x) hD  ) (va_cwS 1 hts gX7_mark_X1_isPlace rfl rfl rfl (by decide +kernel) ⟨Nat.le_of_ble_eq_true rfl, Nat.le_of_ble_eq_true rfl⟩) hK hN hZ hP hS rfl hl.1 rfl (Nat.le_of_ble_eq_true rfl) dX7_mark_1 ⟨Nat.zero_le _, Nat.zero_le _⟩ (fun G' H locs hP hD hS hB => ?_)
  rw [hB] at hP hD
  clear hB G'
  refine mx_beq (tgt := 29) (pc := 4) hx hb dX7_mark_4 (by decide) (fun c4 => absurd (c4.symm.trans h1) (by decide)) (fun c4 => ?_)
  refine lv_iload_n (pc := 7) hx hb dX7_mark_7 rfl (lv_at hl 2 rfl) ?_
  refine mx_cSi (As := [.int (y)]) (rest := []) (pc := 8) ⟨hx, hb, hml, hown, hts⟩ (k_X1_isPlace (a := a) (v := y) hD  ) (va_cwS 1 hts gX7_mark_X1_isPlace rfl rfl rfl (by decide +kernel) ⟨Nat.le_of_ble_eq_true rfl, Nat.le_of_ble_eq_true rfl⟩) hK hN hZ hP hS rfl hl.1 rfl (Nat.le_of_ble_eq_true rfl) dX7_mark_8 ⟨Nat.zero_le _, Nat.zero_le _⟩ (fun G' H locs hP hD hS hB => ?_)
  rw [hB] at hP hD
  clear hB G'
  refine mx_beq (tgt := 29) (pc := 11) hx hb dX7_mark_11 (by decide) (fun c11 => absurd (c11.symm.trans h2) (by decide)) (fun c11 => ?_)
  refine lv_iload_n (pc := 14) hx hb dX7_mark_14 rfl (lv_at hl 3 rfl) ?_
  refine mx_cSi (As := [.int (u)]) (rest := []) (pc := 15) ⟨hx, hb, hml, hown, hts⟩ (k_X1_isOffset (a := a) (v := u) hD  ) (va_cwS 1 hts gX7_mark_X1_isOffset rfl rfl rfl (by decide +kernel) ⟨Nat.le_of_ble_eq_true rfl, Nat.le_of_ble_eq_true rfl⟩) hK hN hZ hP hS rfl hl.1 rfl (Nat.le_of_ble_eq_true rfl) dX7_mark_15 ⟨Nat.zero_le _, Nat.zero_le _⟩ (fun G' H locs hP hD hS hB => ?_)
  rw [hB] at hP hD
  clear hB G'
  refine mx_beq (tgt := 29) (pc := 18) hx hb dX7_mark_18 (by decide) (fun c18 => absurd (c18.symm.trans h3) (by decide)) (fun c18 => ?_)
  refine lv_iload (pc := 21) hx hb dX7_mark_21 (lv_at hl 4 rfl) ?_
  refine mx_cSi (As := [.int (v)]) (rest := []) (pc := 23) ⟨hx, hb, hml, hown, hts⟩ (k_X1_isOffset (a := a) (v := v) hD  ) (va_cwS 1 hts gX7_mark_X1_isOffset rfl rfl rfl (by decide +kernel) ⟨Nat.le_of_ble_eq_true rfl, Nat.le_of_ble_eq_true rfl⟩) hK hN hZ hP hS rfl hl.1 rfl (Nat.le_of_ble_eq_true rfl) dX7_mark_23 ⟨Nat.zero_le _, Nat.zero_le _⟩ (fun G' H locs hP hD hS hB => ?_)
  rw [hB] at hP hD
  clear hB G'
  refine mx_bne (tgt := 32) (pc := 26) hx hb dX7_mark_26 (by decide) (fun c26 => ?_) (fun c26 => absurd (c26.symm.trans h4) (by decide))
  refine lv_aload_n (pc := 32) hx hb dX7_mark_32 rfl (lv_at hl 0 rfl) ?_
  refine va_get (ci := 7) (C := RX7) (T := TX7) (N := 8) (pc := 33) hx hb hts hiX7 hown hK hP 0 w0 rfl 5 (by decide) (hts (.fieldLink RX7 47 "InkPress" "marks" "LInkPress$Marks;") (by decide +kernel)) (fun _ h9 => h9) rfl dX7_mark_33 ?_
  refine mx_cVi (As := []) (rest := []) (pc := 36) ⟨hx, hb, hml, hown, hts⟩ (k_X1_isFull (a := a) (mx := mx) (my := my) (mdx := mdx) (mdy := mdy) (mn := mn) (m1 := m1) (m2 := m2) (m3 := m3) (m4 := m4) (m5 := m5) (m6 := m6) (m7 := m7) hD w11 w12 w13 w14 w15 (by omega)) (cwV 0 hts gX7_mark_X1_isFull rfl rfl rfl (by decide +kernel) ⟨Nat.le_of_ble_eq_true rfl, Nat.le_of_ble_eq_true rfl⟩) 11 rfl rfl w11 hK hN hZ hP hS rfl hl.1 rfl (Nat.le_of_ble_eq_true rfl) dX7_mark_36 ⟨Nat.zero_le _, Nat.zero_le _⟩ (fun G' H locs hP hD hS hB => ?_)
  rw [hB] at hP hD
  clear hB G'
  refine mx_beq (tgt := 45) (pc := 39) hx hb dX7_mark_39 (by decide) (fun c39 => ?_) (fun c39 => absurd (c39.symm.trans (show decide (8 ≤ mn) = false by simp; omega)) (by decide))
  refine lv_aload_n (pc := 45) hx hb dX7_mark_45 rfl (lv_at hl 0 rfl) ?_
  refine va_get (ci := 7) (C := RX7) (T := TX7) (N := 8) (pc := 46) hx hb hts hiX7 hown hK hP 0 w0 rfl 5 (by decide) (hts (.fieldLink RX7 47 "InkPress" "marks" "LInkPress$Marks;") (by decide +kernel)) (fun _ h9 => h9) rfl dX7_mark_46 ?_
  refine lv_iload_n (pc := 49) hx hb dX7_mark_49 rfl (lv_at hl 1 rfl) ?_
  refine lv_iload_n (pc := 50) hx hb dX7_mark_50 rfl (lv_at hl 2 rfl) ?_
  refine lv_iload_n (pc := 51) hx hb dX7_mark_51 rfl (lv_at hl 3 rfl) ?_
  refine lv_iload (pc := 52) hx hb dX7_mark_52 (lv_at hl 4 rfl) ?_
  refine mx_cVi (As := [.int (x), .int (y), .int (u), .int (v)]) (rest := []) (pc := 54) ⟨hx, hb, hml, hown, hts⟩ (k_X1_add (a := a) (mx := mx) (my := my) (mdx := mdx) (mdy := mdy) (mn := mn) (m1 := m1) (m2 := m2) (m3 := m3) (m4 := m4) (m5 := m5) (m6 := m6) (m7 := m7) (x := x) (y := y) (u := u) (v := v) hD w11 w12 w13 w14 w15 (by omega)) (cwV 4 hts gX7_mark_X1_add rfl rfl rfl (by decide +kernel) ⟨Nat.le_of_ble_eq_true rfl, Nat.le_of_ble_eq_true rfl⟩) 11 rfl rfl w11 hK hN hZ hP hS rfl hl.1 rfl (Nat.le_of_ble_eq_true rfl) dX7_mark_54 ⟨Nat.zero_le _, Nat.zero_le _⟩ (fun G H locs hP hD hS hB => ?_)
  obtain ⟨w11, w12, w13, w14, w15, ho⟩ := hB
  have w0 := (ho 0 (by decide)).trans w0
  have w11 : G[11]? = some (a 11, .inr (1, [.ref (a 12), .ref (a 13), .ref (a 14), .ref (a 15), .int (nI ((mn) + 1)), .long (((m1) + ((x)).toInt64)), .long (((m2) + ((y)).toInt64)), .long (((m3) + ((u)).toInt64)), .long (((m4) + ((v)).toInt64)), .long (((m5) + ((((x) * (x)) + ((y) * (y)))).toInt64)), .long (((m6) + ((((x) * (u)) + ((y) * (v)))).toInt64)), .long (((m7) + ((((x) * (v)) - ((y) * (u)))).toInt64))])) := w11
  have w12 : G[12]? = some (a 12, .inl (cI, 8, .inl (upd (mx) (mn) (x)))) := w12
  have w13 : G[13]? = some (a 13, .inl (cI, 8, .inl (upd (my) (mn) (y)))) := w13
  have w14 : G[14]? = some (a 14, .inl (cI, 8, .inl (upd (mdx) (mn) (u)))) := w14
  have w15 : G[15]? = some (a 15, .inl (cI, 8, .inl (upd (mdy) (mn) (v)))) := w15
  have hk := gk_call hk ho (by decide)
  clear ho
  exact hret _ _ _ _ _ _ hP hD hS rfl ⟨w11, w12, w13, w14, w15, hk⟩ dX7_mark_57
set_option maxHeartbeats 4000000 in
set_option maxRecDepth 100000 in
theorem k_X7_clear {l : Launch} {D : va_G} {cI cZ : ClassId} {A : Nat → Prop} {g a : Nat → Nat} {G0 : va_W} {st : Bool} {mx : Nat → Int32} {my : Nat → Int32} {mdx : Nat → Int32} {mdy : Nat → Int32} {mn : Nat} {m1 : Int64} {m2 : Int64} {m3 : Int64} {m4 : Int64} {m5 : Int64} {m6 : Int64} {m7 : Int64} (hD : va_D A G0) (w0 : G0[0]? = some (a 0, .inr (7, [.ref (a 1), .ref (a 3), .ref (a 5), .ref (a 7), .ref (a 10), .ref (a 11), .ref (a 16), .int (gB (st))]))) (w11 : G0[11]? = some (a 11, .inr (1, [.ref (a 12), .ref (a 13), .ref (a 14), .ref (a 15), .int (nI (mn)), .long (m1), .long (m2), .long (m3), .long (m4), .long (m5), .long (m6), .long (m7)]))) (w12 : G0[12]? = some (a 12, .inl (cI, 8, .inl (mx)))) (w13 : G0[13]? = some (a 13, .inl (cI, 8, .inl (my)))) (w14 : G0[14]? = some (a 14, .inl (cI, 8, .inl (mdx)))) (w15 : G0[15]? = some (a 15, .inl (cI, 8, .inl (mdy)))) : gMi l D cI cZ A g yX7_clear wsX7_clear ({ frames := 1, cells := 0, slots := 0, locals := 21 }) [.ref (a 0)] G0 (nI (mn)) (fun G1 => G1[11]? = some (a 11, .inr (1, [.ref (a 12), .ref (a 13), .ref (a 14), .ref (a 15), .int (nI (0)), .long (0), .long (0), .long (0), .long (0), .long (0), .long (0), .long (0)])) ∧ ∀ k, k ∉ [11] → G1[k]? = G0[k]?) := by
  refine gof_i (cc := cX7_clear) (maxL := 1) (by decide) rfl (Nat.le_of_ble_eq_true rfl) hD ?_
  intro p e s m args below meth c Q hx hb hml hts hown hK hN hZ hP hS hret ls hl
  have hown : s.vm.findClass RX7 = some m.cls := hown
  have hl : lv_has ls 1 [(0, .ref (a 0))] := hl
  obtain ⟨locs, elocs⟩ : ∃ q : List Loc, q = [] := ⟨_, rfl⟩
  rw [← elocs] at hS ⊢
  obtain ⟨H, eH⟩ : ∃ q : Heap, q = s.heap := ⟨_, rfl⟩
  have hP : va_P D vwCl G0 H := eH ▸ hP
  have hS : va_S A s.heap H locs := by rw [eH]; exact hS
  rw [← eH]
  clear elocs eH
  have hiX7 : ∀ w ∈ u_ws RX7 TX7 8, w ∈ wsX7_clear := by decide +kernel
  have hk : ∀ k, k ∉ [11] → G0[k]? = G0[k]? := fun _ _ => rfl
  refine lv_aload_n (pc := 0) hx hb dX7_clear_0 rfl (lv_at hl 0 rfl) ?_
  refine va_get (ci := 7) (C := RX7) (T := TX7) (N := 8) (pc := 1) hx hb hts hiX7 hown hK hP 0 w0 rfl 5 (by decide) (hts (.fieldLink RX7 47 "InkPress" "marks" "LInkPress$Marks;") (by decide +kernel)) (fun _ h9 => h9) rfl dX7_clear_1 ?_
  refine mx_cVi (As := []) (rest := []) (pc := 4) ⟨hx, hb, hml, hown, hts⟩ (k_X1_removeAll (a := a) (mx := mx) (my := my) (mdx := mdx) (mdy := mdy) (mn := mn) (m1 := m1) (m2 := m2) (m3 := m3) (m4 := m4) (m5 := m5) (m6 := m6) (m7 := m7) hD w11 w12 w13 w14 w15 ) (cwV 0 hts gX7_clear_X1_removeAll rfl rfl rfl (by decide +kernel) ⟨Nat.le_of_ble_eq_true rfl, Nat.le_of_ble_eq_true rfl⟩) 11 rfl rfl w11 hK hN hZ hP hS rfl hl.1 rfl (Nat.le_of_ble_eq_true rfl) dX7_clear_4 ⟨Nat.zero_le _, Nat.zero_le _⟩ (fun G H locs hP hD hS hB => ?_)
  obtain ⟨w11, ho⟩ := hB
  have w0 := (ho 0 (by decide)).trans w0
  have w11 : G[11]? = some (a 11, .inr (1, [.ref (a 12), .ref (a 13), .ref (a 14), .ref (a 15), .int (nI (0)), .long (0), .long (0), .long (0), .long (0), .long (0), .long (0), .long (0)])) := w11
  have w12 := (ho 12 (by decide)).trans w12
  have w13 := (ho 13 (by decide)).trans w13
  have w14 := (ho 14 (by decide)).trans w14
  have w15 := (ho 15 (by decide)).trans w15
  have hk := gk_call hk ho (by decide)
  clear ho
  exact hret _ _ _ _ _ _ hP hD hS rfl ⟨w11, hk⟩ dX7_clear_7
set_option maxHeartbeats 4000000 in
set_option maxRecDepth 100000 in
theorem k_X7_off_b {l : Launch} {D : va_G} {cI cZ : ClassId} {A : Nat → Prop} {g a : Nat → Nat} {G0 : va_W} {st : Bool} {mx : Nat → Int32} {my : Nat → Int32} {mdx : Nat → Int32} {mdy : Nat → Int32} {mn : Nat} {m1 : Int64} {m2 : Int64} {m3 : Int64} {m4 : Int64} {m5 : Int64} {m6 : Int64} {m7 : Int64} {x : Int32} {y : Int32} (hD : va_D A G0) (w0 : G0[0]? = some (a 0, .inr (7, [.ref (a 1), .ref (a 3), .ref (a 5), .ref (a 7), .ref (a 10), .ref (a 11), .ref (a 16), .int (gB (st))]))) (w11 : G0[11]? = some (a 11, .inr (1, [.ref (a 12), .ref (a 13), .ref (a 14), .ref (a 15), .int (nI (mn)), .long (m1), .long (m2), .long (m3), .long (m4), .long (m5), .long (m6), .long (m7)]))) (w12 : G0[12]? = some (a 12, .inl (cI, 8, .inl (mx)))) (w13 : G0[13]? = some (a 13, .inl (cI, 8, .inl (my)))) (w14 : G0[14]? = some (a 14, .inl (cI, 8, .inl (mdx)))) (w15 : G0[15]? = some (a 15, .inl (cI, 8, .inl (mdy)))) (h1 : gHas x (nI mn) = false) : gMi l D cI cZ A g yX7_off wsX7_off ({ frames := 1, cells := 0, slots := 0, locals := 21 }) [.ref (a 0), .int (x), .int (y)] G0 ((-1000001)) (fun G1 => G1 = G0) := by
  refine gof_i (cc := cX7_off) (maxL := 3) (by decide) rfl (Nat.le_of_ble_eq_true rfl) hD ?_
  intro p e s m args below meth c Q hx hb hml hts hown hK hN hZ hP hS hret ls hl
  have hown : s.vm.findClass RX7 = some m.cls := hown
  have hl : lv_has ls 3 [(0, .ref (a 0)), (1, .int (x)), (2, .int (y))] := hl
  obtain ⟨locs, elocs⟩ : ∃ q : List Loc, q = [] := ⟨_, rfl⟩
  rw [← elocs] at hS ⊢
  obtain ⟨H, eH⟩ : ∃ q : Heap, q = s.heap := ⟨_, rfl⟩
  have hP : va_P D vwCl G0 H := eH ▸ hP
  have hS : va_S A s.heap H locs := by rw [eH]; exact hS
  rw [← eH]
  clear elocs eH
  have hiX7 : ∀ w ∈ u_ws RX7 TX7 8, w ∈ wsX7_off := by decide +kernel
  have hk : ∀ k, k ∉ ([] : List Nat) → G0[k]? = G0[k]? := fun _ _ => rfl
  refine lv_aload_n (pc := 0) hx hb dX7_off_0 rfl (lv_at hl 0 rfl) ?_
  refine va_get (ci := 7) (C := RX7) (T := TX7) (N := 8) (pc := 1) hx hb hts hiX7 hown hK hP 0 w0 rfl 5 (by decide) (hts (.fieldLink RX7 47 "InkPress" "marks" "LInkPress$Marks;") (by decide +kernel)) (fun _ h9 => h9) rfl dX7_off_1 ?_
  refine lv_iload_n (pc := 4) hx hb dX7_off_4 rfl (lv_at hl 1 rfl) ?_
  refine mx_cVi (As := [.int (x)]) (rest := []) (pc := 5) ⟨hx, hb, hml, hown, hts⟩ (k_X1_has (a := a) (mx := mx) (my := my) (mdx := mdx) (mdy := mdy) (mn := mn) (m1 := m1) (m2 := m2) (m3 := m3) (m4 := m4) (m5 := m5) (m6 := m6) (m7 := m7) (x := x) hD w11 w12 w13 w14 w15 ) (cwV 1 hts gX7_off_X1_has rfl rfl rfl (by decide +kernel) ⟨Nat.le_of_ble_eq_true rfl, Nat.le_of_ble_eq_true rfl⟩) 11 rfl rfl w11 hK hN hZ hP hS rfl hl.1 rfl (Nat.le_of_ble_eq_true rfl) dX7_off_5 ⟨Nat.zero_le _, Nat.zero_le _⟩ (fun G' H locs hP hD hS hB => ?_)
  rw [hB] at hP hD
  clear hB G'
  refine mx_bne (tgt := 14) (pc := 8) hx hb dX7_off_8 (by decide) (fun c8 => absurd (c8.symm.trans h1) (by decide)) (fun c8 => ?_)
  refine lv_ldc (own := RX7) (v := (-1000001)) (pc := 11) hx hb hown (hts (.constant RX7 79 (-1000001)) (by decide +kernel)) dX7_off_11 ?_
  exact hret _ _ _ _ _ _ hP hD hS rfl rfl dX7_off_13
set_option maxHeartbeats 4000000 in
set_option maxRecDepth 100000 in
theorem k_X7_off_c {l : Launch} {D : va_G} {cI cZ : ClassId} {A : Nat → Prop} {g a : Nat → Nat} {G0 : va_W} {st : Bool} {mx : Nat → Int32} {my : Nat → Int32} {mdx : Nat → Int32} {mdy : Nat → Int32} {mn : Nat} {m1 : Int64} {m2 : Int64} {m3 : Int64} {m4 : Int64} {m5 : Int64} {m6 : Int64} {m7 : Int64} {x : Int32} {y : Int32} (hD : va_D A G0) (w0 : G0[0]? = some (a 0, .inr (7, [.ref (a 1), .ref (a 3), .ref (a 5), .ref (a 7), .ref (a 10), .ref (a 11), .ref (a 16), .int (gB (st))]))) (w11 : G0[11]? = some (a 11, .inr (1, [.ref (a 12), .ref (a 13), .ref (a 14), .ref (a 15), .int (nI (mn)), .long (m1), .long (m2), .long (m3), .long (m4), .long (m5), .long (m6), .long (m7)]))) (w12 : G0[12]? = some (a 12, .inl (cI, 8, .inl (mx)))) (w13 : G0[13]? = some (a 13, .inl (cI, 8, .inl (my)))) (w14 : G0[14]? = some (a 14, .inl (cI, 8, .inl (mdx)))) (w15 : G0[15]? = some (a 15, .inl (cI, 8, .inl (mdy)))) (h1 : gHas x (nI mn) = true) (h2 : gWi y (nI 0) (nI 1) = false) : gMi l D cI cZ A g yX7_off wsX7_off ({ frames := 1, cells := 0, slots := 0, locals := 22 }) [.ref (a 0), .int (x), .int (y)] G0 ((-1000002)) (fun G1 => G1 = G0) := by
  refine gof_i (cc := cX7_off) (maxL := 3) (by decide) rfl (Nat.le_of_ble_eq_true rfl) hD ?_
  intro p e s m args below meth c Q hx hb hml hts hown hK hN hZ hP hS hret ls hl
  have hown : s.vm.findClass RX7 = some m.cls := hown
  have hl : lv_has ls 3 [(0, .ref (a 0)), (1, .int (x)), (2, .int (y))] := hl
  obtain ⟨locs, elocs⟩ : ∃ q : List Loc, q = [] := ⟨_, rfl⟩
  rw [← elocs] at hS ⊢
  obtain ⟨H, eH⟩ : ∃ q : Heap, q = s.heap := ⟨_, rfl⟩
  have hP : va_P D vwCl G0 H := eH ▸ hP
  have hS : va_S A s.heap H locs := by rw [eH]; exact hS
  rw [← eH]
  clear elocs eH
  have hiX7 : ∀ w ∈ u_ws RX7 TX7 8, w ∈ wsX7_off := by decide +kernel
  have hk : ∀ k, k ∉ ([] : List Nat) → G0[k]? = G0[k]? := fun _ _ => rfl
  refine lv_aload_n (pc := 0) hx hb dX7_off_0 rfl (lv_at hl 0 rfl) ?_
  refine va_get (ci := 7) (C := RX7) (T := TX7) (N := 8) (pc := 1) hx hb hts hiX7 hown hK hP 0 w0 rfl 5 (by decide) (hts (.fieldLink RX7 47 "InkPress" "marks" "LInkPress$Marks;") (by decide +kernel)) (fun _ h9 => h9) rfl dX7_off_1 ?_
  refine lv_iload_n (pc := 4) hx hb dX7_off_4 rfl (lv_at hl 1 rfl) ?_
  refine mx_cVi (As := [.int (x)]) (rest := []) (pc := 5) ⟨hx, hb, hml, hown, hts⟩ (k_X1_has (a := a) (mx := mx) (my := my) (mdx := mdx) (mdy := mdy) (mn := mn) (m1 := m1) (m2 := m2) (m3 := m3) (m4 := m4) (m5 := m5) (m6 := m6) (m7 := m7) (x := x) hD w11 w12 w13 w14 w15 ) (cwV 1 hts gX7_off_X1_has rfl rfl rfl (by decide +kernel) ⟨Nat.le_of_ble_eq_true rfl, Nat.le_of_ble_eq_true rfl⟩) 11 rfl rfl w11 hK hN hZ hP hS rfl hl.1 rfl (Nat.le_of_ble_eq_true rfl) dX7_off_5 ⟨Nat.zero_le _, Nat.zero_le _⟩ (fun G' H locs hP hD hS hB => ?_)
  rw [hB] at hP hD
  clear hB G'
  refine mx_bne (tgt := 14) (pc := 8) hx hb dX7_off_8 (by decide) (fun c8 => ?_) (fun c8 => absurd (c8.symm.trans h1) (by decide))
  refine lv_iload_n (pc := 14) hx hb dX7_off_14 rfl (lv_at hl 2 rfl) ?_
  refine lv_iconst (v := nI (0)) (pc := 15) hx hb dX7_off_15 (by decide) ?_
  refine lv_iconst (v := nI (1)) (pc := 16) hx hb dX7_off_16 (by decide) ?_
  refine mx_cSi (As := [.int (y), .int (nI (0)), .int (nI (1))]) (rest := []) (pc := 17) ⟨hx, hb, hml, hown, hts⟩ (k_X7_within (a := a) (v := y) (lo := nI (0)) (hi := nI (1)) hD  ) (va_cwS 3 hts gX7_off_X7_within rfl rfl rfl (by decide +kernel) ⟨Nat.le_of_ble_eq_true rfl, Nat.le_of_ble_eq_true rfl⟩) hK hN hZ hP hS rfl hl.1 rfl (Nat.le_of_ble_eq_true rfl) dX7_off_17 ⟨Nat.zero_le _, Nat.zero_le _⟩ (fun G' H locs hP hD hS hB => ?_)
  rw [hB] at hP hD
  clear hB G'
  refine mx_bne (tgt := 26) (pc := 20) hx hb dX7_off_20 (by decide) (fun c20 => absurd (c20.symm.trans h2) (by decide)) (fun c20 => ?_)
  refine lv_ldc (own := RX7) (v := (-1000002)) (pc := 23) hx hb hown (hts (.constant RX7 84 (-1000002)) (by decide +kernel)) dX7_off_23 ?_
  exact hret _ _ _ _ _ _ hP hD hS rfl rfl dX7_off_25
set_option maxHeartbeats 4000000 in
set_option maxRecDepth 100000 in
theorem k_X7_off_d {l : Launch} {D : va_G} {cI cZ : ClassId} {A : Nat → Prop} {g a : Nat → Nat} {G0 : va_W} {st : Bool} {mx : Nat → Int32} {my : Nat → Int32} {mdx : Nat → Int32} {mdy : Nat → Int32} {mn : Nat} {m1 : Int64} {m2 : Int64} {m3 : Int64} {m4 : Int64} {m5 : Int64} {m6 : Int64} {m7 : Int64} {x : Int32} {y : Int32} (hD : va_D A G0) (w0 : G0[0]? = some (a 0, .inr (7, [.ref (a 1), .ref (a 3), .ref (a 5), .ref (a 7), .ref (a 10), .ref (a 11), .ref (a 16), .int (gB (st))]))) (w11 : G0[11]? = some (a 11, .inr (1, [.ref (a 12), .ref (a 13), .ref (a 14), .ref (a 15), .int (nI (mn)), .long (m1), .long (m2), .long (m3), .long (m4), .long (m5), .long (m6), .long (m7)]))) (w12 : G0[12]? = some (a 12, .inl (cI, 8, .inl (mx)))) (w13 : G0[13]? = some (a 13, .inl (cI, 8, .inl (my)))) (w14 : G0[14]? = some (a 14, .inl (cI, 8, .inl (mdx)))) (w15 : G0[15]? = some (a 15, .inl (cI, 8, .inl (mdy)))) (h1 : gHas x (nI mn) = true) (h2 : gWi y (nI 0) (nI 1) = true) (h3 : decide (0 < gSp mn m1 m2 m3 m4 m5 m6 m7) = false) : gMi l D cI cZ A g yX7_off wsX7_off ({ frames := 2, cells := 0, slots := 0, locals := 40 }) [.ref (a 0), .int (x), .int (y)] G0 ((-1000005)) (fun G1 => G1 = G0) := by
  refine gof_i (cc := cX7_off) (maxL := 3) (by decide) rfl (Nat.le_of_ble_eq_true rfl) hD ?_
  intro p e s m args below meth c Q hx hb hml hts hown hK hN hZ hP hS hret ls hl
  have hown : s.vm.findClass RX7 = some m.cls := hown
  have hl : lv_has ls 3 [(0, .ref (a 0)), (1, .int (x)), (2, .int (y))] := hl
  obtain ⟨locs, elocs⟩ : ∃ q : List Loc, q = [] := ⟨_, rfl⟩
  rw [← elocs] at hS ⊢
  obtain ⟨H, eH⟩ : ∃ q : Heap, q = s.heap := ⟨_, rfl⟩
  have hP : va_P D vwCl G0 H := eH ▸ hP
  have hS : va_S A s.heap H locs := by rw [eH]; exact hS
  rw [← eH]
  clear elocs eH
  have hiX7 : ∀ w ∈ u_ws RX7 TX7 8, w ∈ wsX7_off := by decide +kernel
  have hk : ∀ k, k ∉ ([] : List Nat) → G0[k]? = G0[k]? := fun _ _ => rfl
  refine lv_aload_n (pc := 0) hx hb dX7_off_0 rfl (lv_at hl 0 rfl) ?_
  refine va_get (ci := 7) (C := RX7) (T := TX7) (N := 8) (pc := 1) hx hb hts hiX7 hown hK hP 0 w0 rfl 5 (by decide) (hts (.fieldLink RX7 47 "InkPress" "marks" "LInkPress$Marks;") (by decide +kernel)) (fun _ h9 => h9) rfl dX7_off_1 ?_
  refine lv_iload_n (pc := 4) hx hb dX7_off_4 rfl (lv_at hl 1 rfl) ?_
  refine mx_cVi (As := [.int (x)]) (rest := []) (pc := 5) ⟨hx, hb, hml, hown, hts⟩ (k_X1_has (a := a) (mx := mx) (my := my) (mdx := mdx) (mdy := mdy) (mn := mn) (m1 := m1) (m2 := m2) (m3 := m3) (m4 := m4) (m5 := m5) (m6 := m6) (m7 := m7) (x := x) hD w11 w12 w13 w14 w15 ) (cwV 1 hts gX7_off_X1_has rfl rfl rfl (by decide +kernel) ⟨Nat.le_of_ble_eq_true rfl, Nat.le_of_ble_eq_true rfl⟩) 11 rfl rfl w11 hK hN hZ hP hS rfl hl.1 rfl (Nat.le_of_ble_eq_true rfl) dX7_off_5 ⟨Nat.zero_le _, Nat.zero_le _⟩ (fun G' H locs hP hD hS hB => ?_)
  rw [hB] at hP hD
  clear hB G'
  refine mx_bne (tgt := 14) (pc := 8) hx hb dX7_off_8 (by decide) (fun c8 => ?_) (fun c8 => absurd (c8.symm.trans h1) (by decide))
  refine lv_iload_n (pc := 14) hx hb dX7_off_14 rfl (lv_at hl 2 rfl) ?_
  refine lv_iconst (v := nI (0)) (pc := 15) hx hb dX7_off_15 (by decide) ?_
  refine lv_iconst (v := nI (1)) (pc := 16) hx hb dX7_off_16 (by decide) ?_
  refine mx_cSi (As := [.int (y), .int (nI (0)), .int (nI (1))]) (rest := []) (pc := 17) ⟨hx, hb, hml, hown, hts⟩ (k_X7_within (a := a) (v := y) (lo := nI (0)) (hi := nI (1)) hD  ) (va_cwS 3 hts gX7_off_X7_within rfl rfl rfl (by decide +kernel) ⟨Nat.le_of_ble_eq_true rfl, Nat.le_of_ble_eq_true rfl⟩) hK hN hZ hP hS rfl hl.1 rfl (Nat.le_of_ble_eq_true rfl) dX7_off_17 ⟨Nat.zero_le _, Nat.zero_le _⟩ (fun G' H locs hP hD hS hB => ?_)
  rw [hB] at hP hD
  clear hB G'
  refine mx_bne (tgt := 26) (pc := 20) hx hb dX7_off_20 (by decide) (fun c20 => ?_) (fun c20 => absurd (c20.symm.trans h2) (by decide))
  refine lv_aload_n (pc := 26) hx hb dX7_off_26 rfl (lv_at hl 0 rfl) ?_
  refine va_get (ci := 7) (C := RX7) (T := TX7) (N := 8) (pc := 27) hx hb hts hiX7 hown hK hP 0 w0 rfl 5 (by decide) (hts (.fieldLink RX7 47 "InkPress" "marks" "LInkPress$Marks;") (by decide +kernel)) (fun _ h9 => h9) rfl dX7_off_27 ?_
  refine mx_cVi (As := []) (rest := []) (pc := 30) ⟨hx, hb, hml, hown, hts⟩ (k_X1_isTold (a := a) (mx := mx) (my := my) (mdx := mdx) (mdy := mdy) (mn := mn) (m1 := m1) (m2 := m2) (m3 := m3) (m4 := m4) (m5 := m5) (m6 := m6) (m7 := m7) hD w11 w12 w13 w14 w15 ) (cwV 0 hts gX7_off_X1_isTold rfl rfl rfl (by decide +kernel) ⟨Nat.le_of_ble_eq_true rfl, Nat.le_of_ble_eq_true rfl⟩) 11 rfl rfl w11 hK hN hZ hP hS rfl hl.1 rfl (Nat.le_of_ble_eq_true rfl) dX7_off_30 ⟨Nat.zero_le _, Nat.zero_le _⟩ (fun G' H locs hP hD hS hB => ?_)
  rw [hB] at hP hD
  clear hB G'
  refine mx_bne (tgt := 39) (pc := 33) hx hb dX7_off_33 (by decide) (fun c33 => absurd (c33.symm.trans h3) (by decide)) (fun c33 => ?_)
  refine lv_ldc (own := RX7) (v := (-1000005)) (pc := 36) hx hb hown (hts (.constant RX7 191 (-1000005)) (by decide +kernel)) dX7_off_36 ?_
  exact hret _ _ _ _ _ _ hP hD hS rfl rfl dX7_off_38
set_option maxHeartbeats 4000000 in
set_option maxRecDepth 100000 in
theorem k_X7_off_0 {l : Launch} {D : va_G} {cI cZ : ClassId} {A : Nat → Prop} {g a : Nat → Nat} {G0 : va_W} {st : Bool} {mx : Nat → Int32} {my : Nat → Int32} {mdx : Nat → Int32} {mdy : Nat → Int32} {mn : Nat} {m1 : Int64} {m2 : Int64} {m3 : Int64} {m4 : Int64} {m5 : Int64} {m6 : Int64} {m7 : Int64} {i : Nat} (hD : va_D A G0) (w0 : G0[0]? = some (a 0, .inr (7, [.ref (a 1), .ref (a 3), .ref (a 5), .ref (a 7), .ref (a 10), .ref (a 11), .ref (a 16), .int (gB (st))]))) (w11 : G0[11]? = some (a 11, .inr (1, [.ref (a 12), .ref (a 13), .ref (a 14), .ref (a 15), .int (nI (mn)), .long (m1), .long (m2), .long (m3), .long (m4), .long (m5), .long (m6), .long (m7)]))) (w12 : G0[12]? = some (a 12, .inl (cI, 8, .inl (mx)))) (w13 : G0[13]? = some (a 13, .inl (cI, 8, .inl (my)))) (w14 : G0[14]? = some (a 14, .inl (cI, 8, .inl (mdx)))) (w15 : G0[15]? = some (a 15, .inl (cI, 8, .inl (mdy)))) (hi : i < 8) (h1 : gHas (nI i) (nI mn) = true) (h3 : decide (0 < gSp mn m1 m2 m3 m4 m5 m6 m7) = true) : gMi l D cI cZ A g yX7_off wsX7_off ({ frames := 3, cells := 0, slots := 0, locals := 68 }) [.ref (a 0), .int (nI (i)), .int (nI (0))] G0 (gTh (gSp mn m1 m2 m3 m4 m5 m6 m7 * (nI mn).toInt64) (mdx i) ((nI mn).toInt64 * (gStr mn m1 m2 m3 m4 m5 m6 m7 * (mx i).toInt64 - gTu mn m1 m2 m3 m4 m5 m6 m7 * (my i).toInt64) + gAc mn m1 m2 m3 m4 m5 m6 m7)) (fun G1 => G1 = G0) := by
  refine gof_i (cc := cX7_off) (maxL := 3) (by decide) rfl (Nat.le_of_ble_eq_true rfl) hD ?_
  intro p e s m args below meth c Q hx hb hml hts hown hK hN hZ hP hS hret ls hl
  have hown : s.vm.findClass RX7 = some m.cls := hown
  have hl : lv_has ls 3 [(0, .ref (a 0)), (1, .int (nI (i))), (2, .int (nI (0)))] := hl
  obtain ⟨locs, elocs⟩ : ∃ q : List Loc, q = [] := ⟨_, rfl⟩
  rw [← elocs] at hS ⊢
  obtain ⟨H, eH⟩ : ∃ q : Heap, q = s.heap := ⟨_, rfl⟩
  have hP : va_P D vwCl G0 H := eH ▸ hP
  have hS : va_S A s.heap H locs := by rw [eH]; exact hS
  rw [← eH]
  clear elocs eH
  have hiX7 : ∀ w ∈ u_ws RX7 TX7 8, w ∈ wsX7_off := by decide +kernel
  have hk : ∀ k, k ∉ ([] : List Nat) → G0[k]? = G0[k]? := fun _ _ => rfl
  refine lv_aload_n (pc := 0) hx hb dX7_off_0 rfl (lv_at hl 0 rfl) ?_
  refine va_get (ci := 7) (C := RX7) (T := TX7) (N := 8) (pc := 1) hx hb hts hiX7 hown hK hP 0 w0 rfl 5 (by decide) (hts (.fieldLink RX7 47 "InkPress" "marks" "LInkPress$Marks;") (by decide +kernel)) (fun _ h9 => h9) rfl dX7_off_1 ?_
  refine lv_iload_n (pc := 4) hx hb dX7_off_4 rfl (lv_at hl 1 rfl) ?_
  refine mx_cVi (As := [.int (nI (i))]) (rest := []) (pc := 5) ⟨hx, hb, hml, hown, hts⟩ (k_X1_has (a := a) (mx := mx) (my := my) (mdx := mdx) (mdy := mdy) (mn := mn) (m1 := m1) (m2 := m2) (m3 := m3) (m4 := m4) (m5 := m5) (m6 := m6) (m7 := m7) (x := nI (i)) hD w11 w12 w13 w14 w15 ) (cwV 1 hts gX7_off_X1_has rfl rfl rfl (by decide +kernel) ⟨Nat.le_of_ble_eq_true rfl, Nat.le_of_ble_eq_true rfl⟩) 11 rfl rfl w11 hK hN hZ hP hS rfl hl.1 rfl (Nat.le_of_ble_eq_true rfl) dX7_off_5 ⟨Nat.zero_le _, Nat.zero_le _⟩ (fun G' H locs hP hD hS hB => ?_)
  rw [hB] at hP hD
  clear hB G'
  refine mx_bne (tgt := 14) (pc := 8) hx hb dX7_off_8 (by decide) (fun c8 => ?_) (fun c8 => absurd (c8.symm.trans h1) (by decide))
  refine lv_iload_n (pc := 14) hx hb dX7_off_14 rfl (lv_at hl 2 rfl) ?_
  refine lv_iconst (v := nI (0)) (pc := 15) hx hb dX7_off_15 (by decide) ?_
  refine lv_iconst (v := nI (1)) (pc := 16) hx hb dX7_off_16 (by decide) ?_
  refine mx_cSi (As := [.int (nI (0)), .int (nI (0)), .int (nI (1))]) (rest := []) (pc := 17) ⟨hx, hb, hml, hown, hts⟩ (k_X7_within (a := a) (v := nI (0)) (lo := nI (0)) (hi := nI (1)) hD  ) (va_cwS 3 hts gX7_off_X7_within rfl rfl rfl (by decide +kernel) ⟨Nat.le_of_ble_eq_true rfl, Nat.le_of_ble_eq_true rfl⟩) hK hN hZ hP hS rfl hl.1 rfl (Nat.le_of_ble_eq_true rfl) dX7_off_17 ⟨Nat.zero_le _, Nat.zero_le _⟩ (fun G' H locs hP hD hS hB => ?_)
  rw [hB] at hP hD
  clear hB G'
  refine mx_bne (tgt := 26) (pc := 20) hx hb dX7_off_20 (by decide) (fun c20 => ?_) (fun c20 => absurd (c20.symm.trans (show gWi (nI 0) (nI 0) (nI 1) = true by decide)) (by decide))
  refine lv_aload_n (pc := 26) hx hb dX7_off_26 rfl (lv_at hl 0 rfl) ?_
  refine va_get (ci := 7) (C := RX7) (T := TX7) (N := 8) (pc := 27) hx hb hts hiX7 hown hK hP 0 w0 rfl 5 (by decide) (hts (.fieldLink RX7 47 "InkPress" "marks" "LInkPress$Marks;") (by decide +kernel)) (fun _ h9 => h9) rfl dX7_off_27 ?_
  refine mx_cVi (As := []) (rest := []) (pc := 30) ⟨hx, hb, hml, hown, hts⟩ (k_X1_isTold (a := a) (mx := mx) (my := my) (mdx := mdx) (mdy := mdy) (mn := mn) (m1 := m1) (m2 := m2) (m3 := m3) (m4 := m4) (m5 := m5) (m6 := m6) (m7 := m7) hD w11 w12 w13 w14 w15 ) (cwV 0 hts gX7_off_X1_isTold rfl rfl rfl (by decide +kernel) ⟨Nat.le_of_ble_eq_true rfl, Nat.le_of_ble_eq_true rfl⟩) 11 rfl rfl w11 hK hN hZ hP hS rfl hl.1 rfl (Nat.le_of_ble_eq_true rfl) dX7_off_30 ⟨Nat.zero_le _, Nat.zero_le _⟩ (fun G' H locs hP hD hS hB => ?_)
  rw [hB] at hP hD
  clear hB G'
  refine mx_bne (tgt := 39) (pc := 33) hx hb dX7_off_33 (by decide) (fun c33 => ?_) (fun c33 => absurd (c33.symm.trans h3) (by decide))
  refine lv_iload_n (pc := 39) hx hb dX7_off_39 rfl (lv_at hl 2 rfl) ?_
  refine lv_if_ne (tgt := 54) (pc := 40) hx hb dX7_off_40 (by decide) (fun c40 => absurd c40 (by decide)) (fun c40 => ?_)
  refine lv_aload_n (pc := 43) hx hb dX7_off_43 rfl (lv_at hl 0 rfl) ?_
  refine va_get (ci := 7) (C := RX7) (T := TX7) (N := 8) (pc := 44) hx hb hts hiX7 hown hK hP 0 w0 rfl 5 (by decide) (hts (.fieldLink RX7 47 "InkPress" "marks" "LInkPress$Marks;") (by decide +kernel)) (fun _ h9 => h9) rfl dX7_off_44 ?_
  refine lv_iload_n (pc := 47) hx hb dX7_off_47 rfl (lv_at hl 1 rfl) ?_
  refine mx_cVi (As := [.int (nI (i))]) (rest := []) (pc := 48) ⟨hx, hb, hml, hown, hts⟩ (k_X1_offAcross (a := a) (mx := mx) (my := my) (mdx := mdx) (mdy := mdy) (mn := mn) (m1 := m1) (m2 := m2) (m3 := m3) (m4 := m4) (m5 := m5) (m6 := m6) (m7 := m7) (i := i) hD w11 w12 w13 w14 w15 (by omega)) (cwV 1 hts gX7_off_X1_offAcross rfl rfl rfl (by decide +kernel) ⟨Nat.le_of_ble_eq_true rfl, Nat.le_of_ble_eq_true rfl⟩) 11 rfl rfl w11 hK hN hZ hP hS rfl hl.1 rfl (Nat.le_of_ble_eq_true rfl) dX7_off_48 ⟨Nat.zero_le _, Nat.zero_le _⟩ (fun G' H locs hP hD hS hB => ?_)
  rw [hB] at hP hD
  clear hB G'
  refine lv_goto (tgt := 62) (pc := 51) hx hb dX7_off_51 (by decide) ?_
  exact hret _ _ _ _ _ _ hP hD hS rfl rfl dX7_off_62
set_option maxHeartbeats 4000000 in
set_option maxRecDepth 100000 in
theorem k_X7_off_1 {l : Launch} {D : va_G} {cI cZ : ClassId} {A : Nat → Prop} {g a : Nat → Nat} {G0 : va_W} {st : Bool} {mx : Nat → Int32} {my : Nat → Int32} {mdx : Nat → Int32} {mdy : Nat → Int32} {mn : Nat} {m1 : Int64} {m2 : Int64} {m3 : Int64} {m4 : Int64} {m5 : Int64} {m6 : Int64} {m7 : Int64} {i : Nat} (hD : va_D A G0) (w0 : G0[0]? = some (a 0, .inr (7, [.ref (a 1), .ref (a 3), .ref (a 5), .ref (a 7), .ref (a 10), .ref (a 11), .ref (a 16), .int (gB (st))]))) (w11 : G0[11]? = some (a 11, .inr (1, [.ref (a 12), .ref (a 13), .ref (a 14), .ref (a 15), .int (nI (mn)), .long (m1), .long (m2), .long (m3), .long (m4), .long (m5), .long (m6), .long (m7)]))) (w12 : G0[12]? = some (a 12, .inl (cI, 8, .inl (mx)))) (w13 : G0[13]? = some (a 13, .inl (cI, 8, .inl (my)))) (w14 : G0[14]? = some (a 14, .inl (cI, 8, .inl (mdx)))) (w15 : G0[15]? = some (a 15, .inl (cI, 8, .inl (mdy)))) (hi : i < 8) (h1 : gHas (nI i) (nI mn) = true) (h3 : decide (0 < gSp mn m1 m2 m3 m4 m5 m6 m7) = true) : gMi l D cI cZ A g yX7_off wsX7_off ({ frames := 3, cells := 0, slots := 0, locals := 68 }) [.ref (a 0), .int (nI (i)), .int (nI (1))] G0 (gTh (gSp mn m1 m2 m3 m4 m5 m6 m7 * (nI mn).toInt64) (mdy i) ((nI mn).toInt64 * (gStr mn m1 m2 m3 m4 m5 m6 m7 * (my i).toInt64 + gTu mn m1 m2 m3 m4 m5 m6 m7 * (mx i).toInt64) + gUp mn m1 m2 m3 m4 m5 m6 m7)) (fun G1 => G1 = G0) := by
  refine gof_i (cc := cX7_off) (maxL := 3) (by decide) rfl (Nat.le_of_ble_eq_true rfl) hD ?_
  intro p e s m args below meth c Q hx hb hml hts hown hK hN hZ hP hS hret ls hl
  have hown : s.vm.findClass RX7 = some m.cls := hown
  have hl : lv_has ls 3 [(0, .ref (a 0)), (1, .int (nI (i))), (2, .int (nI (1)))] := hl
  obtain ⟨locs, elocs⟩ : ∃ q : List Loc, q = [] := ⟨_, rfl⟩
  rw [← elocs] at hS ⊢
  obtain ⟨H, eH⟩ : ∃ q : Heap, q = s.heap := ⟨_, rfl⟩
  have hP : va_P D vwCl G0 H := eH ▸ hP
  have hS : va_S A s.heap H locs := by rw [eH]; exact hS
  rw [← eH]
  clear elocs eH
  have hiX7 : ∀ w ∈ u_ws RX7 TX7 8, w ∈ wsX7_off := by decide +kernel
  have hk : ∀ k, k ∉ ([] : List Nat) → G0[k]? = G0[k]? := fun _ _ => rfl
  refine lv_aload_n (pc := 0) hx hb dX7_off_0 rfl (lv_at hl 0 rfl) ?_
  refine va_get (ci := 7) (C := RX7) (T := TX7) (N := 8) (pc := 1) hx hb hts hiX7 hown hK hP 0 w0 rfl 5 (by decide) (hts (.fieldLink RX7 47 "InkPress" "marks" "LInkPress$Marks;") (by decide +kernel)) (fun _ h9 => h9) rfl dX7_off_1 ?_
  refine lv_iload_n (pc := 4) hx hb dX7_off_4 rfl (lv_at hl 1 rfl) ?_
  refine mx_cVi (As := [.int (nI (i))]) (rest := []) (pc := 5) ⟨hx, hb, hml, hown, hts⟩ (k_X1_has (a := a) (mx := mx) (my := my) (mdx := mdx) (mdy := mdy) (mn := mn) (m1 := m1) (m2 := m2) (m3 := m3) (m4 := m4) (m5 := m5) (m6 := m6) (m7 := m7) (x := nI (i)) hD w11 w12 w13 w14 w15 ) (cwV 1 hts gX7_off_X1_has rfl rfl rfl (by decide +kernel) ⟨Nat.le_of_ble_eq_true rfl, Nat.le_of_ble_eq_true rfl⟩) 11 rfl rfl w11 hK hN hZ hP hS rfl hl.1 rfl (Nat.le_of_ble_eq_true rfl) dX7_off_5 ⟨Nat.zero_le _, Nat.zero_le _⟩ (fun G' H locs hP hD hS hB => ?_)
  rw [hB] at hP hD
  clear hB G'
  refine mx_bne (tgt := 14) (pc := 8) hx hb dX7_off_8 (by decide) (fun c8 => ?_) (fun c8 => absurd (c8.symm.trans h1) (by decide))
  refine lv_iload_n (pc := 14) hx hb dX7_off_14 rfl (lv_at hl 2 rfl) ?_
  refine lv_iconst (v := nI (0)) (pc := 15) hx hb dX7_off_15 (by decide) ?_
  refine lv_iconst (v := nI (1)) (pc := 16) hx hb dX7_off_16 (by decide) ?_
  refine mx_cSi (As := [.int (nI (1)), .int (nI (0)), .int (nI (1))]) (rest := []) (pc := 17) ⟨hx, hb, hml, hown, hts⟩ (k_X7_within (a := a) (v := nI (1)) (lo := nI (0)) (hi := nI (1)) hD  ) (va_cwS 3 hts gX7_off_X7_within rfl rfl rfl (by decide +kernel) ⟨Nat.le_of_ble_eq_true rfl, Nat.le_of_ble_eq_true rfl⟩) hK hN hZ hP hS rfl hl.1 rfl (Nat.le_of_ble_eq_true rfl) dX7_off_17 ⟨Nat.zero_le _, Nat.zero_le _⟩ (fun G' H locs hP hD hS hB => ?_)
  rw [hB] at hP hD
  clear hB G'
  refine mx_bne (tgt := 26) (pc := 20) hx hb dX7_off_20 (by decide) (fun c20 => ?_) (fun c20 => absurd (c20.symm.trans (show gWi (nI 1) (nI 0) (nI 1) = true by decide)) (by decide))
  refine lv_aload_n (pc := 26) hx hb dX7_off_26 rfl (lv_at hl 0 rfl) ?_
  refine va_get (ci := 7) (C := RX7) (T := TX7) (N := 8) (pc := 27) hx hb hts hiX7 hown hK hP 0 w0 rfl 5 (by decide) (hts (.fieldLink RX7 47 "InkPress" "marks" "LInkPress$Marks;") (by decide +kernel)) (fun _ h9 => h9) rfl dX7_off_27 ?_
  refine mx_cVi (As := []) (rest := []) (pc := 30) ⟨hx, hb, hml, hown, hts⟩ (k_X1_isTold (a := a) (mx := mx) (my := my) (mdx := mdx) (mdy := mdy) (mn := mn) (m1 := m1) (m2 := m2) (m3 := m3) (m4 := m4) (m5 := m5) (m6 := m6) (m7 := m7) hD w11 w12 w13 w14 w15 ) (cwV 0 hts gX7_off_X1_isTold rfl rfl rfl (by decide +kernel) ⟨Nat.le_of_ble_eq_true rfl, Nat.le_of_ble_eq_true rfl⟩) 11 rfl rfl w11 hK hN hZ hP hS rfl hl.1 rfl (Nat.le_of_ble_eq_true rfl) dX7_off_30 ⟨Nat.zero_le _, Nat.zero_le _⟩ (fun G' H locs hP hD hS hB => ?_)
  rw [hB] at hP hD
  clear hB G'
  refine mx_bne (tgt := 39) (pc := 33) hx hb dX7_off_33 (by decide) (fun c33 => ?_) (fun c33 => absurd (c33.symm.trans h3) (by decide))
  refine lv_iload_n (pc := 39) hx hb dX7_off_39 rfl (lv_at hl 2 rfl) ?_
  refine lv_if_ne (tgt := 54) (pc := 40) hx hb dX7_off_40 (by decide) (fun c40 => ?_) (fun c40 => absurd c40 (by decide))
  refine lv_aload_n (pc := 54) hx hb dX7_off_54 rfl (lv_at hl 0 rfl) ?_
  refine va_get (ci := 7) (C := RX7) (T := TX7) (N := 8) (pc := 55) hx hb hts hiX7 hown hK hP 0 w0 rfl 5 (by decide) (hts (.fieldLink RX7 47 "InkPress" "marks" "LInkPress$Marks;") (by decide +kernel)) (fun _ h9 => h9) rfl dX7_off_55 ?_
  refine lv_iload_n (pc := 58) hx hb dX7_off_58 rfl (lv_at hl 1 rfl) ?_
  refine mx_cVi (As := [.int (nI (i))]) (rest := []) (pc := 59) ⟨hx, hb, hml, hown, hts⟩ (k_X1_offUp (a := a) (mx := mx) (my := my) (mdx := mdx) (mdy := mdy) (mn := mn) (m1 := m1) (m2 := m2) (m3 := m3) (m4 := m4) (m5 := m5) (m6 := m6) (m7 := m7) (i := i) hD w11 w12 w13 w14 w15 (by omega)) (cwV 1 hts gX7_off_X1_offUp rfl rfl rfl (by decide +kernel) ⟨Nat.le_of_ble_eq_true rfl, Nat.le_of_ble_eq_true rfl⟩) 11 rfl rfl w11 hK hN hZ hP hS rfl hl.1 rfl (Nat.le_of_ble_eq_true rfl) dX7_off_59 ⟨Nat.zero_le _, Nat.zero_le _⟩ (fun G' H locs hP hD hS hB => ?_)
  rw [hB] at hP hD
  clear hB G'
  exact hret _ _ _ _ _ _ hP hD hS rfl rfl dX7_off_62
set_option maxHeartbeats 4000000 in
set_option maxRecDepth 100000 in
theorem k_X7_commonDivisor {l : Launch} {D : va_G} {cI cZ : ClassId} {A : Nat → Prop} {g a : Nat → Nat} {G0 : va_W} {u : Int64} {v : Int64} (hD : va_D A G0) : gMl l D cI cZ A g yX7_commonDivisor wsX7_commonDivisor ({ frames := 1, cells := 0, slots := 0, locals := 15 }) [.long (u), .long (v)] G0 (gCd u v) (fun G1 => G1 = G0) := by
  refine gof_l (cc := cX7_commonDivisor) (maxL := 11) (by decide) rfl (Nat.le_of_ble_eq_true rfl) hD ?_
  intro p e s m args below meth c Q hx hb hml hts hown hK hN hZ hP hS hret ls hl
  have hown : s.vm.findClass RX7 = some m.cls := hown
  have hl : lv_has ls 11 [(0, .long (u)), (2, .long (v))] := hl
  obtain ⟨locs, elocs⟩ : ∃ q : List Loc, q = [] := ⟨_, rfl⟩
  rw [← elocs] at hS ⊢
  obtain ⟨H, eH⟩ : ∃ q : Heap, q = s.heap := ⟨_, rfl⟩
  have hP : va_P D vwCl G0 H := eH ▸ hP
  have hS : va_S A s.heap H locs := by rw [eH]; exact hS
  rw [← eH]
  clear elocs eH
  have hmemM1_1 : Cond.methodLink RX7 259 Lib.MathLoose.abs_long.x ∈ wsX7_commonDivisor := by decide +kernel
  have hmemM1_2 : Cond.static Lib.MathLoose.abs_long.x ∈ wsX7_commonDivisor := by decide +kernel
  have hmemM1_3 : Cond.code Lib.MathLoose.abs_long.x Lib.MathLoose.abs_long.code 2 (some .long) ∈ wsX7_commonDivisor := by decide +kernel
  have hmemM7_1 : Cond.methodLink RX7 259 Lib.MathLoose.abs_long.x ∈ wsX7_commonDivisor := by decide +kernel
  have hmemM7_2 : Cond.static Lib.MathLoose.abs_long.x ∈ wsX7_commonDivisor := by decide +kernel
  have hmemM7_3 : Cond.code Lib.MathLoose.abs_long.x Lib.MathLoose.abs_long.code 2 (some .long) ∈ wsX7_commonDivisor := by decide +kernel
  have hk : ∀ k, k ∉ ([] : List Nat) → G0[k]? = G0[k]? := fun _ _ => rfl
  refine lv_lload_n (pc := 0) hx hb dX7_commonDivisor_0 rfl (lv_at hl 0 rfl) ?_
  refine va_mabs_long (own := RX7) (index := 259) (pc := 1) hx hb (hml.trans hl.1.symm) hown (hts (.methodLink RX7 259 Lib.MathLoose.abs_long.x) (hmemM1_1)) (hts (.static Lib.MathLoose.abs_long.x) (hmemM1_2)) (hts (.initialized "java/lang/Math") (by decide +kernel)) (hts (.code Lib.MathLoose.abs_long.x Lib.MathLoose.abs_long.code 2 (some .long)) (hmemM1_3)) (Nat.le_of_ble_eq_true rfl) (Nat.le_of_ble_eq_true rfl) (Nat.zero_le _) (Nat.zero_le _) dX7_commonDivisor_1 ?_
  show W _ _ _ _ _ _ _ _ _ _ _ _ _ _ _ (F0 _ _ _ (.long (gLabs (u)) :: _))
  refine lv_lstore (lv' := [(4, .long (gLabs (u))), (0, .long (u)), (2, .long (v))]) (pc := 4) hx hb dX7_commonDivisor_4 hl (by decide) rfl (fun ls hl => ?_)
  refine lv_lload_n (pc := 6) hx hb dX7_commonDivisor_6 rfl (lv_at hl 2 rfl) ?_
  refine va_mabs_long (own := RX7) (index := 259) (pc := 7) hx hb (hml.trans hl.1.symm) hown (hts (.methodLink RX7 259 Lib.MathLoose.abs_long.x) (hmemM7_1)) (hts (.static Lib.MathLoose.abs_long.x) (hmemM7_2)) (hts (.initialized "java/lang/Math") (by decide +kernel)) (hts (.code Lib.MathLoose.abs_long.x Lib.MathLoose.abs_long.code 2 (some .long)) (hmemM7_3)) (Nat.le_of_ble_eq_true rfl) (Nat.le_of_ble_eq_true rfl) (Nat.zero_le _) (Nat.zero_le _) dX7_commonDivisor_7 ?_
  show W _ _ _ _ _ _ _ _ _ _ _ _ _ _ _ (F0 _ _ _ (.long (gLabs (v)) :: _))
  refine lv_lstore (lv' := [(6, .long (gLabs (v))), (4, .long (gLabs (u))), (0, .long (u)), (2, .long (v))]) (pc := 10) hx hb dX7_commonDivisor_10 hl (by decide) rfl (fun ls hl => ?_)
  refine lv_iconst (v := nI (0)) (pc := 12) hx hb dX7_commonDivisor_12 (by decide) ?_
  refine lv_istore (lv' := [(8, .int (nI (0))), (6, .long (gLabs (v))), (4, .long (gLabs (u))), (0, .long (u)), (2, .long (v))]) (pc := 13) hx hb dX7_commonDivisor_13 hl (by decide) rfl (fun ls hl => ?_)
  have LP : ∀ (k : Nat) (i : Nat) (hi : Int64) (lo : Int64), i + k = 100 → ∀ (H : Heap) (locs : List Loc) (ls : Array Slot), va_P D vwCl G0 H → va_D A G0 → va_S A s.heap H locs → (∀ j, j ∉ ([] : List Nat) → G0[j]? = G0[j]?) → True → lv_has ls 11 [(4, .long (hi)), (6, .long (lo)), (8, .int (nI (i)))] → (∀ (H : Heap) (locs : List Loc) (ls : Array Slot), va_P D vwCl G0 H → va_D A G0 → va_S A s.heap H locs → (∀ j, j ∉ ([] : List Nat) → G0[j]? = G0[j]?) → True → lv_has ls 11 [(4, .long (gGcd k hi lo))] → W p l e ({ frames := 1, cells := 0, slots := 0, locals := 15 } : Room) s m args below meth c H locs 0 0 Q (F0 m 50 ls [])) → W p l e ({ frames := 1, cells := 0, slots := 0, locals := 15 } : Room) s m args below meth c H locs 0 0 Q (F0 m 15 ls []) := by
    intro k
    induction k with
    | zero =>
      intro i hi lo hn H locs ls hP hD hS hk _ hl hcont
      refine lv_iload (pc := 15) hx hb dX7_commonDivisor_15 (lv_at hl 2 rfl) ?_
      refine lv_bipush (v := nI (100)) (pc := 17) hx hb dX7_commonDivisor_17 (by decide) ?_
      refine mx_cge (tgt := 50) (pc := 19) hx hb (by omega) (by omega) dX7_commonDivisor_19 (by decide) (fun c19 => ?_) (fun c19 => absurd c19 (by omega))
      exact hcont H locs ls hP hD hS hk trivial (lv_sub hl [0] rfl)
    | succ k ih =>
      intro i hi lo hn H locs ls hP hD hS hk _ hl hcont
      refine lv_iload (pc := 15) hx hb dX7_commonDivisor_15 (lv_at hl 2 rfl) ?_
      refine lv_bipush (v := nI (100)) (pc := 17) hx hb dX7_commonDivisor_17 (by decide) ?_
      refine mx_cge (tgt := 50) (pc := 19) hx hb (by omega) (by omega) dX7_commonDivisor_19 (by decide) (fun c19 => absurd c19 (by omega)) (fun c19 => ?_)
      refine lv_lload (pc := 22) hx hb dX7_commonDivisor_22 (lv_at hl 1 rfl) ?_
      refine lv_lconst (v := 0) (pc := 24) hx hb dX7_commonDivisor_24 (by decide) ?_
      refine W.lcmp (pc := 25) hx hb dX7_commonDivisor_25 ?_
      refine lv_if_eq (tgt := 50) (pc := 26) hx hb dX7_commonDivisor_26 (by decide) (fun c26 => ?_) (fun c26 => ?_)
      · skip
        have c26 := lg_eq.mp c26
        rw [gGcd_0 c26] at hcont
        exact hcont H locs ls hP hD hS hk trivial (lv_sub hl [0] rfl)
      · skip
        have c26 := fun z => c26 (lg_eq.mpr z)
        refine lv_lload (pc := 29) hx hb dX7_commonDivisor_29 (lv_at hl 0 rfl) ?_
        refine lv_lload (pc := 31) hx hb dX7_commonDivisor_31 (lv_at hl 1 rfl) ?_
        refine lv_lrem (pc := 33) hx hb dX7_commonDivisor_33 c26 ?_
        refine lv_lstore (lv' := [(9, .long ((hi - hi / lo * lo))), (4, .long (hi)), (6, .long (lo)), (8, .int (nI (i)))]) (pc := 34) hx hb dX7_commonDivisor_34 hl (by decide) rfl (fun ls hl => ?_)
        refine lv_lload (pc := 36) hx hb dX7_commonDivisor_36 (lv_at hl 2 rfl) ?_
        refine lv_lstore (lv' := [(4, .long (lo)), (9, .long ((hi - hi / lo * lo))), (6, .long (lo)), (8, .int (nI (i)))]) (pc := 38) hx hb dX7_commonDivisor_38 hl (by decide) rfl (fun ls hl => ?_)
        refine lv_lload (pc := 40) hx hb dX7_commonDivisor_40 (lv_at hl 1 rfl) ?_
        refine lv_lstore (lv' := [(6, .long ((hi - hi / lo * lo))), (4, .long (lo)), (9, .long ((hi - hi / lo * lo))), (8, .int (nI (i)))]) (pc := 42) hx hb dX7_commonDivisor_42 hl (by decide) rfl (fun ls hl => ?_)
        refine lv_iinc (v := nI (i + 1)) (lv' := [(8, .int (nI (i + 1))), (6, .long ((hi - hi / lo * lo))), (4, .long (lo)), (9, .long ((hi - hi / lo * lo)))]) (pc := 44) hx hb dX7_commonDivisor_44 hl (k := 3) rfl (mx_inc1 _) (by decide) rfl (fun ls hl => ?_)
        refine lv_goto (tgt := 15) (pc := 47) hx hb dX7_commonDivisor_47 (by decide) ?_
        rw [gGcd_1 c26] at hcont
        exact ih (i + 1) (lo) ((hi - hi / lo * lo)) (by omega) H locs ls hP hD hS hk trivial (lv_sub hl [2, 1, 0] rfl) hcont
  refine LP 100 (0) (gLabs u) (gLabs v) (by omega)  H locs ls hP hD hS hk trivial (lv_sub hl [2, 1, 0] rfl) (fun H locs ls hP hD hS hk _ hl => ?_)
  refine lv_lload (pc := 50) hx hb dX7_commonDivisor_50 (lv_at hl 0 rfl) ?_
  exact hret _ _ _ _ _ _ hP hD hS rfl rfl dX7_commonDivisor_52
set_option maxHeartbeats 4000000 in
set_option maxRecDepth 100000 in
theorem k_X7_fit_b {l : Launch} {D : va_G} {cI cZ : ClassId} {A : Nat → Prop} {g a : Nat → Nat} {G0 : va_W} {st : Bool} {x : Int32} {y : Int32} (hD : va_D A G0) (w0 : G0[0]? = some (a 0, .inr (7, [.ref (a 1), .ref (a 3), .ref (a 5), .ref (a 7), .ref (a 10), .ref (a 11), .ref (a 16), .int (gB (st))]))) (hbad : gWi x (nI 0) (nI 3) = false ∨ gWi y (nI 0) (nI 1) = false) : gMl l D cI cZ A g yX7_fit wsX7_fit ({ frames := 1, cells := 0, slots := 0, locals := 22 }) [.ref (a 0), .int (x), .int (y)] G0 ((-1000002)) (fun G1 => G1 = G0) := by
  refine gof_l (cc := cX7_fit) (maxL := 11) (by decide) rfl (Nat.le_of_ble_eq_true rfl) hD ?_
  intro p e s m args below meth c Q hx hb hml hts hown hK hN hZ hP hS hret ls hl
  have hown : s.vm.findClass RX7 = some m.cls := hown
  have hl : lv_has ls 11 [(0, .ref (a 0)), (1, .int (x)), (2, .int (y))] := hl
  obtain ⟨locs, elocs⟩ : ∃ q : List Loc, q = [] := ⟨_, rfl⟩
  rw [← elocs] at hS ⊢
  obtain ⟨H, eH⟩ : ∃ q : Heap, q = s.heap := ⟨_, rfl⟩
  have hP : va_P D vwCl G0 H := eH ▸ hP
  have hS : va_S A s.heap H locs := by rw [eH]; exact hS
  rw [← eH]
  clear elocs eH
  have hk : ∀ k, k ∉ ([] : List Nat) → G0[k]? = G0[k]? := fun _ _ => rfl
  refine lv_iload_n (pc := 0) hx hb dX7_fit_0 rfl (lv_at hl 1 rfl) ?_
  refine lv_iconst (v := nI (0)) (pc := 1) hx hb dX7_fit_1 (by decide) ?_
  refine lv_iconst (v := nI (3)) (pc := 2) hx hb dX7_fit_2 (by decide) ?_
  refine mx_cSi (As := [.int (x), .int (nI (0)), .int (nI (3))]) (rest := []) (pc := 3) ⟨hx, hb, hml, hown, hts⟩ (k_X7_within (a := a) (v := x) (lo := nI (0)) (hi := nI (3)) hD  ) (va_cwS 3 hts gX7_fit_X7_within rfl rfl rfl (by decide +kernel) ⟨Nat.le_of_ble_eq_true rfl, Nat.le_of_ble_eq_true rfl⟩) hK hN hZ hP hS rfl hl.1 rfl (Nat.le_of_ble_eq_true rfl) dX7_fit_3 ⟨Nat.zero_le _, Nat.zero_le _⟩ (fun G' H locs hP hD hS hB => ?_)
  rw [hB] at hP hD
  clear hB G'
  refine mx_beq (tgt := 18) (pc := 6) hx hb dX7_fit_6 (by decide) (fun c6 => ?_) (fun c6 => ?_)
  · skip
    refine lv_ldc2 (own := RX7) (v := (-1000002)) (pc := 18) hx hb hown (hts (.constantLong RX7 172 (-1000002)) (by decide +kernel)) dX7_fit_18 ?_
    exact hret _ _ _ _ _ _ hP hD hS rfl rfl dX7_fit_21
  · skip
    refine lv_iload_n (pc := 9) hx hb dX7_fit_9 rfl (lv_at hl 2 rfl) ?_
    refine lv_iconst (v := nI (0)) (pc := 10) hx hb dX7_fit_10 (by decide) ?_
    refine lv_iconst (v := nI (1)) (pc := 11) hx hb dX7_fit_11 (by decide) ?_
    refine mx_cSi (As := [.int (y), .int (nI (0)), .int (nI (1))]) (rest := []) (pc := 12) ⟨hx, hb, hml, hown, hts⟩ (k_X7_within (a := a) (v := y) (lo := nI (0)) (hi := nI (1)) hD  ) (va_cwS 3 hts gX7_fit_X7_within rfl rfl rfl (by decide +kernel) ⟨Nat.le_of_ble_eq_true rfl, Nat.le_of_ble_eq_true rfl⟩) hK hN hZ hP hS rfl hl.1 rfl (Nat.le_of_ble_eq_true rfl) dX7_fit_12 ⟨Nat.zero_le _, Nat.zero_le _⟩ (fun G' H locs hP hD hS hB => ?_)
    rw [hB] at hP hD
    clear hB G'
    refine mx_bne (tgt := 22) (pc := 15) hx hb dX7_fit_15 (by decide) (fun c15 => ?_) (fun c15 => ?_)
    · skip
      exact (by simp [c6, c15] at hbad)
    · skip
      refine lv_ldc2 (own := RX7) (v := (-1000002)) (pc := 18) hx hb hown (hts (.constantLong RX7 172 (-1000002)) (by decide +kernel)) dX7_fit_18 ?_
      exact hret _ _ _ _ _ _ hP hD hS rfl rfl dX7_fit_21
set_option maxHeartbeats 4000000 in
set_option maxRecDepth 100000 in
theorem k_X7_fit_c {l : Launch} {D : va_G} {cI cZ : ClassId} {A : Nat → Prop} {g a : Nat → Nat} {G0 : va_W} {st : Bool} {mx : Nat → Int32} {my : Nat → Int32} {mdx : Nat → Int32} {mdy : Nat → Int32} {mn : Nat} {m1 : Int64} {m2 : Int64} {m3 : Int64} {m4 : Int64} {m5 : Int64} {m6 : Int64} {m7 : Int64} {x : Int32} {y : Int32} (hD : va_D A G0) (w0 : G0[0]? = some (a 0, .inr (7, [.ref (a 1), .ref (a 3), .ref (a 5), .ref (a 7), .ref (a 10), .ref (a 11), .ref (a 16), .int (gB (st))]))) (w11 : G0[11]? = some (a 11, .inr (1, [.ref (a 12), .ref (a 13), .ref (a 14), .ref (a 15), .int (nI (mn)), .long (m1), .long (m2), .long (m3), .long (m4), .long (m5), .long (m6), .long (m7)]))) (w12 : G0[12]? = some (a 12, .inl (cI, 8, .inl (mx)))) (w13 : G0[13]? = some (a 13, .inl (cI, 8, .inl (my)))) (w14 : G0[14]? = some (a 14, .inl (cI, 8, .inl (mdx)))) (w15 : G0[15]? = some (a 15, .inl (cI, 8, .inl (mdy)))) (h1 : gWi x (nI 0) (nI 3) = true) (h2 : gWi y (nI 0) (nI 1) = true) (h3 : decide (0 < gSp mn m1 m2 m3 m4 m5 m6 m7) = false) : gMl l D cI cZ A g yX7_fit wsX7_fit ({ frames := 2, cells := 0, slots := 0, locals := 40 }) [.ref (a 0), .int (x), .int (y)] G0 ((-1000005)) (fun G1 => G1 = G0) := by
  refine gof_l (cc := cX7_fit) (maxL := 11) (by decide) rfl (Nat.le_of_ble_eq_true rfl) hD ?_
  intro p e s m args below meth c Q hx hb hml hts hown hK hN hZ hP hS hret ls hl
  have hown : s.vm.findClass RX7 = some m.cls := hown
  have hl : lv_has ls 11 [(0, .ref (a 0)), (1, .int (x)), (2, .int (y))] := hl
  obtain ⟨locs, elocs⟩ : ∃ q : List Loc, q = [] := ⟨_, rfl⟩
  rw [← elocs] at hS ⊢
  obtain ⟨H, eH⟩ : ∃ q : Heap, q = s.heap := ⟨_, rfl⟩
  have hP : va_P D vwCl G0 H := eH ▸ hP
  have hS : va_S A s.heap H locs := by rw [eH]; exact hS
  rw [← eH]
  clear elocs eH
  have hiX7 : ∀ w ∈ u_ws RX7 TX7 8, w ∈ wsX7_fit := by decide +kernel
  have hk : ∀ k, k ∉ ([] : List Nat) → G0[k]? = G0[k]? := fun _ _ => rfl
  refine lv_iload_n (pc := 0) hx hb dX7_fit_0 rfl (lv_at hl 1 rfl) ?_
  refine lv_iconst (v := nI (0)) (pc := 1) hx hb dX7_fit_1 (by decide) ?_
  refine lv_iconst (v := nI (3)) (pc := 2) hx hb dX7_fit_2 (by decide) ?_
  refine mx_cSi (As := [.int (x), .int (nI (0)), .int (nI (3))]) (rest := []) (pc := 3) ⟨hx, hb, hml, hown, hts⟩ (k_X7_within (a := a) (v := x) (lo := nI (0)) (hi := nI (3)) hD  ) (va_cwS 3 hts gX7_fit_X7_within rfl rfl rfl (by decide +kernel) ⟨Nat.le_of_ble_eq_true rfl, Nat.le_of_ble_eq_true rfl⟩) hK hN hZ hP hS rfl hl.1 rfl (Nat.le_of_ble_eq_true rfl) dX7_fit_3 ⟨Nat.zero_le _, Nat.zero_le _⟩ (fun G' H locs hP hD hS hB => ?_)
  rw [hB] at hP hD
  clear hB G'
  refine mx_beq (tgt := 18) (pc := 6) hx hb dX7_fit_6 (by decide) (fun c6 => absurd (c6.symm.trans h1) (by decide)) (fun c6 => ?_)
  refine lv_iload_n (pc := 9) hx hb dX7_fit_9 rfl (lv_at hl 2 rfl) ?_
  refine lv_iconst (v := nI (0)) (pc := 10) hx hb dX7_fit_10 (by decide) ?_
  refine lv_iconst (v := nI (1)) (pc := 11) hx hb dX7_fit_11 (by decide) ?_
  refine mx_cSi (As := [.int (y), .int (nI (0)), .int (nI (1))]) (rest := []) (pc := 12) ⟨hx, hb, hml, hown, hts⟩ (k_X7_within (a := a) (v := y) (lo := nI (0)) (hi := nI (1)) hD  ) (va_cwS 3 hts gX7_fit_X7_within rfl rfl rfl (by decide +kernel) ⟨Nat.le_of_ble_eq_true rfl, Nat.le_of_ble_eq_true rfl⟩) hK hN hZ hP hS rfl hl.1 rfl (Nat.le_of_ble_eq_true rfl) dX7_fit_12 ⟨Nat.zero_le _, Nat.zero_le _⟩ (fun G' H locs hP hD hS hB => ?_)
  rw [hB] at hP hD
  clear hB G'
  refine mx_bne (tgt := 22) (pc := 15) hx hb dX7_fit_15 (by decide) (fun c15 => ?_) (fun c15 => absurd (c15.symm.trans h2) (by decide))
  refine lv_aload_n (pc := 22) hx hb dX7_fit_22 rfl (lv_at hl 0 rfl) ?_
  refine va_get (ci := 7) (C := RX7) (T := TX7) (N := 8) (pc := 23) hx hb hts hiX7 hown hK hP 0 w0 rfl 5 (by decide) (hts (.fieldLink RX7 47 "InkPress" "marks" "LInkPress$Marks;") (by decide +kernel)) (fun _ h9 => h9) rfl dX7_fit_23 ?_
  refine mx_cVi (As := []) (rest := []) (pc := 26) ⟨hx, hb, hml, hown, hts⟩ (k_X1_isTold (a := a) (mx := mx) (my := my) (mdx := mdx) (mdy := mdy) (mn := mn) (m1 := m1) (m2 := m2) (m3 := m3) (m4 := m4) (m5 := m5) (m6 := m6) (m7 := m7) hD w11 w12 w13 w14 w15 ) (cwV 0 hts gX7_fit_X1_isTold rfl rfl rfl (by decide +kernel) ⟨Nat.le_of_ble_eq_true rfl, Nat.le_of_ble_eq_true rfl⟩) 11 rfl rfl w11 hK hN hZ hP hS rfl hl.1 rfl (Nat.le_of_ble_eq_true rfl) dX7_fit_26 ⟨Nat.zero_le _, Nat.zero_le _⟩ (fun G' H locs hP hD hS hB => ?_)
  rw [hB] at hP hD
  clear hB G'
  refine mx_bne (tgt := 36) (pc := 29) hx hb dX7_fit_29 (by decide) (fun c29 => absurd (c29.symm.trans h3) (by decide)) (fun c29 => ?_)
  refine lv_ldc2 (own := RX7) (v := (-1000005)) (pc := 32) hx hb hown (hts (.constantLong RX7 177 (-1000005)) (by decide +kernel)) dX7_fit_32 ?_
  exact hret _ _ _ _ _ _ hP hD hS rfl rfl dX7_fit_35
set_option maxHeartbeats 4000000 in
set_option maxRecDepth 100000 in
theorem k_X7_fit_0 {l : Launch} {D : va_G} {cI cZ : ClassId} {A : Nat → Prop} {g a : Nat → Nat} {G0 : va_W} {st : Bool} {mx : Nat → Int32} {my : Nat → Int32} {mdx : Nat → Int32} {mdy : Nat → Int32} {mn : Nat} {m1 : Int64} {m2 : Int64} {m3 : Int64} {m4 : Int64} {m5 : Int64} {m6 : Int64} {m7 : Int64} {wh : Nat} (hD : va_D A G0) (w0 : G0[0]? = some (a 0, .inr (7, [.ref (a 1), .ref (a 3), .ref (a 5), .ref (a 7), .ref (a 10), .ref (a 11), .ref (a 16), .int (gB (st))]))) (w11 : G0[11]? = some (a 11, .inr (1, [.ref (a 12), .ref (a 13), .ref (a 14), .ref (a 15), .int (nI (mn)), .long (m1), .long (m2), .long (m3), .long (m4), .long (m5), .long (m6), .long (m7)]))) (w12 : G0[12]? = some (a 12, .inl (cI, 8, .inl (mx)))) (w13 : G0[13]? = some (a 13, .inl (cI, 8, .inl (my)))) (w14 : G0[14]? = some (a 14, .inl (cI, 8, .inl (mdx)))) (w15 : G0[15]? = some (a 15, .inl (cI, 8, .inl (mdy)))) (hw : wh < 4) (h1 : gWi (nI wh) (nI 0) (nI 3) = true) (h3 : decide (0 < gSp mn m1 m2 m3 m4 m5 m6 m7) = true) : gMl l D cI cZ A g yX7_fit wsX7_fit ({ frames := 3, cells := 0, slots := 0, locals := 61 }) [.ref (a 0), .int (nI (wh)), .int (nI (0))] G0 (gFit 0 (gUpp wh mn m1 m2 m3 m4 m5 m6 m7) (gLow wh mn m1 m2 m3 m4 m5 m6 m7)) (fun G1 => G1 = G0) := by
  refine gof_l (cc := cX7_fit) (maxL := 11) (by decide) rfl (Nat.le_of_ble_eq_true rfl) hD ?_
  intro p e s m args below meth c Q hx hb hml hts hown hK hN hZ hP hS hret ls hl
  have hown : s.vm.findClass RX7 = some m.cls := hown
  have hl : lv_has ls 11 [(0, .ref (a 0)), (1, .int (nI (wh))), (2, .int (nI (0)))] := hl
  obtain ⟨locs, elocs⟩ : ∃ q : List Loc, q = [] := ⟨_, rfl⟩
  rw [← elocs] at hS ⊢
  obtain ⟨H, eH⟩ : ∃ q : Heap, q = s.heap := ⟨_, rfl⟩
  have hP : va_P D vwCl G0 H := eH ▸ hP
  have hS : va_S A s.heap H locs := by rw [eH]; exact hS
  rw [← eH]
  clear elocs eH
  have hiX7 : ∀ w ∈ u_ws RX7 TX7 8, w ∈ wsX7_fit := by decide +kernel
  have hk : ∀ k, k ∉ ([] : List Nat) → G0[k]? = G0[k]? := fun _ _ => rfl
  refine lv_iload_n (pc := 0) hx hb dX7_fit_0 rfl (lv_at hl 1 rfl) ?_
  refine lv_iconst (v := nI (0)) (pc := 1) hx hb dX7_fit_1 (by decide) ?_
  refine lv_iconst (v := nI (3)) (pc := 2) hx hb dX7_fit_2 (by decide) ?_
  refine mx_cSi (As := [.int (nI (wh)), .int (nI (0)), .int (nI (3))]) (rest := []) (pc := 3) ⟨hx, hb, hml, hown, hts⟩ (k_X7_within (a := a) (v := nI (wh)) (lo := nI (0)) (hi := nI (3)) hD  ) (va_cwS 3 hts gX7_fit_X7_within rfl rfl rfl (by decide +kernel) ⟨Nat.le_of_ble_eq_true rfl, Nat.le_of_ble_eq_true rfl⟩) hK hN hZ hP hS rfl hl.1 rfl (Nat.le_of_ble_eq_true rfl) dX7_fit_3 ⟨Nat.zero_le _, Nat.zero_le _⟩ (fun G' H locs hP hD hS hB => ?_)
  rw [hB] at hP hD
  clear hB G'
  refine mx_beq (tgt := 18) (pc := 6) hx hb dX7_fit_6 (by decide) (fun c6 => absurd (c6.symm.trans h1) (by decide)) (fun c6 => ?_)
  refine lv_iload_n (pc := 9) hx hb dX7_fit_9 rfl (lv_at hl 2 rfl) ?_
  refine lv_iconst (v := nI (0)) (pc := 10) hx hb dX7_fit_10 (by decide) ?_
  refine lv_iconst (v := nI (1)) (pc := 11) hx hb dX7_fit_11 (by decide) ?_
  refine mx_cSi (As := [.int (nI (0)), .int (nI (0)), .int (nI (1))]) (rest := []) (pc := 12) ⟨hx, hb, hml, hown, hts⟩ (k_X7_within (a := a) (v := nI (0)) (lo := nI (0)) (hi := nI (1)) hD  ) (va_cwS 3 hts gX7_fit_X7_within rfl rfl rfl (by decide +kernel) ⟨Nat.le_of_ble_eq_true rfl, Nat.le_of_ble_eq_true rfl⟩) hK hN hZ hP hS rfl hl.1 rfl (Nat.le_of_ble_eq_true rfl) dX7_fit_12 ⟨Nat.zero_le _, Nat.zero_le _⟩ (fun G' H locs hP hD hS hB => ?_)
  rw [hB] at hP hD
  clear hB G'
  refine mx_bne (tgt := 22) (pc := 15) hx hb dX7_fit_15 (by decide) (fun c15 => ?_) (fun c15 => absurd (c15.symm.trans (show gWi (nI 0) (nI 0) (nI 1) = true by decide)) (by decide))
  refine lv_aload_n (pc := 22) hx hb dX7_fit_22 rfl (lv_at hl 0 rfl) ?_
  refine va_get (ci := 7) (C := RX7) (T := TX7) (N := 8) (pc := 23) hx hb hts hiX7 hown hK hP 0 w0 rfl 5 (by decide) (hts (.fieldLink RX7 47 "InkPress" "marks" "LInkPress$Marks;") (by decide +kernel)) (fun _ h9 => h9) rfl dX7_fit_23 ?_
  refine mx_cVi (As := []) (rest := []) (pc := 26) ⟨hx, hb, hml, hown, hts⟩ (k_X1_isTold (a := a) (mx := mx) (my := my) (mdx := mdx) (mdy := mdy) (mn := mn) (m1 := m1) (m2 := m2) (m3 := m3) (m4 := m4) (m5 := m5) (m6 := m6) (m7 := m7) hD w11 w12 w13 w14 w15 ) (cwV 0 hts gX7_fit_X1_isTold rfl rfl rfl (by decide +kernel) ⟨Nat.le_of_ble_eq_true rfl, Nat.le_of_ble_eq_true rfl⟩) 11 rfl rfl w11 hK hN hZ hP hS rfl hl.1 rfl (Nat.le_of_ble_eq_true rfl) dX7_fit_26 ⟨Nat.zero_le _, Nat.zero_le _⟩ (fun G' H locs hP hD hS hB => ?_)
  rw [hB] at hP hD
  clear hB G'
  refine mx_bne (tgt := 36) (pc := 29) hx hb dX7_fit_29 (by decide) (fun c29 => ?_) (fun c29 => absurd (c29.symm.trans h3) (by decide))
  refine lv_aload_n (pc := 36) hx hb dX7_fit_36 rfl (lv_at hl 0 rfl) ?_
  refine va_get (ci := 7) (C := RX7) (T := TX7) (N := 8) (pc := 37) hx hb hts hiX7 hown hK hP 0 w0 rfl 5 (by decide) (hts (.fieldLink RX7 47 "InkPress" "marks" "LInkPress$Marks;") (by decide +kernel)) (fun _ h9 => h9) rfl dX7_fit_37 ?_
  refine lv_iload_n (pc := 40) hx hb dX7_fit_40 rfl (lv_at hl 1 rfl) ?_
  refine mx_cVl (As := [.int (nI (wh))]) (rest := []) (pc := 41) ⟨hx, hb, hml, hown, hts⟩ (k_X1_upper (a := a) (mx := mx) (my := my) (mdx := mdx) (mdy := mdy) (mn := mn) (m1 := m1) (m2 := m2) (m3 := m3) (m4 := m4) (m5 := m5) (m6 := m6) (m7 := m7) (wh := wh) hD w11 w12 w13 w14 w15 (by omega)) (cwV 1 hts gX7_fit_X1_upper rfl rfl rfl (by decide +kernel) ⟨Nat.le_of_ble_eq_true rfl, Nat.le_of_ble_eq_true rfl⟩) 11 rfl rfl w11 hK hN hZ hP hS rfl hl.1 rfl (Nat.le_of_ble_eq_true rfl) dX7_fit_41 ⟨Nat.zero_le _, Nat.zero_le _⟩ (fun G' H locs hP hD hS hB => ?_)
  rw [hB] at hP hD
  clear hB G'
  refine lv_lstore_n (lv' := [(3, .long (gUpp (wh) (mn) (m1) (m2) (m3) (m4) (m5) (m6) (m7))), (0, .ref (a 0)), (1, .int (nI (wh))), (2, .int (nI (0)))]) (pc := 44) hx hb dX7_fit_44 rfl hl (by decide) rfl (fun ls hl => ?_)
  refine lv_aload_n (pc := 45) hx hb dX7_fit_45 rfl (lv_at hl 1 rfl) ?_
  refine va_get (ci := 7) (C := RX7) (T := TX7) (N := 8) (pc := 46) hx hb hts hiX7 hown hK hP 0 w0 rfl 5 (by decide) (hts (.fieldLink RX7 47 "InkPress" "marks" "LInkPress$Marks;") (by decide +kernel)) (fun _ h9 => h9) rfl dX7_fit_46 ?_
  refine lv_iload_n (pc := 49) hx hb dX7_fit_49 rfl (lv_at hl 2 rfl) ?_
  refine mx_cVl (As := [.int (nI (wh))]) (rest := []) (pc := 50) ⟨hx, hb, hml, hown, hts⟩ (k_X1_lower (a := a) (mx := mx) (my := my) (mdx := mdx) (mdy := mdy) (mn := mn) (m1 := m1) (m2 := m2) (m3 := m3) (m4 := m4) (m5 := m5) (m6 := m6) (m7 := m7) (wh := wh) hD w11 w12 w13 w14 w15 (by omega)) (cwV 1 hts gX7_fit_X1_lower rfl rfl rfl (by decide +kernel) ⟨Nat.le_of_ble_eq_true rfl, Nat.le_of_ble_eq_true rfl⟩) 11 rfl rfl w11 hK hN hZ hP hS rfl hl.1 rfl (Nat.le_of_ble_eq_true rfl) dX7_fit_50 ⟨Nat.zero_le _, Nat.zero_le _⟩ (fun G' H locs hP hD hS hB => ?_)
  rw [hB] at hP hD
  clear hB G'
  refine lv_lstore (lv' := [(5, .long (gLow (wh) (mn) (m1) (m2) (m3) (m4) (m5) (m6) (m7))), (3, .long (gUpp (wh) (mn) (m1) (m2) (m3) (m4) (m5) (m6) (m7))), (0, .ref (a 0)), (1, .int (nI (wh))), (2, .int (nI (0)))]) (pc := 53) hx hb dX7_fit_53 hl (by decide) rfl (fun ls hl => ?_)
  refine lv_lload_n (pc := 55) hx hb dX7_fit_55 rfl (lv_at hl 1 rfl) ?_
  refine lv_lload (pc := 56) hx hb dX7_fit_56 (lv_at hl 0 rfl) ?_
  refine mx_cSl (As := [.long (gUpp (wh) (mn) (m1) (m2) (m3) (m4) (m5) (m6) (m7)), .long (gLow (wh) (mn) (m1) (m2) (m3) (m4) (m5) (m6) (m7))]) (rest := []) (pc := 58) ⟨hx, hb, hml, hown, hts⟩ (k_X7_commonDivisor (a := a) (u := gUpp (wh) (mn) (m1) (m2) (m3) (m4) (m5) (m6) (m7)) (v := gLow (wh) (mn) (m1) (m2) (m3) (m4) (m5) (m6) (m7)) hD  ) (va_cwS 2 hts gX7_fit_X7_commonDivisor rfl rfl rfl (by decide +kernel) ⟨Nat.le_of_ble_eq_true rfl, Nat.le_of_ble_eq_true rfl⟩) hK hN hZ hP hS rfl hl.1 rfl (Nat.le_of_ble_eq_true rfl) dX7_fit_58 ⟨Nat.zero_le _, Nat.zero_le _⟩ (fun G' H locs hP hD hS hB => ?_)
  rw [hB] at hP hD
  clear hB G'
  refine lv_lstore (lv' := [(7, .long (gCd (gUpp (wh) (mn) (m1) (m2) (m3) (m4) (m5) (m6) (m7)) (gLow (wh) (mn) (m1) (m2) (m3) (m4) (m5) (m6) (m7)))), (5, .long (gLow (wh) (mn) (m1) (m2) (m3) (m4) (m5) (m6) (m7))), (3, .long (gUpp (wh) (mn) (m1) (m2) (m3) (m4) (m5) (m6) (m7))), (0, .ref (a 0)), (1, .int (nI (wh))), (2, .int (nI (0)))]) (pc := 61) hx hb dX7_fit_61 hl (by decide) rfl (fun ls hl => ?_)
  refine lv_iload_n (pc := 63) hx hb dX7_fit_63 rfl (lv_at hl 5 rfl) ?_
  refine lv_if_ne (tgt := 71) (pc := 64) hx hb dX7_fit_64 (by decide) (fun c64 => absurd c64 (by decide)) (fun c64 => ?_)
  refine lv_lload_n (pc := 67) hx hb dX7_fit_67 rfl (lv_at hl 2 rfl) ?_
  refine lv_goto (tgt := 73) (pc := 68) hx hb dX7_fit_68 (by decide) ?_
  refine lv_lstore (lv' := [(9, .long (gUpp (wh) (mn) (m1) (m2) (m3) (m4) (m5) (m6) (m7))), (7, .long (gCd (gUpp (wh) (mn) (m1) (m2) (m3) (m4) (m5) (m6) (m7)) (gLow (wh) (mn) (m1) (m2) (m3) (m4) (m5) (m6) (m7)))), (5, .long (gLow (wh) (mn) (m1) (m2) (m3) (m4) (m5) (m6) (m7))), (3, .long (gUpp (wh) (mn) (m1) (m2) (m3) (m4) (m5) (m6) (m7))), (0, .ref (a 0)), (1, .int (nI (wh))), (2, .int (nI (0)))]) (pc := 73) hx hb dX7_fit_73 hl (by decide) rfl (fun ls hl => ?_)
  refine lv_lload (pc := 75) hx hb dX7_fit_75 (lv_at hl 1 rfl) ?_
  refine lv_lconst (v := 0) (pc := 77) hx hb dX7_fit_77 (by decide) ?_
  refine W.lcmp (pc := 78) hx hb dX7_fit_78 ?_
  refine lv_if_le (tgt := 90) (pc := 79) hx hb dX7_fit_79 (by decide) (fun c79 => ?_) (fun c79 => ?_)
  · skip
    have c79 := lg_le.mp c79
    refine lv_lload (pc := 90) hx hb dX7_fit_90 (lv_at hl 0 rfl) ?_
    exact hret _ _ _ _ _ _ hP hD hS (gFit_0 (pt := 0) c79).symm rfl dX7_fit_92
  · skip
    have c79 := fun z => c79 (lg_le.mpr z)
    refine lv_lload (pc := 82) hx hb dX7_fit_82 (lv_at hl 0 rfl) ?_
    refine lv_lload (pc := 84) hx hb dX7_fit_84 (lv_at hl 1 rfl) ?_
    refine lv_ldiv (pc := 86) hx hb dX7_fit_86 (fun q9 => c79 (by rw [q9]; exact Int64.le_refl _)) ?_
    refine lv_goto (tgt := 92) (pc := 87) hx hb dX7_fit_87 (by decide) ?_
    exact hret _ _ _ _ _ _ hP hD hS (gFit_1 (pt := 0) (Int64.not_le.mp c79)).symm rfl dX7_fit_92
