/-! the class's own methods, on -/
set_option maxHeartbeats 4000000 in
set_option maxRecDepth 100000 in
theorem k_X7_past_b {l : Launch} {D : va_G} {cI cZ : ClassId} {A : Nat → Prop} {g a : Nat → Nat} {G0 : va_W} {st : Bool} {cv : Int32} {ky : Int32} (hD : va_D A G0) (w0 : G0[0]? = some (a 0, .inr (7, [.ref (a 1), .ref (a 3), .ref (a 5), .ref (a 7), .ref (a 10), .ref (a 11), .ref (a 16), .int (gB (st))]))) (hbad : gWi cv (nI 0) (nI 100) = false ∨ gWi ky (nI 0) (nI 100) = false) : gMi l D cI cZ A g yX7_past wsX7_past ({ frames := 1, cells := 0, slots := 0, locals := 22 }) [.ref (a 0), .int (cv), .int (ky)] G0 ((-2)) (fun G1 => G1 = G0) := by
  refine gof_i (cc := cX7_past) (maxL := 3) (by decide) rfl (Nat.le_of_ble_eq_true rfl) hD ?_
  intro p e s m args below meth c Q hx hb hml hts hown hK hN hZ hP hS hret ls hl
  have hown : s.vm.findClass RX7 = some m.cls := hown
  have hl : lv_has ls 3 [(0, .ref (a 0)), (1, .int (cv)), (2, .int (ky))] := hl
  obtain ⟨locs, elocs⟩ : ∃ q : List Loc, q = [] := ⟨_, rfl⟩
  rw [← elocs] at hS ⊢
  obtain ⟨H, eH⟩ : ∃ q : Heap, q = s.heap := ⟨_, rfl⟩
  have hP : va_P D vwCl G0 H := eH ▸ hP
  have hS : va_S A s.heap H locs := by rw [eH]; exact hS
  rw [← eH]
  clear elocs eH
  have hk : ∀ k, k ∉ ([] : List Nat) → G0[k]? = G0[k]? := fun _ _ => rfl
  refine lv_iload_n (pc := 0) hx hb dX7_past_0 rfl (lv_at hl 1 rfl) ?_
  refine lv_iconst (v := nI (0)) (pc := 1) hx hb dX7_past_1 (by decide) ?_
  refine lv_bipush (v := nI (100)) (pc := 2) hx hb dX7_past_2 (by decide) ?_
  refine mx_cSi (As := [.int (cv), .int (nI (0)), .int (nI (100))]) (rest := []) (pc := 4) ⟨hx, hb, hml, hown, hts⟩ (k_X7_within (a := a) (v := cv) (lo := nI (0)) (hi := nI (100)) hD  ) (va_cwS 3 hts gX7_past_X7_within rfl rfl rfl (by decide +kernel) ⟨Nat.le_of_ble_eq_true rfl, Nat.le_of_ble_eq_true rfl⟩) hK hN hZ hP hS rfl hl.1 rfl (Nat.le_of_ble_eq_true rfl) dX7_past_4 ⟨Nat.zero_le _, Nat.zero_le _⟩ (fun G' H locs hP hD hS hB => ?_)
  rw [hB] at hP hD
  clear hB G'
  refine mx_beq (tgt := 20) (pc := 7) hx hb dX7_past_7 (by decide) (fun c7 => ?_) (fun c7 => ?_)
  · skip
    refine lv_bipush (v := (-2)) (pc := 20) hx hb dX7_past_20 (by decide) ?_
    exact hret _ _ _ _ _ _ hP hD hS rfl rfl dX7_past_22
  · skip
    refine lv_iload_n (pc := 10) hx hb dX7_past_10 rfl (lv_at hl 2 rfl) ?_
    refine lv_iconst (v := nI (0)) (pc := 11) hx hb dX7_past_11 (by decide) ?_
    refine lv_bipush (v := nI (100)) (pc := 12) hx hb dX7_past_12 (by decide) ?_
    refine mx_cSi (As := [.int (ky), .int (nI (0)), .int (nI (100))]) (rest := []) (pc := 14) ⟨hx, hb, hml, hown, hts⟩ (k_X7_within (a := a) (v := ky) (lo := nI (0)) (hi := nI (100)) hD  ) (va_cwS 3 hts gX7_past_X7_within rfl rfl rfl (by decide +kernel) ⟨Nat.le_of_ble_eq_true rfl, Nat.le_of_ble_eq_true rfl⟩) hK hN hZ hP hS rfl hl.1 rfl (Nat.le_of_ble_eq_true rfl) dX7_past_14 ⟨Nat.zero_le _, Nat.zero_le _⟩ (fun G' H locs hP hD hS hB => ?_)
    rw [hB] at hP hD
    clear hB G'
    refine mx_bne (tgt := 23) (pc := 17) hx hb dX7_past_17 (by decide) (fun c17 => ?_) (fun c17 => ?_)
    · skip
      exact (by simp [c7, c17] at hbad)
    · skip
      refine lv_bipush (v := (-2)) (pc := 20) hx hb dX7_past_20 (by decide) ?_
      exact hret _ _ _ _ _ _ hP hD hS rfl rfl dX7_past_22
set_option maxHeartbeats 4000000 in
set_option maxRecDepth 100000 in
theorem k_X7_past_c {l : Launch} {D : va_G} {cI cZ : ClassId} {A : Nat → Prop} {g a : Nat → Nat} {G0 : va_W} {st : Bool} {pn : Nat} {pX : Int64} {pY : Int64} {pXX : Int64} {pXY : Int64} {cv : Int32} {ky : Int32} (hD : va_D A G0) (w0 : G0[0]? = some (a 0, .inr (7, [.ref (a 1), .ref (a 3), .ref (a 5), .ref (a 7), .ref (a 10), .ref (a 11), .ref (a 16), .int (gB (st))]))) (w10 : G0[10]? = some (a 10, .inr (2, [.int (nI (pn)), .long (pX), .long (pY), .long (pXX), .long (pXY)]))) (hp : pn = 30) (h1 : gWi cv (nI 0) (nI 100) = true) (h2 : gWi ky (nI 0) (nI 100) = true) : gMi l D cI cZ A g yX7_past wsX7_past ({ frames := 1, cells := 0, slots := 0, locals := 22 }) [.ref (a 0), .int (cv), .int (ky)] G0 ((-4)) (fun G1 => G1 = G0) := by
  refine gof_i (cc := cX7_past) (maxL := 3) (by decide) rfl (Nat.le_of_ble_eq_true rfl) hD ?_
  intro p e s m args below meth c Q hx hb hml hts hown hK hN hZ hP hS hret ls hl
  have hown : s.vm.findClass RX7 = some m.cls := hown
  have hl : lv_has ls 3 [(0, .ref (a 0)), (1, .int (cv)), (2, .int (ky))] := hl
  obtain ⟨locs, elocs⟩ : ∃ q : List Loc, q = [] := ⟨_, rfl⟩
  rw [← elocs] at hS ⊢
  obtain ⟨H, eH⟩ : ∃ q : Heap, q = s.heap := ⟨_, rfl⟩
  have hP : va_P D vwCl G0 H := eH ▸ hP
  have hS : va_S A s.heap H locs := by rw [eH]; exact hS
  rw [← eH]
  clear elocs eH
  have hiX7 : ∀ w ∈ u_ws RX7 TX7 8, w ∈ wsX7_past := by decide +kernel
  have hk : ∀ k, k ∉ ([] : List Nat) → G0[k]? = G0[k]? := fun _ _ => rfl
  refine lv_iload_n (pc := 0) hx hb dX7_past_0 rfl (lv_at hl 1 rfl) ?_
  refine lv_iconst (v := nI (0)) (pc := 1) hx hb dX7_past_1 (by decide) ?_
  refine lv_bipush (v := nI (100)) (pc := 2) hx hb dX7_past_2 (by decide) ?_
  refine mx_cSi (As := [.int (cv), .int (nI (0)), .int (nI (100))]) (rest := []) (pc := 4) ⟨hx, hb, hml, hown, hts⟩ (k_X7_within (a := a) (v := cv) (lo := nI (0)) (hi := nI (100)) hD  ) (va_cwS 3 hts gX7_past_X7_within rfl rfl rfl (by decide +kernel) ⟨Nat.le_of_ble_eq_true rfl, Nat.le_of_ble_eq_true rfl⟩) hK hN hZ hP hS rfl hl.1 rfl (Nat.le_of_ble_eq_true rfl) dX7_past_4 ⟨Nat.zero_le _, Nat.zero_le _⟩ (fun G' H locs hP hD hS hB => ?_)
  rw [hB] at hP hD
  clear hB G'
  refine mx_beq (tgt := 20) (pc := 7) hx hb dX7_past_7 (by decide) (fun c7 => absurd (c7.symm.trans h1) (by decide)) (fun c7 => ?_)
  refine lv_iload_n (pc := 10) hx hb dX7_past_10 rfl (lv_at hl 2 rfl) ?_
  refine lv_iconst (v := nI (0)) (pc := 11) hx hb dX7_past_11 (by decide) ?_
  refine lv_bipush (v := nI (100)) (pc := 12) hx hb dX7_past_12 (by decide) ?_
  refine mx_cSi (As := [.int (ky), .int (nI (0)), .int (nI (100))]) (rest := []) (pc := 14) ⟨hx, hb, hml, hown, hts⟩ (k_X7_within (a := a) (v := ky) (lo := nI (0)) (hi := nI (100)) hD  ) (va_cwS 3 hts gX7_past_X7_within rfl rfl rfl (by decide +kernel) ⟨Nat.le_of_ble_eq_true rfl, Nat.le_of_ble_eq_true rfl⟩) hK hN hZ hP hS rfl hl.1 rfl (Nat.le_of_ble_eq_true rfl) dX7_past_14 ⟨Nat.zero_le _, Nat.zero_le _⟩ (fun G' H locs hP hD hS hB => ?_)
  rw [hB] at hP hD
  clear hB G'
  refine mx_bne (tgt := 23) (pc := 17) hx hb dX7_past_17 (by decide) (fun c17 => ?_) (fun c17 => absurd (c17.symm.trans h2) (by decide))
  refine lv_aload_n (pc := 23) hx hb dX7_past_23 rfl (lv_at hl 0 rfl) ?_
  refine va_get (ci := 7) (C := RX7) (T := TX7) (N := 8) (pc := 24) hx hb hts hiX7 hown hK hP 0 w0 rfl 4 (by decide) (hts (.fieldLink RX7 40 "InkPress" "pastJobs" "LInkPress$PastJobs;") (by decide +kernel)) (fun _ h9 => h9) rfl dX7_past_24 ?_
  refine mx_cVi (As := []) (rest := []) (pc := 27) ⟨hx, hb, hml, hown, hts⟩ (k_X2_isFull (a := a) (pn := pn) (pX := pX) (pY := pY) (pXX := pXX) (pXY := pXY) hD w10 (by omega)) (cwV 0 hts gX7_past_X2_isFull rfl rfl rfl (by decide +kernel) ⟨Nat.le_of_ble_eq_true rfl, Nat.le_of_ble_eq_true rfl⟩) 10 rfl rfl w10 hK hN hZ hP hS rfl hl.1 rfl (Nat.le_of_ble_eq_true rfl) dX7_past_27 ⟨Nat.zero_le _, Nat.zero_le _⟩ (fun G' H locs hP hD hS hB => ?_)
  rw [hB] at hP hD
  clear hB G'
  refine mx_beq (tgt := 36) (pc := 30) hx hb dX7_past_30 (by decide) (fun c30 => absurd (c30.symm.trans (show decide (30 ≤ pn) = true by rw [hp]; decide)) (by decide)) (fun c30 => ?_)
  refine lv_bipush (v := (-4)) (pc := 33) hx hb dX7_past_33 (by decide) ?_
  exact hret _ _ _ _ _ _ hP hD hS rfl rfl dX7_past_35
set_option maxHeartbeats 4000000 in
set_option maxRecDepth 100000 in
theorem k_X7_past_k {l : Launch} {D : va_G} {cI cZ : ClassId} {A : Nat → Prop} {g a : Nat → Nat} {G0 : va_W} {st : Bool} {pn : Nat} {pX : Int64} {pY : Int64} {pXX : Int64} {pXY : Int64} {cv : Int32} {ky : Int32} (hD : va_D A G0) (w0 : G0[0]? = some (a 0, .inr (7, [.ref (a 1), .ref (a 3), .ref (a 5), .ref (a 7), .ref (a 10), .ref (a 11), .ref (a 16), .int (gB (st))]))) (w10 : G0[10]? = some (a 10, .inr (2, [.int (nI (pn)), .long (pX), .long (pY), .long (pXX), .long (pXY)]))) (hp : pn < 30) (h1 : gWi cv (nI 0) (nI 100) = true) (h2 : gWi ky (nI 0) (nI 100) = true) : gMi l D cI cZ A g yX7_past wsX7_past ({ frames := 1, cells := 0, slots := 0, locals := 22 }) [.ref (a 0), .int (cv), .int (ky)] G0 (nI (pn + 1)) (fun G1 => G1[10]? = some (a 10, .inr (2, [.int (nI (pn + 1)), .long ((pX + (cv).toInt64)), .long ((pY + (ky).toInt64)), .long ((pXX + ((cv * cv)).toInt64)), .long ((pXY + ((cv * ky)).toInt64))])) ∧ ∀ k, k ∉ [10] → G1[k]? = G0[k]?) := by
  refine gof_i (cc := cX7_past) (maxL := 3) (by decide) rfl (Nat.le_of_ble_eq_true rfl) hD ?_
  intro p e s m args below meth c Q hx hb hml hts hown hK hN hZ hP hS hret ls hl
  have hown : s.vm.findClass RX7 = some m.cls := hown
  have hl : lv_has ls 3 [(0, .ref (a 0)), (1, .int (cv)), (2, .int (ky))] := hl
  obtain ⟨locs, elocs⟩ : ∃ q : List Loc, q = [] := ⟨_, rfl⟩
  rw [← elocs] at hS ⊢
  obtain ⟨H, eH⟩ : ∃ q : Heap, q = s.heap := ⟨_, rfl⟩
  have hP : va_P D vwCl G0 H := eH ▸ hP
  have hS : va_S A s.heap H locs := by rw [eH]; exact hS
  rw [← eH]
  clear elocs eH
  have hiX7 : ∀ w ∈ u_ws RX7 TX7 8, w ∈ wsX7_past := by decide +kernel
  have hk : ∀ k, k ∉ [10] → G0[k]? = G0[k]? := fun _ _ => rfl
  refine lv_iload_n (pc := 0) hx hb dX7_past_0 rfl (lv_at hl 1 rfl) ?_
  refine lv_iconst (v := nI (0)) (pc := 1) hx hb dX7_past_1 (by decide) ?_
  refine lv_bipush (v := nI (100)) (pc := 2) hx hb dX7_past_2 (by decide) ?_
  refine mx_cSi (As := [.int (cv), .int (nI (0)), .int (nI (100))]) (rest := []) (pc := 4) ⟨hx, hb, hml, hown, hts⟩ (k_X7_within (a := a) (v := cv) (lo := nI (0)) (hi := nI (100)) hD  ) (va_cwS 3 hts gX7_past_X7_within rfl rfl rfl (by decide +kernel) ⟨Nat.le_of_ble_eq_true rfl, Nat.le_of_ble_eq_true rfl⟩) hK hN hZ hP hS rfl hl.1 rfl (Nat.le_of_ble_eq_true rfl) dX7_past_4 ⟨Nat.zero_le _, Nat.zero_le _⟩ (fun G' H locs hP hD hS hB => ?_)
  rw [hB] at hP hD
  clear hB G'
  refine mx_beq (tgt := 20) (pc := 7) hx hb dX7_past_7 (by decide) (fun c7 => absurd (c7.symm.trans h1) (by decide)) (fun c7 => ?_)
  refine lv_iload_n (pc := 10) hx hb dX7_past_10 rfl (lv_at hl 2 rfl) ?_
  refine lv_iconst (v := nI (0)) (pc := 11) hx hb dX7_past_11 (by decide) ?_
  refine lv_bipush (v := nI (100)) (pc := 12) hx hb dX7_past_12 (by decide) ?_
  refine mx_cSi (As := [.int (ky), .int (nI (0)), .int (nI (100))]) (rest := []) (pc := 14) ⟨hx, hb, hml, hown, hts⟩ (k_X7_within (a := a) (v := ky) (lo := nI (0)) (hi := nI (100)) hD  ) (va_cwS 3 hts gX7_past_X7_within rfl rfl rfl (by decide +kernel) ⟨Nat.le_of_ble_eq_true rfl, Nat.le_of_ble_eq_true rfl⟩) hK hN hZ hP hS rfl hl.1 rfl (Nat.le_of_ble_eq_true rfl) dX7_past_14 ⟨Nat.zero_le _, Nat.zero_le _⟩ (fun G' H locs hP hD hS hB => ?_)
  rw [hB] at hP hD
  clear hB G'
  refine mx_bne (tgt := 23) (pc := 17) hx hb dX7_past_17 (by decide) (fun c17 => ?_) (fun c17 => absurd (c17.symm.trans h2) (by decide))
  refine lv_aload_n (pc := 23) hx hb dX7_past_23 rfl (lv_at hl 0 rfl) ?_
  refine va_get (ci := 7) (C := RX7) (T := TX7) (N := 8) (pc := 24) hx hb hts hiX7 hown hK hP 0 w0 rfl 4 (by decide) (hts (.fieldLink RX7 40 "InkPress" "pastJobs" "LInkPress$PastJobs;") (by decide +kernel)) (fun _ h9 => h9) rfl dX7_past_24 ?_
  refine mx_cVi (As := []) (rest := []) (pc := 27) ⟨hx, hb, hml, hown, hts⟩ (k_X2_isFull (a := a) (pn := pn) (pX := pX) (pY := pY) (pXX := pXX) (pXY := pXY) hD w10 (by omega)) (cwV 0 hts gX7_past_X2_isFull rfl rfl rfl (by decide +kernel) ⟨Nat.le_of_ble_eq_true rfl, Nat.le_of_ble_eq_true rfl⟩) 10 rfl rfl w10 hK hN hZ hP hS rfl hl.1 rfl (Nat.le_of_ble_eq_true rfl) dX7_past_27 ⟨Nat.zero_le _, Nat.zero_le _⟩ (fun G' H locs hP hD hS hB => ?_)
  rw [hB] at hP hD
  clear hB G'
  refine mx_beq (tgt := 36) (pc := 30) hx hb dX7_past_30 (by decide) (fun c30 => ?_) (fun c30 => absurd (c30.symm.trans (show decide (30 ≤ pn) = false by simp; omega)) (by decide))
  refine lv_aload_n (pc := 36) hx hb dX7_past_36 rfl (lv_at hl 0 rfl) ?_
  refine va_get (ci := 7) (C := RX7) (T := TX7) (N := 8) (pc := 37) hx hb hts hiX7 hown hK hP 0 w0 rfl 4 (by decide) (hts (.fieldLink RX7 40 "InkPress" "pastJobs" "LInkPress$PastJobs;") (by decide +kernel)) (fun _ h9 => h9) rfl dX7_past_37 ?_
  refine lv_iload_n (pc := 40) hx hb dX7_past_40 rfl (lv_at hl 1 rfl) ?_
  refine lv_iload_n (pc := 41) hx hb dX7_past_41 rfl (lv_at hl 2 rfl) ?_
  refine mx_cVi (As := [.int (cv), .int (ky)]) (rest := []) (pc := 42) ⟨hx, hb, hml, hown, hts⟩ (k_X2_add (a := a) (pn := pn) (pX := pX) (pY := pY) (pXX := pXX) (pXY := pXY) (cv := cv) (ky := ky) hD w10 ) (cwV 2 hts gX7_past_X2_add rfl rfl rfl (by decide +kernel) ⟨Nat.le_of_ble_eq_true rfl, Nat.le_of_ble_eq_true rfl⟩) 10 rfl rfl w10 hK hN hZ hP hS rfl hl.1 rfl (Nat.le_of_ble_eq_true rfl) dX7_past_42 ⟨Nat.zero_le _, Nat.zero_le _⟩ (fun G H locs hP hD hS hB => ?_)
  obtain ⟨w10, ho⟩ := hB
  have w0 := (ho 0 (by decide)).trans w0
  have w10 : G[10]? = some (a 10, .inr (2, [.int (nI ((pn) + 1)), .long (((pX) + ((cv)).toInt64)), .long (((pY) + ((ky)).toInt64)), .long (((pXX) + (((cv) * (cv))).toInt64)), .long (((pXY) + (((cv) * (ky))).toInt64))])) := w10
  have hk := gk_call hk ho (by decide)
  clear ho
  exact hret _ _ _ _ _ _ hP hD hS rfl ⟨w10, hk⟩ dX7_past_45
set_option maxHeartbeats 4000000 in
set_option maxRecDepth 100000 in
theorem k_X7_preset_b {l : Launch} {D : va_G} {cI cZ : ClassId} {A : Nat → Prop} {g a : Nat → Nat} {G0 : va_W} {st : Bool} {cv : Int32} (hD : va_D A G0) (w0 : G0[0]? = some (a 0, .inr (7, [.ref (a 1), .ref (a 3), .ref (a 5), .ref (a 7), .ref (a 10), .ref (a 11), .ref (a 16), .int (gB (st))]))) (h1 : gWi cv (nI 0) (nI 100) = false) : gMi l D cI cZ A g yX7_preset wsX7_preset ({ frames := 1, cells := 0, slots := 0, locals := 22 }) [.ref (a 0), .int (cv)] G0 ((-2)) (fun G1 => G1 = G0) := by
  refine gof_i (cc := cX7_preset) (maxL := 2) (by decide) rfl (Nat.le_of_ble_eq_true rfl) hD ?_
  intro p e s m args below meth c Q hx hb hml hts hown hK hN hZ hP hS hret ls hl
  have hown : s.vm.findClass RX7 = some m.cls := hown
  have hl : lv_has ls 2 [(0, .ref (a 0)), (1, .int (cv))] := hl
  obtain ⟨locs, elocs⟩ : ∃ q : List Loc, q = [] := ⟨_, rfl⟩
  rw [← elocs] at hS ⊢
  obtain ⟨H, eH⟩ : ∃ q : Heap, q = s.heap := ⟨_, rfl⟩
  have hP : va_P D vwCl G0 H := eH ▸ hP
  have hS : va_S A s.heap H locs := by rw [eH]; exact hS
  rw [← eH]
  clear elocs eH
  have hk : ∀ k, k ∉ ([] : List Nat) → G0[k]? = G0[k]? := fun _ _ => rfl
  refine lv_iload_n (pc := 0) hx hb dX7_preset_0 rfl (lv_at hl 1 rfl) ?_
  refine lv_iconst (v := nI (0)) (pc := 1) hx hb dX7_preset_1 (by decide) ?_
  refine lv_bipush (v := nI (100)) (pc := 2) hx hb dX7_preset_2 (by decide) ?_
  refine mx_cSi (As := [.int (cv), .int (nI (0)), .int (nI (100))]) (rest := []) (pc := 4) ⟨hx, hb, hml, hown, hts⟩ (k_X7_within (a := a) (v := cv) (lo := nI (0)) (hi := nI (100)) hD  ) (va_cwS 3 hts gX7_preset_X7_within rfl rfl rfl (by decide +kernel) ⟨Nat.le_of_ble_eq_true rfl, Nat.le_of_ble_eq_true rfl⟩) hK hN hZ hP hS rfl hl.1 rfl (Nat.le_of_ble_eq_true rfl) dX7_preset_4 ⟨Nat.zero_le _, Nat.zero_le _⟩ (fun G' H locs hP hD hS hB => ?_)
  rw [hB] at hP hD
  clear hB G'
  refine mx_bne (tgt := 13) (pc := 7) hx hb dX7_preset_7 (by decide) (fun c7 => absurd (c7.symm.trans h1) (by decide)) (fun c7 => ?_)
  refine lv_bipush (v := (-2)) (pc := 10) hx hb dX7_preset_10 (by decide) ?_
  exact hret _ _ _ _ _ _ hP hD hS rfl rfl dX7_preset_12
set_option maxHeartbeats 4000000 in
set_option maxRecDepth 100000 in
theorem k_X7_preset_c {l : Launch} {D : va_G} {cI cZ : ClassId} {A : Nat → Prop} {g a : Nat → Nat} {G0 : va_W} {st : Bool} {pn : Nat} {pX : Int64} {pY : Int64} {pXX : Int64} {pXY : Int64} {cv : Int32} (hD : va_D A G0) (w0 : G0[0]? = some (a 0, .inr (7, [.ref (a 1), .ref (a 3), .ref (a 5), .ref (a 7), .ref (a 10), .ref (a 11), .ref (a 16), .int (gB (st))]))) (w10 : G0[10]? = some (a 10, .inr (2, [.int (nI (pn)), .long (pX), .long (pY), .long (pXX), .long (pXY)]))) (hp : pn = 0) (h1 : gWi cv (nI 0) (nI 100) = true) : gMi l D cI cZ A g yX7_preset wsX7_preset ({ frames := 1, cells := 0, slots := 0, locals := 22 }) [.ref (a 0), .int (cv)] G0 ((-3)) (fun G1 => G1 = G0) := by
  refine gof_i (cc := cX7_preset) (maxL := 2) (by decide) rfl (Nat.le_of_ble_eq_true rfl) hD ?_
  intro p e s m args below meth c Q hx hb hml hts hown hK hN hZ hP hS hret ls hl
  have hown : s.vm.findClass RX7 = some m.cls := hown
  have hl : lv_has ls 2 [(0, .ref (a 0)), (1, .int (cv))] := hl
  obtain ⟨locs, elocs⟩ : ∃ q : List Loc, q = [] := ⟨_, rfl⟩
  rw [← elocs] at hS ⊢
  obtain ⟨H, eH⟩ : ∃ q : Heap, q = s.heap := ⟨_, rfl⟩
  have hP : va_P D vwCl G0 H := eH ▸ hP
  have hS : va_S A s.heap H locs := by rw [eH]; exact hS
  rw [← eH]
  clear elocs eH
  have hiX7 : ∀ w ∈ u_ws RX7 TX7 8, w ∈ wsX7_preset := by decide +kernel
  have hk : ∀ k, k ∉ ([] : List Nat) → G0[k]? = G0[k]? := fun _ _ => rfl
  refine lv_iload_n (pc := 0) hx hb dX7_preset_0 rfl (lv_at hl 1 rfl) ?_
  refine lv_iconst (v := nI (0)) (pc := 1) hx hb dX7_preset_1 (by decide) ?_
  refine lv_bipush (v := nI (100)) (pc := 2) hx hb dX7_preset_2 (by decide) ?_
  refine mx_cSi (As := [.int (cv), .int (nI (0)), .int (nI (100))]) (rest := []) (pc := 4) ⟨hx, hb, hml, hown, hts⟩ (k_X7_within (a := a) (v := cv) (lo := nI (0)) (hi := nI (100)) hD  ) (va_cwS 3 hts gX7_preset_X7_within rfl rfl rfl (by decide +kernel) ⟨Nat.le_of_ble_eq_true rfl, Nat.le_of_ble_eq_true rfl⟩) hK hN hZ hP hS rfl hl.1 rfl (Nat.le_of_ble_eq_true rfl) dX7_preset_4 ⟨Nat.zero_le _, Nat.zero_le _⟩ (fun G' H locs hP hD hS hB => ?_)
  rw [hB] at hP hD
  clear hB G'
  refine mx_bne (tgt := 13) (pc := 7) hx hb dX7_preset_7 (by decide) (fun c7 => ?_) (fun c7 => absurd (c7.symm.trans h1) (by decide))
  refine lv_aload_n (pc := 13) hx hb dX7_preset_13 rfl (lv_at hl 0 rfl) ?_
  refine va_get (ci := 7) (C := RX7) (T := TX7) (N := 8) (pc := 14) hx hb hts hiX7 hown hK hP 0 w0 rfl 4 (by decide) (hts (.fieldLink RX7 40 "InkPress" "pastJobs" "LInkPress$PastJobs;") (by decide +kernel)) (fun _ h9 => h9) rfl dX7_preset_14 ?_
  refine mx_cVi (As := []) (rest := []) (pc := 17) ⟨hx, hb, hml, hown, hts⟩ (k_X2_isEmpty (a := a) (pn := pn) (pX := pX) (pY := pY) (pXX := pXX) (pXY := pXY) hD w10 (by omega)) (cwV 0 hts gX7_preset_X2_isEmpty rfl rfl rfl (by decide +kernel) ⟨Nat.le_of_ble_eq_true rfl, Nat.le_of_ble_eq_true rfl⟩) 10 rfl rfl w10 hK hN hZ hP hS rfl hl.1 rfl (Nat.le_of_ble_eq_true rfl) dX7_preset_17 ⟨Nat.zero_le _, Nat.zero_le _⟩ (fun G' H locs hP hD hS hB => ?_)
  rw [hB] at hP hD
  clear hB G'
  refine mx_beq (tgt := 26) (pc := 20) hx hb dX7_preset_20 (by decide) (fun c20 => absurd (c20.symm.trans (show decide (pn = 0) = true by rw [hp]; decide)) (by decide)) (fun c20 => ?_)
  refine lv_bipush (v := (-3)) (pc := 23) hx hb dX7_preset_23 (by decide) ?_
  exact hret _ _ _ _ _ _ hP hD hS rfl rfl dX7_preset_25
set_option maxHeartbeats 4000000 in
set_option maxRecDepth 100000 in
theorem k_X7_preset_k {l : Launch} {D : va_G} {cI cZ : ClassId} {A : Nat → Prop} {g a : Nat → Nat} {G0 : va_W} {st : Bool} {pn : Nat} {pX : Int64} {pY : Int64} {pXX : Int64} {pXY : Int64} {cv : Int32} (hD : va_D A G0) (w0 : G0[0]? = some (a 0, .inr (7, [.ref (a 1), .ref (a 3), .ref (a 5), .ref (a 7), .ref (a 10), .ref (a 11), .ref (a 16), .int (gB (st))]))) (w10 : G0[10]? = some (a 10, .inr (2, [.int (nI (pn)), .long (pX), .long (pY), .long (pXX), .long (pXY)]))) (hp : pn ≤ 30) (hp0 : pn ≠ 0) (h1 : gWi cv (nI 0) (nI 100) = true) : gMi l D cI cZ A g yX7_preset wsX7_preset ({ frames := 3, cells := 0, slots := 0, locals := 67 }) [.ref (a 0), .int (cv)] G0 (gKey pn pX pY pXX pXY cv) (fun G1 => G1 = G0) := by
  refine gof_i (cc := cX7_preset) (maxL := 2) (by decide) rfl (Nat.le_of_ble_eq_true rfl) hD ?_
  intro p e s m args below meth c Q hx hb hml hts hown hK hN hZ hP hS hret ls hl
  have hown : s.vm.findClass RX7 = some m.cls := hown
  have hl : lv_has ls 2 [(0, .ref (a 0)), (1, .int (cv))] := hl
  obtain ⟨locs, elocs⟩ : ∃ q : List Loc, q = [] := ⟨_, rfl⟩
  rw [← elocs] at hS ⊢
  obtain ⟨H, eH⟩ : ∃ q : Heap, q = s.heap := ⟨_, rfl⟩
  have hP : va_P D vwCl G0 H := eH ▸ hP
  have hS : va_S A s.heap H locs := by rw [eH]; exact hS
  rw [← eH]
  clear elocs eH
  have hiX7 : ∀ w ∈ u_ws RX7 TX7 8, w ∈ wsX7_preset := by decide +kernel
  have hk : ∀ k, k ∉ ([] : List Nat) → G0[k]? = G0[k]? := fun _ _ => rfl
  refine lv_iload_n (pc := 0) hx hb dX7_preset_0 rfl (lv_at hl 1 rfl) ?_
  refine lv_iconst (v := nI (0)) (pc := 1) hx hb dX7_preset_1 (by decide) ?_
  refine lv_bipush (v := nI (100)) (pc := 2) hx hb dX7_preset_2 (by decide) ?_
  refine mx_cSi (As := [.int (cv), .int (nI (0)), .int (nI (100))]) (rest := []) (pc := 4) ⟨hx, hb, hml, hown, hts⟩ (k_X7_within (a := a) (v := cv) (lo := nI (0)) (hi := nI (100)) hD  ) (va_cwS 3 hts gX7_preset_X7_within rfl rfl rfl (by decide +kernel) ⟨Nat.le_of_ble_eq_true rfl, Nat.le_of_ble_eq_true rfl⟩) hK hN hZ hP hS rfl hl.1 rfl (Nat.le_of_ble_eq_true rfl) dX7_preset_4 ⟨Nat.zero_le _, Nat.zero_le _⟩ (fun G' H locs hP hD hS hB => ?_)
  rw [hB] at hP hD
  clear hB G'
  refine mx_bne (tgt := 13) (pc := 7) hx hb dX7_preset_7 (by decide) (fun c7 => ?_) (fun c7 => absurd (c7.symm.trans h1) (by decide))
  refine lv_aload_n (pc := 13) hx hb dX7_preset_13 rfl (lv_at hl 0 rfl) ?_
  refine va_get (ci := 7) (C := RX7) (T := TX7) (N := 8) (pc := 14) hx hb hts hiX7 hown hK hP 0 w0 rfl 4 (by decide) (hts (.fieldLink RX7 40 "InkPress" "pastJobs" "LInkPress$PastJobs;") (by decide +kernel)) (fun _ h9 => h9) rfl dX7_preset_14 ?_
  refine mx_cVi (As := []) (rest := []) (pc := 17) ⟨hx, hb, hml, hown, hts⟩ (k_X2_isEmpty (a := a) (pn := pn) (pX := pX) (pY := pY) (pXX := pXX) (pXY := pXY) hD w10 (by omega)) (cwV 0 hts gX7_preset_X2_isEmpty rfl rfl rfl (by decide +kernel) ⟨Nat.le_of_ble_eq_true rfl, Nat.le_of_ble_eq_true rfl⟩) 10 rfl rfl w10 hK hN hZ hP hS rfl hl.1 rfl (Nat.le_of_ble_eq_true rfl) dX7_preset_17 ⟨Nat.zero_le _, Nat.zero_le _⟩ (fun G' H locs hP hD hS hB => ?_)
  rw [hB] at hP hD
  clear hB G'
  refine mx_beq (tgt := 26) (pc := 20) hx hb dX7_preset_20 (by decide) (fun c20 => ?_) (fun c20 => absurd (c20.symm.trans (show decide (pn = 0) = false by simp [hp0])) (by decide))
  refine lv_aload_n (pc := 26) hx hb dX7_preset_26 rfl (lv_at hl 0 rfl) ?_
  refine va_get (ci := 7) (C := RX7) (T := TX7) (N := 8) (pc := 27) hx hb hts hiX7 hown hK hP 0 w0 rfl 4 (by decide) (hts (.fieldLink RX7 40 "InkPress" "pastJobs" "LInkPress$PastJobs;") (by decide +kernel)) (fun _ h9 => h9) rfl dX7_preset_27 ?_
  refine lv_iload_n (pc := 30) hx hb dX7_preset_30 rfl (lv_at hl 1 rfl) ?_
  refine mx_cVi (As := [.int (cv)]) (rest := []) (pc := 31) ⟨hx, hb, hml, hown, hts⟩ (k_X2_keyFor (a := a) (pn := pn) (pX := pX) (pY := pY) (pXX := pXX) (pXY := pXY) (cv := cv) hD w10 (by omega)) (cwV 1 hts gX7_preset_X2_keyFor rfl rfl rfl (by decide +kernel) ⟨Nat.le_of_ble_eq_true rfl, Nat.le_of_ble_eq_true rfl⟩) 10 rfl rfl w10 hK hN hZ hP hS rfl hl.1 rfl (Nat.le_of_ble_eq_true rfl) dX7_preset_31 ⟨Nat.zero_le _, Nat.zero_le _⟩ (fun G' H locs hP hD hS hB => ?_)
  rw [hB] at hP hD
  clear hB G'
  exact hret _ _ _ _ _ _ hP hD hS rfl rfl dX7_preset_34
set_option maxHeartbeats 4000000 in
set_option maxRecDepth 100000 in
theorem k_X7_presets_b {l : Launch} {D : va_G} {cI cZ : ClassId} {A : Nat → Prop} {g a : Nat → Nat} {G0 : va_W} {st : Bool} {pn : Nat} {pX : Int64} {pY : Int64} {pXX : Int64} {pXY : Int64} (hD : va_D A G0) (w0 : G0[0]? = some (a 0, .inr (7, [.ref (a 1), .ref (a 3), .ref (a 5), .ref (a 7), .ref (a 10), .ref (a 11), .ref (a 16), .int (gB (st))]))) (w10 : G0[10]? = some (a 10, .inr (2, [.int (nI (pn)), .long (pX), .long (pY), .long (pXX), .long (pXY)]))) (hp : pn = 0) : gMi l D cI cZ A g yX7_presets wsX7_presets ({ frames := 1, cells := 0, slots := 0, locals := 20 }) [.ref (a 0)] G0 ((-3)) (fun G1 => G1 = G0) := by
  refine gof_i (cc := cX7_presets) (maxL := 4) (by decide) rfl (Nat.le_of_ble_eq_true rfl) hD ?_
  intro p e s m args below meth c Q hx hb hml hts hown hK hN hZ hP hS hret ls hl
  have hown : s.vm.findClass RX7 = some m.cls := hown
  have hl : lv_has ls 4 [(0, .ref (a 0))] := hl
  obtain ⟨locs, elocs⟩ : ∃ q : List Loc, q = [] := ⟨_, rfl⟩
  rw [← elocs] at hS ⊢
  obtain ⟨H, eH⟩ : ∃ q : Heap, q = s.heap := ⟨_, rfl⟩
  have hP : va_P D vwCl G0 H := eH ▸ hP
  have hS : va_S A s.heap H locs := by rw [eH]; exact hS
  rw [← eH]
  clear elocs eH
  have hiX7 : ∀ w ∈ u_ws RX7 TX7 8, w ∈ wsX7_presets := by decide +kernel
  have hk : ∀ k, k ∉ ([] : List Nat) → G0[k]? = G0[k]? := fun _ _ => rfl
  refine lv_aload_n (pc := 0) hx hb dX7_presets_0 rfl (lv_at hl 0 rfl) ?_
  refine va_get (ci := 7) (C := RX7) (T := TX7) (N := 8) (pc := 1) hx hb hts hiX7 hown hK hP 0 w0 rfl 4 (by decide) (hts (.fieldLink RX7 40 "InkPress" "pastJobs" "LInkPress$PastJobs;") (by decide +kernel)) (fun _ h9 => h9) rfl dX7_presets_1 ?_
  refine mx_cVi (As := []) (rest := []) (pc := 4) ⟨hx, hb, hml, hown, hts⟩ (k_X2_isEmpty (a := a) (pn := pn) (pX := pX) (pY := pY) (pXX := pXX) (pXY := pXY) hD w10 (by omega)) (cwV 0 hts gX7_presets_X2_isEmpty rfl rfl rfl (by decide +kernel) ⟨Nat.le_of_ble_eq_true rfl, Nat.le_of_ble_eq_true rfl⟩) 10 rfl rfl w10 hK hN hZ hP hS rfl hl.1 rfl (Nat.le_of_ble_eq_true rfl) dX7_presets_4 ⟨Nat.zero_le _, Nat.zero_le _⟩ (fun G' H locs hP hD hS hB => ?_)
  rw [hB] at hP hD
  clear hB G'
  refine mx_beq (tgt := 13) (pc := 7) hx hb dX7_presets_7 (by decide) (fun c7 => absurd (c7.symm.trans (show decide (pn = 0) = true by rw [hp]; decide)) (by decide)) (fun c7 => ?_)
  refine lv_bipush (v := (-3)) (pc := 10) hx hb dX7_presets_10 (by decide) ?_
  exact hret _ _ _ _ _ _ hP hD hS rfl rfl dX7_presets_12
set_option maxHeartbeats 4000000 in
set_option maxRecDepth 100000 in
theorem k_X7_presets_k {l : Launch} {D : va_G} {cI cZ : ClassId} {A : Nat → Prop} {g a : Nat → Nat} {G0 : va_W} {st : Bool} {pn : Nat} {pX : Int64} {pY : Int64} {pXX : Int64} {pXY : Int64} {zv : Nat → Int32} {zn : Nat} (hD : va_D A G0) (w0 : G0[0]? = some (a 0, .inr (7, [.ref (a 1), .ref (a 3), .ref (a 5), .ref (a 7), .ref (a 10), .ref (a 11), .ref (a 16), .int (gB (st))]))) (w3 : G0[3]? = some (a 3, .inr (6, [.ref (a 4), .int (nI (zn))]))) (w4 : G0[4]? = some (a 4, .inl (cI, 24, .inl (zv)))) (w10 : G0[10]? = some (a 10, .inr (2, [.int (nI (pn)), .long (pX), .long (pY), .long (pXX), .long (pXY)]))) (hp : pn ≤ 30) (hp0 : pn ≠ 0) (hz8 : zn ≤ 8) : gMi l D cI cZ A g yX7_presets wsX7_presets ({ frames := 3, cells := 0, slots := 0, locals := 67 }) [.ref (a 0)] G0 (nI (gQo (gKey pn pX pY pXX pXY) zn 0 zv 0)) (fun G1 => G1[4]? = some (a 4, .inl (cI, 24, .inl (gQz (gKey pn pX pY pXX pXY) zn 0 zv))) ∧ ∀ k, k ∉ [4] → G1[k]? = G0[k]?) := by
  refine gof_i (cc := cX7_presets) (maxL := 4) (by decide) rfl (Nat.le_of_ble_eq_true rfl) hD ?_
  intro p e s m args below meth c Q hx hb hml hts hown hK hN hZ hP hS hret ls hl
  have hown : s.vm.findClass RX7 = some m.cls := hown
  have hl : lv_has ls 4 [(0, .ref (a 0))] := hl
  obtain ⟨locs, elocs⟩ : ∃ q : List Loc, q = [] := ⟨_, rfl⟩
  rw [← elocs] at hS ⊢
  obtain ⟨H, eH⟩ : ∃ q : Heap, q = s.heap := ⟨_, rfl⟩
  have hP : va_P D vwCl G0 H := eH ▸ hP
  have hS : va_S A s.heap H locs := by rw [eH]; exact hS
  rw [← eH]
  clear elocs eH
  have hiX6 : ∀ w ∈ u_ws RX6 TX6 2, w ∈ wsX7_presets := by decide +kernel
  have hiX7 : ∀ w ∈ u_ws RX7 TX7 8, w ∈ wsX7_presets := by decide +kernel
  have hk : ∀ k, k ∉ [4] → G0[k]? = G0[k]? := fun _ _ => rfl
  refine lv_aload_n (pc := 0) hx hb dX7_presets_0 rfl (lv_at hl 0 rfl) ?_
  refine va_get (ci := 7) (C := RX7) (T := TX7) (N := 8) (pc := 1) hx hb hts hiX7 hown hK hP 0 w0 rfl 4 (by decide) (hts (.fieldLink RX7 40 "InkPress" "pastJobs" "LInkPress$PastJobs;") (by decide +kernel)) (fun _ h9 => h9) rfl dX7_presets_1 ?_
  refine mx_cVi (As := []) (rest := []) (pc := 4) ⟨hx, hb, hml, hown, hts⟩ (k_X2_isEmpty (a := a) (pn := pn) (pX := pX) (pY := pY) (pXX := pXX) (pXY := pXY) hD w10 (by omega)) (cwV 0 hts gX7_presets_X2_isEmpty rfl rfl rfl (by decide +kernel) ⟨Nat.le_of_ble_eq_true rfl, Nat.le_of_ble_eq_true rfl⟩) 10 rfl rfl w10 hK hN hZ hP hS rfl hl.1 rfl (Nat.le_of_ble_eq_true rfl) dX7_presets_4 ⟨Nat.zero_le _, Nat.zero_le _⟩ (fun G' H locs hP hD hS hB => ?_)
  rw [hB] at hP hD
  clear hB G'
  refine mx_beq (tgt := 13) (pc := 7) hx hb dX7_presets_7 (by decide) (fun c7 => ?_) (fun c7 => absurd (c7.symm.trans (show decide (pn = 0) = false by simp [hp0])) (by decide))
  refine lv_iconst (v := nI (0)) (pc := 13) hx hb dX7_presets_13 (by decide) ?_
  refine lv_istore_n (lv' := [(1, .int (nI (0))), (0, .ref (a 0))]) (pc := 14) hx hb dX7_presets_14 rfl hl (by decide) rfl (fun ls hl => ?_)
  refine lv_iconst (v := nI (0)) (pc := 15) hx hb dX7_presets_15 (by decide) ?_
  refine lv_istore_n (lv' := [(2, .int (nI (0))), (1, .int (nI (0))), (0, .ref (a 0))]) (pc := 16) hx hb dX7_presets_16 rfl hl (by decide) rfl (fun ls hl => ?_)
  have LP : ∀ (k : Nat) (z : Nat) (zv : Nat → Int32) (ot : Nat), z + k = zn → ∀ (G : va_W) (H : Heap) (locs : List Loc) (ls : Array Slot), va_P D vwCl G H → va_D A G → va_S A s.heap H locs → (∀ j, j ∉ [4] → G[j]? = G0[j]?) → G[0]? = some (a 0, .inr (7, [.ref (a 1), .ref (a 3), .ref (a 5), .ref (a 7), .ref (a 10), .ref (a 11), .ref (a 16), .int (gB (st))])) → G[3]? = some (a 3, .inr (6, [.ref (a 4), .int (nI (zn))])) → G[4]? = some (a 4, .inl (cI, 24, .inl (zv))) → G[10]? = some (a 10, .inr (2, [.int (nI (pn)), .long (pX), .long (pY), .long (pXX), .long (pXY)])) → lv_has ls 4 [(0, .ref (a 0)), (1, .int (nI (ot))), (2, .int (nI (z)))] → (∀ (G : va_W) (H : Heap) (locs : List Loc) (ls : Array Slot), va_P D vwCl G H → va_D A G → va_S A s.heap H locs → (∀ j, j ∉ [4] → G[j]? = G0[j]?) → G[0]? = some (a 0, .inr (7, [.ref (a 1), .ref (a 3), .ref (a 5), .ref (a 7), .ref (a 10), .ref (a 11), .ref (a 16), .int (gB (st))])) → G[3]? = some (a 3, .inr (6, [.ref (a 4), .int (nI (zn))])) → G[4]? = some (a 4, .inl (cI, 24, .inl (gQz (gKey pn pX pY pXX pXY) k z zv))) → G[10]? = some (a 10, .inr (2, [.int (nI (pn)), .long (pX), .long (pY), .long (pXX), .long (pXY)])) → lv_has ls 4 [(1, .int (nI (gQo (gKey pn pX pY pXX pXY) k z zv ot)))] → W p l e ({ frames := 3, cells := 0, slots := 0, locals := 67 } : Room) s m args below meth c H locs 0 0 Q (F0 m 68 ls [])) → W p l e ({ frames := 3, cells := 0, slots := 0, locals := 67 } : Room) s m args below meth c H locs 0 0 Q (F0 m 17 ls []) := by
    intro k
    induction k with
    | zero =>
      intro z zv ot hz G H locs ls hP hD hS hk w0 w3 w4 w10 hl hcont
      refine lv_iload_n (pc := 17) hx hb dX7_presets_17 rfl (lv_at hl 2 rfl) ?_
      refine lv_aload_n (pc := 18) hx hb dX7_presets_18 rfl (lv_at hl 0 rfl) ?_
      refine va_get (ci := 7) (C := RX7) (T := TX7) (N := 8) (pc := 19) hx hb hts hiX7 hown hK hP 0 w0 rfl 1 (by decide) (hts (.fieldLink RX7 19 "InkPress" "zones" "LInkPress$Zones;") (by decide +kernel)) (fun _ h9 => h9) rfl dX7_presets_19 ?_
      refine va_getN (own := RX7) (host := "InkPress") (ci := 6) (C := RX6) (T := TX6) (N := 2) (pc := 22) hx hb hts hiX6 hown hK hP 3 w3 rfl 1 (by decide) (va_Nw.use rfl (hN (.fieldLinkNest "InkPress" 138 "InkPress$Zones" "count" "I" "InkPress") (by decide +kernel))) (fun _ h9 => h9) rfl dX7_presets_22 ?_
      refine mx_cge (tgt := 68) (pc := 25) hx hb (by omega) (by omega) dX7_presets_25 (by decide) (fun c25 => ?_) (fun c25 => absurd c25 (by omega))
      exact hcont G H locs ls hP hD hS hk w0 w3 w4 w10 (lv_sub hl [1] rfl)
    | succ k ih =>
      intro z zv ot hz G H locs ls hP hD hS hk w0 w3 w4 w10 hl hcont
      refine lv_iload_n (pc := 17) hx hb dX7_presets_17 rfl (lv_at hl 2 rfl) ?_
      refine lv_aload_n (pc := 18) hx hb dX7_presets_18 rfl (lv_at hl 0 rfl) ?_
      refine va_get (ci := 7) (C := RX7) (T := TX7) (N := 8) (pc := 19) hx hb hts hiX7 hown hK hP 0 w0 rfl 1 (by decide) (hts (.fieldLink RX7 19 "InkPress" "zones" "LInkPress$Zones;") (by decide +kernel)) (fun _ h9 => h9) rfl dX7_presets_19 ?_
      refine va_getN (own := RX7) (host := "InkPress") (ci := 6) (C := RX6) (T := TX6) (N := 2) (pc := 22) hx hb hts hiX6 hown hK hP 3 w3 rfl 1 (by decide) (va_Nw.use rfl (hN (.fieldLinkNest "InkPress" 138 "InkPress$Zones" "count" "I" "InkPress") (by decide +kernel))) (fun _ h9 => h9) rfl dX7_presets_22 ?_
      refine mx_cge (tgt := 68) (pc := 25) hx hb (by omega) (by omega) dX7_presets_25 (by decide) (fun c25 => absurd c25 (by omega)) (fun c25 => ?_)
      refine lv_aload_n (pc := 28) hx hb dX7_presets_28 rfl (lv_at hl 0 rfl) ?_
      refine va_get (ci := 7) (C := RX7) (T := TX7) (N := 8) (pc := 29) hx hb hts hiX7 hown hK hP 0 w0 rfl 4 (by decide) (hts (.fieldLink RX7 40 "InkPress" "pastJobs" "LInkPress$PastJobs;") (by decide +kernel)) (fun _ h9 => h9) rfl dX7_presets_29 ?_
      refine lv_aload_n (pc := 32) hx hb dX7_presets_32 rfl (lv_at hl 0 rfl) ?_
      refine va_get (ci := 7) (C := RX7) (T := TX7) (N := 8) (pc := 33) hx hb hts hiX7 hown hK hP 0 w0 rfl 1 (by decide) (hts (.fieldLink RX7 19 "InkPress" "zones" "LInkPress$Zones;") (by decide +kernel)) (fun _ h9 => h9) rfl dX7_presets_33 ?_
      refine lv_iload_n (pc := 36) hx hb dX7_presets_36 rfl (lv_at hl 2 rfl) ?_
      refine lv_iconst (v := nI (1)) (pc := 37) hx hb dX7_presets_37 (by decide) ?_
      refine mx_cVi (As := [.int (nI (z)), .int (nI (1))]) (rest := [.ref (a 10)]) (pc := 38) ⟨hx, hb, hml, hown, hts⟩ (k_X6_valueOf (a := a) (zv := zv) (zn := zn) (z := z) (k := 1) hD w3 w4 (by omega) (by omega)) (cwV 2 hts gX7_presets_X6_valueOf rfl rfl rfl (by decide +kernel) ⟨Nat.le_of_ble_eq_true rfl, Nat.le_of_ble_eq_true rfl⟩) 3 rfl rfl w3 hK hN hZ hP hS rfl hl.1 rfl (Nat.le_of_ble_eq_true rfl) dX7_presets_38 ⟨Nat.zero_le _, Nat.zero_le _⟩ (fun G' H locs hP hD hS hB => ?_)
      rw [hB] at hP hD
      clear hB G'
      refine mx_cVi (As := [.int ((zv) ((1) * 8 + (z)))]) (rest := []) (pc := 41) ⟨hx, hb, hml, hown, hts⟩ (k_X2_keyFor (a := a) (pn := pn) (pX := pX) (pY := pY) (pXX := pXX) (pXY := pXY) (cv := (zv) ((1) * 8 + (z))) hD w10 (by omega)) (cwV 1 hts gX7_presets_X2_keyFor rfl rfl rfl (by decide +kernel) ⟨Nat.le_of_ble_eq_true rfl, Nat.le_of_ble_eq_true rfl⟩) 10 rfl rfl w10 hK hN hZ hP hS rfl hl.1 rfl (Nat.le_of_ble_eq_true rfl) dX7_presets_41 ⟨Nat.zero_le _, Nat.zero_le _⟩ (fun G' H locs hP hD hS hB => ?_)
      rw [hB] at hP hD
      clear hB G'
      refine lv_istore_n (lv' := [(3, .int (gKey (pn) (pX) (pY) (pXX) (pXY) ((zv) ((1) * 8 + (z))))), (0, .ref (a 0)), (1, .int (nI (ot))), (2, .int (nI (z)))]) (pc := 44) hx hb dX7_presets_44 rfl hl (by decide) rfl (fun ls hl => ?_)
      refine lv_aload_n (pc := 45) hx hb dX7_presets_45 rfl (lv_at hl 1 rfl) ?_
      refine va_get (ci := 7) (C := RX7) (T := TX7) (N := 8) (pc := 46) hx hb hts hiX7 hown hK hP 0 w0 rfl 1 (by decide) (hts (.fieldLink RX7 19 "InkPress" "zones" "LInkPress$Zones;") (by decide +kernel)) (fun _ h9 => h9) rfl dX7_presets_46 ?_
      refine lv_iload_n (pc := 49) hx hb dX7_presets_49 rfl (lv_at hl 3 rfl) ?_
      refine lv_iconst (v := nI (0)) (pc := 50) hx hb dX7_presets_50 (by decide) ?_
      refine lv_iload_n (pc := 51) hx hb dX7_presets_51 rfl (lv_at hl 0 rfl) ?_
      refine mx_cVi (As := [.int (nI (z)), .int (nI (0)), .int (gKey (pn) (pX) (pY) (pXX) (pXY) ((zv) ((1) * 8 + (z))))]) (rest := []) (pc := 52) ⟨hx, hb, hml, hown, hts⟩ (k_X6_change (a := a) (zv := zv) (zn := zn) (z := z) (k := 0) (v := gKey (pn) (pX) (pY) (pXX) (pXY) ((zv) ((1) * 8 + (z)))) hD w3 w4 (by omega) (by omega)) (cwV 3 hts gX7_presets_X6_change rfl rfl rfl (by decide +kernel) ⟨Nat.le_of_ble_eq_true rfl, Nat.le_of_ble_eq_true rfl⟩) 3 rfl rfl w3 hK hN hZ hP hS rfl hl.1 rfl (Nat.le_of_ble_eq_true rfl) dX7_presets_52 ⟨Nat.zero_le _, Nat.zero_le _⟩ (fun G H locs hP hD hS hB => ?_)
      obtain ⟨w4, ho⟩ := hB
      have w0 := (ho 0 (by decide)).trans w0
      have w3 := (ho 3 (by decide)).trans w3
      have w4 : G[4]? = some (a 4, .inl (cI, 24, .inl (upd (zv) ((0) * 8 + (z)) (gKey (pn) (pX) (pY) (pXX) (pXY) ((zv) ((1) * 8 + (z))))))) := w4
      have w10 := (ho 10 (by decide)).trans w10
      have hk := gk_call hk ho (by decide)
      clear ho
      refine lv_iload_n (pc := 55) hx hb dX7_presets_55 rfl (lv_at hl 0 rfl) ?_
      refine lv_icmp_eq (tgt := 62) (pc := 56) hx hb dX7_presets_56 (by decide) (fun c56 => ?_) (fun c56 => ?_)
      · skip
        refine lv_iinc (v := nI (z + 1)) (lv' := [(2, .int (nI (z + 1))), (3, .int (gKey (pn) (pX) (pY) (pXX) (pXY) ((zv) ((1) * 8 + (z))))), (0, .ref (a 0)), (1, .int (nI (ot)))]) (pc := 62) hx hb dX7_presets_62 hl (k := 3) rfl (mx_inc1 _) (by decide) rfl (fun ls hl => ?_)
        refine lv_goto (tgt := 17) (pc := 65) hx hb dX7_presets_65 (by decide) ?_
        first | rw [gQo_e c56] at hcont | rw [gQo_n c56] at hcont
        exact ih (z + 1) (upd (zv) ((0) * 8 + (z)) (gKey (pn) (pX) (pY) (pXX) (pXY) ((zv) ((1) * 8 + (z))))) (ot) (by omega) G H locs ls hP hD hS hk w0 w3 w4 w10 (lv_sub hl [2, 3, 0] rfl) hcont
      · skip
        refine lv_iinc (v := nI (ot + 1)) (lv' := [(1, .int (nI (ot + 1))), (3, .int (gKey (pn) (pX) (pY) (pXX) (pXY) ((zv) ((1) * 8 + (z))))), (0, .ref (a 0)), (2, .int (nI (z)))]) (pc := 59) hx hb dX7_presets_59 hl (k := 2) rfl (mx_inc1 _) (by decide) rfl (fun ls hl => ?_)
        refine lv_iinc (v := nI (z + 1)) (lv' := [(2, .int (nI (z + 1))), (1, .int (nI (ot + 1))), (3, .int (gKey (pn) (pX) (pY) (pXX) (pXY) ((zv) ((1) * 8 + (z))))), (0, .ref (a 0))]) (pc := 62) hx hb dX7_presets_62 hl (k := 3) rfl (mx_inc1 _) (by decide) rfl (fun ls hl => ?_)
        refine lv_goto (tgt := 17) (pc := 65) hx hb dX7_presets_65 (by decide) ?_
        first | rw [gQo_e c56] at hcont | rw [gQo_n c56] at hcont
        exact ih (z + 1) (upd (zv) ((0) * 8 + (z)) (gKey (pn) (pX) (pY) (pXX) (pXY) ((zv) ((1) * 8 + (z))))) (ot + 1) (by omega) G H locs ls hP hD hS hk w0 w3 w4 w10 (lv_sub hl [3, 1, 0] rfl) hcont
  refine LP zn (0) (zv) (0) (by omega) G0 H locs ls hP hD hS hk w0 w3 w4 w10 (lv_sub hl [2, 1, 0] rfl) (fun G H locs ls hP hD hS hk w0 w3 w4 w10 hl => ?_)
  have w4 : G[4]? = some (a 4, .inl (cI, 24, .inl (gQz (gKey pn pX pY pXX pXY) (zn) (0) (zv)))) := w4
  refine lv_iload_n (pc := 68) hx hb dX7_presets_68 rfl (lv_at hl 0 rfl) ?_
  exact hret _ _ _ _ _ _ hP hD hS rfl ⟨w4, hk⟩ dX7_presets_69
set_option maxHeartbeats 4000000 in
set_option maxRecDepth 100000 in
theorem k_X7_told_b {l : Launch} {D : va_G} {cI cZ : ClassId} {A : Nat → Prop} {g a : Nat → Nat} {G0 : va_W} {st : Bool} {x : Int32} (hD : va_D A G0) (w0 : G0[0]? = some (a 0, .inr (7, [.ref (a 1), .ref (a 3), .ref (a 5), .ref (a 7), .ref (a 10), .ref (a 11), .ref (a 16), .int (gB (st))]))) (hx9 : x.toInt < 0 ∨ 9 < x.toInt) : gMi l D cI cZ A g yX7_told wsX7_told ({ frames := 0, cells := 0, slots := 0, locals := 0 }) [.ref (a 0), .int (x)] G0 ((-1000002)) (fun G1 => G1 = G0) := by
  refine gof_i (cc := cX7_told) (maxL := 2) (by decide) rfl (Nat.le_of_ble_eq_true rfl) hD ?_
  intro p e s m args below meth c Q hx hb hml hts hown hK hN hZ hP hS hret ls hl
  have hown : s.vm.findClass RX7 = some m.cls := hown
  have hl : lv_has ls 2 [(0, .ref (a 0)), (1, .int (x))] := hl
  obtain ⟨locs, elocs⟩ : ∃ q : List Loc, q = [] := ⟨_, rfl⟩
  rw [← elocs] at hS ⊢
  obtain ⟨H, eH⟩ : ∃ q : Heap, q = s.heap := ⟨_, rfl⟩
  have hP : va_P D vwCl G0 H := eH ▸ hP
  have hS : va_S A s.heap H locs := by rw [eH]; exact hS
  rw [← eH]
  clear elocs eH
  have hk : ∀ k, k ∉ ([] : List Nat) → G0[k]? = G0[k]? := fun _ _ => rfl
  refine lv_iload_n (pc := 0) hx hb dX7_told_0 rfl (lv_at hl 1 rfl) ?_
  refine lv_tableOut (tgt := 149) (pc := 1) hx hb dX7_told_1 hx9 (by decide) ?_
  refine lv_ldc (own := RX7) (v := (-1000002)) (pc := 149) hx hb hown (hts (.constant RX7 84 (-1000002)) (by decide +kernel)) dX7_told_149 ?_
  exact hret _ _ _ _ _ _ hP hD hS rfl rfl dX7_told_151
set_option maxHeartbeats 4000000 in
set_option maxRecDepth 100000 in
theorem k_X7_told_0 {l : Launch} {D : va_G} {cI cZ : ClassId} {A : Nat → Prop} {g a : Nat → Nat} {G0 : va_W} {st : Bool} {zv : Nat → Int32} {zn : Nat} {ink : Nat → Int32} {tr : Nat} {fed : Int32} {pap : Int32} {bar : Int32} {den : Nat → Int32} {go : Nat → Bool} {sc : Nat} {sg : Int32} {sr : Int32} {ss : Int32} {pn : Nat} {pX : Int64} {pY : Int64} {pXX : Int64} {pXY : Int64} (hD : va_D A G0) (w0 : G0[0]? = some (a 0, .inr (7, [.ref (a 1), .ref (a 3), .ref (a 5), .ref (a 7), .ref (a 10), .ref (a 11), .ref (a 16), .int (gB (st))]))) (w3 : G0[3]? = some (a 3, .inr (6, [.ref (a 4), .int (nI (zn))]))) (w4 : G0[4]? = some (a 4, .inl (cI, 24, .inl (zv)))) (w5 : G0[5]? = some (a 5, .inr (5, [.ref (a 6), .int (nI (zn)), .int (nI (tr)), .int (fed), .int (pap), .int (bar)]))) (w6 : G0[6]? = some (a 6, .inl (cI, 40, .inl (ink)))) (w7 : G0[7]? = some (a 7, .inr (4, [.ref (a 8), .ref (a 9), .int (nI (sc)), .int (sg), .int (sr), .int (ss)]))) (w8 : G0[8]? = some (a 8, .inl (cI, 8000, .inl (den)))) (w9 : G0[9]? = some (a 9, .inl (cZ, 1000, .inl (fun j => gB ((go) j))))) (w10 : G0[10]? = some (a 10, .inr (2, [.int (nI (pn)), .long (pX), .long (pY), .long (pXX), .long (pXY)]))) : gMi l D cI cZ A g yX7_told wsX7_told ({ frames := 0, cells := 0, slots := 0, locals := 0 }) [.ref (a 0), .int (nI (0))] G0 (nI sc) (fun G1 => G1 = G0) := by
  refine gof_i (cc := cX7_told) (maxL := 2) (by decide) rfl (Nat.le_of_ble_eq_true rfl) hD ?_
  intro p e s m args below meth c Q hx hb hml hts hown hK hN hZ hP hS hret ls hl
  have hown : s.vm.findClass RX7 = some m.cls := hown
  have hl : lv_has ls 2 [(0, .ref (a 0)), (1, .int (nI (0)))] := hl
  obtain ⟨locs, elocs⟩ : ∃ q : List Loc, q = [] := ⟨_, rfl⟩
  rw [← elocs] at hS ⊢
  obtain ⟨H, eH⟩ : ∃ q : Heap, q = s.heap := ⟨_, rfl⟩
  have hP : va_P D vwCl G0 H := eH ▸ hP
  have hS : va_S A s.heap H locs := by rw [eH]; exact hS
  rw [← eH]
  clear elocs eH
  have hiX4 : ∀ w ∈ u_ws RX4 TX4 6, w ∈ wsX7_told := by decide +kernel
  have hiX7 : ∀ w ∈ u_ws RX7 TX7 8, w ∈ wsX7_told := by decide +kernel
  have hk : ∀ k, k ∉ ([] : List Nat) → G0[k]? = G0[k]? := fun _ _ => rfl
  refine lv_iload_n (pc := 0) hx hb dX7_told_0 rfl (lv_at hl 1 rfl) ?_
  refine lv_tableIn (tgt := 56) (pc := 1) hx hb dX7_told_1 (by decide) (by decide) rfl (by decide) ?_
  refine lv_aload_n (pc := 56) hx hb dX7_told_56 rfl (lv_at hl 0 rfl) ?_
  refine va_get (ci := 7) (C := RX7) (T := TX7) (N := 8) (pc := 57) hx hb hts hiX7 hown hK hP 0 w0 rfl 3 (by decide) (hts (.fieldLink RX7 33 "InkPress" "sheets" "LInkPress$SheetLog;") (by decide +kernel)) (fun _ h9 => h9) rfl dX7_told_57 ?_
  refine va_getN (own := RX7) (host := "InkPress") (ci := 4) (C := RX4) (T := TX4) (N := 6) (pc := 60) hx hb hts hiX4 hown hK hP 7 w7 rfl 2 (by decide) (va_Nw.use rfl (hN (.fieldLinkNest "InkPress" 105 "InkPress$SheetLog" "count" "I" "InkPress") (by decide +kernel))) (fun _ h9 => h9) rfl dX7_told_60 ?_
  exact hret _ _ _ _ _ _ hP hD hS rfl rfl dX7_told_63
set_option maxHeartbeats 4000000 in
set_option maxRecDepth 100000 in
theorem k_X7_told_1 {l : Launch} {D : va_G} {cI cZ : ClassId} {A : Nat → Prop} {g a : Nat → Nat} {G0 : va_W} {st : Bool} {zv : Nat → Int32} {zn : Nat} {ink : Nat → Int32} {tr : Nat} {fed : Int32} {pap : Int32} {bar : Int32} {den : Nat → Int32} {go : Nat → Bool} {sc : Nat} {sg : Int32} {sr : Int32} {ss : Int32} {pn : Nat} {pX : Int64} {pY : Int64} {pXX : Int64} {pXY : Int64} (hD : va_D A G0) (w0 : G0[0]? = some (a 0, .inr (7, [.ref (a 1), .ref (a 3), .ref (a 5), .ref (a 7), .ref (a 10), .ref (a 11), .ref (a 16), .int (gB (st))]))) (w3 : G0[3]? = some (a 3, .inr (6, [.ref (a 4), .int (nI (zn))]))) (w4 : G0[4]? = some (a 4, .inl (cI, 24, .inl (zv)))) (w5 : G0[5]? = some (a 5, .inr (5, [.ref (a 6), .int (nI (zn)), .int (nI (tr)), .int (fed), .int (pap), .int (bar)]))) (w6 : G0[6]? = some (a 6, .inl (cI, 40, .inl (ink)))) (w7 : G0[7]? = some (a 7, .inr (4, [.ref (a 8), .ref (a 9), .int (nI (sc)), .int (sg), .int (sr), .int (ss)]))) (w8 : G0[8]? = some (a 8, .inl (cI, 8000, .inl (den)))) (w9 : G0[9]? = some (a 9, .inl (cZ, 1000, .inl (fun j => gB ((go) j))))) (w10 : G0[10]? = some (a 10, .inr (2, [.int (nI (pn)), .long (pX), .long (pY), .long (pXX), .long (pXY)]))) : gMi l D cI cZ A g yX7_told wsX7_told ({ frames := 0, cells := 0, slots := 0, locals := 0 }) [.ref (a 0), .int (nI (1))] G0 (sg) (fun G1 => G1 = G0) := by
  refine gof_i (cc := cX7_told) (maxL := 2) (by decide) rfl (Nat.le_of_ble_eq_true rfl) hD ?_
  intro p e s m args below meth c Q hx hb hml hts hown hK hN hZ hP hS hret ls hl
  have hown : s.vm.findClass RX7 = some m.cls := hown
  have hl : lv_has ls 2 [(0, .ref (a 0)), (1, .int (nI (1)))] := hl
  obtain ⟨locs, elocs⟩ : ∃ q : List Loc, q = [] := ⟨_, rfl⟩
  rw [← elocs] at hS ⊢
  obtain ⟨H, eH⟩ : ∃ q : Heap, q = s.heap := ⟨_, rfl⟩
  have hP : va_P D vwCl G0 H := eH ▸ hP
  have hS : va_S A s.heap H locs := by rw [eH]; exact hS
  rw [← eH]
  clear elocs eH
  have hiX4 : ∀ w ∈ u_ws RX4 TX4 6, w ∈ wsX7_told := by decide +kernel
  have hiX7 : ∀ w ∈ u_ws RX7 TX7 8, w ∈ wsX7_told := by decide +kernel
  have hk : ∀ k, k ∉ ([] : List Nat) → G0[k]? = G0[k]? := fun _ _ => rfl
  refine lv_iload_n (pc := 0) hx hb dX7_told_0 rfl (lv_at hl 1 rfl) ?_
  refine lv_tableIn (tgt := 64) (pc := 1) hx hb dX7_told_1 (by decide) (by decide) rfl (by decide) ?_
  refine lv_aload_n (pc := 64) hx hb dX7_told_64 rfl (lv_at hl 0 rfl) ?_
  refine va_get (ci := 7) (C := RX7) (T := TX7) (N := 8) (pc := 65) hx hb hts hiX7 hown hK hP 0 w0 rfl 3 (by decide) (hts (.fieldLink RX7 33 "InkPress" "sheets" "LInkPress$SheetLog;") (by decide +kernel)) (fun _ h9 => h9) rfl dX7_told_65 ?_
  refine va_getN (own := RX7) (host := "InkPress") (ci := 4) (C := RX4) (T := TX4) (N := 6) (pc := 68) hx hb hts hiX4 hown hK hP 7 w7 rfl 3 (by decide) (va_Nw.use rfl (hN (.fieldLinkNest "InkPress" 139 "InkPress$SheetLog" "goodCount" "I" "InkPress") (by decide +kernel))) (fun _ h9 => h9) rfl dX7_told_68 ?_
  exact hret _ _ _ _ _ _ hP hD hS rfl rfl dX7_told_71
set_option maxHeartbeats 4000000 in
set_option maxRecDepth 100000 in
theorem k_X7_told_2 {l : Launch} {D : va_G} {cI cZ : ClassId} {A : Nat → Prop} {g a : Nat → Nat} {G0 : va_W} {st : Bool} {zv : Nat → Int32} {zn : Nat} {ink : Nat → Int32} {tr : Nat} {fed : Int32} {pap : Int32} {bar : Int32} {den : Nat → Int32} {go : Nat → Bool} {sc : Nat} {sg : Int32} {sr : Int32} {ss : Int32} {pn : Nat} {pX : Int64} {pY : Int64} {pXX : Int64} {pXY : Int64} (hD : va_D A G0) (w0 : G0[0]? = some (a 0, .inr (7, [.ref (a 1), .ref (a 3), .ref (a 5), .ref (a 7), .ref (a 10), .ref (a 11), .ref (a 16), .int (gB (st))]))) (w3 : G0[3]? = some (a 3, .inr (6, [.ref (a 4), .int (nI (zn))]))) (w4 : G0[4]? = some (a 4, .inl (cI, 24, .inl (zv)))) (w5 : G0[5]? = some (a 5, .inr (5, [.ref (a 6), .int (nI (zn)), .int (nI (tr)), .int (fed), .int (pap), .int (bar)]))) (w6 : G0[6]? = some (a 6, .inl (cI, 40, .inl (ink)))) (w7 : G0[7]? = some (a 7, .inr (4, [.ref (a 8), .ref (a 9), .int (nI (sc)), .int (sg), .int (sr), .int (ss)]))) (w8 : G0[8]? = some (a 8, .inl (cI, 8000, .inl (den)))) (w9 : G0[9]? = some (a 9, .inl (cZ, 1000, .inl (fun j => gB ((go) j))))) (w10 : G0[10]? = some (a 10, .inr (2, [.int (nI (pn)), .long (pX), .long (pY), .long (pXX), .long (pXY)]))) : gMi l D cI cZ A g yX7_told wsX7_told ({ frames := 0, cells := 0, slots := 0, locals := 0 }) [.ref (a 0), .int (nI (2))] G0 (nI sc - sg) (fun G1 => G1 = G0) := by
  refine gof_i (cc := cX7_told) (maxL := 2) (by decide) rfl (Nat.le_of_ble_eq_true rfl) hD ?_
  intro p e s m args below meth c Q hx hb hml hts hown hK hN hZ hP hS hret ls hl
  have hown : s.vm.findClass RX7 = some m.cls := hown
  have hl : lv_has ls 2 [(0, .ref (a 0)), (1, .int (nI (2)))] := hl
  obtain ⟨locs, elocs⟩ : ∃ q : List Loc, q = [] := ⟨_, rfl⟩
  rw [← elocs] at hS ⊢
  obtain ⟨H, eH⟩ : ∃ q : Heap, q = s.heap := ⟨_, rfl⟩
  have hP : va_P D vwCl G0 H := eH ▸ hP
  have hS : va_S A s.heap H locs := by rw [eH]; exact hS
  rw [← eH]
  clear elocs eH
  have hiX4 : ∀ w ∈ u_ws RX4 TX4 6, w ∈ wsX7_told := by decide +kernel
  have hiX7 : ∀ w ∈ u_ws RX7 TX7 8, w ∈ wsX7_told := by decide +kernel
  have hk : ∀ k, k ∉ ([] : List Nat) → G0[k]? = G0[k]? := fun _ _ => rfl
  refine lv_iload_n (pc := 0) hx hb dX7_told_0 rfl (lv_at hl 1 rfl) ?_
  refine lv_tableIn (tgt := 72) (pc := 1) hx hb dX7_told_1 (by decide) (by decide) rfl (by decide) ?_
  refine lv_aload_n (pc := 72) hx hb dX7_told_72 rfl (lv_at hl 0 rfl) ?_
  refine va_get (ci := 7) (C := RX7) (T := TX7) (N := 8) (pc := 73) hx hb hts hiX7 hown hK hP 0 w0 rfl 3 (by decide) (hts (.fieldLink RX7 33 "InkPress" "sheets" "LInkPress$SheetLog;") (by decide +kernel)) (fun _ h9 => h9) rfl dX7_told_73 ?_
  refine va_getN (own := RX7) (host := "InkPress") (ci := 4) (C := RX4) (T := TX4) (N := 6) (pc := 76) hx hb hts hiX4 hown hK hP 7 w7 rfl 2 (by decide) (va_Nw.use rfl (hN (.fieldLinkNest "InkPress" 105 "InkPress$SheetLog" "count" "I" "InkPress") (by decide +kernel))) (fun _ h9 => h9) rfl dX7_told_76 ?_
  refine lv_aload_n (pc := 79) hx hb dX7_told_79 rfl (lv_at hl 0 rfl) ?_
  refine va_get (ci := 7) (C := RX7) (T := TX7) (N := 8) (pc := 80) hx hb hts hiX7 hown hK hP 0 w0 rfl 3 (by decide) (hts (.fieldLink RX7 33 "InkPress" "sheets" "LInkPress$SheetLog;") (by decide +kernel)) (fun _ h9 => h9) rfl dX7_told_80 ?_
  refine va_getN (own := RX7) (host := "InkPress") (ci := 4) (C := RX4) (T := TX4) (N := 6) (pc := 83) hx hb hts hiX4 hown hK hP 7 w7 rfl 3 (by decide) (va_Nw.use rfl (hN (.fieldLinkNest "InkPress" 139 "InkPress$SheetLog" "goodCount" "I" "InkPress") (by decide +kernel))) (fun _ h9 => h9) rfl dX7_told_83 ?_
  refine lv_isub (pc := 86) hx hb dX7_told_86 ?_
  exact hret _ _ _ _ _ _ hP hD hS rfl rfl dX7_told_87
set_option maxHeartbeats 4000000 in
set_option maxRecDepth 100000 in
theorem k_X7_told_3 {l : Launch} {D : va_G} {cI cZ : ClassId} {A : Nat → Prop} {g a : Nat → Nat} {G0 : va_W} {st : Bool} {zv : Nat → Int32} {zn : Nat} {ink : Nat → Int32} {tr : Nat} {fed : Int32} {pap : Int32} {bar : Int32} {den : Nat → Int32} {go : Nat → Bool} {sc : Nat} {sg : Int32} {sr : Int32} {ss : Int32} {pn : Nat} {pX : Int64} {pY : Int64} {pXX : Int64} {pXY : Int64} (hD : va_D A G0) (w0 : G0[0]? = some (a 0, .inr (7, [.ref (a 1), .ref (a 3), .ref (a 5), .ref (a 7), .ref (a 10), .ref (a 11), .ref (a 16), .int (gB (st))]))) (w3 : G0[3]? = some (a 3, .inr (6, [.ref (a 4), .int (nI (zn))]))) (w4 : G0[4]? = some (a 4, .inl (cI, 24, .inl (zv)))) (w5 : G0[5]? = some (a 5, .inr (5, [.ref (a 6), .int (nI (zn)), .int (nI (tr)), .int (fed), .int (pap), .int (bar)]))) (w6 : G0[6]? = some (a 6, .inl (cI, 40, .inl (ink)))) (w7 : G0[7]? = some (a 7, .inr (4, [.ref (a 8), .ref (a 9), .int (nI (sc)), .int (sg), .int (sr), .int (ss)]))) (w8 : G0[8]? = some (a 8, .inl (cI, 8000, .inl (den)))) (w9 : G0[9]? = some (a 9, .inl (cZ, 1000, .inl (fun j => gB ((go) j))))) (w10 : G0[10]? = some (a 10, .inr (2, [.int (nI (pn)), .long (pX), .long (pY), .long (pXX), .long (pXY)]))) : gMi l D cI cZ A g yX7_told wsX7_told ({ frames := 0, cells := 0, slots := 0, locals := 0 }) [.ref (a 0), .int (nI (3))] G0 (ss) (fun G1 => G1 = G0) := by
  refine gof_i (cc := cX7_told) (maxL := 2) (by decide) rfl (Nat.le_of_ble_eq_true rfl) hD ?_
  intro p e s m args below meth c Q hx hb hml hts hown hK hN hZ hP hS hret ls hl
  have hown : s.vm.findClass RX7 = some m.cls := hown
  have hl : lv_has ls 2 [(0, .ref (a 0)), (1, .int (nI (3)))] := hl
  obtain ⟨locs, elocs⟩ : ∃ q : List Loc, q = [] := ⟨_, rfl⟩
  rw [← elocs] at hS ⊢
  obtain ⟨H, eH⟩ : ∃ q : Heap, q = s.heap := ⟨_, rfl⟩
  have hP : va_P D vwCl G0 H := eH ▸ hP
  have hS : va_S A s.heap H locs := by rw [eH]; exact hS
  rw [← eH]
  clear elocs eH
  have hiX4 : ∀ w ∈ u_ws RX4 TX4 6, w ∈ wsX7_told := by decide +kernel
  have hiX7 : ∀ w ∈ u_ws RX7 TX7 8, w ∈ wsX7_told := by decide +kernel
  have hk : ∀ k, k ∉ ([] : List Nat) → G0[k]? = G0[k]? := fun _ _ => rfl
  refine lv_iload_n (pc := 0) hx hb dX7_told_0 rfl (lv_at hl 1 rfl) ?_
  refine lv_tableIn (tgt := 88) (pc := 1) hx hb dX7_told_1 (by decide) (by decide) rfl (by decide) ?_
  refine lv_aload_n (pc := 88) hx hb dX7_told_88 rfl (lv_at hl 0 rfl) ?_
  refine va_get (ci := 7) (C := RX7) (T := TX7) (N := 8) (pc := 89) hx hb hts hiX7 hown hK hP 0 w0 rfl 3 (by decide) (hts (.fieldLink RX7 33 "InkPress" "sheets" "LInkPress$SheetLog;") (by decide +kernel)) (fun _ h9 => h9) rfl dX7_told_89 ?_
  refine va_getN (own := RX7) (host := "InkPress") (ci := 4) (C := RX4) (T := TX4) (N := 6) (pc := 92) hx hb hts hiX4 hown hK hP 7 w7 rfl 5 (by decide) (va_Nw.use rfl (hN (.fieldLinkNest "InkPress" 142 "InkPress$SheetLog" "start" "I" "InkPress") (by decide +kernel))) (fun _ h9 => h9) rfl dX7_told_92 ?_
  exact hret _ _ _ _ _ _ hP hD hS rfl rfl dX7_told_95
set_option maxHeartbeats 4000000 in
set_option maxRecDepth 100000 in
theorem k_X7_told_4 {l : Launch} {D : va_G} {cI cZ : ClassId} {A : Nat → Prop} {g a : Nat → Nat} {G0 : va_W} {st : Bool} {zv : Nat → Int32} {zn : Nat} {ink : Nat → Int32} {tr : Nat} {fed : Int32} {pap : Int32} {bar : Int32} {den : Nat → Int32} {go : Nat → Bool} {sc : Nat} {sg : Int32} {sr : Int32} {ss : Int32} {pn : Nat} {pX : Int64} {pY : Int64} {pXX : Int64} {pXY : Int64} (hD : va_D A G0) (w0 : G0[0]? = some (a 0, .inr (7, [.ref (a 1), .ref (a 3), .ref (a 5), .ref (a 7), .ref (a 10), .ref (a 11), .ref (a 16), .int (gB (st))]))) (w3 : G0[3]? = some (a 3, .inr (6, [.ref (a 4), .int (nI (zn))]))) (w4 : G0[4]? = some (a 4, .inl (cI, 24, .inl (zv)))) (w5 : G0[5]? = some (a 5, .inr (5, [.ref (a 6), .int (nI (zn)), .int (nI (tr)), .int (fed), .int (pap), .int (bar)]))) (w6 : G0[6]? = some (a 6, .inl (cI, 40, .inl (ink)))) (w7 : G0[7]? = some (a 7, .inr (4, [.ref (a 8), .ref (a 9), .int (nI (sc)), .int (sg), .int (sr), .int (ss)]))) (w8 : G0[8]? = some (a 8, .inl (cI, 8000, .inl (den)))) (w9 : G0[9]? = some (a 9, .inl (cZ, 1000, .inl (fun j => gB ((go) j))))) (w10 : G0[10]? = some (a 10, .inr (2, [.int (nI (pn)), .long (pX), .long (pY), .long (pXX), .long (pXY)]))) : gMi l D cI cZ A g yX7_told wsX7_told ({ frames := 0, cells := 0, slots := 0, locals := 0 }) [.ref (a 0), .int (nI (4))] G0 (fed) (fun G1 => G1 = G0) := by
  refine gof_i (cc := cX7_told) (maxL := 2) (by decide) rfl (Nat.le_of_ble_eq_true rfl) hD ?_
  intro p e s m args below meth c Q hx hb hml hts hown hK hN hZ hP hS hret ls hl
  have hown : s.vm.findClass RX7 = some m.cls := hown
  have hl : lv_has ls 2 [(0, .ref (a 0)), (1, .int (nI (4)))] := hl
  obtain ⟨locs, elocs⟩ : ∃ q : List Loc, q = [] := ⟨_, rfl⟩
  rw [← elocs] at hS ⊢
  obtain ⟨H, eH⟩ : ∃ q : Heap, q = s.heap := ⟨_, rfl⟩
  have hP : va_P D vwCl G0 H := eH ▸ hP
  have hS : va_S A s.heap H locs := by rw [eH]; exact hS
  rw [← eH]
  clear elocs eH
  have hiX5 : ∀ w ∈ u_ws RX5 TX5 6, w ∈ wsX7_told := by decide +kernel
  have hiX7 : ∀ w ∈ u_ws RX7 TX7 8, w ∈ wsX7_told := by decide +kernel
  have hk : ∀ k, k ∉ ([] : List Nat) → G0[k]? = G0[k]? := fun _ _ => rfl
  refine lv_iload_n (pc := 0) hx hb dX7_told_0 rfl (lv_at hl 1 rfl) ?_
  refine lv_tableIn (tgt := 96) (pc := 1) hx hb dX7_told_1 (by decide) (by decide) rfl (by decide) ?_
  refine lv_aload_n (pc := 96) hx hb dX7_told_96 rfl (lv_at hl 0 rfl) ?_
  refine va_get (ci := 7) (C := RX7) (T := TX7) (N := 8) (pc := 97) hx hb hts hiX7 hown hK hP 0 w0 rfl 2 (by decide) (hts (.fieldLink RX7 26 "InkPress" "train" "LInkPress$Train;") (by decide +kernel)) (fun _ h9 => h9) rfl dX7_told_97 ?_
  refine va_getN (own := RX7) (host := "InkPress") (ci := 5) (C := RX5) (T := TX5) (N := 6) (pc := 100) hx hb hts hiX5 hown hK hP 5 w5 rfl 3 (by decide) (va_Nw.use rfl (hN (.fieldLinkNest "InkPress" 145 "InkPress$Train" "fed" "I" "InkPress") (by decide +kernel))) (fun _ h9 => h9) rfl dX7_told_100 ?_
  exact hret _ _ _ _ _ _ hP hD hS rfl rfl dX7_told_103
set_option maxHeartbeats 4000000 in
set_option maxRecDepth 100000 in
theorem k_X7_told_5 {l : Launch} {D : va_G} {cI cZ : ClassId} {A : Nat → Prop} {g a : Nat → Nat} {G0 : va_W} {st : Bool} {zv : Nat → Int32} {zn : Nat} {ink : Nat → Int32} {tr : Nat} {fed : Int32} {pap : Int32} {bar : Int32} {den : Nat → Int32} {go : Nat → Bool} {sc : Nat} {sg : Int32} {sr : Int32} {ss : Int32} {pn : Nat} {pX : Int64} {pY : Int64} {pXX : Int64} {pXY : Int64} (hD : va_D A G0) (w0 : G0[0]? = some (a 0, .inr (7, [.ref (a 1), .ref (a 3), .ref (a 5), .ref (a 7), .ref (a 10), .ref (a 11), .ref (a 16), .int (gB (st))]))) (w3 : G0[3]? = some (a 3, .inr (6, [.ref (a 4), .int (nI (zn))]))) (w4 : G0[4]? = some (a 4, .inl (cI, 24, .inl (zv)))) (w5 : G0[5]? = some (a 5, .inr (5, [.ref (a 6), .int (nI (zn)), .int (nI (tr)), .int (fed), .int (pap), .int (bar)]))) (w6 : G0[6]? = some (a 6, .inl (cI, 40, .inl (ink)))) (w7 : G0[7]? = some (a 7, .inr (4, [.ref (a 8), .ref (a 9), .int (nI (sc)), .int (sg), .int (sr), .int (ss)]))) (w8 : G0[8]? = some (a 8, .inl (cI, 8000, .inl (den)))) (w9 : G0[9]? = some (a 9, .inl (cZ, 1000, .inl (fun j => gB ((go) j))))) (w10 : G0[10]? = some (a 10, .inr (2, [.int (nI (pn)), .long (pX), .long (pY), .long (pXX), .long (pXY)]))) : gMi l D cI cZ A g yX7_told wsX7_told ({ frames := 1, cells := 0, slots := 0, locals := 22 }) [.ref (a 0), .int (nI (5))] G0 (gOn 40 0 (nI 0) ink) (fun G1 => G1 = G0) := by
  refine gof_i (cc := cX7_told) (maxL := 2) (by decide) rfl (Nat.le_of_ble_eq_true rfl) hD ?_
  intro p e s m args below meth c Q hx hb hml hts hown hK hN hZ hP hS hret ls hl
  have hown : s.vm.findClass RX7 = some m.cls := hown
  have hl : lv_has ls 2 [(0, .ref (a 0)), (1, .int (nI (5)))] := hl
  obtain ⟨locs, elocs⟩ : ∃ q : List Loc, q = [] := ⟨_, rfl⟩
  rw [← elocs] at hS ⊢
  obtain ⟨H, eH⟩ : ∃ q : Heap, q = s.heap := ⟨_, rfl⟩
  have hP : va_P D vwCl G0 H := eH ▸ hP
  have hS : va_S A s.heap H locs := by rw [eH]; exact hS
  rw [← eH]
  clear elocs eH
  have hiX7 : ∀ w ∈ u_ws RX7 TX7 8, w ∈ wsX7_told := by decide +kernel
  have hk : ∀ k, k ∉ ([] : List Nat) → G0[k]? = G0[k]? := fun _ _ => rfl
  refine lv_iload_n (pc := 0) hx hb dX7_told_0 rfl (lv_at hl 1 rfl) ?_
  refine lv_tableIn (tgt := 104) (pc := 1) hx hb dX7_told_1 (by decide) (by decide) rfl (by decide) ?_
  refine lv_aload_n (pc := 104) hx hb dX7_told_104 rfl (lv_at hl 0 rfl) ?_
  refine va_get (ci := 7) (C := RX7) (T := TX7) (N := 8) (pc := 105) hx hb hts hiX7 hown hK hP 0 w0 rfl 2 (by decide) (hts (.fieldLink RX7 26 "InkPress" "train" "LInkPress$Train;") (by decide +kernel)) (fun _ h9 => h9) rfl dX7_told_105 ?_
  refine mx_cVi (As := []) (rest := []) (pc := 108) ⟨hx, hb, hml, hown, hts⟩ (k_X5_inkOn (a := a) (ink := ink) (tz := zn) (tr := tr) (fed := fed) (pap := pap) (bar := bar) hD w5 w6 ) (cwV 0 hts gX7_told_X5_inkOn rfl rfl rfl (by decide +kernel) ⟨Nat.le_of_ble_eq_true rfl, Nat.le_of_ble_eq_true rfl⟩) 5 rfl rfl w5 hK hN hZ hP hS rfl hl.1 rfl (Nat.le_of_ble_eq_true rfl) dX7_told_108 ⟨Nat.zero_le _, Nat.zero_le _⟩ (fun G' H locs hP hD hS hB => ?_)
  rw [hB] at hP hD
  clear hB G'
  exact hret _ _ _ _ _ _ hP hD hS rfl rfl dX7_told_111
set_option maxHeartbeats 4000000 in
set_option maxRecDepth 100000 in
theorem k_X7_told_6 {l : Launch} {D : va_G} {cI cZ : ClassId} {A : Nat → Prop} {g a : Nat → Nat} {G0 : va_W} {st : Bool} {zv : Nat → Int32} {zn : Nat} {ink : Nat → Int32} {tr : Nat} {fed : Int32} {pap : Int32} {bar : Int32} {den : Nat → Int32} {go : Nat → Bool} {sc : Nat} {sg : Int32} {sr : Int32} {ss : Int32} {pn : Nat} {pX : Int64} {pY : Int64} {pXX : Int64} {pXY : Int64} (hD : va_D A G0) (w0 : G0[0]? = some (a 0, .inr (7, [.ref (a 1), .ref (a 3), .ref (a 5), .ref (a 7), .ref (a 10), .ref (a 11), .ref (a 16), .int (gB (st))]))) (w3 : G0[3]? = some (a 3, .inr (6, [.ref (a 4), .int (nI (zn))]))) (w4 : G0[4]? = some (a 4, .inl (cI, 24, .inl (zv)))) (w5 : G0[5]? = some (a 5, .inr (5, [.ref (a 6), .int (nI (zn)), .int (nI (tr)), .int (fed), .int (pap), .int (bar)]))) (w6 : G0[6]? = some (a 6, .inl (cI, 40, .inl (ink)))) (w7 : G0[7]? = some (a 7, .inr (4, [.ref (a 8), .ref (a 9), .int (nI (sc)), .int (sg), .int (sr), .int (ss)]))) (w8 : G0[8]? = some (a 8, .inl (cI, 8000, .inl (den)))) (w9 : G0[9]? = some (a 9, .inl (cZ, 1000, .inl (fun j => gB ((go) j))))) (w10 : G0[10]? = some (a 10, .inr (2, [.int (nI (pn)), .long (pX), .long (pY), .long (pXX), .long (pXY)]))) : gMi l D cI cZ A g yX7_told wsX7_told ({ frames := 0, cells := 0, slots := 0, locals := 0 }) [.ref (a 0), .int (nI (6))] G0 (pap) (fun G1 => G1 = G0) := by
  refine gof_i (cc := cX7_told) (maxL := 2) (by decide) rfl (Nat.le_of_ble_eq_true rfl) hD ?_
  intro p e s m args below meth c Q hx hb hml hts hown hK hN hZ hP hS hret ls hl
  have hown : s.vm.findClass RX7 = some m.cls := hown
  have hl : lv_has ls 2 [(0, .ref (a 0)), (1, .int (nI (6)))] := hl
  obtain ⟨locs, elocs⟩ : ∃ q : List Loc, q = [] := ⟨_, rfl⟩
  rw [← elocs] at hS ⊢
  obtain ⟨H, eH⟩ : ∃ q : Heap, q = s.heap := ⟨_, rfl⟩
  have hP : va_P D vwCl G0 H := eH ▸ hP
  have hS : va_S A s.heap H locs := by rw [eH]; exact hS
  rw [← eH]
  clear elocs eH
  have hiX5 : ∀ w ∈ u_ws RX5 TX5 6, w ∈ wsX7_told := by decide +kernel
  have hiX7 : ∀ w ∈ u_ws RX7 TX7 8, w ∈ wsX7_told := by decide +kernel
  have hk : ∀ k, k ∉ ([] : List Nat) → G0[k]? = G0[k]? := fun _ _ => rfl
  refine lv_iload_n (pc := 0) hx hb dX7_told_0 rfl (lv_at hl 1 rfl) ?_
  refine lv_tableIn (tgt := 112) (pc := 1) hx hb dX7_told_1 (by decide) (by decide) rfl (by decide) ?_
  refine lv_aload_n (pc := 112) hx hb dX7_told_112 rfl (lv_at hl 0 rfl) ?_
  refine va_get (ci := 7) (C := RX7) (T := TX7) (N := 8) (pc := 113) hx hb hts hiX7 hown hK hP 0 w0 rfl 2 (by decide) (hts (.fieldLink RX7 26 "InkPress" "train" "LInkPress$Train;") (by decide +kernel)) (fun _ h9 => h9) rfl dX7_told_113 ?_
  refine va_getN (own := RX7) (host := "InkPress") (ci := 5) (C := RX5) (T := TX5) (N := 6) (pc := 116) hx hb hts hiX5 hown hK hP 5 w5 rfl 4 (by decide) (va_Nw.use rfl (hN (.fieldLinkNest "InkPress" 152 "InkPress$Train" "onPaper" "I" "InkPress") (by decide +kernel))) (fun _ h9 => h9) rfl dX7_told_116 ?_
  exact hret _ _ _ _ _ _ hP hD hS rfl rfl dX7_told_119
set_option maxHeartbeats 4000000 in
set_option maxRecDepth 100000 in
theorem k_X7_told_7 {l : Launch} {D : va_G} {cI cZ : ClassId} {A : Nat → Prop} {g a : Nat → Nat} {G0 : va_W} {st : Bool} {zv : Nat → Int32} {zn : Nat} {ink : Nat → Int32} {tr : Nat} {fed : Int32} {pap : Int32} {bar : Int32} {den : Nat → Int32} {go : Nat → Bool} {sc : Nat} {sg : Int32} {sr : Int32} {ss : Int32} {pn : Nat} {pX : Int64} {pY : Int64} {pXX : Int64} {pXY : Int64} (hD : va_D A G0) (w0 : G0[0]? = some (a 0, .inr (7, [.ref (a 1), .ref (a 3), .ref (a 5), .ref (a 7), .ref (a 10), .ref (a 11), .ref (a 16), .int (gB (st))]))) (w3 : G0[3]? = some (a 3, .inr (6, [.ref (a 4), .int (nI (zn))]))) (w4 : G0[4]? = some (a 4, .inl (cI, 24, .inl (zv)))) (w5 : G0[5]? = some (a 5, .inr (5, [.ref (a 6), .int (nI (zn)), .int (nI (tr)), .int (fed), .int (pap), .int (bar)]))) (w6 : G0[6]? = some (a 6, .inl (cI, 40, .inl (ink)))) (w7 : G0[7]? = some (a 7, .inr (4, [.ref (a 8), .ref (a 9), .int (nI (sc)), .int (sg), .int (sr), .int (ss)]))) (w8 : G0[8]? = some (a 8, .inl (cI, 8000, .inl (den)))) (w9 : G0[9]? = some (a 9, .inl (cZ, 1000, .inl (fun j => gB ((go) j))))) (w10 : G0[10]? = some (a 10, .inr (2, [.int (nI (pn)), .long (pX), .long (pY), .long (pXX), .long (pXY)]))) : gMi l D cI cZ A g yX7_told wsX7_told ({ frames := 0, cells := 0, slots := 0, locals := 0 }) [.ref (a 0), .int (nI (7))] G0 (bar) (fun G1 => G1 = G0) := by
  refine gof_i (cc := cX7_told) (maxL := 2) (by decide) rfl (Nat.le_of_ble_eq_true rfl) hD ?_
  intro p e s m args below meth c Q hx hb hml hts hown hK hN hZ hP hS hret ls hl
  have hown : s.vm.findClass RX7 = some m.cls := hown
  have hl : lv_has ls 2 [(0, .ref (a 0)), (1, .int (nI (7)))] := hl
  obtain ⟨locs, elocs⟩ : ∃ q : List Loc, q = [] := ⟨_, rfl⟩
  rw [← elocs] at hS ⊢
  obtain ⟨H, eH⟩ : ∃ q : Heap, q = s.heap := ⟨_, rfl⟩
  have hP : va_P D vwCl G0 H := eH ▸ hP
  have hS : va_S A s.heap H locs := by rw [eH]; exact hS
  rw [← eH]
  clear elocs eH
  have hiX5 : ∀ w ∈ u_ws RX5 TX5 6, w ∈ wsX7_told := by decide +kernel
  have hiX7 : ∀ w ∈ u_ws RX7 TX7 8, w ∈ wsX7_told := by decide +kernel
  have hk : ∀ k, k ∉ ([] : List Nat) → G0[k]? = G0[k]? := fun _ _ => rfl
  refine lv_iload_n (pc := 0) hx hb dX7_told_0 rfl (lv_at hl 1 rfl) ?_
  refine lv_tableIn (tgt := 120) (pc := 1) hx hb dX7_told_1 (by decide) (by decide) rfl (by decide) ?_
  refine lv_aload_n (pc := 120) hx hb dX7_told_120 rfl (lv_at hl 0 rfl) ?_
  refine va_get (ci := 7) (C := RX7) (T := TX7) (N := 8) (pc := 121) hx hb hts hiX7 hown hK hP 0 w0 rfl 2 (by decide) (hts (.fieldLink RX7 26 "InkPress" "train" "LInkPress$Train;") (by decide +kernel)) (fun _ h9 => h9) rfl dX7_told_121 ?_
  refine va_getN (own := RX7) (host := "InkPress") (ci := 5) (C := RX5) (T := TX5) (N := 6) (pc := 124) hx hb hts hiX5 hown hK hP 5 w5 rfl 5 (by decide) (va_Nw.use rfl (hN (.fieldLinkNest "InkPress" 155 "InkPress$Train" "onBars" "I" "InkPress") (by decide +kernel))) (fun _ h9 => h9) rfl dX7_told_124 ?_
  exact hret _ _ _ _ _ _ hP hD hS rfl rfl dX7_told_127
set_option maxHeartbeats 4000000 in
set_option maxRecDepth 100000 in
theorem k_X7_told_8 {l : Launch} {D : va_G} {cI cZ : ClassId} {A : Nat → Prop} {g a : Nat → Nat} {G0 : va_W} {st : Bool} {zv : Nat → Int32} {zn : Nat} {ink : Nat → Int32} {tr : Nat} {fed : Int32} {pap : Int32} {bar : Int32} {den : Nat → Int32} {go : Nat → Bool} {sc : Nat} {sg : Int32} {sr : Int32} {ss : Int32} {pn : Nat} {pX : Int64} {pY : Int64} {pXX : Int64} {pXY : Int64} (hD : va_D A G0) (w0 : G0[0]? = some (a 0, .inr (7, [.ref (a 1), .ref (a 3), .ref (a 5), .ref (a 7), .ref (a 10), .ref (a 11), .ref (a 16), .int (gB (st))]))) (w3 : G0[3]? = some (a 3, .inr (6, [.ref (a 4), .int (nI (zn))]))) (w4 : G0[4]? = some (a 4, .inl (cI, 24, .inl (zv)))) (w5 : G0[5]? = some (a 5, .inr (5, [.ref (a 6), .int (nI (zn)), .int (nI (tr)), .int (fed), .int (pap), .int (bar)]))) (w6 : G0[6]? = some (a 6, .inl (cI, 40, .inl (ink)))) (w7 : G0[7]? = some (a 7, .inr (4, [.ref (a 8), .ref (a 9), .int (nI (sc)), .int (sg), .int (sr), .int (ss)]))) (w8 : G0[8]? = some (a 8, .inl (cI, 8000, .inl (den)))) (w9 : G0[9]? = some (a 9, .inl (cZ, 1000, .inl (fun j => gB ((go) j))))) (w10 : G0[10]? = some (a 10, .inr (2, [.int (nI (pn)), .long (pX), .long (pY), .long (pXX), .long (pXY)]))) : gMi l D cI cZ A g yX7_told wsX7_told ({ frames := 0, cells := 0, slots := 0, locals := 0 }) [.ref (a 0), .int (nI (8))] G0 (gB st) (fun G1 => G1 = G0) := by
  refine gof_i (cc := cX7_told) (maxL := 2) (by decide) rfl (Nat.le_of_ble_eq_true rfl) hD ?_
  intro p e s m args below meth c Q hx hb hml hts hown hK hN hZ hP hS hret ls hl
  have hown : s.vm.findClass RX7 = some m.cls := hown
  have hl : lv_has ls 2 [(0, .ref (a 0)), (1, .int (nI (8)))] := hl
  obtain ⟨locs, elocs⟩ : ∃ q : List Loc, q = [] := ⟨_, rfl⟩
  rw [← elocs] at hS ⊢
  obtain ⟨H, eH⟩ : ∃ q : Heap, q = s.heap := ⟨_, rfl⟩
  have hP : va_P D vwCl G0 H := eH ▸ hP
  have hS : va_S A s.heap H locs := by rw [eH]; exact hS
  rw [← eH]
  clear elocs eH
  have hiX7 : ∀ w ∈ u_ws RX7 TX7 8, w ∈ wsX7_told := by decide +kernel
  have hk : ∀ k, k ∉ ([] : List Nat) → G0[k]? = G0[k]? := fun _ _ => rfl
  refine lv_iload_n (pc := 0) hx hb dX7_told_0 rfl (lv_at hl 1 rfl) ?_
  refine lv_tableIn (tgt := 128) (pc := 1) hx hb dX7_told_1 (by decide) (by decide) rfl (by decide) ?_
  refine lv_aload_n (pc := 128) hx hb dX7_told_128 rfl (lv_at hl 0 rfl) ?_
  refine va_get (ci := 7) (C := RX7) (T := TX7) (N := 8) (pc := 129) hx hb hts hiX7 hown hK hP 0 w0 rfl 7 (by decide) (hts (.fieldLink RX7 58 "InkPress" "steering" "Z") (by decide +kernel)) (fun _ h9 => h9) rfl dX7_told_129 ?_
  refine mx_beq (tgt := 139) (pc := 132) hx hb dX7_told_132 (by decide) (fun c132 => ?_) (fun c132 => ?_)
  · skip
    refine lv_iconst (v := nI (0)) (pc := 139) hx hb dX7_told_139 (by decide) ?_
    exact hret _ _ _ _ _ _ hP hD hS (by rw [c132]; rfl) rfl dX7_told_140
  · skip
    refine lv_iconst (v := nI (1)) (pc := 135) hx hb dX7_told_135 (by decide) ?_
    refine lv_goto (tgt := 140) (pc := 136) hx hb dX7_told_136 (by decide) ?_
    exact hret _ _ _ _ _ _ hP hD hS (by rw [c132]; rfl) rfl dX7_told_140
set_option maxHeartbeats 4000000 in
set_option maxRecDepth 100000 in
theorem k_X7_told_9 {l : Launch} {D : va_G} {cI cZ : ClassId} {A : Nat → Prop} {g a : Nat → Nat} {G0 : va_W} {st : Bool} {zv : Nat → Int32} {zn : Nat} {ink : Nat → Int32} {tr : Nat} {fed : Int32} {pap : Int32} {bar : Int32} {den : Nat → Int32} {go : Nat → Bool} {sc : Nat} {sg : Int32} {sr : Int32} {ss : Int32} {pn : Nat} {pX : Int64} {pY : Int64} {pXX : Int64} {pXY : Int64} (hD : va_D A G0) (w0 : G0[0]? = some (a 0, .inr (7, [.ref (a 1), .ref (a 3), .ref (a 5), .ref (a 7), .ref (a 10), .ref (a 11), .ref (a 16), .int (gB (st))]))) (w3 : G0[3]? = some (a 3, .inr (6, [.ref (a 4), .int (nI (zn))]))) (w4 : G0[4]? = some (a 4, .inl (cI, 24, .inl (zv)))) (w5 : G0[5]? = some (a 5, .inr (5, [.ref (a 6), .int (nI (zn)), .int (nI (tr)), .int (fed), .int (pap), .int (bar)]))) (w6 : G0[6]? = some (a 6, .inl (cI, 40, .inl (ink)))) (w7 : G0[7]? = some (a 7, .inr (4, [.ref (a 8), .ref (a 9), .int (nI (sc)), .int (sg), .int (sr), .int (ss)]))) (w8 : G0[8]? = some (a 8, .inl (cI, 8000, .inl (den)))) (w9 : G0[9]? = some (a 9, .inl (cZ, 1000, .inl (fun j => gB ((go) j))))) (w10 : G0[10]? = some (a 10, .inr (2, [.int (nI (pn)), .long (pX), .long (pY), .long (pXX), .long (pXY)]))) : gMi l D cI cZ A g yX7_told wsX7_told ({ frames := 0, cells := 0, slots := 0, locals := 0 }) [.ref (a 0), .int (nI (9))] G0 (nI pn) (fun G1 => G1 = G0) := by
  refine gof_i (cc := cX7_told) (maxL := 2) (by decide) rfl (Nat.le_of_ble_eq_true rfl) hD ?_
  intro p e s m args below meth c Q hx hb hml hts hown hK hN hZ hP hS hret ls hl
  have hown : s.vm.findClass RX7 = some m.cls := hown
  have hl : lv_has ls 2 [(0, .ref (a 0)), (1, .int (nI (9)))] := hl
  obtain ⟨locs, elocs⟩ : ∃ q : List Loc, q = [] := ⟨_, rfl⟩
  rw [← elocs] at hS ⊢
  obtain ⟨H, eH⟩ : ∃ q : Heap, q = s.heap := ⟨_, rfl⟩
  have hP : va_P D vwCl G0 H := eH ▸ hP
  have hS : va_S A s.heap H locs := by rw [eH]; exact hS
  rw [← eH]
  clear elocs eH
  have hiX2 : ∀ w ∈ u_ws RX2 TX2 5, w ∈ wsX7_told := by decide +kernel
  have hiX7 : ∀ w ∈ u_ws RX7 TX7 8, w ∈ wsX7_told := by decide +kernel
  have hk : ∀ k, k ∉ ([] : List Nat) → G0[k]? = G0[k]? := fun _ _ => rfl
  refine lv_iload_n (pc := 0) hx hb dX7_told_0 rfl (lv_at hl 1 rfl) ?_
  refine lv_tableIn (tgt := 141) (pc := 1) hx hb dX7_told_1 (by decide) (by decide) rfl (by decide) ?_
  refine lv_aload_n (pc := 141) hx hb dX7_told_141 rfl (lv_at hl 0 rfl) ?_
  refine va_get (ci := 7) (C := RX7) (T := TX7) (N := 8) (pc := 142) hx hb hts hiX7 hown hK hP 0 w0 rfl 4 (by decide) (hts (.fieldLink RX7 40 "InkPress" "pastJobs" "LInkPress$PastJobs;") (by decide +kernel)) (fun _ h9 => h9) rfl dX7_told_142 ?_
  refine va_getN (own := RX7) (host := "InkPress") (ci := 2) (C := RX2) (T := TX2) (N := 5) (pc := 145) hx hb hts hiX2 hown hK hP 10 w10 rfl 0 (by decide) (va_Nw.use rfl (hN (.fieldLinkNest "InkPress" 158 "InkPress$PastJobs" "count" "I" "InkPress") (by decide +kernel))) (fun _ h9 => h9) rfl dX7_told_145 ?_
  exact hret _ _ _ _ _ _ hP hD hS rfl rfl dX7_told_148
set_option maxHeartbeats 4000000 in
set_option maxRecDepth 100000 in
theorem k_X7_mark_b {l : Launch} {D : va_G} {cI cZ : ClassId} {A : Nat → Prop} {g a : Nat → Nat} {G0 : va_W} {st : Bool} {x : Int32} {y : Int32} {u : Int32} {v : Int32} (hD : va_D A G0) (w0 : G0[0]? = some (a 0, .inr (7, [.ref (a 1), .ref (a 3), .ref (a 5), .ref (a 7), .ref (a 10), .ref (a 11), .ref (a 16), .int (gB (st))]))) (hbad : gWi x (-1000) (nI 1000) = false ∨ gWi y (-1000) (nI 1000) = false ∨ gWi u (-100) (nI 100) = false ∨ gWi v (-100) (nI 100) = false) : gMi l D cI cZ A g yX7_mark wsX7_mark ({ frames := 2, cells := 0, slots := 0, locals := 42 }) [.ref (a 0), .int (x), .int (y), .int (u), .int (v)] G0 ((-2)) (fun G1 => G1 = G0) := by
  refine gof_i (cc := cX7_mark) (maxL := 5) (by decide) rfl (Nat.le_of_ble_eq_true rfl) hD ?_
  intro p e s m args below meth c Q hx hb hml hts hown hK hN hZ hP hS hret ls hl
  have hown : s.vm.findClass RX7 = some m.cls := hown
  have hl : lv_has ls 5 [(0, .ref (a 0)), (1, .int (x)), (2, .int (y)), (3, .int (u)), (4, .int (v))] := hl
  obtain ⟨locs, elocs⟩ : ∃ q : List Loc, q = [] := ⟨_, rfl⟩
  rw [← elocs] at hS ⊢
  obtain ⟨H, eH⟩ : ∃ q : Heap, q = s.heap := ⟨_, rfl⟩
  have hP : va_P D vwCl G0 H := eH ▸ hP
  have hS : va_S A s.heap H locs := by rw [eH]; exact hS
  rw [← eH]
  clear elocs eH
  have hk : ∀ k, k ∉ ([] : List Nat) → G0[k]? = G0[k]? := fun _ _ => rfl
  refine lv_iload_n (pc := 0) hx hb dX7_mark_0 rfl (lv_at hl 1 rfl) ?_
  refine mx_cSi (As := [.int (x)]) (rest := []) (pc := 1) ⟨hx, hb, hml, hown, hts⟩ (k_X1_isPlace (a := a) (v := x) hD  ) (va_cwS 1 hts gX7_mark_X1_isPlace rfl rfl rfl (by decide +kernel) ⟨Nat.le_of_ble_eq_true rfl, Nat.le_of_ble_eq_true rfl⟩) hK hN hZ hP hS rfl hl.1 rfl (Nat.le_of_ble_eq_true rfl) dX7_mark_1 ⟨Nat.zero_le _, Nat.zero_le _⟩ (fun G' H locs hP hD hS hB => ?_)
  rw [hB] at hP hD
  clear hB G'
  refine mx_beq (tgt := 29) (pc := 4) hx hb dX7_mark_4 (by decide) (fun c4 => ?_) (fun c4 => ?_)
  · skip
    refine lv_bipush (v := (-2)) (pc := 29) hx hb dX7_mark_29 (by decide) ?_
    exact hret _ _ _ _ _ _ hP hD hS rfl rfl dX7_mark_31
  · skip
    refine lv_iload_n (pc := 7) hx hb dX7_mark_7 rfl (lv_at hl 2 rfl) ?_
    refine mx_cSi (As := [.int (y)]) (rest := []) (pc := 8) ⟨hx, hb, hml, hown, hts⟩ (k_X1_isPlace (a := a) (v := y) hD  ) (va_cwS 1 hts gX7_mark_X1_isPlace rfl rfl rfl (by decide +kernel) ⟨Nat.le_of_ble_eq_true rfl, Nat.le_of_ble_eq_true rfl⟩) hK hN hZ hP hS rfl hl.1 rfl (Nat.le_of_ble_eq_true rfl) dX7_mark_8 ⟨Nat.zero_le _, Nat.zero_le _⟩ (fun G' H locs hP hD hS hB => ?_)
    rw [hB] at hP hD
    clear hB G'
    refine mx_beq (tgt := 29) (pc := 11) hx hb dX7_mark_11 (by decide) (fun c11 => ?_) (fun c11 => ?_)
    · skip
      refine lv_bipush (v := (-2)) (pc := 29) hx hb dX7_mark_29 (by decide) ?_
      exact hret _ _ _ _ _ _ hP hD hS rfl rfl dX7_mark_31
    · skip
      refine lv_iload_n (pc := 14) hx hb dX7_mark_14 rfl (lv_at hl 3 rfl) ?_
      refine mx_cSi (As := [.int (u)]) (rest := []) (pc := 15) ⟨hx, hb, hml, hown, hts⟩ (k_X1_isOffset (a := a) (v := u) hD  ) (va_cwS 1 hts gX7_mark_X1_isOffset rfl rfl rfl (by decide +kernel) ⟨Nat.le_of_ble_eq_true rfl, Nat.le_of_ble_eq_true rfl⟩) hK hN hZ hP hS rfl hl.1 rfl (Nat.le_of_ble_eq_true rfl) dX7_mark_15 ⟨Nat.zero_le _, Nat.zero_le _⟩ (fun G' H locs hP hD hS hB => ?_)
      rw [hB] at hP hD
      clear hB G'
      refine mx_beq (tgt := 29) (pc := 18) hx hb dX7_mark_18 (by decide) (fun c18 => ?_) (fun c18 => ?_)
      · skip
        refine lv_bipush (v := (-2)) (pc := 29) hx hb dX7_mark_29 (by decide) ?_
        exact hret _ _ _ _ _ _ hP hD hS rfl rfl dX7_mark_31
      · skip
        refine lv_iload (pc := 21) hx hb dX7_mark_21 (lv_at hl 4 rfl) ?_
        refine mx_cSi (As := [.int (v)]) (rest := []) (pc := 23) ⟨hx, hb, hml, hown, hts⟩ (k_X1_isOffset (a := a) (v := v) hD  ) (va_cwS 1 hts gX7_mark_X1_isOffset rfl rfl rfl (by decide +kernel) ⟨Nat.le_of_ble_eq_true rfl, Nat.le_of_ble_eq_true rfl⟩) hK hN hZ hP hS rfl hl.1 rfl (Nat.le_of_ble_eq_true rfl) dX7_mark_23 ⟨Nat.zero_le _, Nat.zero_le _⟩ (fun G' H locs hP hD hS hB => ?_)
        rw [hB] at hP hD
        clear hB G'
        refine mx_bne (tgt := 32) (pc := 26) hx hb dX7_mark_26 (by decide) (fun c26 => ?_) (fun c26 => ?_)
        · skip
          exact (by simp [c4, c11, c18, c26] at hbad)
        · skip
          refine lv_bipush (v := (-2)) (pc := 29) hx hb dX7_mark_29 (by decide) ?_
          exact hret _ _ _ _ _ _ hP hD hS rfl rfl dX7_mark_31
