/-! the log of sheets, the past jobs -/
def gLd (sc z : Nat) (den : Nat → Int32) : Int32 := if sc = 0 then nI 0 else den ((sc - 1) * 8 + z)
theorem gLd_0 {sc z : Nat} {den : Nat → Int32} (h : sc = 0) : gLd sc z den = nI 0 := if_pos h
theorem gLd_1 {sc z : Nat} {den : Nat → Int32} (h : 0 < sc) : gLd sc z den = den ((sc - 1) * 8 + z) := if_neg (by omega)
def gJg (b : Bool) (g : Int32) : Int32 := match b with | true => g + nI 1 | false => g
def gJr (b : Bool) (r : Int32) : Int32 := match b with | true => r + nI 1 | false => nI 0
def gJs (r ho n ss : Int32) : Int32 := if ss = -6 ∧ ho ≤ r then n else ss
theorem gJs_1 {r ho n ss : Int32} (h : ¬ ss = -6) : gJs r ho n ss = ss := if_neg (fun q => h q.1)
theorem gJs_2 {r ho n ss : Int32} (h : r < ho) : gJs r ho n ss = ss := if_neg (fun q => Int32.not_le.mpr h q.2)
theorem gJs_3 {r ho n ss : Int32} (h : ss = -6) (h2 : ¬ r < ho) : gJs r ho n ss = n := if_pos ⟨h, Int32.not_lt.mp h2⟩
theorem gDe_t {c : Prop} [Decidable c] (h : c) : nI 1 = gB (decide c) := by simp [gB, h]; rfl
theorem gDe_f {c : Prop} [Decidable c] (h : ¬ c) : nI 0 = gB (decide c) := by simp [gB, h]; rfl
theorem gNI_pos {n : Nat} (h : 0 < n) (h2 : n < 2 ^ 31) : 0 < nI n := by
  have := nI_lt h h2
  rw [nI_0] at this
  exact this
def gKl (pn : Nat) (X XX : Int64) : Int64 := (nI pn).toInt64 * XX - X * X
def gKey (pn : Nat) (X Y XX XY : Int64) (c : Int32) : Int32 :=
  if gKl pn X XX = 0 then (if pn = 0 then nI 0 else (Y / (nI pn).toInt64).toInt32) else gHeld ((Y * XX - X * XY + c.toInt64 * ((nI pn).toInt64 * XY - X * Y)) / gKl pn X XX) (nI 0) (nI 100)
theorem gKey_n {pn : Nat} {X Y XX XY : Int64} {c : Int32} (h : ¬ (nI pn).toInt64 * XX - X * X = 0) : gKey pn X Y XX XY c = gHeld ((Y * XX - X * XY + c.toInt64 * ((nI pn).toInt64 * XY - X * Y)) / ((nI pn).toInt64 * XX - X * X)) (nI 0) (nI 100) := if_neg h
theorem gKey_0 {pn : Nat} {X Y XX XY : Int64} {c : Int32} (h : (nI pn).toInt64 * XX - X * X = 0) (h2 : pn = 0) : gKey pn X Y XX XY c = nI 0 := (if_pos h).trans (if_pos h2)
theorem gKey_z {pn : Nat} {X Y XX XY : Int64} {c : Int32} (h : (nI pn).toInt64 * XX - X * X = 0) (h2 : 0 < pn) : gKey pn X Y XX XY c = (Y / (nI pn).toInt64).toInt32 := (if_pos h).trans (if_neg (by omega))
set_option maxHeartbeats 4000000 in
set_option maxRecDepth 100000 in
theorem k_X4_restart {l : Launch} {D : va_G} {cI cZ : ClassId} {A : Nat → Prop} {g a : Nat → Nat} {G0 : va_W} {den : Nat → Int32} {go : Nat → Bool} {sc : Nat} {sg : Int32} {sr : Int32} {ss : Int32} (hD : va_D A G0) (w7 : G0[7]? = some (a 7, .inr (4, [.ref (a 8), .ref (a 9), .int (nI (sc)), .int (sg), .int (sr), .int (ss)]))) (w8 : G0[8]? = some (a 8, .inl (cI, 8000, .inl (den)))) (w9 : G0[9]? = some (a 9, .inl (cZ, 1000, .inl (fun j => gB ((go) j))))) : gMv l D cI cZ A g yX4_restart wsX4_restart ({ frames := 0, cells := 0, slots := 0, locals := 0 }) [.ref (a 7)] G0 (fun G1 => G1[7]? = some (a 7, .inr (4, [.ref (a 8), .ref (a 9), .int (nI (0)), .int (nI (0)), .int (nI (0)), .int ((-6))])) ∧ ∀ k, k ∉ [7] → G1[k]? = G0[k]?) := by
  refine gof_v (cc := cX4_restart) (maxL := 1) (by decide) rfl (Nat.le_of_ble_eq_true rfl) hD ?_
  intro p e s m args below meth c Q hx hb hml hts hown hK hN hZ hP hS hret ls hl
  have hown : s.vm.findClass RX4 = some m.cls := hown
  have hl : lv_has ls 1 [(0, .ref (a 7))] := hl
  obtain ⟨locs, elocs⟩ : ∃ q : List Loc, q = [] := ⟨_, rfl⟩
  rw [← elocs] at hS ⊢
  obtain ⟨H, eH⟩ : ∃ q : Heap, q = s.heap := ⟨_, rfl⟩
  have hP : va_P D vwCl G0 H := eH ▸ hP
  have hS : va_S A s.heap H locs := by rw [eH]; exact hS
  rw [← eH]
  clear elocs eH
  have hiX4 : ∀ w ∈ u_ws RX4 TX4 6, w ∈ wsX4_restart := by decide +kernel
  have hk : ∀ k, k ∉ [7] → G0[k]? = G0[k]? := fun _ _ => rfl
  refine lv_aload_n (pc := 0) hx hb dX4_restart_0 rfl (lv_at hl 0 rfl) ?_
  refine lv_iconst (v := nI (0)) (pc := 1) hx hb dX4_restart_1 (by decide) ?_
  refine mx_put (ci := 4) (v := .int (nI (0))) (ty := .int) (C := RX4) (T := TX4) (N := 6) (pc := 2) hx hb hts hiX4 tyX4 tyX4_ok nmX4 hown hK hP hD hS 7 w7 rfl 2 (by decide) (hts (.fieldLink RX4 22 "InkPress$SheetLog" "count" "I") (by decide +kernel)) (fun _ h9 => h9) rfl (by decide +kernel) rfl rfl (Nat.le_of_ble_eq_true rfl) dX4_restart_2 (fun H locs G hP hD hS w7 ho => ?_)
  have w8 := (ho 8 (by decide)).trans w8
  have w9 := (ho 9 (by decide)).trans w9
  have w7 : G[7]? = some (a 7, .inr (4, [.ref (a 8), .ref (a 9), .int (nI (0)), .int (sg), .int (sr), .int (ss)])) := w7
  have hk := gk_step hk ho (by decide)
  clear ho
  refine lv_aload_n (pc := 5) hx hb dX4_restart_5 rfl (lv_at hl 0 rfl) ?_
  refine lv_iconst (v := nI (0)) (pc := 6) hx hb dX4_restart_6 (by decide) ?_
  refine mx_put (ci := 4) (v := .int (nI (0))) (ty := .int) (C := RX4) (T := TX4) (N := 6) (pc := 7) hx hb hts hiX4 tyX4 tyX4_ok nmX4 hown hK hP hD hS 7 w7 rfl 3 (by decide) (hts (.fieldLink RX4 26 "InkPress$SheetLog" "goodCount" "I") (by decide +kernel)) (fun _ h9 => h9) rfl (by decide +kernel) rfl rfl (Nat.le_of_ble_eq_true rfl) dX4_restart_7 (fun H locs G hP hD hS w7 ho => ?_)
  have w8 := (ho 8 (by decide)).trans w8
  have w9 := (ho 9 (by decide)).trans w9
  have w7 : G[7]? = some (a 7, .inr (4, [.ref (a 8), .ref (a 9), .int (nI (0)), .int (nI (0)), .int (sr), .int (ss)])) := w7
  have hk := gk_step hk ho (by decide)
  clear ho
  refine lv_aload_n (pc := 10) hx hb dX4_restart_10 rfl (lv_at hl 0 rfl) ?_
  refine lv_iconst (v := nI (0)) (pc := 11) hx hb dX4_restart_11 (by decide) ?_
  refine mx_put (ci := 4) (v := .int (nI (0))) (ty := .int) (C := RX4) (T := TX4) (N := 6) (pc := 12) hx hb hts hiX4 tyX4 tyX4_ok nmX4 hown hK hP hD hS 7 w7 rfl 4 (by decide) (hts (.fieldLink RX4 29 "InkPress$SheetLog" "goodInARow" "I") (by decide +kernel)) (fun _ h9 => h9) rfl (by decide +kernel) rfl rfl (Nat.le_of_ble_eq_true rfl) dX4_restart_12 (fun H locs G hP hD hS w7 ho => ?_)
  have w8 := (ho 8 (by decide)).trans w8
  have w9 := (ho 9 (by decide)).trans w9
  have w7 : G[7]? = some (a 7, .inr (4, [.ref (a 8), .ref (a 9), .int (nI (0)), .int (nI (0)), .int (nI (0)), .int (ss)])) := w7
  have hk := gk_step hk ho (by decide)
  clear ho
  refine lv_aload_n (pc := 15) hx hb dX4_restart_15 rfl (lv_at hl 0 rfl) ?_
  refine lv_bipush (v := (-6)) (pc := 16) hx hb dX4_restart_16 (by decide) ?_
  refine mx_put (ci := 4) (v := .int ((-6))) (ty := .int) (C := RX4) (T := TX4) (N := 6) (pc := 18) hx hb hts hiX4 tyX4 tyX4_ok nmX4 hown hK hP hD hS 7 w7 rfl 5 (by decide) (hts (.fieldLink RX4 32 "InkPress$SheetLog" "start" "I") (by decide +kernel)) (fun _ h9 => h9) rfl (by decide +kernel) rfl rfl (Nat.le_of_ble_eq_true rfl) dX4_restart_18 (fun H locs G hP hD hS w7 ho => ?_)
  have w8 := (ho 8 (by decide)).trans w8
  have w9 := (ho 9 (by decide)).trans w9
  have w7 : G[7]? = some (a 7, .inr (4, [.ref (a 8), .ref (a 9), .int (nI (0)), .int (nI (0)), .int (nI (0)), .int ((-6))])) := w7
  have hk := gk_step hk ho (by decide)
  clear ho
  exact hret _ _ _ _ _ hP hD hS ⟨w7, hk⟩ dX4_restart_21
set_option maxHeartbeats 4000000 in
set_option maxRecDepth 100000 in
theorem k_X4_has {l : Launch} {D : va_G} {cI cZ : ClassId} {A : Nat → Prop} {g a : Nat → Nat} {G0 : va_W} {den : Nat → Int32} {go : Nat → Bool} {sc : Nat} {sg : Int32} {sr : Int32} {ss : Int32} {x : Int32} (hD : va_D A G0) (w7 : G0[7]? = some (a 7, .inr (4, [.ref (a 8), .ref (a 9), .int (nI (sc)), .int (sg), .int (sr), .int (ss)]))) (w8 : G0[8]? = some (a 8, .inl (cI, 8000, .inl (den)))) (w9 : G0[9]? = some (a 9, .inl (cZ, 1000, .inl (fun j => gB ((go) j))))) : gMi l D cI cZ A g yX4_has wsX4_has ({ frames := 0, cells := 0, slots := 0, locals := 0 }) [.ref (a 7), .int (x)] G0 (gB (gWi x (nI 1) (nI sc))) (fun G1 => G1 = G0) := by
  refine gof_z (cc := cX4_has) (maxL := 2) (by decide) rfl (Nat.le_of_ble_eq_true rfl) hD ?_
  intro p e s m args below meth c Q hx hb hml hts hown hK hN hZ hP hS hret ls hl
  have hown : s.vm.findClass RX4 = some m.cls := hown
  have hl : lv_has ls 2 [(0, .ref (a 7)), (1, .int (x))] := hl
  obtain ⟨locs, elocs⟩ : ∃ q : List Loc, q = [] := ⟨_, rfl⟩
  rw [← elocs] at hS ⊢
  obtain ⟨H, eH⟩ : ∃ q : Heap, q = s.heap := ⟨_, rfl⟩
  have hP : va_P D vwCl G0 H := eH ▸ hP
  have hS : va_S A s.heap H locs := by rw [eH]; exact hS
  rw [← eH]
  clear elocs eH
  have hiX4 : ∀ w ∈ u_ws RX4 TX4 6, w ∈ wsX4_has := by decide +kernel
  have hk : ∀ k, k ∉ ([] : List Nat) → G0[k]? = G0[k]? := fun _ _ => rfl
  refine lv_iload_n (pc := 0) hx hb dX4_has_0 rfl (lv_at hl 1 rfl) ?_
  refine lv_iconst (v := nI (1)) (pc := 1) hx hb dX4_has_1 (by decide) ?_
  refine lv_icmp_lt (tgt := 17) (pc := 2) hx hb dX4_has_2 (by decide) (fun c2 => ?_) (fun c2 => ?_)
  · skip
    refine lv_iconst (v := nI (0)) (pc := 17) hx hb dX4_has_17 (by decide) ?_
    exact hret _ _ _ _ _ _ hP hD hS rfl (by first | exact gWi_lt c2 | exact gWi_gt c10 | exact gWi_in c2 c10) rfl dX4_has_18
  · skip
    refine lv_iload_n (pc := 5) hx hb dX4_has_5 rfl (lv_at hl 1 rfl) ?_
    refine lv_aload_n (pc := 6) hx hb dX4_has_6 rfl (lv_at hl 0 rfl) ?_
    refine va_get (ci := 4) (C := RX4) (T := TX4) (N := 6) (pc := 7) hx hb hts hiX4 hown hK hP 7 w7 rfl 2 (by decide) (hts (.fieldLink RX4 22 "InkPress$SheetLog" "count" "I") (by decide +kernel)) (fun _ h9 => h9) rfl dX4_has_7 ?_
    refine lv_icmp_gt (tgt := 17) (pc := 10) hx hb dX4_has_10 (by decide) (fun c10 => ?_) (fun c10 => ?_)
    · skip
      refine lv_iconst (v := nI (0)) (pc := 17) hx hb dX4_has_17 (by decide) ?_
      exact hret _ _ _ _ _ _ hP hD hS rfl (by first | exact gWi_lt c2 | exact gWi_gt c10 | exact gWi_in c2 c10) rfl dX4_has_18
    · skip
      refine lv_iconst (v := nI (1)) (pc := 13) hx hb dX4_has_13 (by decide) ?_
      refine lv_goto (tgt := 18) (pc := 14) hx hb dX4_has_14 (by decide) ?_
      exact hret _ _ _ _ _ _ hP hD hS rfl (by first | exact gWi_lt c2 | exact gWi_gt c10 | exact gWi_in c2 c10) rfl dX4_has_18
set_option maxHeartbeats 4000000 in
set_option maxRecDepth 100000 in
theorem k_X4_begin {l : Launch} {D : va_G} {cI cZ : ClassId} {A : Nat → Prop} {g a : Nat → Nat} {G0 : va_W} {den : Nat → Int32} {go : Nat → Bool} {sc : Nat} {sg : Int32} {sr : Int32} {ss : Int32} (hD : va_D A G0) (w7 : G0[7]? = some (a 7, .inr (4, [.ref (a 8), .ref (a 9), .int (nI (sc)), .int (sg), .int (sr), .int (ss)]))) (w8 : G0[8]? = some (a 8, .inl (cI, 8000, .inl (den)))) (w9 : G0[9]? = some (a 9, .inl (cZ, 1000, .inl (fun j => gB ((go) j))))) : gMv l D cI cZ A g yX4_begin wsX4_begin ({ frames := 0, cells := 0, slots := 0, locals := 0 }) [.ref (a 7)] G0 (fun G1 => G1[7]? = some (a 7, .inr (4, [.ref (a 8), .ref (a 9), .int (nI (sc + 1)), .int (sg), .int (sr), .int (ss)])) ∧ ∀ k, k ∉ [7] → G1[k]? = G0[k]?) := by
  refine gof_v (cc := cX4_begin) (maxL := 1) (by decide) rfl (Nat.le_of_ble_eq_true rfl) hD ?_
  intro p e s m args below meth c Q hx hb hml hts hown hK hN hZ hP hS hret ls hl
  have hown : s.vm.findClass RX4 = some m.cls := hown
  have hl : lv_has ls 1 [(0, .ref (a 7))] := hl
  obtain ⟨locs, elocs⟩ : ∃ q : List Loc, q = [] := ⟨_, rfl⟩
  rw [← elocs] at hS ⊢
  obtain ⟨H, eH⟩ : ∃ q : Heap, q = s.heap := ⟨_, rfl⟩
  have hP : va_P D vwCl G0 H := eH ▸ hP
  have hS : va_S A s.heap H locs := by rw [eH]; exact hS
  rw [← eH]
  clear elocs eH
  have hiX4 : ∀ w ∈ u_ws RX4 TX4 6, w ∈ wsX4_begin := by decide +kernel
  have hk : ∀ k, k ∉ [7] → G0[k]? = G0[k]? := fun _ _ => rfl
  refine lv_aload_n (pc := 0) hx hb dX4_begin_0 rfl (lv_at hl 0 rfl) ?_
  refine lv_dup (pc := 1) hx hb dX4_begin_1 rfl ?_
  refine va_get (ci := 4) (C := RX4) (T := TX4) (N := 6) (pc := 2) hx hb hts hiX4 hown hK hP 7 w7 rfl 2 (by decide) (hts (.fieldLink RX4 22 "InkPress$SheetLog" "count" "I") (by decide +kernel)) (fun _ h9 => h9) rfl dX4_begin_2 ?_
  refine lv_iconst (v := nI (1)) (pc := 5) hx hb dX4_begin_5 (by decide) ?_
  refine mx_iadd (pc := 6) hx hb dX4_begin_6 ?_
  refine mx_put (ci := 4) (v := .int (nI (sc + 1))) (ty := .int) (C := RX4) (T := TX4) (N := 6) (pc := 7) hx hb hts hiX4 tyX4 tyX4_ok nmX4 hown hK hP hD hS 7 w7 rfl 2 (by decide) (hts (.fieldLink RX4 22 "InkPress$SheetLog" "count" "I") (by decide +kernel)) (fun _ h9 => h9) rfl (by decide +kernel) rfl rfl (Nat.le_of_ble_eq_true rfl) dX4_begin_7 (fun H locs G hP hD hS w7 ho => ?_)
  have w8 := (ho 8 (by decide)).trans w8
  have w9 := (ho 9 (by decide)).trans w9
  have w7 : G[7]? = some (a 7, .inr (4, [.ref (a 8), .ref (a 9), .int (nI (sc + 1)), .int (sg), .int (sr), .int (ss)])) := w7
  have hk := gk_step hk ho (by decide)
  clear ho
  exact hret _ _ _ _ _ hP hD hS ⟨w7, hk⟩ dX4_begin_10
set_option maxHeartbeats 4000000 in
set_option maxRecDepth 100000 in
theorem k_X4_note {l : Launch} {D : va_G} {cI cZ : ClassId} {A : Nat → Prop} {g a : Nat → Nat} {G0 : va_W} {den : Nat → Int32} {go : Nat → Bool} {sc : Nat} {sg : Int32} {sr : Int32} {ss : Int32} {z : Nat} {x : Int32} (hD : va_D A G0) (w7 : G0[7]? = some (a 7, .inr (4, [.ref (a 8), .ref (a 9), .int (nI (sc)), .int (sg), .int (sr), .int (ss)]))) (w8 : G0[8]? = some (a 8, .inl (cI, 8000, .inl (den)))) (w9 : G0[9]? = some (a 9, .inl (cZ, 1000, .inl (fun j => gB ((go) j))))) (h1 : 1 ≤ sc) (h2 : sc ≤ 1000) (hz : z < 8) : gMv l D cI cZ A g yX4_note wsX4_note ({ frames := 0, cells := 0, slots := 0, locals := 0 }) [.ref (a 7), .int (nI (z)), .int (x)] G0 (fun G1 => G1[8]? = some (a 8, .inl (cI, 8000, .inl (upd den ((sc - 1) * 8 + z) x))) ∧ ∀ k, k ∉ [8] → G1[k]? = G0[k]?) := by
  refine gof_v (cc := cX4_note) (maxL := 3) (by decide) rfl (Nat.le_of_ble_eq_true rfl) hD ?_
  intro p e s m args below meth c Q hx hb hml hts hown hK hN hZ hP hS hret ls hl
  have hown : s.vm.findClass RX4 = some m.cls := hown
  have hl : lv_has ls 3 [(0, .ref (a 7)), (1, .int (nI (z))), (2, .int (x))] := hl
  obtain ⟨locs, elocs⟩ : ∃ q : List Loc, q = [] := ⟨_, rfl⟩
  rw [← elocs] at hS ⊢
  obtain ⟨H, eH⟩ : ∃ q : Heap, q = s.heap := ⟨_, rfl⟩
  have hP : va_P D vwCl G0 H := eH ▸ hP
  have hS : va_S A s.heap H locs := by rw [eH]; exact hS
  rw [← eH]
  clear elocs eH
  have hiX4 : ∀ w ∈ u_ws RX4 TX4 6, w ∈ wsX4_note := by decide +kernel
  have hk : ∀ k, k ∉ [8] → G0[k]? = G0[k]? := fun _ _ => rfl
  refine lv_aload_n (pc := 0) hx hb dX4_note_0 rfl (lv_at hl 0 rfl) ?_
  refine va_get (ci := 4) (C := RX4) (T := TX4) (N := 6) (pc := 1) hx hb hts hiX4 hown hK hP 7 w7 rfl 0 (by decide) (hts (.fieldLink RX4 9 "InkPress$SheetLog" "densities" "[I") (by decide +kernel)) (fun _ h9 => h9) rfl dX4_note_1 ?_
  refine lv_aload_n (pc := 4) hx hb dX4_note_4 rfl (lv_at hl 0 rfl) ?_
  refine va_get (ci := 4) (C := RX4) (T := TX4) (N := 6) (pc := 5) hx hb hts hiX4 hown hK hP 7 w7 rfl 2 (by decide) (hts (.fieldLink RX4 22 "InkPress$SheetLog" "count" "I") (by decide +kernel)) (fun _ h9 => h9) rfl dX4_note_5 ?_
  refine lv_iconst (v := nI (1)) (pc := 8) hx hb dX4_note_8 (by decide) ?_
  refine mx_isub (pc := 9) hx hb h1 dX4_note_9 ?_
  refine lv_bipush (v := nI (8)) (pc := 10) hx hb dX4_note_10 (by decide) ?_
  refine mx_imul (pc := 12) hx hb dX4_note_12 ?_
  refine lv_iload_n (pc := 13) hx hb dX4_note_13 rfl (lv_at hl 1 rfl) ?_
  refine mx_iadd (pc := 14) hx hb dX4_note_14 ?_
  refine lv_iload_n (pc := 15) hx hb dX4_note_15 rfl (lv_at hl 2 rfl) ?_
  refine mx_iast (x := x) (pc := 16) hx hb hK hP hD hS 8 w8 (((sc) - (1)) * (8) + z) (by omega) (by decide) dX4_note_16 (fun H locs G hP hD hS w8 ho => ?_)
  have w7 := (ho 7 (by decide)).trans w7
  have w9 := (ho 9 (by decide)).trans w9
  have w8 : G[8]? = some (a 8, .inl (cI, 8000, .inl (upd (den) (((sc) - (1)) * (8) + z) (x)))) := w8
  have hk := gk_step hk ho (by decide)
  clear ho
  exact hret _ _ _ _ _ hP hD hS ⟨w8, hk⟩ dX4_note_17
set_option maxHeartbeats 4000000 in
set_option maxRecDepth 100000 in
theorem k_X4_wasGood {l : Launch} {D : va_G} {cI cZ : ClassId} {A : Nat → Prop} {g a : Nat → Nat} {G0 : va_W} {den : Nat → Int32} {go : Nat → Bool} {sc : Nat} {sg : Int32} {sr : Int32} {ss : Int32} {n : Nat} (hD : va_D A G0) (w7 : G0[7]? = some (a 7, .inr (4, [.ref (a 8), .ref (a 9), .int (nI (sc)), .int (sg), .int (sr), .int (ss)]))) (w8 : G0[8]? = some (a 8, .inl (cI, 8000, .inl (den)))) (w9 : G0[9]? = some (a 9, .inl (cZ, 1000, .inl (fun j => gB ((go) j))))) (h1 : 1 ≤ n) (h2 : n ≤ 1000) : gMi l D cI cZ A g yX4_wasGood wsX4_wasGood ({ frames := 0, cells := 0, slots := 0, locals := 0 }) [.ref (a 7), .int (nI (n))] G0 (gB (go (n - 1))) (fun G1 => G1 = G0) := by
  refine gof_z (cc := cX4_wasGood) (maxL := 2) (by decide) rfl (Nat.le_of_ble_eq_true rfl) hD ?_
  intro p e s m args below meth c Q hx hb hml hts hown hK hN hZ hP hS hret ls hl
  have hown : s.vm.findClass RX4 = some m.cls := hown
  have hl : lv_has ls 2 [(0, .ref (a 7)), (1, .int (nI (n)))] := hl
  obtain ⟨locs, elocs⟩ : ∃ q : List Loc, q = [] := ⟨_, rfl⟩
  rw [← elocs] at hS ⊢
  obtain ⟨H, eH⟩ : ∃ q : Heap, q = s.heap := ⟨_, rfl⟩
  have hP : va_P D vwCl G0 H := eH ▸ hP
  have hS : va_S A s.heap H locs := by rw [eH]; exact hS
  rw [← eH]
  clear elocs eH
  have hiX4 : ∀ w ∈ u_ws RX4 TX4 6, w ∈ wsX4_wasGood := by decide +kernel
  have hk : ∀ k, k ∉ ([] : List Nat) → G0[k]? = G0[k]? := fun _ _ => rfl
  refine lv_aload_n (pc := 0) hx hb dX4_wasGood_0 rfl (lv_at hl 0 rfl) ?_
  refine va_get (ci := 4) (C := RX4) (T := TX4) (N := 6) (pc := 1) hx hb hts hiX4 hown hK hP 7 w7 rfl 1 (by decide) (hts (.fieldLink RX4 15 "InkPress$SheetLog" "good" "[Z") (by decide +kernel)) (fun _ h9 => h9) rfl dX4_wasGood_1 ?_
  refine lv_iload_n (pc := 4) hx hb dX4_wasGood_4 rfl (lv_at hl 1 rfl) ?_
  refine lv_iconst (v := nI (1)) (pc := 5) hx hb dX4_wasGood_5 (by decide) ?_
  refine mx_isub (pc := 6) hx hb h1 dX4_wasGood_6 ?_
  refine mx_zald (pc := 7) hx hb hK hP 9 w9 ((n) - (1)) (by omega) (by decide) dX4_wasGood_7 ?_
  exact hret _ _ _ _ _ _ hP hD hS (gB_nar _) rfl rfl dX4_wasGood_8
set_option maxHeartbeats 4000000 in
set_option maxRecDepth 100000 in
theorem k_X4_densityOn {l : Launch} {D : va_G} {cI cZ : ClassId} {A : Nat → Prop} {g a : Nat → Nat} {G0 : va_W} {den : Nat → Int32} {go : Nat → Bool} {sc : Nat} {sg : Int32} {sr : Int32} {ss : Int32} {n : Nat} {z : Nat} (hD : va_D A G0) (w7 : G0[7]? = some (a 7, .inr (4, [.ref (a 8), .ref (a 9), .int (nI (sc)), .int (sg), .int (sr), .int (ss)]))) (w8 : G0[8]? = some (a 8, .inl (cI, 8000, .inl (den)))) (w9 : G0[9]? = some (a 9, .inl (cZ, 1000, .inl (fun j => gB ((go) j))))) (h1 : 1 ≤ n) (h2 : n ≤ 1000) (hz : z < 8) : gMi l D cI cZ A g yX4_densityOn wsX4_densityOn ({ frames := 0, cells := 0, slots := 0, locals := 0 }) [.ref (a 7), .int (nI (n)), .int (nI (z))] G0 (den ((n - 1) * 8 + z)) (fun G1 => G1 = G0) := by
  refine gof_i (cc := cX4_densityOn) (maxL := 3) (by decide) rfl (Nat.le_of_ble_eq_true rfl) hD ?_
  intro p e s m args below meth c Q hx hb hml hts hown hK hN hZ hP hS hret ls hl
  have hown : s.vm.findClass RX4 = some m.cls := hown
  have hl : lv_has ls 3 [(0, .ref (a 7)), (1, .int (nI (n))), (2, .int (nI (z)))] := hl
  obtain ⟨locs, elocs⟩ : ∃ q : List Loc, q = [] := ⟨_, rfl⟩
  rw [← elocs] at hS ⊢
  obtain ⟨H, eH⟩ : ∃ q : Heap, q = s.heap := ⟨_, rfl⟩
  have hP : va_P D vwCl G0 H := eH ▸ hP
  have hS : va_S A s.heap H locs := by rw [eH]; exact hS
  rw [← eH]
  clear elocs eH
  have hiX4 : ∀ w ∈ u_ws RX4 TX4 6, w ∈ wsX4_densityOn := by decide +kernel
  have hk : ∀ k, k ∉ ([] : List Nat) → G0[k]? = G0[k]? := fun _ _ => rfl
  refine lv_aload_n (pc := 0) hx hb dX4_densityOn_0 rfl (lv_at hl 0 rfl) ?_
  refine va_get (ci := 4) (C := RX4) (T := TX4) (N := 6) (pc := 1) hx hb hts hiX4 hown hK hP 7 w7 rfl 0 (by decide) (hts (.fieldLink RX4 9 "InkPress$SheetLog" "densities" "[I") (by decide +kernel)) (fun _ h9 => h9) rfl dX4_densityOn_1 ?_
  refine lv_iload_n (pc := 4) hx hb dX4_densityOn_4 rfl (lv_at hl 1 rfl) ?_
  refine lv_iconst (v := nI (1)) (pc := 5) hx hb dX4_densityOn_5 (by decide) ?_
  refine mx_isub (pc := 6) hx hb h1 dX4_densityOn_6 ?_
  refine lv_bipush (v := nI (8)) (pc := 7) hx hb dX4_densityOn_7 (by decide) ?_
  refine mx_imul (pc := 9) hx hb dX4_densityOn_9 ?_
  refine lv_iload_n (pc := 10) hx hb dX4_densityOn_10 rfl (lv_at hl 2 rfl) ?_
  refine mx_iadd (pc := 11) hx hb dX4_densityOn_11 ?_
  refine mx_iald (pc := 12) hx hb hK hP 8 w8 (((n) - (1)) * (8) + z) (by omega) (by decide) dX4_densityOn_12 ?_
  exact hret _ _ _ _ _ _ hP hD hS rfl rfl dX4_densityOn_13
set_option maxHeartbeats 4000000 in
set_option maxRecDepth 100000 in
theorem k_X4_latestDensity {l : Launch} {D : va_G} {cI cZ : ClassId} {A : Nat → Prop} {g a : Nat → Nat} {G0 : va_W} {den : Nat → Int32} {go : Nat → Bool} {sc : Nat} {sg : Int32} {sr : Int32} {ss : Int32} {z : Nat} (hD : va_D A G0) (w7 : G0[7]? = some (a 7, .inr (4, [.ref (a 8), .ref (a 9), .int (nI (sc)), .int (sg), .int (sr), .int (ss)]))) (w8 : G0[8]? = some (a 8, .inl (cI, 8000, .inl (den)))) (w9 : G0[9]? = some (a 9, .inl (cZ, 1000, .inl (fun j => gB ((go) j))))) (h2 : sc ≤ 1000) (hz : z < 8) : gMi l D cI cZ A g yX4_latestDensity wsX4_latestDensity ({ frames := 1, cells := 0, slots := 0, locals := 22 }) [.ref (a 7), .int (nI (z))] G0 (gLd sc z den) (fun G1 => G1 = G0) := by
  refine gof_i (cc := cX4_latestDensity) (maxL := 2) (by decide) rfl (Nat.le_of_ble_eq_true rfl) hD ?_
  intro p e s m args below meth c Q hx hb hml hts hown hK hN hZ hP hS hret ls hl
  have hown : s.vm.findClass RX4 = some m.cls := hown
  have hl : lv_has ls 2 [(0, .ref (a 7)), (1, .int (nI (z)))] := hl
  obtain ⟨locs, elocs⟩ : ∃ q : List Loc, q = [] := ⟨_, rfl⟩
  rw [← elocs] at hS ⊢
  obtain ⟨H, eH⟩ : ∃ q : Heap, q = s.heap := ⟨_, rfl⟩
  have hP : va_P D vwCl G0 H := eH ▸ hP
  have hS : va_S A s.heap H locs := by rw [eH]; exact hS
  rw [← eH]
  clear elocs eH
  have hiX4 : ∀ w ∈ u_ws RX4 TX4 6, w ∈ wsX4_latestDensity := by decide +kernel
  have hk : ∀ k, k ∉ ([] : List Nat) → G0[k]? = G0[k]? := fun _ _ => rfl
  refine lv_aload_n (pc := 0) hx hb dX4_latestDensity_0 rfl (lv_at hl 0 rfl) ?_
  refine va_get (ci := 4) (C := RX4) (T := TX4) (N := 6) (pc := 1) hx hb hts hiX4 hown hK hP 7 w7 rfl 2 (by decide) (hts (.fieldLink RX4 22 "InkPress$SheetLog" "count" "I") (by decide +kernel)) (fun _ h9 => h9) rfl dX4_latestDensity_1 ?_
  refine mx_nle (tgt := 19) (pc := 4) hx hb (by omega) dX4_latestDensity_4 (by decide) (fun c4 => ?_) (fun c4 => ?_)
  · skip
    refine lv_iconst (v := nI (0)) (pc := 19) hx hb dX4_latestDensity_19 (by decide) ?_
    exact hret _ _ _ _ _ _ hP hD hS (by first | exact (gLd_0 c4).symm | exact (gLd_1 c4).symm) rfl dX4_latestDensity_20
  · skip
    refine lv_aload_n (pc := 7) hx hb dX4_latestDensity_7 rfl (lv_at hl 0 rfl) ?_
    refine lv_aload_n (pc := 8) hx hb dX4_latestDensity_8 rfl (lv_at hl 0 rfl) ?_
    refine va_get (ci := 4) (C := RX4) (T := TX4) (N := 6) (pc := 9) hx hb hts hiX4 hown hK hP 7 w7 rfl 2 (by decide) (hts (.fieldLink RX4 22 "InkPress$SheetLog" "count" "I") (by decide +kernel)) (fun _ h9 => h9) rfl dX4_latestDensity_9 ?_
    refine lv_iload_n (pc := 12) hx hb dX4_latestDensity_12 rfl (lv_at hl 1 rfl) ?_
    refine mx_cVi (As := [.int (nI (sc)), .int (nI (z))]) (rest := []) (pc := 13) ⟨hx, hb, hml, hown, hts⟩ (k_X4_densityOn (a := a) (den := den) (go := go) (sc := sc) (sg := sg) (sr := sr) (ss := ss) (n := sc) (z := z) hD w7 w8 w9 (by omega) (by omega) (by omega)) (cwV 2 hts gX4_latestDensity_X4_densityOn rfl rfl rfl (by decide +kernel) ⟨Nat.le_of_ble_eq_true rfl, Nat.le_of_ble_eq_true rfl⟩) 7 rfl rfl w7 hK hN hZ hP hS rfl hl.1 rfl (Nat.le_of_ble_eq_true rfl) dX4_latestDensity_13 ⟨Nat.zero_le _, Nat.zero_le _⟩ (fun G' H locs hP hD hS hB => ?_)
    rw [hB] at hP hD
    clear hB G'
    refine lv_goto (tgt := 20) (pc := 16) hx hb dX4_latestDensity_16 (by decide) ?_
    exact hret _ _ _ _ _ _ hP hD hS (by first | exact (gLd_0 c4).symm | exact (gLd_1 c4).symm) rfl dX4_latestDensity_20
set_option maxHeartbeats 4000000 in
set_option maxRecDepth 100000 in
theorem k_X4_judge {l : Launch} {D : va_G} {cI cZ : ClassId} {A : Nat → Prop} {g a : Nat → Nat} {G0 : va_W} {den : Nat → Int32} {go : Nat → Bool} {sc : Nat} {sg : Int32} {sr : Int32} {ss : Int32} {b : Bool} {ho : Int32} (hD : va_D A G0) (w7 : G0[7]? = some (a 7, .inr (4, [.ref (a 8), .ref (a 9), .int (nI (sc)), .int (sg), .int (sr), .int (ss)]))) (w8 : G0[8]? = some (a 8, .inl (cI, 8000, .inl (den)))) (w9 : G0[9]? = some (a 9, .inl (cZ, 1000, .inl (fun j => gB ((go) j))))) (h1 : 1 ≤ sc) (h2 : sc ≤ 1000) : gMv l D cI cZ A g yX4_judge wsX4_judge ({ frames := 0, cells := 0, slots := 0, locals := 0 }) [.ref (a 7), .int (gB (b)), .int (ho)] G0 (fun G1 => G1[7]? = some (a 7, .inr (4, [.ref (a 8), .ref (a 9), .int (nI (sc)), .int (gJg b sg), .int (gJr b sr), .int (gJs (gJr b sr) ho (nI sc) ss)])) ∧ G1[9]? = some (a 9, .inl (cZ, 1000, .inl (fun j => gB ((vf_upd go (sc - 1) b) j)))) ∧ ∀ k, k ∉ [7, 9] → G1[k]? = G0[k]?) := by
  refine gof_v (cc := cX4_judge) (maxL := 3) (by decide) rfl (Nat.le_of_ble_eq_true rfl) hD ?_
  intro p e s m args below meth c Q hx hb hml hts hown hK hN hZ hP hS hret ls hl
  have hown : s.vm.findClass RX4 = some m.cls := hown
  have hl : lv_has ls 3 [(0, .ref (a 7)), (1, .int (gB (b))), (2, .int (ho))] := hl
  obtain ⟨locs, elocs⟩ : ∃ q : List Loc, q = [] := ⟨_, rfl⟩
  rw [← elocs] at hS ⊢
  obtain ⟨H, eH⟩ : ∃ q : Heap, q = s.heap := ⟨_, rfl⟩
  have hP : va_P D vwCl G0 H := eH ▸ hP
  have hS : va_S A s.heap H locs := by rw [eH]; exact hS
  rw [← eH]
  clear elocs eH
  have hiX4 : ∀ w ∈ u_ws RX4 TX4 6, w ∈ wsX4_judge := by decide +kernel
  have hk : ∀ k, k ∉ [7, 9] → G0[k]? = G0[k]? := fun _ _ => rfl
  cases b
  · skip
    refine lv_aload_n (pc := 0) hx hb dX4_judge_0 rfl (lv_at hl 0 rfl) ?_
    refine va_get (ci := 4) (C := RX4) (T := TX4) (N := 6) (pc := 1) hx hb hts hiX4 hown hK hP 7 w7 rfl 1 (by decide) (hts (.fieldLink RX4 15 "InkPress$SheetLog" "good" "[Z") (by decide +kernel)) (fun _ h9 => h9) rfl dX4_judge_1 ?_
    refine lv_aload_n (pc := 4) hx hb dX4_judge_4 rfl (lv_at hl 0 rfl) ?_
    refine va_get (ci := 4) (C := RX4) (T := TX4) (N := 6) (pc := 5) hx hb hts hiX4 hown hK hP 7 w7 rfl 2 (by decide) (hts (.fieldLink RX4 22 "InkPress$SheetLog" "count" "I") (by decide +kernel)) (fun _ h9 => h9) rfl dX4_judge_5 ?_
    refine lv_iconst (v := nI (1)) (pc := 8) hx hb dX4_judge_8 (by decide) ?_
    refine mx_isub (pc := 9) hx hb h1 dX4_judge_9 ?_
    refine lv_iload_n (pc := 10) hx hb dX4_judge_10 rfl (lv_at hl 1 rfl) ?_
    refine mx_zast (x := gB (false)) (pc := 11) hx hb hK hP hD hS 9 w9 ((sc) - (1)) (by omega) (by decide) (gB_vnar _) dX4_judge_11 (fun H locs G hP hD hS w9 ho => ?_)
    rw [gUpdB] at w9
    have w7 := (ho 7 (by decide)).trans w7
    have w8 := (ho 8 (by decide)).trans w8
    have w9 : G[9]? = some (a 9, .inl (cZ, 1000, .inl (fun j => gB ((vf_upd (go) ((sc) - (1)) (false)) j)))) := w9
    have hk := gk_step hk ho (by decide)
    clear ho
    refine lv_aload_n (pc := 12) hx hb dX4_judge_12 rfl (lv_at hl 0 rfl) ?_
    refine lv_iload_n (pc := 13) hx hb dX4_judge_13 rfl (lv_at hl 1 rfl) ?_
    refine mx_beq (tgt := 26) (pc := 14) hx hb dX4_judge_14 (by decide) (fun c14 => ?_) (fun c14 => absurd c14 (by decide))
    refine lv_iconst (v := nI (0)) (pc := 26) hx hb dX4_judge_26 (by decide) ?_
    refine mx_put (ci := 4) (v := .int (nI (0))) (ty := .int) (C := RX4) (T := TX4) (N := 6) (pc := 27) hx hb hts hiX4 tyX4 tyX4_ok nmX4 hown hK hP hD hS 7 w7 rfl 4 (by decide) (hts (.fieldLink RX4 29 "InkPress$SheetLog" "goodInARow" "I") (by decide +kernel)) (fun _ h9 => h9) rfl (by decide +kernel) rfl rfl (Nat.le_of_ble_eq_true rfl) dX4_judge_27 (fun H locs G hP hD hS w7 ho => ?_)
    have w8 := (ho 8 (by decide)).trans w8
    have w9 := (ho 9 (by decide)).trans w9
    have w7 : G[7]? = some (a 7, .inr (4, [.ref (a 8), .ref (a 9), .int (nI (sc)), .int (sg), .int (nI (0)), .int (ss)])) := w7
    have hk := gk_step hk ho (by decide)
    clear ho
    refine lv_iload_n (pc := 30) hx hb dX4_judge_30 rfl (lv_at hl 1 rfl) ?_
    refine mx_beq (tgt := 44) (pc := 31) hx hb dX4_judge_31 (by decide) (fun c31 => ?_) (fun c31 => absurd c31 (by decide))
    refine lv_aload_n (pc := 44) hx hb dX4_judge_44 rfl (lv_at hl 0 rfl) ?_
    refine va_get (ci := 4) (C := RX4) (T := TX4) (N := 6) (pc := 45) hx hb hts hiX4 hown hK hP 7 w7 rfl 5 (by decide) (hts (.fieldLink RX4 32 "InkPress$SheetLog" "start" "I") (by decide +kernel)) (fun _ h9 => h9) rfl dX4_judge_45 ?_
    refine lv_bipush (v := (-6)) (pc := 48) hx hb dX4_judge_48 (by decide) ?_
    refine lv_icmp_ne (tgt := 69) (pc := 50) hx hb dX4_judge_50 (by decide) (fun c50 => ?_) (fun c50 => ?_)
    · skip
      exact hret _ _ _ _ _ hP hD hS ⟨(by first | (have q9 : gJs (gJr false sr) ho (nI sc) ss = ss := gJs_1 c50; rw [q9]; exact w7) | (have q9 : gJs (gJr false sr) ho (nI sc) ss = ss := gJs_2 c58; rw [q9]; exact w7) | (have q9 : gJs (gJr false sr) ho (nI sc) ss = nI sc := gJs_3 c50 c58; rw [q9]; exact w7)), w9, hk⟩ dX4_judge_69
    · skip
      refine lv_aload_n (pc := 53) hx hb dX4_judge_53 rfl (lv_at hl 0 rfl) ?_
      refine va_get (ci := 4) (C := RX4) (T := TX4) (N := 6) (pc := 54) hx hb hts hiX4 hown hK hP 7 w7 rfl 4 (by decide) (hts (.fieldLink RX4 29 "InkPress$SheetLog" "goodInARow" "I") (by decide +kernel)) (fun _ h9 => h9) rfl dX4_judge_54 ?_
      refine lv_iload_n (pc := 57) hx hb dX4_judge_57 rfl (lv_at hl 2 rfl) ?_
      refine lv_icmp_lt (tgt := 69) (pc := 58) hx hb dX4_judge_58 (by decide) (fun c58 => ?_) (fun c58 => ?_)
      · skip
        exact hret _ _ _ _ _ hP hD hS ⟨(by first | (have q9 : gJs (gJr false sr) ho (nI sc) ss = ss := gJs_1 c50; rw [q9]; exact w7) | (have q9 : gJs (gJr false sr) ho (nI sc) ss = ss := gJs_2 c58; rw [q9]; exact w7) | (have q9 : gJs (gJr false sr) ho (nI sc) ss = nI sc := gJs_3 c50 c58; rw [q9]; exact w7)), w9, hk⟩ dX4_judge_69
      · skip
        refine lv_aload_n (pc := 61) hx hb dX4_judge_61 rfl (lv_at hl 0 rfl) ?_
        refine lv_aload_n (pc := 62) hx hb dX4_judge_62 rfl (lv_at hl 0 rfl) ?_
        refine va_get (ci := 4) (C := RX4) (T := TX4) (N := 6) (pc := 63) hx hb hts hiX4 hown hK hP 7 w7 rfl 2 (by decide) (hts (.fieldLink RX4 22 "InkPress$SheetLog" "count" "I") (by decide +kernel)) (fun _ h9 => h9) rfl dX4_judge_63 ?_
        refine mx_put (ci := 4) (v := .int (nI (sc))) (ty := .int) (C := RX4) (T := TX4) (N := 6) (pc := 66) hx hb hts hiX4 tyX4 tyX4_ok nmX4 hown hK hP hD hS 7 w7 rfl 5 (by decide) (hts (.fieldLink RX4 32 "InkPress$SheetLog" "start" "I") (by decide +kernel)) (fun _ h9 => h9) rfl (by decide +kernel) rfl rfl (Nat.le_of_ble_eq_true rfl) dX4_judge_66 (fun H locs G hP hD hS w7 ho => ?_)
        have w8 := (ho 8 (by decide)).trans w8
        have w9 := (ho 9 (by decide)).trans w9
        have w7 : G[7]? = some (a 7, .inr (4, [.ref (a 8), .ref (a 9), .int (nI (sc)), .int (sg), .int (nI (0)), .int (nI (sc))])) := w7
        have hk := gk_step hk ho (by decide)
        clear ho
        exact hret _ _ _ _ _ hP hD hS ⟨(by first | (have q9 : gJs (gJr false sr) ho (nI sc) ss = ss := gJs_1 c50; rw [q9]; exact w7) | (have q9 : gJs (gJr false sr) ho (nI sc) ss = ss := gJs_2 c58; rw [q9]; exact w7) | (have q9 : gJs (gJr false sr) ho (nI sc) ss = nI sc := gJs_3 c50 c58; rw [q9]; exact w7)), w9, hk⟩ dX4_judge_69
  · skip
    refine lv_aload_n (pc := 0) hx hb dX4_judge_0 rfl (lv_at hl 0 rfl) ?_
    refine va_get (ci := 4) (C := RX4) (T := TX4) (N := 6) (pc := 1) hx hb hts hiX4 hown hK hP 7 w7 rfl 1 (by decide) (hts (.fieldLink RX4 15 "InkPress$SheetLog" "good" "[Z") (by decide +kernel)) (fun _ h9 => h9) rfl dX4_judge_1 ?_
    refine lv_aload_n (pc := 4) hx hb dX4_judge_4 rfl (lv_at hl 0 rfl) ?_
    refine va_get (ci := 4) (C := RX4) (T := TX4) (N := 6) (pc := 5) hx hb hts hiX4 hown hK hP 7 w7 rfl 2 (by decide) (hts (.fieldLink RX4 22 "InkPress$SheetLog" "count" "I") (by decide +kernel)) (fun _ h9 => h9) rfl dX4_judge_5 ?_
    refine lv_iconst (v := nI (1)) (pc := 8) hx hb dX4_judge_8 (by decide) ?_
    refine mx_isub (pc := 9) hx hb h1 dX4_judge_9 ?_
    refine lv_iload_n (pc := 10) hx hb dX4_judge_10 rfl (lv_at hl 1 rfl) ?_
    refine mx_zast (x := gB (true)) (pc := 11) hx hb hK hP hD hS 9 w9 ((sc) - (1)) (by omega) (by decide) (gB_vnar _) dX4_judge_11 (fun H locs G hP hD hS w9 ho => ?_)
    rw [gUpdB] at w9
    have w7 := (ho 7 (by decide)).trans w7
    have w8 := (ho 8 (by decide)).trans w8
    have w9 : G[9]? = some (a 9, .inl (cZ, 1000, .inl (fun j => gB ((vf_upd (go) ((sc) - (1)) (true)) j)))) := w9
    have hk := gk_step hk ho (by decide)
    clear ho
    refine lv_aload_n (pc := 12) hx hb dX4_judge_12 rfl (lv_at hl 0 rfl) ?_
    refine lv_iload_n (pc := 13) hx hb dX4_judge_13 rfl (lv_at hl 1 rfl) ?_
    refine mx_beq (tgt := 26) (pc := 14) hx hb dX4_judge_14 (by decide) (fun c14 => absurd c14 (by decide)) (fun c14 => ?_)
    refine lv_aload_n (pc := 17) hx hb dX4_judge_17 rfl (lv_at hl 0 rfl) ?_
    refine va_get (ci := 4) (C := RX4) (T := TX4) (N := 6) (pc := 18) hx hb hts hiX4 hown hK hP 7 w7 rfl 4 (by decide) (hts (.fieldLink RX4 29 "InkPress$SheetLog" "goodInARow" "I") (by decide +kernel)) (fun _ h9 => h9) rfl dX4_judge_18 ?_
    refine lv_iconst (v := nI (1)) (pc := 21) hx hb dX4_judge_21 (by decide) ?_
    refine lv_iadd (pc := 22) hx hb dX4_judge_22 ?_
    refine lv_goto (tgt := 27) (pc := 23) hx hb dX4_judge_23 (by decide) ?_
    refine mx_put (ci := 4) (v := .int ((sr + nI (1)))) (ty := .int) (C := RX4) (T := TX4) (N := 6) (pc := 27) hx hb hts hiX4 tyX4 tyX4_ok nmX4 hown hK hP hD hS 7 w7 rfl 4 (by decide) (hts (.fieldLink RX4 29 "InkPress$SheetLog" "goodInARow" "I") (by decide +kernel)) (fun _ h9 => h9) rfl (by decide +kernel) rfl rfl (Nat.le_of_ble_eq_true rfl) dX4_judge_27 (fun H locs G hP hD hS w7 ho => ?_)
    have w8 := (ho 8 (by decide)).trans w8
    have w9 := (ho 9 (by decide)).trans w9
    have w7 : G[7]? = some (a 7, .inr (4, [.ref (a 8), .ref (a 9), .int (nI (sc)), .int (sg), .int ((sr + nI (1))), .int (ss)])) := w7
    have hk := gk_step hk ho (by decide)
    clear ho
    refine lv_iload_n (pc := 30) hx hb dX4_judge_30 rfl (lv_at hl 1 rfl) ?_
    refine mx_beq (tgt := 44) (pc := 31) hx hb dX4_judge_31 (by decide) (fun c31 => absurd c31 (by decide)) (fun c31 => ?_)
    refine lv_aload_n (pc := 34) hx hb dX4_judge_34 rfl (lv_at hl 0 rfl) ?_
    refine lv_dup (pc := 35) hx hb dX4_judge_35 rfl ?_
    refine va_get (ci := 4) (C := RX4) (T := TX4) (N := 6) (pc := 36) hx hb hts hiX4 hown hK hP 7 w7 rfl 3 (by decide) (hts (.fieldLink RX4 26 "InkPress$SheetLog" "goodCount" "I") (by decide +kernel)) (fun _ h9 => h9) rfl dX4_judge_36 ?_
    refine lv_iconst (v := nI (1)) (pc := 39) hx hb dX4_judge_39 (by decide) ?_
    refine lv_iadd (pc := 40) hx hb dX4_judge_40 ?_
    refine mx_put (ci := 4) (v := .int ((sg + nI (1)))) (ty := .int) (C := RX4) (T := TX4) (N := 6) (pc := 41) hx hb hts hiX4 tyX4 tyX4_ok nmX4 hown hK hP hD hS 7 w7 rfl 3 (by decide) (hts (.fieldLink RX4 26 "InkPress$SheetLog" "goodCount" "I") (by decide +kernel)) (fun _ h9 => h9) rfl (by decide +kernel) rfl rfl (Nat.le_of_ble_eq_true rfl) dX4_judge_41 (fun H locs G hP hD hS w7 ho => ?_)
    have w8 := (ho 8 (by decide)).trans w8
    have w9 := (ho 9 (by decide)).trans w9
    have w7 : G[7]? = some (a 7, .inr (4, [.ref (a 8), .ref (a 9), .int (nI (sc)), .int ((sg + nI (1))), .int ((sr + nI (1))), .int (ss)])) := w7
    have hk := gk_step hk ho (by decide)
    clear ho
    refine lv_aload_n (pc := 44) hx hb dX4_judge_44 rfl (lv_at hl 0 rfl) ?_
    refine va_get (ci := 4) (C := RX4) (T := TX4) (N := 6) (pc := 45) hx hb hts hiX4 hown hK hP 7 w7 rfl 5 (by decide) (hts (.fieldLink RX4 32 "InkPress$SheetLog" "start" "I") (by decide +kernel)) (fun _ h9 => h9) rfl dX4_judge_45 ?_
    refine lv_bipush (v := (-6)) (pc := 48) hx hb dX4_judge_48 (by decide) ?_
    refine lv_icmp_ne (tgt := 69) (pc := 50) hx hb dX4_judge_50 (by decide) (fun c50 => ?_) (fun c50 => ?_)
    · skip
      exact hret _ _ _ _ _ hP hD hS ⟨(by first | (have q9 : gJs (gJr true sr) ho (nI sc) ss = ss := gJs_1 c50; rw [q9]; exact w7) | (have q9 : gJs (gJr true sr) ho (nI sc) ss = ss := gJs_2 c58; rw [q9]; exact w7) | (have q9 : gJs (gJr true sr) ho (nI sc) ss = nI sc := gJs_3 c50 c58; rw [q9]; exact w7)), w9, hk⟩ dX4_judge_69
    · skip
      refine lv_aload_n (pc := 53) hx hb dX4_judge_53 rfl (lv_at hl 0 rfl) ?_
      refine va_get (ci := 4) (C := RX4) (T := TX4) (N := 6) (pc := 54) hx hb hts hiX4 hown hK hP 7 w7 rfl 4 (by decide) (hts (.fieldLink RX4 29 "InkPress$SheetLog" "goodInARow" "I") (by decide +kernel)) (fun _ h9 => h9) rfl dX4_judge_54 ?_
      refine lv_iload_n (pc := 57) hx hb dX4_judge_57 rfl (lv_at hl 2 rfl) ?_
      refine lv_icmp_lt (tgt := 69) (pc := 58) hx hb dX4_judge_58 (by decide) (fun c58 => ?_) (fun c58 => ?_)
      · skip
        exact hret _ _ _ _ _ hP hD hS ⟨(by first | (have q9 : gJs (gJr true sr) ho (nI sc) ss = ss := gJs_1 c50; rw [q9]; exact w7) | (have q9 : gJs (gJr true sr) ho (nI sc) ss = ss := gJs_2 c58; rw [q9]; exact w7) | (have q9 : gJs (gJr true sr) ho (nI sc) ss = nI sc := gJs_3 c50 c58; rw [q9]; exact w7)), w9, hk⟩ dX4_judge_69
      · skip
        refine lv_aload_n (pc := 61) hx hb dX4_judge_61 rfl (lv_at hl 0 rfl) ?_
        refine lv_aload_n (pc := 62) hx hb dX4_judge_62 rfl (lv_at hl 0 rfl) ?_
        refine va_get (ci := 4) (C := RX4) (T := TX4) (N := 6) (pc := 63) hx hb hts hiX4 hown hK hP 7 w7 rfl 2 (by decide) (hts (.fieldLink RX4 22 "InkPress$SheetLog" "count" "I") (by decide +kernel)) (fun _ h9 => h9) rfl dX4_judge_63 ?_
        refine mx_put (ci := 4) (v := .int (nI (sc))) (ty := .int) (C := RX4) (T := TX4) (N := 6) (pc := 66) hx hb hts hiX4 tyX4 tyX4_ok nmX4 hown hK hP hD hS 7 w7 rfl 5 (by decide) (hts (.fieldLink RX4 32 "InkPress$SheetLog" "start" "I") (by decide +kernel)) (fun _ h9 => h9) rfl (by decide +kernel) rfl rfl (Nat.le_of_ble_eq_true rfl) dX4_judge_66 (fun H locs G hP hD hS w7 ho => ?_)
        have w8 := (ho 8 (by decide)).trans w8
        have w9 := (ho 9 (by decide)).trans w9
        have w7 : G[7]? = some (a 7, .inr (4, [.ref (a 8), .ref (a 9), .int (nI (sc)), .int ((sg + nI (1))), .int ((sr + nI (1))), .int (nI (sc))])) := w7
        have hk := gk_step hk ho (by decide)
        clear ho
        exact hret _ _ _ _ _ hP hD hS ⟨(by first | (have q9 : gJs (gJr true sr) ho (nI sc) ss = ss := gJs_1 c50; rw [q9]; exact w7) | (have q9 : gJs (gJr true sr) ho (nI sc) ss = ss := gJs_2 c58; rw [q9]; exact w7) | (have q9 : gJs (gJr true sr) ho (nI sc) ss = nI sc := gJs_3 c50 c58; rw [q9]; exact w7)), w9, hk⟩ dX4_judge_69
set_option maxHeartbeats 4000000 in
set_option maxRecDepth 100000 in
theorem k_X2_isEmpty {l : Launch} {D : va_G} {cI cZ : ClassId} {A : Nat → Prop} {g a : Nat → Nat} {G0 : va_W} {pn : Nat} {pX : Int64} {pY : Int64} {pXX : Int64} {pXY : Int64} (hD : va_D A G0) (w10 : G0[10]? = some (a 10, .inr (2, [.int (nI (pn)), .long (pX), .long (pY), .long (pXX), .long (pXY)]))) (hp : pn ≤ 30) : gMi l D cI cZ A g yX2_isEmpty wsX2_isEmpty ({ frames := 0, cells := 0, slots := 0, locals := 0 }) [.ref (a 10)] G0 (gB (decide (pn = 0))) (fun G1 => G1 = G0) := by
  refine gof_z (cc := cX2_isEmpty) (maxL := 1) (by decide) rfl (Nat.le_of_ble_eq_true rfl) hD ?_
  intro p e s m args below meth c Q hx hb hml hts hown hK hN hZ hP hS hret ls hl
  have hown : s.vm.findClass RX2 = some m.cls := hown
  have hl : lv_has ls 1 [(0, .ref (a 10))] := hl
  obtain ⟨locs, elocs⟩ : ∃ q : List Loc, q = [] := ⟨_, rfl⟩
  rw [← elocs] at hS ⊢
  obtain ⟨H, eH⟩ : ∃ q : Heap, q = s.heap := ⟨_, rfl⟩
  have hP : va_P D vwCl G0 H := eH ▸ hP
  have hS : va_S A s.heap H locs := by rw [eH]; exact hS
  rw [← eH]
  clear elocs eH
  have hiX2 : ∀ w ∈ u_ws RX2 TX2 5, w ∈ wsX2_isEmpty := by decide +kernel
  have hk : ∀ k, k ∉ ([] : List Nat) → G0[k]? = G0[k]? := fun _ _ => rfl
  refine lv_aload_n (pc := 0) hx hb dX2_isEmpty_0 rfl (lv_at hl 0 rfl) ?_
  refine va_get (ci := 2) (C := RX2) (T := TX2) (N := 5) (pc := 1) hx hb hts hiX2 hown hK hP 10 w10 rfl 0 (by decide) (hts (.fieldLink RX2 9 "InkPress$PastJobs" "count" "I") (by decide +kernel)) (fun _ h9 => h9) rfl dX2_isEmpty_1 ?_
  refine mx_nne (tgt := 11) (pc := 4) hx hb (by omega) dX2_isEmpty_4 (by decide) (fun c4 => ?_) (fun c4 => ?_)
  · skip
    refine lv_iconst (v := nI (0)) (pc := 11) hx hb dX2_isEmpty_11 (by decide) ?_
    exact hret _ _ _ _ _ _ hP hD hS rfl (by first | exact gDe_f c4 | exact gDe_t c4) rfl dX2_isEmpty_12
  · skip
    refine lv_iconst (v := nI (1)) (pc := 7) hx hb dX2_isEmpty_7 (by decide) ?_
    refine lv_goto (tgt := 12) (pc := 8) hx hb dX2_isEmpty_8 (by decide) ?_
    exact hret _ _ _ _ _ _ hP hD hS rfl (by first | exact gDe_f c4 | exact gDe_t c4) rfl dX2_isEmpty_12
set_option maxHeartbeats 4000000 in
set_option maxRecDepth 100000 in
theorem k_X2_isFull {l : Launch} {D : va_G} {cI cZ : ClassId} {A : Nat → Prop} {g a : Nat → Nat} {G0 : va_W} {pn : Nat} {pX : Int64} {pY : Int64} {pXX : Int64} {pXY : Int64} (hD : va_D A G0) (w10 : G0[10]? = some (a 10, .inr (2, [.int (nI (pn)), .long (pX), .long (pY), .long (pXX), .long (pXY)]))) (hp : pn ≤ 30) : gMi l D cI cZ A g yX2_isFull wsX2_isFull ({ frames := 0, cells := 0, slots := 0, locals := 0 }) [.ref (a 10)] G0 (gB (decide (30 ≤ pn))) (fun G1 => G1 = G0) := by
  refine gof_z (cc := cX2_isFull) (maxL := 1) (by decide) rfl (Nat.le_of_ble_eq_true rfl) hD ?_
  intro p e s m args below meth c Q hx hb hml hts hown hK hN hZ hP hS hret ls hl
  have hown : s.vm.findClass RX2 = some m.cls := hown
  have hl : lv_has ls 1 [(0, .ref (a 10))] := hl
  obtain ⟨locs, elocs⟩ : ∃ q : List Loc, q = [] := ⟨_, rfl⟩
  rw [← elocs] at hS ⊢
  obtain ⟨H, eH⟩ : ∃ q : Heap, q = s.heap := ⟨_, rfl⟩
  have hP : va_P D vwCl G0 H := eH ▸ hP
  have hS : va_S A s.heap H locs := by rw [eH]; exact hS
  rw [← eH]
  clear elocs eH
  have hiX2 : ∀ w ∈ u_ws RX2 TX2 5, w ∈ wsX2_isFull := by decide +kernel
  have hk : ∀ k, k ∉ ([] : List Nat) → G0[k]? = G0[k]? := fun _ _ => rfl
  refine lv_aload_n (pc := 0) hx hb dX2_isFull_0 rfl (lv_at hl 0 rfl) ?_
  refine va_get (ci := 2) (C := RX2) (T := TX2) (N := 5) (pc := 1) hx hb hts hiX2 hown hK hP 10 w10 rfl 0 (by decide) (hts (.fieldLink RX2 9 "InkPress$PastJobs" "count" "I") (by decide +kernel)) (fun _ h9 => h9) rfl dX2_isFull_1 ?_
  refine lv_bipush (v := nI (30)) (pc := 4) hx hb dX2_isFull_4 (by decide) ?_
  refine mx_clt (tgt := 13) (pc := 6) hx hb (by omega) (by omega) dX2_isFull_6 (by decide) (fun c6 => ?_) (fun c6 => ?_)
  · skip
    refine lv_iconst (v := nI (0)) (pc := 13) hx hb dX2_isFull_13 (by decide) ?_
    exact hret _ _ _ _ _ _ hP hD hS rfl (by first | exact gDe_f (Nat.not_le.mpr c6) | exact gDe_t c6) rfl dX2_isFull_14
  · skip
    refine lv_iconst (v := nI (1)) (pc := 9) hx hb dX2_isFull_9 (by decide) ?_
    refine lv_goto (tgt := 14) (pc := 10) hx hb dX2_isFull_10 (by decide) ?_
    exact hret _ _ _ _ _ _ hP hD hS rfl (by first | exact gDe_f (Nat.not_le.mpr c6) | exact gDe_t c6) rfl dX2_isFull_14
set_option maxHeartbeats 4000000 in
set_option maxRecDepth 100000 in
theorem k_X2_add {l : Launch} {D : va_G} {cI cZ : ClassId} {A : Nat → Prop} {g a : Nat → Nat} {G0 : va_W} {pn : Nat} {pX : Int64} {pY : Int64} {pXX : Int64} {pXY : Int64} {cv : Int32} {ky : Int32} (hD : va_D A G0) (w10 : G0[10]? = some (a 10, .inr (2, [.int (nI (pn)), .long (pX), .long (pY), .long (pXX), .long (pXY)]))) : gMi l D cI cZ A g yX2_add wsX2_add ({ frames := 0, cells := 0, slots := 0, locals := 0 }) [.ref (a 10), .int (cv), .int (ky)] G0 (nI (pn + 1)) (fun G1 => G1[10]? = some (a 10, .inr (2, [.int (nI (pn + 1)), .long ((pX + (cv).toInt64)), .long ((pY + (ky).toInt64)), .long ((pXX + ((cv * cv)).toInt64)), .long ((pXY + ((cv * ky)).toInt64))])) ∧ ∀ k, k ∉ [10] → G1[k]? = G0[k]?) := by
  refine gof_i (cc := cX2_add) (maxL := 3) (by decide) rfl (Nat.le_of_ble_eq_true rfl) hD ?_
  intro p e s m args below meth c Q hx hb hml hts hown hK hN hZ hP hS hret ls hl
  have hown : s.vm.findClass RX2 = some m.cls := hown
  have hl : lv_has ls 3 [(0, .ref (a 10)), (1, .int (cv)), (2, .int (ky))] := hl
  obtain ⟨locs, elocs⟩ : ∃ q : List Loc, q = [] := ⟨_, rfl⟩
  rw [← elocs] at hS ⊢
  obtain ⟨H, eH⟩ : ∃ q : Heap, q = s.heap := ⟨_, rfl⟩
  have hP : va_P D vwCl G0 H := eH ▸ hP
  have hS : va_S A s.heap H locs := by rw [eH]; exact hS
  rw [← eH]
  clear elocs eH
  have hiX2 : ∀ w ∈ u_ws RX2 TX2 5, w ∈ wsX2_add := by decide +kernel
  have hk : ∀ k, k ∉ [10] → G0[k]? = G0[k]? := fun _ _ => rfl
  refine lv_aload_n (pc := 0) hx hb dX2_add_0 rfl (lv_at hl 0 rfl) ?_
  refine lv_dup (pc := 1) hx hb dX2_add_1 rfl ?_
  refine va_get (ci := 2) (C := RX2) (T := TX2) (N := 5) (pc := 2) hx hb hts hiX2 hown hK hP 10 w10 rfl 0 (by decide) (hts (.fieldLink RX2 9 "InkPress$PastJobs" "count" "I") (by decide +kernel)) (fun _ h9 => h9) rfl dX2_add_2 ?_
  refine lv_iconst (v := nI (1)) (pc := 5) hx hb dX2_add_5 (by decide) ?_
  refine mx_iadd (pc := 6) hx hb dX2_add_6 ?_
  refine mx_put (ci := 2) (v := .int (nI (pn + 1))) (ty := .int) (C := RX2) (T := TX2) (N := 5) (pc := 7) hx hb hts hiX2 tyX2 tyX2_ok nmX2 hown hK hP hD hS 10 w10 rfl 0 (by decide) (hts (.fieldLink RX2 9 "InkPress$PastJobs" "count" "I") (by decide +kernel)) (fun _ h9 => h9) rfl (by decide +kernel) rfl rfl (Nat.le_of_ble_eq_true rfl) dX2_add_7 (fun H locs G hP hD hS w10 ho => ?_)
  have w10 : G[10]? = some (a 10, .inr (2, [.int (nI (pn + 1)), .long (pX), .long (pY), .long (pXX), .long (pXY)])) := w10
  have hk := gk_step hk ho (by decide)
  clear ho
  refine lv_aload_n (pc := 10) hx hb dX2_add_10 rfl (lv_at hl 0 rfl) ?_
  refine lv_dup (pc := 11) hx hb dX2_add_11 rfl ?_
  refine va_get (ci := 2) (C := RX2) (T := TX2) (N := 5) (pc := 12) hx hb hts hiX2 hown hK hP 10 w10 rfl 1 (by decide) (hts (.fieldLink RX2 15 "InkPress$PastJobs" "covers" "J") (by decide +kernel)) (fun _ h9 => h9) rfl dX2_add_12 ?_
  refine lv_iload_n (pc := 15) hx hb dX2_add_15 rfl (lv_at hl 1 rfl) ?_
  refine lv_i2l (v := (cv).toInt64) (pc := 16) hx hb dX2_add_16 rfl ?_
  refine lv_ladd (pc := 17) hx hb dX2_add_17 ?_
  refine mx_put (ci := 2) (v := .long ((pX + (cv).toInt64))) (ty := .long) (C := RX2) (T := TX2) (N := 5) (pc := 18) hx hb hts hiX2 tyX2 tyX2_ok nmX2 hown hK hP hD hS 10 w10 rfl 1 (by decide) (hts (.fieldLink RX2 15 "InkPress$PastJobs" "covers" "J") (by decide +kernel)) (fun _ h9 => h9) rfl (by decide +kernel) rfl rfl (Nat.le_of_ble_eq_true rfl) dX2_add_18 (fun H locs G hP hD hS w10 ho => ?_)
  have w10 : G[10]? = some (a 10, .inr (2, [.int (nI (pn + 1)), .long ((pX + (cv).toInt64)), .long (pY), .long (pXX), .long (pXY)])) := w10
  have hk := gk_step hk ho (by decide)
  clear ho
  refine lv_aload_n (pc := 21) hx hb dX2_add_21 rfl (lv_at hl 0 rfl) ?_
  refine lv_dup (pc := 22) hx hb dX2_add_22 rfl ?_
  refine va_get (ci := 2) (C := RX2) (T := TX2) (N := 5) (pc := 23) hx hb hts hiX2 hown hK hP 10 w10 rfl 2 (by decide) (hts (.fieldLink RX2 19 "InkPress$PastJobs" "keys" "J") (by decide +kernel)) (fun _ h9 => h9) rfl dX2_add_23 ?_
  refine lv_iload_n (pc := 26) hx hb dX2_add_26 rfl (lv_at hl 2 rfl) ?_
  refine lv_i2l (v := (ky).toInt64) (pc := 27) hx hb dX2_add_27 rfl ?_
  refine lv_ladd (pc := 28) hx hb dX2_add_28 ?_
  refine mx_put (ci := 2) (v := .long ((pY + (ky).toInt64))) (ty := .long) (C := RX2) (T := TX2) (N := 5) (pc := 29) hx hb hts hiX2 tyX2 tyX2_ok nmX2 hown hK hP hD hS 10 w10 rfl 2 (by decide) (hts (.fieldLink RX2 19 "InkPress$PastJobs" "keys" "J") (by decide +kernel)) (fun _ h9 => h9) rfl (by decide +kernel) rfl rfl (Nat.le_of_ble_eq_true rfl) dX2_add_29 (fun H locs G hP hD hS w10 ho => ?_)
  have w10 : G[10]? = some (a 10, .inr (2, [.int (nI (pn + 1)), .long ((pX + (cv).toInt64)), .long ((pY + (ky).toInt64)), .long (pXX), .long (pXY)])) := w10
  have hk := gk_step hk ho (by decide)
  clear ho
  refine lv_aload_n (pc := 32) hx hb dX2_add_32 rfl (lv_at hl 0 rfl) ?_
  refine lv_dup (pc := 33) hx hb dX2_add_33 rfl ?_
  refine va_get (ci := 2) (C := RX2) (T := TX2) (N := 5) (pc := 34) hx hb hts hiX2 hown hK hP 10 w10 rfl 3 (by decide) (hts (.fieldLink RX2 22 "InkPress$PastJobs" "coversSquared" "J") (by decide +kernel)) (fun _ h9 => h9) rfl dX2_add_34 ?_
  refine lv_iload_n (pc := 37) hx hb dX2_add_37 rfl (lv_at hl 1 rfl) ?_
  refine lv_iload_n (pc := 38) hx hb dX2_add_38 rfl (lv_at hl 1 rfl) ?_
  refine lv_imul (pc := 39) hx hb dX2_add_39 ?_
  refine lv_i2l (v := ((cv * cv)).toInt64) (pc := 40) hx hb dX2_add_40 rfl ?_
  refine lv_ladd (pc := 41) hx hb dX2_add_41 ?_
  refine mx_put (ci := 2) (v := .long ((pXX + ((cv * cv)).toInt64))) (ty := .long) (C := RX2) (T := TX2) (N := 5) (pc := 42) hx hb hts hiX2 tyX2 tyX2_ok nmX2 hown hK hP hD hS 10 w10 rfl 3 (by decide) (hts (.fieldLink RX2 22 "InkPress$PastJobs" "coversSquared" "J") (by decide +kernel)) (fun _ h9 => h9) rfl (by decide +kernel) rfl rfl (Nat.le_of_ble_eq_true rfl) dX2_add_42 (fun H locs G hP hD hS w10 ho => ?_)
  have w10 : G[10]? = some (a 10, .inr (2, [.int (nI (pn + 1)), .long ((pX + (cv).toInt64)), .long ((pY + (ky).toInt64)), .long ((pXX + ((cv * cv)).toInt64)), .long (pXY)])) := w10
  have hk := gk_step hk ho (by decide)
  clear ho
  refine lv_aload_n (pc := 45) hx hb dX2_add_45 rfl (lv_at hl 0 rfl) ?_
  refine lv_dup (pc := 46) hx hb dX2_add_46 rfl ?_
  refine va_get (ci := 2) (C := RX2) (T := TX2) (N := 5) (pc := 47) hx hb hts hiX2 hown hK hP 10 w10 rfl 4 (by decide) (hts (.fieldLink RX2 25 "InkPress$PastJobs" "coversByKeys" "J") (by decide +kernel)) (fun _ h9 => h9) rfl dX2_add_47 ?_
  refine lv_iload_n (pc := 50) hx hb dX2_add_50 rfl (lv_at hl 1 rfl) ?_
  refine lv_iload_n (pc := 51) hx hb dX2_add_51 rfl (lv_at hl 2 rfl) ?_
  refine lv_imul (pc := 52) hx hb dX2_add_52 ?_
  refine lv_i2l (v := ((cv * ky)).toInt64) (pc := 53) hx hb dX2_add_53 rfl ?_
  refine lv_ladd (pc := 54) hx hb dX2_add_54 ?_
  refine mx_put (ci := 2) (v := .long ((pXY + ((cv * ky)).toInt64))) (ty := .long) (C := RX2) (T := TX2) (N := 5) (pc := 55) hx hb hts hiX2 tyX2 tyX2_ok nmX2 hown hK hP hD hS 10 w10 rfl 4 (by decide) (hts (.fieldLink RX2 25 "InkPress$PastJobs" "coversByKeys" "J") (by decide +kernel)) (fun _ h9 => h9) rfl (by decide +kernel) rfl rfl (Nat.le_of_ble_eq_true rfl) dX2_add_55 (fun H locs G hP hD hS w10 ho => ?_)
  have w10 : G[10]? = some (a 10, .inr (2, [.int (nI (pn + 1)), .long ((pX + (cv).toInt64)), .long ((pY + (ky).toInt64)), .long ((pXX + ((cv * cv)).toInt64)), .long ((pXY + ((cv * ky)).toInt64))])) := w10
  have hk := gk_step hk ho (by decide)
  clear ho
  refine lv_aload_n (pc := 58) hx hb dX2_add_58 rfl (lv_at hl 0 rfl) ?_
  refine va_get (ci := 2) (C := RX2) (T := TX2) (N := 5) (pc := 59) hx hb hts hiX2 hown hK hP 10 w10 rfl 0 (by decide) (hts (.fieldLink RX2 9 "InkPress$PastJobs" "count" "I") (by decide +kernel)) (fun _ h9 => h9) rfl dX2_add_59 ?_
  exact hret _ _ _ _ _ _ hP hD hS rfl ⟨w10, hk⟩ dX2_add_62
set_option maxHeartbeats 4000000 in
set_option maxRecDepth 100000 in
theorem k_X2_keyFor {l : Launch} {D : va_G} {cI cZ : ClassId} {A : Nat → Prop} {g a : Nat → Nat} {G0 : va_W} {pn : Nat} {pX : Int64} {pY : Int64} {pXX : Int64} {pXY : Int64} {cv : Int32} (hD : va_D A G0) (w10 : G0[10]? = some (a 10, .inr (2, [.int (nI (pn)), .long (pX), .long (pY), .long (pXX), .long (pXY)]))) (hp : pn ≤ 30) : gMi l D cI cZ A g yX2_keyFor wsX2_keyFor ({ frames := 2, cells := 0, slots := 0, locals := 40 }) [.ref (a 10), .int (cv)] G0 (gKey pn pX pY pXX pXY cv) (fun G1 => G1 = G0) := by
  refine gof_i (cc := cX2_keyFor) (maxL := 8) (by decide) rfl (Nat.le_of_ble_eq_true rfl) hD ?_
  intro p e s m args below meth c Q hx hb hml hts hown hK hN hZ hP hS hret ls hl
  have hown : s.vm.findClass RX2 = some m.cls := hown
  have hl : lv_has ls 8 [(0, .ref (a 10)), (1, .int (cv))] := hl
  obtain ⟨locs, elocs⟩ : ∃ q : List Loc, q = [] := ⟨_, rfl⟩
  rw [← elocs] at hS ⊢
  obtain ⟨H, eH⟩ : ∃ q : Heap, q = s.heap := ⟨_, rfl⟩
  have hP : va_P D vwCl G0 H := eH ▸ hP
  have hS : va_S A s.heap H locs := by rw [eH]; exact hS
  rw [← eH]
  clear elocs eH
  have hiX2 : ∀ w ∈ u_ws RX2 TX2 5, w ∈ wsX2_keyFor := by decide +kernel
  have hk : ∀ k, k ∉ ([] : List Nat) → G0[k]? = G0[k]? := fun _ _ => rfl
  refine lv_aload_n (pc := 0) hx hb dX2_keyFor_0 rfl (lv_at hl 0 rfl) ?_
  refine va_get (ci := 2) (C := RX2) (T := TX2) (N := 5) (pc := 1) hx hb hts hiX2 hown hK hP 10 w10 rfl 0 (by decide) (hts (.fieldLink RX2 9 "InkPress$PastJobs" "count" "I") (by decide +kernel)) (fun _ h9 => h9) rfl dX2_keyFor_1 ?_
  refine lv_i2l (v := (nI (pn)).toInt64) (pc := 4) hx hb dX2_keyFor_4 rfl ?_
  refine lv_aload_n (pc := 5) hx hb dX2_keyFor_5 rfl (lv_at hl 0 rfl) ?_
  refine va_get (ci := 2) (C := RX2) (T := TX2) (N := 5) (pc := 6) hx hb hts hiX2 hown hK hP 10 w10 rfl 3 (by decide) (hts (.fieldLink RX2 22 "InkPress$PastJobs" "coversSquared" "J") (by decide +kernel)) (fun _ h9 => h9) rfl dX2_keyFor_6 ?_
  refine lv_lmul (pc := 9) hx hb dX2_keyFor_9 ?_
  refine lv_aload_n (pc := 10) hx hb dX2_keyFor_10 rfl (lv_at hl 0 rfl) ?_
  refine va_get (ci := 2) (C := RX2) (T := TX2) (N := 5) (pc := 11) hx hb hts hiX2 hown hK hP 10 w10 rfl 1 (by decide) (hts (.fieldLink RX2 15 "InkPress$PastJobs" "covers" "J") (by decide +kernel)) (fun _ h9 => h9) rfl dX2_keyFor_11 ?_
  refine lv_aload_n (pc := 14) hx hb dX2_keyFor_14 rfl (lv_at hl 0 rfl) ?_
  refine va_get (ci := 2) (C := RX2) (T := TX2) (N := 5) (pc := 15) hx hb hts hiX2 hown hK hP 10 w10 rfl 1 (by decide) (hts (.fieldLink RX2 15 "InkPress$PastJobs" "covers" "J") (by decide +kernel)) (fun _ h9 => h9) rfl dX2_keyFor_15 ?_
  refine lv_lmul (pc := 18) hx hb dX2_keyFor_18 ?_
  refine lv_lsub (pc := 19) hx hb dX2_keyFor_19 ?_
  refine lv_lstore_n (lv' := [(2, .long ((((nI (pn)).toInt64 * pXX) - (pX * pX)))), (0, .ref (a 10)), (1, .int (cv))]) (pc := 20) hx hb dX2_keyFor_20 rfl hl (by decide) rfl (fun ls hl => ?_)
  refine lv_lload_n (pc := 21) hx hb dX2_keyFor_21 rfl (lv_at hl 0 rfl) ?_
  refine lv_lconst (v := 0) (pc := 22) hx hb dX2_keyFor_22 (by decide) ?_
  refine W.lcmp (pc := 23) hx hb dX2_keyFor_23 ?_
  refine lv_if_eq (tgt := 87) (pc := 24) hx hb dX2_keyFor_24 (by decide) (fun c24 => ?_) (fun c24 => ?_)
  · skip
    have c24 := lg_eq.mp c24
    refine lv_aload_n (pc := 87) hx hb dX2_keyFor_87 rfl (lv_at hl 1 rfl) ?_
    refine va_get (ci := 2) (C := RX2) (T := TX2) (N := 5) (pc := 88) hx hb hts hiX2 hown hK hP 10 w10 rfl 0 (by decide) (hts (.fieldLink RX2 9 "InkPress$PastJobs" "count" "I") (by decide +kernel)) (fun _ h9 => h9) rfl dX2_keyFor_88 ?_
    refine mx_nle (tgt := 108) (pc := 91) hx hb (by omega) dX2_keyFor_91 (by decide) (fun c91 => ?_) (fun c91 => ?_)
    · skip
      refine lv_iconst (v := nI (0)) (pc := 108) hx hb dX2_keyFor_108 (by decide) ?_
      exact hret _ _ _ _ _ _ hP hD hS (by first | exact (gKey_n c24).symm | exact (gKey_0 c24 c91).symm | exact (gKey_z c24 c91).symm) rfl dX2_keyFor_109
    · skip
      refine lv_aload_n (pc := 94) hx hb dX2_keyFor_94 rfl (lv_at hl 1 rfl) ?_
      refine va_get (ci := 2) (C := RX2) (T := TX2) (N := 5) (pc := 95) hx hb hts hiX2 hown hK hP 10 w10 rfl 2 (by decide) (hts (.fieldLink RX2 19 "InkPress$PastJobs" "keys" "J") (by decide +kernel)) (fun _ h9 => h9) rfl dX2_keyFor_95 ?_
      refine lv_aload_n (pc := 98) hx hb dX2_keyFor_98 rfl (lv_at hl 1 rfl) ?_
      refine va_get (ci := 2) (C := RX2) (T := TX2) (N := 5) (pc := 99) hx hb hts hiX2 hown hK hP 10 w10 rfl 0 (by decide) (hts (.fieldLink RX2 9 "InkPress$PastJobs" "count" "I") (by decide +kernel)) (fun _ h9 => h9) rfl dX2_keyFor_99 ?_
      refine lv_i2l (v := (nI (pn)).toInt64) (pc := 102) hx hb dX2_keyFor_102 rfl ?_
      refine lv_ldiv (pc := 103) hx hb dX2_keyFor_103 (gL_ne (gNI_pos c91 (by omega))) ?_
      refine lv_l2i (v := ((pY / (nI (pn)).toInt64)).toInt32) (pc := 104) hx hb dX2_keyFor_104 rfl ?_
      refine lv_goto (tgt := 109) (pc := 105) hx hb dX2_keyFor_105 (by decide) ?_
      exact hret _ _ _ _ _ _ hP hD hS (by first | exact (gKey_n c24).symm | exact (gKey_0 c24 c91).symm | exact (gKey_z c24 c91).symm) rfl dX2_keyFor_109
  · skip
    have c24 := fun z => c24 (lg_eq.mpr z)
    refine lv_aload_n (pc := 27) hx hb dX2_keyFor_27 rfl (lv_at hl 1 rfl) ?_
    refine va_get (ci := 2) (C := RX2) (T := TX2) (N := 5) (pc := 28) hx hb hts hiX2 hown hK hP 10 w10 rfl 2 (by decide) (hts (.fieldLink RX2 19 "InkPress$PastJobs" "keys" "J") (by decide +kernel)) (fun _ h9 => h9) rfl dX2_keyFor_28 ?_
    refine lv_aload_n (pc := 31) hx hb dX2_keyFor_31 rfl (lv_at hl 1 rfl) ?_
    refine va_get (ci := 2) (C := RX2) (T := TX2) (N := 5) (pc := 32) hx hb hts hiX2 hown hK hP 10 w10 rfl 3 (by decide) (hts (.fieldLink RX2 22 "InkPress$PastJobs" "coversSquared" "J") (by decide +kernel)) (fun _ h9 => h9) rfl dX2_keyFor_32 ?_
    refine lv_lmul (pc := 35) hx hb dX2_keyFor_35 ?_
    refine lv_aload_n (pc := 36) hx hb dX2_keyFor_36 rfl (lv_at hl 1 rfl) ?_
    refine va_get (ci := 2) (C := RX2) (T := TX2) (N := 5) (pc := 37) hx hb hts hiX2 hown hK hP 10 w10 rfl 1 (by decide) (hts (.fieldLink RX2 15 "InkPress$PastJobs" "covers" "J") (by decide +kernel)) (fun _ h9 => h9) rfl dX2_keyFor_37 ?_
    refine lv_aload_n (pc := 40) hx hb dX2_keyFor_40 rfl (lv_at hl 1 rfl) ?_
    refine va_get (ci := 2) (C := RX2) (T := TX2) (N := 5) (pc := 41) hx hb hts hiX2 hown hK hP 10 w10 rfl 4 (by decide) (hts (.fieldLink RX2 25 "InkPress$PastJobs" "coversByKeys" "J") (by decide +kernel)) (fun _ h9 => h9) rfl dX2_keyFor_41 ?_
    refine lv_lmul (pc := 44) hx hb dX2_keyFor_44 ?_
    refine lv_lsub (pc := 45) hx hb dX2_keyFor_45 ?_
    refine lv_lstore (lv' := [(4, .long (((pY * pXX) - (pX * pXY)))), (2, .long ((((nI (pn)).toInt64 * pXX) - (pX * pX)))), (0, .ref (a 10)), (1, .int (cv))]) (pc := 46) hx hb dX2_keyFor_46 hl (by decide) rfl (fun ls hl => ?_)
    refine lv_aload_n (pc := 48) hx hb dX2_keyFor_48 rfl (lv_at hl 2 rfl) ?_
    refine va_get (ci := 2) (C := RX2) (T := TX2) (N := 5) (pc := 49) hx hb hts hiX2 hown hK hP 10 w10 rfl 0 (by decide) (hts (.fieldLink RX2 9 "InkPress$PastJobs" "count" "I") (by decide +kernel)) (fun _ h9 => h9) rfl dX2_keyFor_49 ?_
    refine lv_i2l (v := (nI (pn)).toInt64) (pc := 52) hx hb dX2_keyFor_52 rfl ?_
    refine lv_aload_n (pc := 53) hx hb dX2_keyFor_53 rfl (lv_at hl 2 rfl) ?_
    refine va_get (ci := 2) (C := RX2) (T := TX2) (N := 5) (pc := 54) hx hb hts hiX2 hown hK hP 10 w10 rfl 4 (by decide) (hts (.fieldLink RX2 25 "InkPress$PastJobs" "coversByKeys" "J") (by decide +kernel)) (fun _ h9 => h9) rfl dX2_keyFor_54 ?_
    refine lv_lmul (pc := 57) hx hb dX2_keyFor_57 ?_
    refine lv_aload_n (pc := 58) hx hb dX2_keyFor_58 rfl (lv_at hl 2 rfl) ?_
    refine va_get (ci := 2) (C := RX2) (T := TX2) (N := 5) (pc := 59) hx hb hts hiX2 hown hK hP 10 w10 rfl 1 (by decide) (hts (.fieldLink RX2 15 "InkPress$PastJobs" "covers" "J") (by decide +kernel)) (fun _ h9 => h9) rfl dX2_keyFor_59 ?_
    refine lv_aload_n (pc := 62) hx hb dX2_keyFor_62 rfl (lv_at hl 2 rfl) ?_
    refine va_get (ci := 2) (C := RX2) (T := TX2) (N := 5) (pc := 63) hx hb hts hiX2 hown hK hP 10 w10 rfl 2 (by decide) (hts (.fieldLink RX2 19 "InkPress$PastJobs" "keys" "J") (by decide +kernel)) (fun _ h9 => h9) rfl dX2_keyFor_63 ?_
    refine lv_lmul (pc := 66) hx hb dX2_keyFor_66 ?_
    refine lv_lsub (pc := 67) hx hb dX2_keyFor_67 ?_
    refine lv_lstore (lv' := [(6, .long ((((nI (pn)).toInt64 * pXY) - (pX * pY)))), (4, .long (((pY * pXX) - (pX * pXY)))), (2, .long ((((nI (pn)).toInt64 * pXX) - (pX * pX)))), (0, .ref (a 10)), (1, .int (cv))]) (pc := 68) hx hb dX2_keyFor_68 hl (by decide) rfl (fun ls hl => ?_)
    refine lv_lload (pc := 70) hx hb dX2_keyFor_70 (lv_at hl 1 rfl) ?_
    refine lv_iload_n (pc := 72) hx hb dX2_keyFor_72 rfl (lv_at hl 4 rfl) ?_
    refine lv_i2l (v := (cv).toInt64) (pc := 73) hx hb dX2_keyFor_73 rfl ?_
    refine lv_lload (pc := 74) hx hb dX2_keyFor_74 (lv_at hl 0 rfl) ?_
    refine lv_lmul (pc := 76) hx hb dX2_keyFor_76 ?_
    refine lv_ladd (pc := 77) hx hb dX2_keyFor_77 ?_
    refine lv_lload_n (pc := 78) hx hb dX2_keyFor_78 rfl (lv_at hl 2 rfl) ?_
    refine lv_ldiv (pc := 79) hx hb dX2_keyFor_79 c24 ?_
    refine lv_iconst (v := nI (0)) (pc := 80) hx hb dX2_keyFor_80 (by decide) ?_
    refine lv_bipush (v := nI (100)) (pc := 81) hx hb dX2_keyFor_81 (by decide) ?_
    refine mx_cNi (As := [.long (((((pY * pXX) - (pX * pXY)) + ((cv).toInt64 * (((nI (pn)).toInt64 * pXY) - (pX * pY)))) / (((nI (pn)).toInt64 * pXX) - (pX * pX)))), .int (nI (0)), .int (nI (100))]) (rest := []) (pc := 83) ⟨hx, hb, hml, hown, hts⟩ (k_X7_held (a := a) (v := ((((pY * pXX) - (pX * pXY)) + ((cv).toInt64 * (((nI (pn)).toInt64 * pXY) - (pX * pY)))) / (((nI (pn)).toInt64 * pXX) - (pX * pX)))) (lo := nI (0)) (hi := nI (100)) hD  ) ⟨va_cnB (host := "InkPress") 3 hts gX2_keyFor_X7_held_n28 rfl rfl rfl (hN (.methodLinkNest "InkPress$PastJobs" 28 ⟨"InkPress", "held", "(JII)I"⟩ "InkPress") (by decide +kernel)) (hts (.initialized RX7) (by decide +kernel)) (by decide +kernel) ⟨Nat.le_of_ble_eq_true rfl, Nat.le_of_ble_eq_true rfl⟩, hts (.static yX7_held) (by decide +kernel), trivial⟩ hK hN hZ hP hS rfl hl.1 rfl (Nat.le_of_ble_eq_true rfl) dX2_keyFor_83 ⟨Nat.zero_le _, Nat.zero_le _⟩ (fun G' H locs hP hD hS hB => ?_)
    rw [hB] at hP hD
    clear hB G'
    exact hret _ _ _ _ _ _ hP hD hS (by first | exact (gKey_n c24).symm | exact (gKey_0 c24 c91).symm | exact (gKey_z c24 c91).symm) rfl dX2_keyFor_86
