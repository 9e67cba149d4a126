/-! the train of rollers -/
theorem gUpdB (f : Nat → Bool) (k : Nat) (b : Bool) : upd (fun j => gB (f j)) k (gB b) = fun j => gB (vf_upd f k b j) := by
  funext j
  by_cases h : j = k <;> simp [upd, vf_upd, h]
def gOn : Nat → Nat → Int32 → (Nat → Int32) → Int32
  | 0, _, acc, _ => acc
  | k + 1, i, acc, f => gOn k (i + 1) (acc + f i) f
def gClr : Nat → Nat → (Nat → Int32) → Nat → Int32
  | 0, _, f => f
  | k + 1, i, f => gClr k (i + 1) (upd f i (nI 0))
/-- what of place k goes on to place k + 8 -/
def gP1 (q : Int32) (r z : Nat) (ink : Nat → Int32) : Nat → Int32 :=
  upd (upd ink (r * 8 + z) (ink (r * 8 + z) - gShare (ink (r * 8 + z)) q (nI 100))) (r * 8 + z + 8) ((upd ink (r * 8 + z) (ink (r * 8 + z) - gShare (ink (r * 8 + z)) q (nI 100))) (r * 8 + z + 8) + gShare (ink (r * 8 + z)) q (nI 100))
def gPz (q : Int32) (r : Nat) : Nat → Nat → (Nat → Int32) → Nat → Int32
  | 0, _, f => f
  | k + 1, z, f => gPz q r k (z + 1) (gP1 q r z f)
def gPr (q : Int32) (tz : Nat) : Nat → Nat → (Nat → Int32) → Nat → Int32
  | 0, _, f => f
  | k + 1, r, f => gPr q tz k (r + 1) (gPz q r tz 0 f)
def gD1 (q : Int32) (b z : Nat) (ink : Nat → Int32) (left : Int32) : Nat → Int32 :=
  upd (upd ink (b + z - 1) (ink (b + z - 1) + (gShare (ink (b + z)) q (nI 200) - left))) (b + z) ((upd ink (b + z - 1) (ink (b + z - 1) + (gShare (ink (b + z)) q (nI 200) - left))) (b + z) + (left - gShare (ink (b + z)) q (nI 200)))
def gDz (q : Int32) (b : Nat) : Nat → Nat → (Nat → Int32) → Int32 → Nat → Int32
  | 0, _, f, _ => f
  | k + 1, z, f, left => gDz q b k (z + 1) (gD1 q b z f left) (gShare (f (b + z)) q (nI 200))
def gDr (q : Int32) (tz : Nat) : Nat → Nat → (Nat → Int32) → Nat → Int32
  | 0, _, f => f
  | k + 1, r, f => gDr q tz k (r + 1) (gDz q (r * 8) (tz - 1) 1 f (gShare (f (r * 8)) q (nI 200)))
def gBar (tr z : Nat) (ink : Nat → Int32) : Int32 := ink ((tr - 1) * 8 + z) / nI 100
def gPap (tr z : Nat) (q cv : Int32) (ink : Nat → Int32) : Int32 := gShare (ink ((tr - 1) * 8 + z)) (q * cv) (nI 10000)
def gTk (tr z : Nat) (q cv : Int32) (ink : Nat → Int32) : Nat → Int32 := upd ink ((tr - 1) * 8 + z) (ink ((tr - 1) * 8 + z) - (gPap tr z q cv ink + gBar tr z ink))
set_option maxHeartbeats 4000000 in
set_option maxRecDepth 100000 in
theorem k_X5_has {l : Launch} {D : va_G} {cI cZ : ClassId} {A : Nat → Prop} {g a : Nat → Nat} {G0 : va_W} {ink : Nat → Int32} {tz : Nat} {tr : Nat} {fed : Int32} {pap : Int32} {bar : Int32} {x : Int32} (hD : va_D A G0) (w5 : G0[5]? = some (a 5, .inr (5, [.ref (a 6), .int (nI (tz)), .int (nI (tr)), .int (fed), .int (pap), .int (bar)]))) (w6 : G0[6]? = some (a 6, .inl (cI, 40, .inl (ink)))) : gMi l D cI cZ A g yX5_has wsX5_has ({ frames := 0, cells := 0, slots := 0, locals := 0 }) [.ref (a 5), .int (x)] G0 (gB (gHas x (nI tr))) (fun G1 => G1 = G0) := by
  refine gof_z (cc := cX5_has) (maxL := 2) (by decide) rfl (Nat.le_of_ble_eq_true rfl) hD ?_
  intro p e s m args below meth c Q hx hb hml hts hown hK hN hZ hP hS hret ls hl
  have hown : s.vm.findClass RX5 = some m.cls := hown
  have hl : lv_has ls 2 [(0, .ref (a 5)), (1, .int (x))] := hl
  obtain ⟨locs, elocs⟩ : ∃ q : List Loc, q = [] := ⟨_, rfl⟩
  rw [← elocs] at hS ⊢
  obtain ⟨H, eH⟩ : ∃ q : Heap, q = s.heap := ⟨_, rfl⟩
  have hP : va_P D vwCl G0 H := eH ▸ hP
  have hS : va_S A s.heap H locs := by rw [eH]; exact hS
  rw [← eH]
  clear elocs eH
  have hiX5 : ∀ w ∈ u_ws RX5 TX5 6, w ∈ wsX5_has := by decide +kernel
  have hk : ∀ k, k ∉ ([] : List Nat) → G0[k]? = G0[k]? := fun _ _ => rfl
  refine lv_iload_n (pc := 0) hx hb dX5_has_0 rfl (lv_at hl 1 rfl) ?_
  refine lv_if_lt (tgt := 16) (pc := 1) hx hb dX5_has_1 (by decide) (fun c1 => ?_) (fun c1 => ?_)
  · skip
    refine lv_iconst (v := nI (0)) (pc := 16) hx hb dX5_has_16 (by decide) ?_
    exact hret _ _ _ _ _ _ hP hD hS rfl (by first | exact gHas_lt c1 | exact gHas_ge c9 | exact gHas_in c1 c9) rfl dX5_has_17
  · skip
    refine lv_iload_n (pc := 4) hx hb dX5_has_4 rfl (lv_at hl 1 rfl) ?_
    refine lv_aload_n (pc := 5) hx hb dX5_has_5 rfl (lv_at hl 0 rfl) ?_
    refine va_get (ci := 5) (C := RX5) (T := TX5) (N := 6) (pc := 6) hx hb hts hiX5 hown hK hP 5 w5 rfl 2 (by decide) (hts (.fieldLink RX5 23 "InkPress$Train" "rollers" "I") (by decide +kernel)) (fun _ h9 => h9) rfl dX5_has_6 ?_
    refine lv_icmp_ge (tgt := 16) (pc := 9) hx hb dX5_has_9 (by decide) (fun c9 => ?_) (fun c9 => ?_)
    · skip
      refine lv_iconst (v := nI (0)) (pc := 16) hx hb dX5_has_16 (by decide) ?_
      exact hret _ _ _ _ _ _ hP hD hS rfl (by first | exact gHas_lt c1 | exact gHas_ge c9 | exact gHas_in c1 c9) rfl dX5_has_17
    · skip
      refine lv_iconst (v := nI (1)) (pc := 12) hx hb dX5_has_12 (by decide) ?_
      refine lv_goto (tgt := 17) (pc := 13) hx hb dX5_has_13 (by decide) ?_
      exact hret _ _ _ _ _ _ hP hD hS rfl (by first | exact gHas_lt c1 | exact gHas_ge c9 | exact gHas_in c1 c9) rfl dX5_has_17
set_option maxHeartbeats 4000000 in
set_option maxRecDepth 100000 in
theorem k_X5_inkAt {l : Launch} {D : va_G} {cI cZ : ClassId} {A : Nat → Prop} {g a : Nat → Nat} {G0 : va_W} {ink : Nat → Int32} {tz : Nat} {tr : Nat} {fed : Int32} {pap : Int32} {bar : Int32} {r : Nat} {z : Nat} (hD : va_D A G0) (w5 : G0[5]? = some (a 5, .inr (5, [.ref (a 6), .int (nI (tz)), .int (nI (tr)), .int (fed), .int (pap), .int (bar)]))) (w6 : G0[6]? = some (a 6, .inl (cI, 40, .inl (ink)))) (hr : r < 5) (hz : z < 8) : gMi l D cI cZ A g yX5_inkAt wsX5_inkAt ({ frames := 0, cells := 0, slots := 0, locals := 0 }) [.ref (a 5), .int (nI (r)), .int (nI (z))] G0 (ink (r * 8 + z)) (fun G1 => G1 = G0) := by
  refine gof_i (cc := cX5_inkAt) (maxL := 3) (by decide) rfl (Nat.le_of_ble_eq_true rfl) hD ?_
  intro p e s m args below meth c Q hx hb hml hts hown hK hN hZ hP hS hret ls hl
  have hown : s.vm.findClass RX5 = some m.cls := hown
  have hl : lv_has ls 3 [(0, .ref (a 5)), (1, .int (nI (r))), (2, .int (nI (z)))] := hl
  obtain ⟨locs, elocs⟩ : ∃ q : List Loc, q = [] := ⟨_, rfl⟩
  rw [← elocs] at hS ⊢
  obtain ⟨H, eH⟩ : ∃ q : Heap, q = s.heap := ⟨_, rfl⟩
  have hP : va_P D vwCl G0 H := eH ▸ hP
  have hS : va_S A s.heap H locs := by rw [eH]; exact hS
  rw [← eH]
  clear elocs eH
  have hiX5 : ∀ w ∈ u_ws RX5 TX5 6, w ∈ wsX5_inkAt := by decide +kernel
  have hk : ∀ k, k ∉ ([] : List Nat) → G0[k]? = G0[k]? := fun _ _ => rfl
  refine lv_aload_n (pc := 0) hx hb dX5_inkAt_0 rfl (lv_at hl 0 rfl) ?_
  refine va_get (ci := 5) (C := RX5) (T := TX5) (N := 6) (pc := 1) hx hb hts hiX5 hown hK hP 5 w5 rfl 0 (by decide) (hts (.fieldLink RX5 9 "InkPress$Train" "ink" "[I") (by decide +kernel)) (fun _ h9 => h9) rfl dX5_inkAt_1 ?_
  refine lv_iload_n (pc := 4) hx hb dX5_inkAt_4 rfl (lv_at hl 1 rfl) ?_
  refine lv_bipush (v := nI (8)) (pc := 5) hx hb dX5_inkAt_5 (by decide) ?_
  refine mx_imul (pc := 7) hx hb dX5_inkAt_7 ?_
  refine lv_iload_n (pc := 8) hx hb dX5_inkAt_8 rfl (lv_at hl 2 rfl) ?_
  refine mx_iadd (pc := 9) hx hb dX5_inkAt_9 ?_
  refine mx_iald (pc := 10) hx hb hK hP 6 w6 ((r) * (8) + z) (by omega) (by decide) dX5_inkAt_10 ?_
  exact hret _ _ _ _ _ _ hP hD hS rfl rfl dX5_inkAt_11
set_option maxHeartbeats 4000000 in
set_option maxRecDepth 100000 in
theorem k_X5_feedZone {l : Launch} {D : va_G} {cI cZ : ClassId} {A : Nat → Prop} {g a : Nat → Nat} {G0 : va_W} {ink : Nat → Int32} {tz : Nat} {tr : Nat} {fed : Int32} {pap : Int32} {bar : Int32} {z : Nat} {x : Int32} (hD : va_D A G0) (w5 : G0[5]? = some (a 5, .inr (5, [.ref (a 6), .int (nI (tz)), .int (nI (tr)), .int (fed), .int (pap), .int (bar)]))) (w6 : G0[6]? = some (a 6, .inl (cI, 40, .inl (ink)))) (hz : z < 8) : gMv l D cI cZ A g yX5_feedZone wsX5_feedZone ({ frames := 0, cells := 0, slots := 0, locals := 0 }) [.ref (a 5), .int (nI (z)), .int (x)] G0 (fun G1 => G1[5]? = some (a 5, .inr (5, [.ref (a 6), .int (nI (tz)), .int (nI (tr)), .int (fed + x), .int (pap), .int (bar)])) ∧ G1[6]? = some (a 6, .inl (cI, 40, .inl (upd ink z (ink z + x)))) ∧ ∀ k, k ∉ [5, 6] → G1[k]? = G0[k]?) := by
  refine gof_v (cc := cX5_feedZone) (maxL := 3) (by decide) rfl (Nat.le_of_ble_eq_true rfl) hD ?_
  intro p e s m args below meth c Q hx hb hml hts hown hK hN hZ hP hS hret ls hl
  have hown : s.vm.findClass RX5 = some m.cls := hown
  have hl : lv_has ls 3 [(0, .ref (a 5)), (1, .int (nI (z))), (2, .int (x))] := hl
  obtain ⟨locs, elocs⟩ : ∃ q : List Loc, q = [] := ⟨_, rfl⟩
  rw [← elocs] at hS ⊢
  obtain ⟨H, eH⟩ : ∃ q : Heap, q = s.heap := ⟨_, rfl⟩
  have hP : va_P D vwCl G0 H := eH ▸ hP
  have hS : va_S A s.heap H locs := by rw [eH]; exact hS
  rw [← eH]
  clear elocs eH
  have hiX5 : ∀ w ∈ u_ws RX5 TX5 6, w ∈ wsX5_feedZone := by decide +kernel
  have hk : ∀ k, k ∉ [5, 6] → G0[k]? = G0[k]? := fun _ _ => rfl
  refine lv_aload_n (pc := 0) hx hb dX5_feedZone_0 rfl (lv_at hl 0 rfl) ?_
  refine va_get (ci := 5) (C := RX5) (T := TX5) (N := 6) (pc := 1) hx hb hts hiX5 hown hK hP 5 w5 rfl 0 (by decide) (hts (.fieldLink RX5 9 "InkPress$Train" "ink" "[I") (by decide +kernel)) (fun _ h9 => h9) rfl dX5_feedZone_1 ?_
  refine lv_iload_n (pc := 4) hx hb dX5_feedZone_4 rfl (lv_at hl 1 rfl) ?_
  refine lv_dup2_11 (pc := 5) hx hb dX5_feedZone_5 rfl rfl ?_
  refine mx_iald (pc := 6) hx hb hK hP 6 w6 (z) (by omega) (by decide) dX5_feedZone_6 ?_
  refine lv_iload_n (pc := 7) hx hb dX5_feedZone_7 rfl (lv_at hl 2 rfl) ?_
  refine lv_iadd (pc := 8) hx hb dX5_feedZone_8 ?_
  refine mx_iast (x := ((ink) (z) + x)) (pc := 9) hx hb hK hP hD hS 6 w6 (z) (by omega) (by decide) dX5_feedZone_9 (fun H locs G hP hD hS w6 ho => ?_)
  have w5 := (ho 5 (by decide)).trans w5
  have w6 : G[6]? = some (a 6, .inl (cI, 40, .inl (upd (ink) (z) (((ink) (z) + x))))) := w6
  have hk := gk_step hk ho (by decide)
  clear ho
  refine lv_aload_n (pc := 10) hx hb dX5_feedZone_10 rfl (lv_at hl 0 rfl) ?_
  refine lv_dup (pc := 11) hx hb dX5_feedZone_11 rfl ?_
  refine va_get (ci := 5) (C := RX5) (T := TX5) (N := 6) (pc := 12) hx hb hts hiX5 hown hK hP 5 w5 rfl 3 (by decide) (hts (.fieldLink RX5 26 "InkPress$Train" "fed" "I") (by decide +kernel)) (fun _ h9 => h9) rfl dX5_feedZone_12 ?_
  refine lv_iload_n (pc := 15) hx hb dX5_feedZone_15 rfl (lv_at hl 2 rfl) ?_
  refine lv_iadd (pc := 16) hx hb dX5_feedZone_16 ?_
  refine mx_put (ci := 5) (v := .int ((fed + x))) (ty := .int) (C := RX5) (T := TX5) (N := 6) (pc := 17) hx hb hts hiX5 tyX5 tyX5_ok nmX5 hown hK hP hD hS 5 w5 rfl 3 (by decide) (hts (.fieldLink RX5 26 "InkPress$Train" "fed" "I") (by decide +kernel)) (fun _ h9 => h9) rfl (by decide +kernel) rfl rfl (Nat.le_of_ble_eq_true rfl) dX5_feedZone_17 (fun H locs G hP hD hS w5 ho => ?_)
  have w6 := (ho 6 (by decide)).trans w6
  have w5 : G[5]? = some (a 5, .inr (5, [.ref (a 6), .int (nI (tz)), .int (nI (tr)), .int ((fed + x)), .int (pap), .int (bar)])) := w5
  have hk := gk_step hk ho (by decide)
  clear ho
  exact hret _ _ _ _ _ hP hD hS ⟨w5, w6, hk⟩ dX5_feedZone_20
set_option maxHeartbeats 4000000 in
set_option maxRecDepth 100000 in
theorem k_X5_takeOff {l : Launch} {D : va_G} {cI cZ : ClassId} {A : Nat → Prop} {g a : Nat → Nat} {G0 : va_W} {ink : Nat → Int32} {tz : Nat} {tr : Nat} {fed : Int32} {pap : Int32} {bar : Int32} {z : Nat} {q : Int32} {cv : Int32} (hD : va_D A G0) (w5 : G0[5]? = some (a 5, .inr (5, [.ref (a 6), .int (nI (tz)), .int (nI (tr)), .int (fed), .int (pap), .int (bar)]))) (w6 : G0[6]? = some (a 6, .inl (cI, 40, .inl (ink)))) (hr : 2 ≤ tr) (hr5 : tr ≤ 5) (hz : z < 8) : gMi l D cI cZ A g yX5_takeOff wsX5_takeOff ({ frames := 1, cells := 0, slots := 0, locals := 22 }) [.ref (a 5), .int (nI (z)), .int (q), .int (cv)] G0 (gBar tr z ink) (fun G1 => G1[5]? = some (a 5, .inr (5, [.ref (a 6), .int (nI (tz)), .int (nI (tr)), .int (fed), .int (pap + gPap tr z q cv ink), .int (bar + gBar tr z ink)])) ∧ G1[6]? = some (a 6, .inl (cI, 40, .inl (gTk tr z q cv ink))) ∧ ∀ k, k ∉ [5, 6] → G1[k]? = G0[k]?) := by
  refine gof_i (cc := cX5_takeOff) (maxL := 7) (by decide) rfl (Nat.le_of_ble_eq_true rfl) hD ?_
  intro p e s m args below meth c Q hx hb hml hts hown hK hN hZ hP hS hret ls hl
  have hown : s.vm.findClass RX5 = some m.cls := hown
  have hl : lv_has ls 7 [(0, .ref (a 5)), (1, .int (nI (z))), (2, .int (q)), (3, .int (cv))] := hl
  obtain ⟨locs, elocs⟩ : ∃ q : List Loc, q = [] := ⟨_, rfl⟩
  rw [← elocs] at hS ⊢
  obtain ⟨H, eH⟩ : ∃ q : Heap, q = s.heap := ⟨_, rfl⟩
  have hP : va_P D vwCl G0 H := eH ▸ hP
  have hS : va_S A s.heap H locs := by rw [eH]; exact hS
  rw [← eH]
  clear elocs eH
  have hiX5 : ∀ w ∈ u_ws RX5 TX5 6, w ∈ wsX5_takeOff := by decide +kernel
  have hk : ∀ k, k ∉ [5, 6] → G0[k]? = G0[k]? := fun _ _ => rfl
  refine lv_aload_n (pc := 0) hx hb dX5_takeOff_0 rfl (lv_at hl 0 rfl) ?_
  refine va_get (ci := 5) (C := RX5) (T := TX5) (N := 6) (pc := 1) hx hb hts hiX5 hown hK hP 5 w5 rfl 2 (by decide) (hts (.fieldLink RX5 23 "InkPress$Train" "rollers" "I") (by decide +kernel)) (fun _ h9 => h9) rfl dX5_takeOff_1 ?_
  refine lv_iconst (v := nI (1)) (pc := 4) hx hb dX5_takeOff_4 (by decide) ?_
  refine mx_isub (pc := 5) hx hb (by omega) dX5_takeOff_5 ?_
  refine lv_bipush (v := nI (8)) (pc := 6) hx hb dX5_takeOff_6 (by decide) ?_
  refine mx_imul (pc := 8) hx hb dX5_takeOff_8 ?_
  refine lv_iload_n (pc := 9) hx hb dX5_takeOff_9 rfl (lv_at hl 1 rfl) ?_
  refine mx_iadd (pc := 10) hx hb dX5_takeOff_10 ?_
  refine lv_istore (lv' := [(4, .int (nI (((tr) - (1)) * (8) + z))), (0, .ref (a 5)), (1, .int (nI (z))), (2, .int (q)), (3, .int (cv))]) (pc := 11) hx hb dX5_takeOff_11 hl (by decide) rfl (fun ls hl => ?_)
  refine lv_aload_n (pc := 13) hx hb dX5_takeOff_13 rfl (lv_at hl 1 rfl) ?_
  refine va_get (ci := 5) (C := RX5) (T := TX5) (N := 6) (pc := 14) hx hb hts hiX5 hown hK hP 5 w5 rfl 0 (by decide) (hts (.fieldLink RX5 9 "InkPress$Train" "ink" "[I") (by decide +kernel)) (fun _ h9 => h9) rfl dX5_takeOff_14 ?_
  refine lv_iload (pc := 17) hx hb dX5_takeOff_17 (lv_at hl 0 rfl) ?_
  refine mx_iald (pc := 19) hx hb hK hP 6 w6 (((tr) - (1)) * (8) + z) (by omega) (by decide) dX5_takeOff_19 ?_
  refine lv_iload_n (pc := 20) hx hb dX5_takeOff_20 rfl (lv_at hl 3 rfl) ?_
  refine lv_iload_n (pc := 21) hx hb dX5_takeOff_21 rfl (lv_at hl 4 rfl) ?_
  refine lv_imul (pc := 22) hx hb dX5_takeOff_22 ?_
  refine lv_sipush (v := nI (10000)) (pc := 23) hx hb dX5_takeOff_23 (by decide) ?_
  refine mx_cSi (As := [.int ((ink) (((tr) - (1)) * (8) + z)), .int ((q * cv)), .int (nI (10000))]) (rest := []) (pc := 26) ⟨hx, hb, hml, hown, hts⟩ (k_X5_share (a := a) (x := (ink) (((tr) - (1)) * (8) + z)) (q := (q * cv)) (n := nI (10000)) hD  (by decide)) (va_cwS 3 hts gX5_takeOff_X5_share rfl rfl rfl (by decide +kernel) ⟨Nat.le_of_ble_eq_true rfl, Nat.le_of_ble_eq_true rfl⟩) hK hN hZ hP hS rfl hl.1 rfl (Nat.le_of_ble_eq_true rfl) dX5_takeOff_26 ⟨Nat.zero_le _, Nat.zero_le _⟩ (fun G' H locs hP hD hS hB => ?_)
  rw [hB] at hP hD
  clear hB G'
  refine lv_istore (lv' := [(5, .int (gShare ((ink) (((tr) - (1)) * (8) + z)) ((q * cv)) (nI (10000)))), (4, .int (nI (((tr) - (1)) * (8) + z))), (0, .ref (a 5)), (1, .int (nI (z))), (2, .int (q)), (3, .int (cv))]) (pc := 29) hx hb dX5_takeOff_29 hl (by decide) rfl (fun ls hl => ?_)
  refine lv_aload_n (pc := 31) hx hb dX5_takeOff_31 rfl (lv_at hl 2 rfl) ?_
  refine va_get (ci := 5) (C := RX5) (T := TX5) (N := 6) (pc := 32) hx hb hts hiX5 hown hK hP 5 w5 rfl 0 (by decide) (hts (.fieldLink RX5 9 "InkPress$Train" "ink" "[I") (by decide +kernel)) (fun _ h9 => h9) rfl dX5_takeOff_32 ?_
  refine lv_iload (pc := 35) hx hb dX5_takeOff_35 (lv_at hl 1 rfl) ?_
  refine mx_iald (pc := 37) hx hb hK hP 6 w6 (((tr) - (1)) * (8) + z) (by omega) (by decide) dX5_takeOff_37 ?_
  refine lv_bipush (v := nI (100)) (pc := 38) hx hb dX5_takeOff_38 (by decide) ?_
  refine lv_idiv (pc := 40) hx hb dX5_takeOff_40 (by decide) ?_
  refine lv_istore (lv' := [(6, .int ((((ink) (((tr) - (1)) * (8) + z)) / (nI (100))))), (5, .int (gShare ((ink) (((tr) - (1)) * (8) + z)) ((q * cv)) (nI (10000)))), (4, .int (nI (((tr) - (1)) * (8) + z))), (0, .ref (a 5)), (1, .int (nI (z))), (2, .int (q)), (3, .int (cv))]) (pc := 41) hx hb dX5_takeOff_41 hl (by decide) rfl (fun ls hl => ?_)
  refine lv_aload_n (pc := 43) hx hb dX5_takeOff_43 rfl (lv_at hl 3 rfl) ?_
  refine va_get (ci := 5) (C := RX5) (T := TX5) (N := 6) (pc := 44) hx hb hts hiX5 hown hK hP 5 w5 rfl 0 (by decide) (hts (.fieldLink RX5 9 "InkPress$Train" "ink" "[I") (by decide +kernel)) (fun _ h9 => h9) rfl dX5_takeOff_44 ?_
  refine lv_iload (pc := 47) hx hb dX5_takeOff_47 (lv_at hl 2 rfl) ?_
  refine lv_dup2_11 (pc := 49) hx hb dX5_takeOff_49 rfl rfl ?_
  refine mx_iald (pc := 50) hx hb hK hP 6 w6 (((tr) - (1)) * (8) + z) (by omega) (by decide) dX5_takeOff_50 ?_
  refine lv_iload (pc := 51) hx hb dX5_takeOff_51 (lv_at hl 1 rfl) ?_
  refine lv_iload (pc := 53) hx hb dX5_takeOff_53 (lv_at hl 0 rfl) ?_
  refine lv_iadd (pc := 55) hx hb dX5_takeOff_55 ?_
  refine lv_isub (pc := 56) hx hb dX5_takeOff_56 ?_
  refine mx_iast (x := ((ink) (((tr) - (1)) * (8) + z) - (gShare ((ink) (((tr) - (1)) * (8) + z)) ((q * cv)) (nI (10000)) + (((ink) (((tr) - (1)) * (8) + z)) / (nI (100)))))) (pc := 57) hx hb hK hP hD hS 6 w6 (((tr) - (1)) * (8) + z) (by omega) (by decide) dX5_takeOff_57 (fun H locs G hP hD hS w6 ho => ?_)
  have w5 := (ho 5 (by decide)).trans w5
  have w6 : G[6]? = some (a 6, .inl (cI, 40, .inl (upd (ink) (((tr) - (1)) * (8) + z) (((ink) (((tr) - (1)) * (8) + z) - (gShare ((ink) (((tr) - (1)) * (8) + z)) ((q * cv)) (nI (10000)) + (((ink) (((tr) - (1)) * (8) + z)) / (nI (100))))))))) := w6
  have hk := gk_step hk ho (by decide)
  clear ho
  refine lv_aload_n (pc := 58) hx hb dX5_takeOff_58 rfl (lv_at hl 3 rfl) ?_
  refine lv_dup (pc := 59) hx hb dX5_takeOff_59 rfl ?_
  refine va_get (ci := 5) (C := RX5) (T := TX5) (N := 6) (pc := 60) hx hb hts hiX5 hown hK hP 5 w5 rfl 4 (by decide) (hts (.fieldLink RX5 29 "InkPress$Train" "onPaper" "I") (by decide +kernel)) (fun _ h9 => h9) rfl dX5_takeOff_60 ?_
  refine lv_iload (pc := 63) hx hb dX5_takeOff_63 (lv_at hl 1 rfl) ?_
  refine lv_iadd (pc := 65) hx hb dX5_takeOff_65 ?_
  refine mx_put (ci := 5) (v := .int ((pap + gShare ((ink) (((tr) - (1)) * (8) + z)) ((q * cv)) (nI (10000))))) (ty := .int) (C := RX5) (T := TX5) (N := 6) (pc := 66) hx hb hts hiX5 tyX5 tyX5_ok nmX5 hown hK hP hD hS 5 w5 rfl 4 (by decide) (hts (.fieldLink RX5 29 "InkPress$Train" "onPaper" "I") (by decide +kernel)) (fun _ h9 => h9) rfl (by decide +kernel) rfl rfl (Nat.le_of_ble_eq_true rfl) dX5_takeOff_66 (fun H locs G hP hD hS w5 ho => ?_)
  have w6 := (ho 6 (by decide)).trans w6
  have w5 : G[5]? = some (a 5, .inr (5, [.ref (a 6), .int (nI (tz)), .int (nI (tr)), .int (fed), .int ((pap + gShare ((ink) (((tr) - (1)) * (8) + z)) ((q * cv)) (nI (10000)))), .int (bar)])) := w5
  have hk := gk_step hk ho (by decide)
  clear ho
  refine lv_aload_n (pc := 69) hx hb dX5_takeOff_69 rfl (lv_at hl 3 rfl) ?_
  refine lv_dup (pc := 70) hx hb dX5_takeOff_70 rfl ?_
  refine va_get (ci := 5) (C := RX5) (T := TX5) (N := 6) (pc := 71) hx hb hts hiX5 hown hK hP 5 w5 rfl 5 (by decide) (hts (.fieldLink RX5 32 "InkPress$Train" "onBars" "I") (by decide +kernel)) (fun _ h9 => h9) rfl dX5_takeOff_71 ?_
  refine lv_iload (pc := 74) hx hb dX5_takeOff_74 (lv_at hl 0 rfl) ?_
  refine lv_iadd (pc := 76) hx hb dX5_takeOff_76 ?_
  refine mx_put (ci := 5) (v := .int ((bar + (((ink) (((tr) - (1)) * (8) + z)) / (nI (100)))))) (ty := .int) (C := RX5) (T := TX5) (N := 6) (pc := 77) hx hb hts hiX5 tyX5 tyX5_ok nmX5 hown hK hP hD hS 5 w5 rfl 5 (by decide) (hts (.fieldLink RX5 32 "InkPress$Train" "onBars" "I") (by decide +kernel)) (fun _ h9 => h9) rfl (by decide +kernel) rfl rfl (Nat.le_of_ble_eq_true rfl) dX5_takeOff_77 (fun H locs G hP hD hS w5 ho => ?_)
  have w6 := (ho 6 (by decide)).trans w6
  have w5 : G[5]? = some (a 5, .inr (5, [.ref (a 6), .int (nI (tz)), .int (nI (tr)), .int (fed), .int ((pap + gShare ((ink) (((tr) - (1)) * (8) + z)) ((q * cv)) (nI (10000)))), .int ((bar + (((ink) (((tr) - (1)) * (8) + z)) / (nI (100)))))])) := w5
  have hk := gk_step hk ho (by decide)
  clear ho
  refine lv_iload (pc := 80) hx hb dX5_takeOff_80 (lv_at hl 0 rfl) ?_
  exact hret _ _ _ _ _ _ hP hD hS rfl ⟨w5, w6, hk⟩ dX5_takeOff_82
set_option maxHeartbeats 4000000 in
set_option maxRecDepth 100000 in
theorem k_X5_inkOn {l : Launch} {D : va_G} {cI cZ : ClassId} {A : Nat → Prop} {g a : Nat → Nat} {G0 : va_W} {ink : Nat → Int32} {tz : Nat} {tr : Nat} {fed : Int32} {pap : Int32} {bar : Int32} (hD : va_D A G0) (w5 : G0[5]? = some (a 5, .inr (5, [.ref (a 6), .int (nI (tz)), .int (nI (tr)), .int (fed), .int (pap), .int (bar)]))) (w6 : G0[6]? = some (a 6, .inl (cI, 40, .inl (ink)))) : gMi l D cI cZ A g yX5_inkOn wsX5_inkOn ({ frames := 0, cells := 0, slots := 0, locals := 0 }) [.ref (a 5)] G0 (gOn 40 0 (nI 0) ink) (fun G1 => G1 = G0) := by
  refine gof_i (cc := cX5_inkOn) (maxL := 3) (by decide) rfl (Nat.le_of_ble_eq_true rfl) hD ?_
  intro p e s m args below meth c Q hx hb hml hts hown hK hN hZ hP hS hret ls hl
  have hown : s.vm.findClass RX5 = some m.cls := hown
  have hl : lv_has ls 3 [(0, .ref (a 5))] := hl
  obtain ⟨locs, elocs⟩ : ∃ q : List Loc, q = [] := ⟨_, rfl⟩
  rw [← elocs] at hS ⊢
  obtain ⟨H, eH⟩ : ∃ q : Heap, q = s.heap := ⟨_, rfl⟩
  have hP : va_P D vwCl G0 H := eH ▸ hP
  have hS : va_S A s.heap H locs := by rw [eH]; exact hS
  rw [← eH]
  clear elocs eH
  have hiX5 : ∀ w ∈ u_ws RX5 TX5 6, w ∈ wsX5_inkOn := by decide +kernel
  have hk : ∀ k, k ∉ ([] : List Nat) → G0[k]? = G0[k]? := fun _ _ => rfl
  refine lv_iconst (v := nI (0)) (pc := 0) hx hb dX5_inkOn_0 (by decide) ?_
  refine lv_istore_n (lv' := [(1, .int (nI (0))), (0, .ref (a 5))]) (pc := 1) hx hb dX5_inkOn_1 rfl hl (by decide) rfl (fun ls hl => ?_)
  refine lv_iconst (v := nI (0)) (pc := 2) hx hb dX5_inkOn_2 (by decide) ?_
  refine lv_istore_n (lv' := [(2, .int (nI (0))), (1, .int (nI (0))), (0, .ref (a 5))]) (pc := 3) hx hb dX5_inkOn_3 rfl hl (by decide) rfl (fun ls hl => ?_)
  have LP : ∀ (k : Nat) (i : Nat) (acc : Int32), i + k = 40 → ∀ (H : Heap) (locs : List Loc) (ls : Array Slot), va_P D vwCl G0 H → va_D A G0 → va_S A s.heap H locs → (∀ j, j ∉ ([] : List Nat) → G0[j]? = G0[j]?) → G0[5]? = some (a 5, .inr (5, [.ref (a 6), .int (nI (tz)), .int (nI (tr)), .int (fed), .int (pap), .int (bar)])) → G0[6]? = some (a 6, .inl (cI, 40, .inl (ink))) → lv_has ls 3 [(0, .ref (a 5)), (1, .int (acc)), (2, .int (nI (i)))] → (∀ (H : Heap) (locs : List Loc) (ls : Array Slot), va_P D vwCl G0 H → va_D A G0 → va_S A s.heap H locs → (∀ j, j ∉ ([] : List Nat) → G0[j]? = G0[j]?) → G0[5]? = some (a 5, .inr (5, [.ref (a 6), .int (nI (tz)), .int (nI (tr)), .int (fed), .int (pap), .int (bar)])) → G0[6]? = some (a 6, .inl (cI, 40, .inl (ink))) → lv_has ls 3 [(0, .ref (a 5)), (1, .int (gOn k i acc ink))] → W p l e ({ frames := 0, cells := 0, slots := 0, locals := 0 } : Room) s m args below meth c H locs 0 0 Q (F0 m 28 ls [])) → W p l e ({ frames := 0, cells := 0, slots := 0, locals := 0 } : Room) s m args below meth c H locs 0 0 Q (F0 m 4 ls []) := by
    intro k
    induction k with
    | zero =>
      intro i acc hi H locs ls hP hD hS hk w5 w6 hl hcont
      refine lv_iload_n (pc := 4) hx hb dX5_inkOn_4 rfl (lv_at hl 2 rfl) ?_
      refine lv_aload_n (pc := 5) hx hb dX5_inkOn_5 rfl (lv_at hl 0 rfl) ?_
      refine va_get (ci := 5) (C := RX5) (T := TX5) (N := 6) (pc := 6) hx hb hts hiX5 hown hK hP 5 w5 rfl 0 (by decide) (hts (.fieldLink RX5 9 "InkPress$Train" "ink" "[I") (by decide +kernel)) (fun _ h9 => h9) rfl dX5_inkOn_6 ?_
      refine va_alen (v := nI 40) (pc := 9) hx hb hK hP 6 0 w6 rfl rfl dX5_inkOn_9 ?_
      refine mx_cge (tgt := 28) (pc := 10) hx hb (by omega) (by omega) dX5_inkOn_10 (by decide) (fun c10 => ?_) (fun c10 => absurd c10 (by omega))
      exact hcont H locs ls hP hD hS hk w5 w6 (lv_sub hl [0, 1] rfl)
    | succ k ih =>
      intro i acc hi H locs ls hP hD hS hk w5 w6 hl hcont
      refine lv_iload_n (pc := 4) hx hb dX5_inkOn_4 rfl (lv_at hl 2 rfl) ?_
      refine lv_aload_n (pc := 5) hx hb dX5_inkOn_5 rfl (lv_at hl 0 rfl) ?_
      refine va_get (ci := 5) (C := RX5) (T := TX5) (N := 6) (pc := 6) hx hb hts hiX5 hown hK hP 5 w5 rfl 0 (by decide) (hts (.fieldLink RX5 9 "InkPress$Train" "ink" "[I") (by decide +kernel)) (fun _ h9 => h9) rfl dX5_inkOn_6 ?_
      refine va_alen (v := nI 40) (pc := 9) hx hb hK hP 6 0 w6 rfl rfl dX5_inkOn_9 ?_
      refine mx_cge (tgt := 28) (pc := 10) hx hb (by omega) (by omega) dX5_inkOn_10 (by decide) (fun c10 => absurd c10 (by omega)) (fun c10 => ?_)
      refine lv_iload_n (pc := 13) hx hb dX5_inkOn_13 rfl (lv_at hl 1 rfl) ?_
      refine lv_aload_n (pc := 14) hx hb dX5_inkOn_14 rfl (lv_at hl 0 rfl) ?_
      refine va_get (ci := 5) (C := RX5) (T := TX5) (N := 6) (pc := 15) hx hb hts hiX5 hown hK hP 5 w5 rfl 0 (by decide) (hts (.fieldLink RX5 9 "InkPress$Train" "ink" "[I") (by decide +kernel)) (fun _ h9 => h9) rfl dX5_inkOn_15 ?_
      refine lv_iload_n (pc := 18) hx hb dX5_inkOn_18 rfl (lv_at hl 2 rfl) ?_
      refine mx_iald (pc := 19) hx hb hK hP 6 w6 (i) (by omega) (by decide) dX5_inkOn_19 ?_
      refine lv_iadd (pc := 20) hx hb dX5_inkOn_20 ?_
      refine lv_istore_n (lv' := [(1, .int ((acc + (ink) (i)))), (0, .ref (a 5)), (2, .int (nI (i)))]) (pc := 21) hx hb dX5_inkOn_21 rfl hl (by decide) rfl (fun ls hl => ?_)
      refine lv_iinc (v := nI (i + 1)) (lv' := [(2, .int (nI (i + 1))), (1, .int ((acc + (ink) (i)))), (0, .ref (a 5))]) (pc := 22) hx hb dX5_inkOn_22 hl (k := 2) rfl (mx_inc1 _) (by decide) rfl (fun ls hl => ?_)
      refine lv_goto (tgt := 4) (pc := 25) hx hb dX5_inkOn_25 (by decide) ?_
      exact ih (i + 1) ((acc + (ink) (i))) (by omega) H locs ls hP hD hS hk w5 w6 (lv_sub hl [2, 1, 0] rfl) hcont
  refine LP 40 (0) (nI 0) (by omega)  H locs ls hP hD hS hk w5 w6 (lv_sub hl [2, 1, 0] rfl) (fun H locs ls hP hD hS hk w5 w6 hl => ?_)
  refine lv_iload_n (pc := 28) hx hb dX5_inkOn_28 rfl (lv_at hl 1 rfl) ?_
  exact hret _ _ _ _ _ _ hP hD hS rfl rfl dX5_inkOn_29
set_option maxHeartbeats 4000000 in
set_option maxRecDepth 100000 in
theorem k_X5_restart {l : Launch} {D : va_G} {cI cZ : ClassId} {A : Nat → Prop} {g a : Nat → Nat} {G0 : va_W} {ink : Nat → Int32} {tz : Nat} {tr : Nat} {fed : Int32} {pap : Int32} {bar : Int32} {n : Nat} {r : Nat} (hD : va_D A G0) (w5 : G0[5]? = some (a 5, .inr (5, [.ref (a 6), .int (nI (tz)), .int (nI (tr)), .int (fed), .int (pap), .int (bar)]))) (w6 : G0[6]? = some (a 6, .inl (cI, 40, .inl (ink)))) : gMv l D cI cZ A g yX5_restart wsX5_restart ({ frames := 0, cells := 0, slots := 0, locals := 0 }) [.ref (a 5), .int (nI (n)), .int (nI (r))] G0 (fun G1 => G1[5]? = some (a 5, .inr (5, [.ref (a 6), .int (nI (n)), .int (nI (r)), .int (nI (0)), .int (nI (0)), .int (nI (0))])) ∧ G1[6]? = some (a 6, .inl (cI, 40, .inl (gClr 40 0 ink))) ∧ ∀ k, k ∉ [5, 6] → G1[k]? = G0[k]?) := by
  refine gof_v (cc := cX5_restart) (maxL := 4) (by decide) rfl (Nat.le_of_ble_eq_true rfl) hD ?_
  intro p e s m args below meth c Q hx hb hml hts hown hK hN hZ hP hS hret ls hl
  have hown : s.vm.findClass RX5 = some m.cls := hown
  have hl : lv_has ls 4 [(0, .ref (a 5)), (1, .int (nI (n))), (2, .int (nI (r)))] := hl
  obtain ⟨locs, elocs⟩ : ∃ q : List Loc, q = [] := ⟨_, rfl⟩
  rw [← elocs] at hS ⊢
  obtain ⟨H, eH⟩ : ∃ q : Heap, q = s.heap := ⟨_, rfl⟩
  have hP : va_P D vwCl G0 H := eH ▸ hP
  have hS : va_S A s.heap H locs := by rw [eH]; exact hS
  rw [← eH]
  clear elocs eH
  have hiX5 : ∀ w ∈ u_ws RX5 TX5 6, w ∈ wsX5_restart := by decide +kernel
  have hk : ∀ k, k ∉ [5, 6] → G0[k]? = G0[k]? := fun _ _ => rfl
  refine lv_aload_n (pc := 0) hx hb dX5_restart_0 rfl (lv_at hl 0 rfl) ?_
  refine lv_iload_n (pc := 1) hx hb dX5_restart_1 rfl (lv_at hl 1 rfl) ?_
  refine mx_put (ci := 5) (v := .int (nI (n))) (ty := .int) (C := RX5) (T := TX5) (N := 6) (pc := 2) hx hb hts hiX5 tyX5 tyX5_ok nmX5 hown hK hP hD hS 5 w5 rfl 1 (by decide) (hts (.fieldLink RX5 19 "InkPress$Train" "zones" "I") (by decide +kernel)) (fun _ h9 => h9) rfl (by decide +kernel) rfl rfl (Nat.le_of_ble_eq_true rfl) dX5_restart_2 (fun H locs G hP hD hS w5 ho => ?_)
  have w6 := (ho 6 (by decide)).trans w6
  have w5 : G[5]? = some (a 5, .inr (5, [.ref (a 6), .int (nI (n)), .int (nI (tr)), .int (fed), .int (pap), .int (bar)])) := w5
  have hk := gk_step hk ho (by decide)
  clear ho
  refine lv_aload_n (pc := 5) hx hb dX5_restart_5 rfl (lv_at hl 0 rfl) ?_
  refine lv_iload_n (pc := 6) hx hb dX5_restart_6 rfl (lv_at hl 2 rfl) ?_
  refine mx_put (ci := 5) (v := .int (nI (r))) (ty := .int) (C := RX5) (T := TX5) (N := 6) (pc := 7) hx hb hts hiX5 tyX5 tyX5_ok nmX5 hown hK hP hD hS 5 w5 rfl 2 (by decide) (hts (.fieldLink RX5 23 "InkPress$Train" "rollers" "I") (by decide +kernel)) (fun _ h9 => h9) rfl (by decide +kernel) rfl rfl (Nat.le_of_ble_eq_true rfl) dX5_restart_7 (fun H locs G hP hD hS w5 ho => ?_)
  have w6 := (ho 6 (by decide)).trans w6
  have w5 : G[5]? = some (a 5, .inr (5, [.ref (a 6), .int (nI (n)), .int (nI (r)), .int (fed), .int (pap), .int (bar)])) := w5
  have hk := gk_step hk ho (by decide)
  clear ho
  refine lv_aload_n (pc := 10) hx hb dX5_restart_10 rfl (lv_at hl 0 rfl) ?_
  refine lv_iconst (v := nI (0)) (pc := 11) hx hb dX5_restart_11 (by decide) ?_
  refine mx_put (ci := 5) (v := .int (nI (0))) (ty := .int) (C := RX5) (T := TX5) (N := 6) (pc := 12) hx hb hts hiX5 tyX5 tyX5_ok nmX5 hown hK hP hD hS 5 w5 rfl 3 (by decide) (hts (.fieldLink RX5 26 "InkPress$Train" "fed" "I") (by decide +kernel)) (fun _ h9 => h9) rfl (by decide +kernel) rfl rfl (Nat.le_of_ble_eq_true rfl) dX5_restart_12 (fun H locs G hP hD hS w5 ho => ?_)
  have w6 := (ho 6 (by decide)).trans w6
  have w5 : G[5]? = some (a 5, .inr (5, [.ref (a 6), .int (nI (n)), .int (nI (r)), .int (nI (0)), .int (pap), .int (bar)])) := w5
  have hk := gk_step hk ho (by decide)
  clear ho
  refine lv_aload_n (pc := 15) hx hb dX5_restart_15 rfl (lv_at hl 0 rfl) ?_
  refine lv_iconst (v := nI (0)) (pc := 16) hx hb dX5_restart_16 (by decide) ?_
  refine mx_put (ci := 5) (v := .int (nI (0))) (ty := .int) (C := RX5) (T := TX5) (N := 6) (pc := 17) hx hb hts hiX5 tyX5 tyX5_ok nmX5 hown hK hP hD hS 5 w5 rfl 4 (by decide) (hts (.fieldLink RX5 29 "InkPress$Train" "onPaper" "I") (by decide +kernel)) (fun _ h9 => h9) rfl (by decide +kernel) rfl rfl (Nat.le_of_ble_eq_true rfl) dX5_restart_17 (fun H locs G hP hD hS w5 ho => ?_)
  have w6 := (ho 6 (by decide)).trans w6
  have w5 : G[5]? = some (a 5, .inr (5, [.ref (a 6), .int (nI (n)), .int (nI (r)), .int (nI (0)), .int (nI (0)), .int (bar)])) := w5
  have hk := gk_step hk ho (by decide)
  clear ho
  refine lv_aload_n (pc := 20) hx hb dX5_restart_20 rfl (lv_at hl 0 rfl) ?_
  refine lv_iconst (v := nI (0)) (pc := 21) hx hb dX5_restart_21 (by decide) ?_
  refine mx_put (ci := 5) (v := .int (nI (0))) (ty := .int) (C := RX5) (T := TX5) (N := 6) (pc := 22) hx hb hts hiX5 tyX5 tyX5_ok nmX5 hown hK hP hD hS 5 w5 rfl 5 (by decide) (hts (.fieldLink RX5 32 "InkPress$Train" "onBars" "I") (by decide +kernel)) (fun _ h9 => h9) rfl (by decide +kernel) rfl rfl (Nat.le_of_ble_eq_true rfl) dX5_restart_22 (fun H locs G hP hD hS w5 ho => ?_)
  have w6 := (ho 6 (by decide)).trans w6
  have w5 : G[5]? = some (a 5, .inr (5, [.ref (a 6), .int (nI (n)), .int (nI (r)), .int (nI (0)), .int (nI (0)), .int (nI (0))])) := w5
  have hk := gk_step hk ho (by decide)
  clear ho
  refine lv_iconst (v := nI (0)) (pc := 25) hx hb dX5_restart_25 (by decide) ?_
  refine lv_istore_n (lv' := [(3, .int (nI (0))), (0, .ref (a 5)), (1, .int (nI (n))), (2, .int (nI (r)))]) (pc := 26) hx hb dX5_restart_26 rfl hl (by decide) rfl (fun ls hl => ?_)
  have LP : ∀ (k : Nat) (i : Nat) (ink : Nat → Int32), i + k = 40 → ∀ (G : va_W) (H : Heap) (locs : List Loc) (ls : Array Slot), va_P D vwCl G H → va_D A G → va_S A s.heap H locs → (∀ j, j ∉ [5, 6] → G[j]? = G0[j]?) → G[5]? = some (a 5, .inr (5, [.ref (a 6), .int (nI (n)), .int (nI (r)), .int (nI (0)), .int (nI (0)), .int (nI (0))])) → G[6]? = some (a 6, .inl (cI, 40, .inl (ink))) → lv_has ls 4 [(0, .ref (a 5)), (3, .int (nI (i)))] → (∀ (G : va_W) (H : Heap) (locs : List Loc) (ls : Array Slot), va_P D vwCl G H → va_D A G → va_S A s.heap H locs → (∀ j, j ∉ [5, 6] → G[j]? = G0[j]?) → G[5]? = some (a 5, .inr (5, [.ref (a 6), .int (nI (n)), .int (nI (r)), .int (nI (0)), .int (nI (0)), .int (nI (0))])) → G[6]? = some (a 6, .inl (cI, 40, .inl (gClr k i ink))) → lv_has ls 4 [(0, .ref (a 5))] → W p l e ({ frames := 0, cells := 0, slots := 0, locals := 0 } : Room) s m args below meth c H locs 0 0 Q (F0 m 49 ls [])) → W p l e ({ frames := 0, cells := 0, slots := 0, locals := 0 } : Room) s m args below meth c H locs 0 0 Q (F0 m 27 ls []) := by
    intro k
    induction k with
    | zero =>
      intro i ink hi G H locs ls hP hD hS hk w5 w6 hl hcont
      refine lv_iload_n (pc := 27) hx hb dX5_restart_27 rfl (lv_at hl 1 rfl) ?_
      refine lv_aload_n (pc := 28) hx hb dX5_restart_28 rfl (lv_at hl 0 rfl) ?_
      refine va_get (ci := 5) (C := RX5) (T := TX5) (N := 6) (pc := 29) hx hb hts hiX5 hown hK hP 5 w5 rfl 0 (by decide) (hts (.fieldLink RX5 9 "InkPress$Train" "ink" "[I") (by decide +kernel)) (fun _ h9 => h9) rfl dX5_restart_29 ?_
      refine va_alen (v := nI 40) (pc := 32) hx hb hK hP 6 0 w6 rfl rfl dX5_restart_32 ?_
      refine mx_cge (tgt := 49) (pc := 33) hx hb (by omega) (by omega) dX5_restart_33 (by decide) (fun c33 => ?_) (fun c33 => absurd c33 (by omega))
      exact hcont G H locs ls hP hD hS hk w5 w6 (lv_sub hl [0] rfl)
    | succ k ih =>
      intro i ink hi G H locs ls hP hD hS hk w5 w6 hl hcont
      refine lv_iload_n (pc := 27) hx hb dX5_restart_27 rfl (lv_at hl 1 rfl) ?_
      refine lv_aload_n (pc := 28) hx hb dX5_restart_28 rfl (lv_at hl 0 rfl) ?_
      refine va_get (ci := 5) (C := RX5) (T := TX5) (N := 6) (pc := 29) hx hb hts hiX5 hown hK hP 5 w5 rfl 0 (by decide) (hts (.fieldLink RX5 9 "InkPress$Train" "ink" "[I") (by decide +kernel)) (fun _ h9 => h9) rfl dX5_restart_29 ?_
      refine va_alen (v := nI 40) (pc := 32) hx hb hK hP 6 0 w6 rfl rfl dX5_restart_32 ?_
      refine mx_cge (tgt := 49) (pc := 33) hx hb (by omega) (by omega) dX5_restart_33 (by decide) (fun c33 => absurd c33 (by omega)) (fun c33 => ?_)
      refine lv_aload_n (pc := 36) hx hb dX5_restart_36 rfl (lv_at hl 0 rfl) ?_
      refine va_get (ci := 5) (C := RX5) (T := TX5) (N := 6) (pc := 37) hx hb hts hiX5 hown hK hP 5 w5 rfl 0 (by decide) (hts (.fieldLink RX5 9 "InkPress$Train" "ink" "[I") (by decide +kernel)) (fun _ h9 => h9) rfl dX5_restart_37 ?_
      refine lv_iload_n (pc := 40) hx hb dX5_restart_40 rfl (lv_at hl 1 rfl) ?_
      refine lv_iconst (v := nI (0)) (pc := 41) hx hb dX5_restart_41 (by decide) ?_
      refine mx_iast (x := nI (0)) (pc := 42) hx hb hK hP hD hS 6 w6 (i) (by omega) (by decide) dX5_restart_42 (fun H locs G hP hD hS w6 ho => ?_)
      have w5 := (ho 5 (by decide)).trans w5
      have w6 : G[6]? = some (a 6, .inl (cI, 40, .inl (upd (ink) (i) (nI (0))))) := w6
      have hk := gk_step hk ho (by decide)
      clear ho
      refine lv_iinc (v := nI (i + 1)) (lv' := [(3, .int (nI (i + 1))), (0, .ref (a 5))]) (pc := 43) hx hb dX5_restart_43 hl (k := 1) rfl (mx_inc1 _) (by decide) rfl (fun ls hl => ?_)
      refine lv_goto (tgt := 27) (pc := 46) hx hb dX5_restart_46 (by decide) ?_
      exact ih (i + 1) (upd (ink) (i) (nI (0))) (by omega) G H locs ls hP hD hS hk w5 w6 (lv_sub hl [1, 0] rfl) hcont
  refine LP 40 (0) (ink) (by omega) G H locs ls hP hD hS hk w5 w6 (lv_sub hl [1, 0] rfl) (fun G H locs ls hP hD hS hk w5 w6 hl => ?_)
  have w6 : G[6]? = some (a 6, .inl (cI, 40, .inl (gClr (40) (0) (ink)))) := w6
  exact hret _ _ _ _ _ hP hD hS ⟨w5, w6, hk⟩ dX5_restart_49
set_option maxHeartbeats 4000000 in
set_option maxRecDepth 100000 in
theorem k_X5_passOn {l : Launch} {D : va_G} {cI cZ : ClassId} {A : Nat → Prop} {g a : Nat → Nat} {G0 : va_W} {ink : Nat → Int32} {tz : Nat} {tr : Nat} {fed : Int32} {pap : Int32} {bar : Int32} {q : Int32} (hD : va_D A G0) (w5 : G0[5]? = some (a 5, .inr (5, [.ref (a 6), .int (nI (tz)), .int (nI (tr)), .int (fed), .int (pap), .int (bar)]))) (w6 : G0[6]? = some (a 6, .inl (cI, 40, .inl (ink)))) (hz8 : tz ≤ 8) (hr1 : 1 ≤ tr) (hr5 : tr ≤ 5) : gMv l D cI cZ A g yX5_passOn wsX5_passOn ({ frames := 1, cells := 0, slots := 0, locals := 22 }) [.ref (a 5), .int (q)] G0 (fun G1 => G1[6]? = some (a 6, .inl (cI, 40, .inl (gPr q tz (tr - 1) 0 ink))) ∧ ∀ k, k ∉ [6] → G1[k]? = G0[k]?) := by
  refine gof_v (cc := cX5_passOn) (maxL := 6) (by decide) rfl (Nat.le_of_ble_eq_true rfl) hD ?_
  intro p e s m args below meth c Q hx hb hml hts hown hK hN hZ hP hS hret ls hl
  have hown : s.vm.findClass RX5 = some m.cls := hown
  have hl : lv_has ls 6 [(0, .ref (a 5)), (1, .int (q))] := hl
  obtain ⟨locs, elocs⟩ : ∃ q : List Loc, q = [] := ⟨_, rfl⟩
  rw [← elocs] at hS ⊢
  obtain ⟨H, eH⟩ : ∃ q : Heap, q = s.heap := ⟨_, rfl⟩
  have hP : va_P D vwCl G0 H := eH ▸ hP
  have hS : va_S A s.heap H locs := by rw [eH]; exact hS
  rw [← eH]
  clear elocs eH
  have hiX5 : ∀ w ∈ u_ws RX5 TX5 6, w ∈ wsX5_passOn := by decide +kernel
  have hk : ∀ k, k ∉ [6] → G0[k]? = G0[k]? := fun _ _ => rfl
  refine lv_iconst (v := nI (0)) (pc := 0) hx hb dX5_passOn_0 (by decide) ?_
  refine lv_istore_n (lv' := [(2, .int (nI (0))), (0, .ref (a 5)), (1, .int (q))]) (pc := 1) hx hb dX5_passOn_1 rfl hl (by decide) rfl (fun ls hl => ?_)
  have LP : ∀ (k : Nat) (r : Nat) (ink : Nat → Int32), r + 1 + k = tr → ∀ (G : va_W) (H : Heap) (locs : List Loc) (ls : Array Slot), va_P D vwCl G H → va_D A G → va_S A s.heap H locs → (∀ j, j ∉ [6] → G[j]? = G0[j]?) → G[5]? = some (a 5, .inr (5, [.ref (a 6), .int (nI (tz)), .int (nI (tr)), .int (fed), .int (pap), .int (bar)])) → G[6]? = some (a 6, .inl (cI, 40, .inl (ink))) → lv_has ls 6 [(0, .ref (a 5)), (1, .int (q)), (2, .int (nI (r)))] → (∀ (G : va_W) (H : Heap) (locs : List Loc) (ls : Array Slot), va_P D vwCl G H → va_D A G → va_S A s.heap H locs → (∀ j, j ∉ [6] → G[j]? = G0[j]?) → G[5]? = some (a 5, .inr (5, [.ref (a 6), .int (nI (tz)), .int (nI (tr)), .int (fed), .int (pap), .int (bar)])) → G[6]? = some (a 6, .inl (cI, 40, .inl (gPr q tz k r ink))) → lv_has ls 6 [(0, .ref (a 5))] → W p l e ({ frames := 1, cells := 0, slots := 0, locals := 22 } : Room) s m args below meth c H locs 0 0 Q (F0 m 84 ls [])) → W p l e ({ frames := 1, cells := 0, slots := 0, locals := 22 } : Room) s m args below meth c H locs 0 0 Q (F0 m 2 ls []) := by
    intro k
    induction k with
    | zero =>
      intro r ink hr G H locs ls hP hD hS hk w5 w6 hl hcont
      refine lv_iload_n (pc := 2) hx hb dX5_passOn_2 rfl (lv_at hl 2 rfl) ?_
      refine lv_iconst (v := nI (1)) (pc := 3) hx hb dX5_passOn_3 (by decide) ?_
      refine mx_iadd (pc := 4) hx hb dX5_passOn_4 ?_
      refine lv_aload_n (pc := 5) hx hb dX5_passOn_5 rfl (lv_at hl 0 rfl) ?_
      refine va_get (ci := 5) (C := RX5) (T := TX5) (N := 6) (pc := 6) hx hb hts hiX5 hown hK hP 5 w5 rfl 2 (by decide) (hts (.fieldLink RX5 23 "InkPress$Train" "rollers" "I") (by decide +kernel)) (fun _ h9 => h9) rfl dX5_passOn_6 ?_
      refine mx_cge (tgt := 84) (pc := 9) hx hb (by omega) (by omega) dX5_passOn_9 (by decide) (fun c9 => ?_) (fun c9 => absurd c9 (by omega))
      exact hcont G H locs ls hP hD hS hk w5 w6 (lv_sub hl [0] rfl)
    | succ k ih =>
      intro r ink hr G H locs ls hP hD hS hk w5 w6 hl hcont
      refine lv_iload_n (pc := 2) hx hb dX5_passOn_2 rfl (lv_at hl 2 rfl) ?_
      refine lv_iconst (v := nI (1)) (pc := 3) hx hb dX5_passOn_3 (by decide) ?_
      refine mx_iadd (pc := 4) hx hb dX5_passOn_4 ?_
      refine lv_aload_n (pc := 5) hx hb dX5_passOn_5 rfl (lv_at hl 0 rfl) ?_
      refine va_get (ci := 5) (C := RX5) (T := TX5) (N := 6) (pc := 6) hx hb hts hiX5 hown hK hP 5 w5 rfl 2 (by decide) (hts (.fieldLink RX5 23 "InkPress$Train" "rollers" "I") (by decide +kernel)) (fun _ h9 => h9) rfl dX5_passOn_6 ?_
      refine mx_cge (tgt := 84) (pc := 9) hx hb (by omega) (by omega) dX5_passOn_9 (by decide) (fun c9 => absurd c9 (by omega)) (fun c9 => ?_)
      refine lv_iconst (v := nI (0)) (pc := 12) hx hb dX5_passOn_12 (by decide) ?_
      refine lv_istore_n (lv' := [(3, .int (nI (0))), (0, .ref (a 5)), (1, .int (q)), (2, .int (nI (r)))]) (pc := 13) hx hb dX5_passOn_13 rfl hl (by decide) rfl (fun ls hl => ?_)
      have LZ : ∀ (j : Nat) (z : Nat) (ink : Nat → Int32), z + j = tz → ∀ (G : va_W) (H : Heap) (locs : List Loc) (ls : Array Slot), va_P D vwCl G H → va_D A G → va_S A s.heap H locs → (∀ j, j ∉ [6] → G[j]? = G0[j]?) → G[5]? = some (a 5, .inr (5, [.ref (a 6), .int (nI (tz)), .int (nI (tr)), .int (fed), .int (pap), .int (bar)])) → G[6]? = some (a 6, .inl (cI, 40, .inl (ink))) → lv_has ls 6 [(0, .ref (a 5)), (1, .int (q)), (2, .int (nI (r))), (3, .int (nI (z)))] → (∀ (G : va_W) (H : Heap) (locs : List Loc) (ls : Array Slot), va_P D vwCl G H → va_D A G → va_S A s.heap H locs → (∀ j, j ∉ [6] → G[j]? = G0[j]?) → G[5]? = some (a 5, .inr (5, [.ref (a 6), .int (nI (tz)), .int (nI (tr)), .int (fed), .int (pap), .int (bar)])) → G[6]? = some (a 6, .inl (cI, 40, .inl (gPz q r j z ink))) → lv_has ls 6 [(0, .ref (a 5)), (1, .int (q)), (2, .int (nI (r)))] → W p l e ({ frames := 1, cells := 0, slots := 0, locals := 22 } : Room) s m args below meth c H locs 0 0 Q (F0 m 78 ls [])) → W p l e ({ frames := 1, cells := 0, slots := 0, locals := 22 } : Room) s m args below meth c H locs 0 0 Q (F0 m 14 ls []) := by
        intro j
        induction j with
        | zero =>
          intro z ink hz G H locs ls hP hD hS hk w5 w6 hl hcont
          refine lv_iload_n (pc := 14) hx hb dX5_passOn_14 rfl (lv_at hl 3 rfl) ?_
          refine lv_aload_n (pc := 15) hx hb dX5_passOn_15 rfl (lv_at hl 0 rfl) ?_
          refine va_get (ci := 5) (C := RX5) (T := TX5) (N := 6) (pc := 16) hx hb hts hiX5 hown hK hP 5 w5 rfl 1 (by decide) (hts (.fieldLink RX5 19 "InkPress$Train" "zones" "I") (by decide +kernel)) (fun _ h9 => h9) rfl dX5_passOn_16 ?_
          refine mx_cge (tgt := 78) (pc := 19) hx hb (by omega) (by omega) dX5_passOn_19 (by decide) (fun c19 => ?_) (fun c19 => absurd c19 (by omega))
          exact hcont G H locs ls hP hD hS hk w5 w6 (lv_sub hl [0, 1, 2] rfl)
        | succ j ih =>
          intro z ink hz G H locs ls hP hD hS hk w5 w6 hl hcont
          refine lv_iload_n (pc := 14) hx hb dX5_passOn_14 rfl (lv_at hl 3 rfl) ?_
          refine lv_aload_n (pc := 15) hx hb dX5_passOn_15 rfl (lv_at hl 0 rfl) ?_
          refine va_get (ci := 5) (C := RX5) (T := TX5) (N := 6) (pc := 16) hx hb hts hiX5 hown hK hP 5 w5 rfl 1 (by decide) (hts (.fieldLink RX5 19 "InkPress$Train" "zones" "I") (by decide +kernel)) (fun _ h9 => h9) rfl dX5_passOn_16 ?_
          refine mx_cge (tgt := 78) (pc := 19) hx hb (by omega) (by omega) dX5_passOn_19 (by decide) (fun c19 => absurd c19 (by omega)) (fun c19 => ?_)
          refine lv_iload_n (pc := 22) hx hb dX5_passOn_22 rfl (lv_at hl 2 rfl) ?_
          refine lv_bipush (v := nI (8)) (pc := 23) hx hb dX5_passOn_23 (by decide) ?_
          refine mx_imul (pc := 25) hx hb dX5_passOn_25 ?_
          refine lv_iload_n (pc := 26) hx hb dX5_passOn_26 rfl (lv_at hl 3 rfl) ?_
          refine mx_iadd (pc := 27) hx hb dX5_passOn_27 ?_
          refine lv_istore (lv' := [(4, .int (nI ((r) * (8) + z))), (0, .ref (a 5)), (1, .int (q)), (2, .int (nI (r))), (3, .int (nI (z)))]) (pc := 28) hx hb dX5_passOn_28 hl (by decide) rfl (fun ls hl => ?_)
          refine lv_aload_n (pc := 30) hx hb dX5_passOn_30 rfl (lv_at hl 1 rfl) ?_
          refine va_get (ci := 5) (C := RX5) (T := TX5) (N := 6) (pc := 31) hx hb hts hiX5 hown hK hP 5 w5 rfl 0 (by decide) (hts (.fieldLink RX5 9 "InkPress$Train" "ink" "[I") (by decide +kernel)) (fun _ h9 => h9) rfl dX5_passOn_31 ?_
          refine lv_iload (pc := 34) hx hb dX5_passOn_34 (lv_at hl 0 rfl) ?_
          refine mx_iald (pc := 36) hx hb hK hP 6 w6 ((r) * (8) + z) (by omega) (by decide) dX5_passOn_36 ?_
          refine lv_iload_n (pc := 37) hx hb dX5_passOn_37 rfl (lv_at hl 2 rfl) ?_
          refine lv_bipush (v := nI (100)) (pc := 38) hx hb dX5_passOn_38 (by decide) ?_
          refine mx_cSi (As := [.int ((ink) ((r) * (8) + z)), .int (q), .int (nI (100))]) (rest := []) (pc := 40) ⟨hx, hb, hml, hown, hts⟩ (k_X5_share (a := a) (x := (ink) ((r) * (8) + z)) (q := q) (n := nI (100)) hD  (by decide)) (va_cwS 3 hts gX5_passOn_X5_share rfl rfl rfl (by decide +kernel) ⟨Nat.le_of_ble_eq_true rfl, Nat.le_of_ble_eq_true rfl⟩) hK hN hZ hP hS rfl hl.1 rfl (Nat.le_of_ble_eq_true rfl) dX5_passOn_40 ⟨Nat.zero_le _, Nat.zero_le _⟩ (fun G' H locs hP hD hS hB => ?_)
          rw [hB] at hP hD
          clear hB G'
          refine lv_istore (lv' := [(5, .int (gShare ((ink) ((r) * (8) + z)) (q) (nI (100)))), (4, .int (nI ((r) * (8) + z))), (0, .ref (a 5)), (1, .int (q)), (2, .int (nI (r))), (3, .int (nI (z)))]) (pc := 43) hx hb dX5_passOn_43 hl (by decide) rfl (fun ls hl => ?_)
          refine lv_aload_n (pc := 45) hx hb dX5_passOn_45 rfl (lv_at hl 2 rfl) ?_
          refine va_get (ci := 5) (C := RX5) (T := TX5) (N := 6) (pc := 46) hx hb hts hiX5 hown hK hP 5 w5 rfl 0 (by decide) (hts (.fieldLink RX5 9 "InkPress$Train" "ink" "[I") (by decide +kernel)) (fun _ h9 => h9) rfl dX5_passOn_46 ?_
          refine lv_iload (pc := 49) hx hb dX5_passOn_49 (lv_at hl 1 rfl) ?_
          refine lv_dup2_11 (pc := 51) hx hb dX5_passOn_51 rfl rfl ?_
          refine mx_iald (pc := 52) hx hb hK hP 6 w6 ((r) * (8) + z) (by omega) (by decide) dX5_passOn_52 ?_
          refine lv_iload (pc := 53) hx hb dX5_passOn_53 (lv_at hl 0 rfl) ?_
          refine lv_isub (pc := 55) hx hb dX5_passOn_55 ?_
          refine mx_iast (x := ((ink) ((r) * (8) + z) - gShare ((ink) ((r) * (8) + z)) (q) (nI (100)))) (pc := 56) hx hb hK hP hD hS 6 w6 ((r) * (8) + z) (by omega) (by decide) dX5_passOn_56 (fun H locs G hP hD hS w6 ho => ?_)
          have w5 := (ho 5 (by decide)).trans w5
          have w6 : G[6]? = some (a 6, .inl (cI, 40, .inl (upd (ink) ((r) * (8) + z) (((ink) ((r) * (8) + z) - gShare ((ink) ((r) * (8) + z)) (q) (nI (100))))))) := w6
          have hk := gk_step hk ho (by decide)
          clear ho
          refine lv_aload_n (pc := 57) hx hb dX5_passOn_57 rfl (lv_at hl 2 rfl) ?_
          refine va_get (ci := 5) (C := RX5) (T := TX5) (N := 6) (pc := 58) hx hb hts hiX5 hown hK hP 5 w5 rfl 0 (by decide) (hts (.fieldLink RX5 9 "InkPress$Train" "ink" "[I") (by decide +kernel)) (fun _ h9 => h9) rfl dX5_passOn_58 ?_
          refine lv_iload (pc := 61) hx hb dX5_passOn_61 (lv_at hl 1 rfl) ?_
          refine lv_bipush (v := nI (8)) (pc := 63) hx hb dX5_passOn_63 (by decide) ?_
          refine mx_iadd (pc := 65) hx hb dX5_passOn_65 ?_
          refine lv_dup2_11 (pc := 66) hx hb dX5_passOn_66 rfl rfl ?_
          refine mx_iald (pc := 67) hx hb hK hP 6 w6 ((r) * (8) + z + 8) (by omega) (by decide) dX5_passOn_67 ?_
          refine lv_iload (pc := 68) hx hb dX5_passOn_68 (lv_at hl 0 rfl) ?_
          refine lv_iadd (pc := 70) hx hb dX5_passOn_70 ?_
          refine mx_iast (x := ((upd (ink) ((r) * (8) + z) (((ink) ((r) * (8) + z) - gShare ((ink) ((r) * (8) + z)) (q) (nI (100))))) ((r) * (8) + z + 8) + gShare ((ink) ((r) * (8) + z)) (q) (nI (100)))) (pc := 71) hx hb hK hP hD hS 6 w6 ((r) * (8) + z + 8) (by omega) (by decide) dX5_passOn_71 (fun H locs G hP hD hS w6 ho => ?_)
          have w5 := (ho 5 (by decide)).trans w5
          have w6 : G[6]? = some (a 6, .inl (cI, 40, .inl (upd (upd (ink) ((r) * (8) + z) (((ink) ((r) * (8) + z) - gShare ((ink) ((r) * (8) + z)) (q) (nI (100))))) ((r) * (8) + z + 8) (((upd (ink) ((r) * (8) + z) (((ink) ((r) * (8) + z) - gShare ((ink) ((r) * (8) + z)) (q) (nI (100))))) ((r) * (8) + z + 8) + gShare ((ink) ((r) * (8) + z)) (q) (nI (100))))))) := w6
          have hk := gk_step hk ho (by decide)
          clear ho
          refine lv_iinc (v := nI (z + 1)) (lv' := [(3, .int (nI (z + 1))), (5, .int (gShare ((ink) ((r) * (8) + z)) (q) (nI (100)))), (4, .int (nI ((r) * (8) + z))), (0, .ref (a 5)), (1, .int (q)), (2, .int (nI (r)))]) (pc := 72) hx hb dX5_passOn_72 hl (k := 5) rfl (mx_inc1 _) (by decide) rfl (fun ls hl => ?_)
          refine lv_goto (tgt := 14) (pc := 75) hx hb dX5_passOn_75 (by decide) ?_
          exact ih (z + 1) (gP1 q r z ink) (by omega) G H locs ls hP hD hS hk w5 w6 (lv_sub hl [3, 4, 5, 0] rfl) hcont
      refine LZ tz (0) (ink) (by omega) G H locs ls hP hD hS hk w5 w6 (lv_sub hl [1, 2, 3, 0] rfl) (fun G H locs ls hP hD hS hk w5 w6 hl => ?_)
      have w6 : G[6]? = some (a 6, .inl (cI, 40, .inl (gPz q r (tz) (0) (ink)))) := w6
      refine lv_iinc (v := nI (r + 1)) (lv' := [(2, .int (nI (r + 1))), (0, .ref (a 5)), (1, .int (q))]) (pc := 78) hx hb dX5_passOn_78 hl (k := 2) rfl (mx_inc1 _) (by decide) rfl (fun ls hl => ?_)
      refine lv_goto (tgt := 2) (pc := 81) hx hb dX5_passOn_81 (by decide) ?_
      exact ih (r + 1) (gPz q r (tz) (0) (ink)) (by omega) G H locs ls hP hD hS hk w5 w6 (lv_sub hl [1, 2, 0] rfl) hcont
  refine LP (tr - 1) (0) (ink) (by omega) G0 H locs ls hP hD hS hk w5 w6 (lv_sub hl [1, 2, 0] rfl) (fun G H locs ls hP hD hS hk w5 w6 hl => ?_)
  have w6 : G[6]? = some (a 6, .inl (cI, 40, .inl (gPr q tz ((tr - 1)) (0) (ink)))) := w6
  exact hret _ _ _ _ _ hP hD hS ⟨w6, hk⟩ dX5_passOn_84
set_option maxHeartbeats 4000000 in
set_option maxRecDepth 100000 in
theorem k_X5_driftAside {l : Launch} {D : va_G} {cI cZ : ClassId} {A : Nat → Prop} {g a : Nat → Nat} {G0 : va_W} {ink : Nat → Int32} {tz : Nat} {tr : Nat} {fed : Int32} {pap : Int32} {bar : Int32} {q : Int32} (hD : va_D A G0) (w5 : G0[5]? = some (a 5, .inr (5, [.ref (a 6), .int (nI (tz)), .int (nI (tr)), .int (fed), .int (pap), .int (bar)]))) (w6 : G0[6]? = some (a 6, .inl (cI, 40, .inl (ink)))) (hz1 : 1 ≤ tz) (hz8 : tz ≤ 8) (hr5 : tr ≤ 5) : gMv l D cI cZ A g yX5_driftAside wsX5_driftAside ({ frames := 1, cells := 0, slots := 0, locals := 22 }) [.ref (a 5), .int (q)] G0 (fun G1 => G1[6]? = some (a 6, .inl (cI, 40, .inl (gDr q tz tr 0 ink))) ∧ ∀ k, k ∉ [6] → G1[k]? = G0[k]?) := by
  refine gof_v (cc := cX5_driftAside) (maxL := 7) (by decide) rfl (Nat.le_of_ble_eq_true rfl) hD ?_
  intro p e s m args below meth c Q hx hb hml hts hown hK hN hZ hP hS hret ls hl
  have hown : s.vm.findClass RX5 = some m.cls := hown
  have hl : lv_has ls 7 [(0, .ref (a 5)), (1, .int (q))] := hl
  obtain ⟨locs, elocs⟩ : ∃ q : List Loc, q = [] := ⟨_, rfl⟩
  rw [← elocs] at hS ⊢
  obtain ⟨H, eH⟩ : ∃ q : Heap, q = s.heap := ⟨_, rfl⟩
  have hP : va_P D vwCl G0 H := eH ▸ hP
  have hS : va_S A s.heap H locs := by rw [eH]; exact hS
  rw [← eH]
  clear elocs eH
  have hiX5 : ∀ w ∈ u_ws RX5 TX5 6, w ∈ wsX5_driftAside := by decide +kernel
  have hk : ∀ k, k ∉ [6] → G0[k]? = G0[k]? := fun _ _ => rfl
  refine lv_iconst (v := nI (0)) (pc := 0) hx hb dX5_driftAside_0 (by decide) ?_
  refine lv_istore_n (lv' := [(2, .int (nI (0))), (0, .ref (a 5)), (1, .int (q))]) (pc := 1) hx hb dX5_driftAside_1 rfl hl (by decide) rfl (fun ls hl => ?_)
  have LP : ∀ (k : Nat) (r : Nat) (ink : Nat → Int32), r + k = tr → ∀ (G : va_W) (H : Heap) (locs : List Loc) (ls : Array Slot), va_P D vwCl G H → va_D A G → va_S A s.heap H locs → (∀ j, j ∉ [6] → G[j]? = G0[j]?) → G[5]? = some (a 5, .inr (5, [.ref (a 6), .int (nI (tz)), .int (nI (tr)), .int (fed), .int (pap), .int (bar)])) → G[6]? = some (a 6, .inl (cI, 40, .inl (ink))) → lv_has ls 7 [(0, .ref (a 5)), (1, .int (q)), (2, .int (nI (r)))] → (∀ (G : va_W) (H : Heap) (locs : List Loc) (ls : Array Slot), va_P D vwCl G H → va_D A G → va_S A s.heap H locs → (∀ j, j ∉ [6] → G[j]? = G0[j]?) → G[5]? = some (a 5, .inr (5, [.ref (a 6), .int (nI (tz)), .int (nI (tr)), .int (fed), .int (pap), .int (bar)])) → G[6]? = some (a 6, .inl (cI, 40, .inl (gDr q tz k r ink))) → lv_has ls 7 [(0, .ref (a 5))] → W p l e ({ frames := 1, cells := 0, slots := 0, locals := 22 } : Room) s m args below meth c H locs 0 0 Q (F0 m 112 ls [])) → W p l e ({ frames := 1, cells := 0, slots := 0, locals := 22 } : Room) s m args below meth c H locs 0 0 Q (F0 m 2 ls []) := by
    intro k
    induction k with
    | zero =>
      intro r ink hr G H locs ls hP hD hS hk w5 w6 hl hcont
      refine lv_iload_n (pc := 2) hx hb dX5_driftAside_2 rfl (lv_at hl 2 rfl) ?_
      refine lv_aload_n (pc := 3) hx hb dX5_driftAside_3 rfl (lv_at hl 0 rfl) ?_
      refine va_get (ci := 5) (C := RX5) (T := TX5) (N := 6) (pc := 4) hx hb hts hiX5 hown hK hP 5 w5 rfl 2 (by decide) (hts (.fieldLink RX5 23 "InkPress$Train" "rollers" "I") (by decide +kernel)) (fun _ h9 => h9) rfl dX5_driftAside_4 ?_
      refine mx_cge (tgt := 112) (pc := 7) hx hb (by omega) (by omega) dX5_driftAside_7 (by decide) (fun c7 => ?_) (fun c7 => absurd c7 (by omega))
      exact hcont G H locs ls hP hD hS hk w5 w6 (lv_sub hl [0] rfl)
    | succ k ih =>
      intro r ink hr G H locs ls hP hD hS hk w5 w6 hl hcont
      refine lv_iload_n (pc := 2) hx hb dX5_driftAside_2 rfl (lv_at hl 2 rfl) ?_
      refine lv_aload_n (pc := 3) hx hb dX5_driftAside_3 rfl (lv_at hl 0 rfl) ?_
      refine va_get (ci := 5) (C := RX5) (T := TX5) (N := 6) (pc := 4) hx hb hts hiX5 hown hK hP 5 w5 rfl 2 (by decide) (hts (.fieldLink RX5 23 "InkPress$Train" "rollers" "I") (by decide +kernel)) (fun _ h9 => h9) rfl dX5_driftAside_4 ?_
      refine mx_cge (tgt := 112) (pc := 7) hx hb (by omega) (by omega) dX5_driftAside_7 (by decide) (fun c7 => absurd c7 (by omega)) (fun c7 => ?_)
      refine lv_iload_n (pc := 10) hx hb dX5_driftAside_10 rfl (lv_at hl 2 rfl) ?_
      refine lv_bipush (v := nI (8)) (pc := 11) hx hb dX5_driftAside_11 (by decide) ?_
      refine mx_imul (pc := 13) hx hb dX5_driftAside_13 ?_
      refine lv_istore_n (lv' := [(3, .int (nI ((r) * (8)))), (0, .ref (a 5)), (1, .int (q)), (2, .int (nI (r)))]) (pc := 14) hx hb dX5_driftAside_14 rfl hl (by decide) rfl (fun ls hl => ?_)
      refine lv_aload_n (pc := 15) hx hb dX5_driftAside_15 rfl (lv_at hl 1 rfl) ?_
      refine va_get (ci := 5) (C := RX5) (T := TX5) (N := 6) (pc := 16) hx hb hts hiX5 hown hK hP 5 w5 rfl 0 (by decide) (hts (.fieldLink RX5 9 "InkPress$Train" "ink" "[I") (by decide +kernel)) (fun _ h9 => h9) rfl dX5_driftAside_16 ?_
      refine lv_iload_n (pc := 19) hx hb dX5_driftAside_19 rfl (lv_at hl 0 rfl) ?_
      refine mx_iald (pc := 20) hx hb hK hP 6 w6 ((r) * (8)) (by omega) (by decide) dX5_driftAside_20 ?_
      refine lv_iload_n (pc := 21) hx hb dX5_driftAside_21 rfl (lv_at hl 2 rfl) ?_
      refine lv_sipush (v := nI (200)) (pc := 22) hx hb dX5_driftAside_22 (by decide) ?_
      refine mx_cSi (As := [.int ((ink) ((r) * (8))), .int (q), .int (nI (200))]) (rest := []) (pc := 25) ⟨hx, hb, hml, hown, hts⟩ (k_X5_share (a := a) (x := (ink) ((r) * (8))) (q := q) (n := nI (200)) hD  (by decide)) (va_cwS 3 hts gX5_driftAside_X5_share rfl rfl rfl (by decide +kernel) ⟨Nat.le_of_ble_eq_true rfl, Nat.le_of_ble_eq_true rfl⟩) hK hN hZ hP hS rfl hl.1 rfl (Nat.le_of_ble_eq_true rfl) dX5_driftAside_25 ⟨Nat.zero_le _, Nat.zero_le _⟩ (fun G' H locs hP hD hS hB => ?_)
      rw [hB] at hP hD
      clear hB G'
      refine lv_istore (lv' := [(4, .int (gShare ((ink) ((r) * (8))) (q) (nI (200)))), (3, .int (nI ((r) * (8)))), (0, .ref (a 5)), (1, .int (q)), (2, .int (nI (r)))]) (pc := 28) hx hb dX5_driftAside_28 hl (by decide) rfl (fun ls hl => ?_)
      refine lv_iconst (v := nI (1)) (pc := 30) hx hb dX5_driftAside_30 (by decide) ?_
      refine lv_istore (lv' := [(5, .int (nI (1))), (4, .int (gShare ((ink) ((r) * (8))) (q) (nI (200)))), (3, .int (nI ((r) * (8)))), (0, .ref (a 5)), (1, .int (q)), (2, .int (nI (r)))]) (pc := 31) hx hb dX5_driftAside_31 hl (by decide) rfl (fun ls hl => ?_)
      have LZ : ∀ (j : Nat) (z : Nat) (ink : Nat → Int32) (left : Int32), z + j = tz ∧ 1 ≤ z → ∀ (G : va_W) (H : Heap) (locs : List Loc) (ls : Array Slot), va_P D vwCl G H → va_D A G → va_S A s.heap H locs → (∀ j, j ∉ [6] → G[j]? = G0[j]?) → G[5]? = some (a 5, .inr (5, [.ref (a 6), .int (nI (tz)), .int (nI (tr)), .int (fed), .int (pap), .int (bar)])) → G[6]? = some (a 6, .inl (cI, 40, .inl (ink))) → lv_has ls 7 [(0, .ref (a 5)), (1, .int (q)), (2, .int (nI (r))), (3, .int (nI (r * 8))), (4, .int (left)), (5, .int (nI (z)))] → (∀ (G : va_W) (H : Heap) (locs : List Loc) (ls : Array Slot), va_P D vwCl G H → va_D A G → va_S A s.heap H locs → (∀ j, j ∉ [6] → G[j]? = G0[j]?) → G[5]? = some (a 5, .inr (5, [.ref (a 6), .int (nI (tz)), .int (nI (tr)), .int (fed), .int (pap), .int (bar)])) → G[6]? = some (a 6, .inl (cI, 40, .inl (gDz q (r * 8) j z ink left))) → lv_has ls 7 [(0, .ref (a 5)), (1, .int (q)), (2, .int (nI (r)))] → W p l e ({ frames := 1, cells := 0, slots := 0, locals := 22 } : Room) s m args below meth c H locs 0 0 Q (F0 m 106 ls [])) → W p l e ({ frames := 1, cells := 0, slots := 0, locals := 22 } : Room) s m args below meth c H locs 0 0 Q (F0 m 33 ls []) := by
        intro j
        induction j with
        | zero =>
          intro z ink left hz G H locs ls hP hD hS hk w5 w6 hl hcont
          refine lv_iload (pc := 33) hx hb dX5_driftAside_33 (lv_at hl 5 rfl) ?_
          refine lv_aload_n (pc := 35) hx hb dX5_driftAside_35 rfl (lv_at hl 0 rfl) ?_
          refine va_get (ci := 5) (C := RX5) (T := TX5) (N := 6) (pc := 36) hx hb hts hiX5 hown hK hP 5 w5 rfl 1 (by decide) (hts (.fieldLink RX5 19 "InkPress$Train" "zones" "I") (by decide +kernel)) (fun _ h9 => h9) rfl dX5_driftAside_36 ?_
          refine mx_cge (tgt := 106) (pc := 39) hx hb (by omega) (by omega) dX5_driftAside_39 (by decide) (fun c39 => ?_) (fun c39 => absurd c39 (by omega))
          exact hcont G H locs ls hP hD hS hk w5 w6 (lv_sub hl [0, 1, 2] rfl)
        | succ j ih =>
          intro z ink left hz G H locs ls hP hD hS hk w5 w6 hl hcont
          refine lv_iload (pc := 33) hx hb dX5_driftAside_33 (lv_at hl 5 rfl) ?_
          refine lv_aload_n (pc := 35) hx hb dX5_driftAside_35 rfl (lv_at hl 0 rfl) ?_
          refine va_get (ci := 5) (C := RX5) (T := TX5) (N := 6) (pc := 36) hx hb hts hiX5 hown hK hP 5 w5 rfl 1 (by decide) (hts (.fieldLink RX5 19 "InkPress$Train" "zones" "I") (by decide +kernel)) (fun _ h9 => h9) rfl dX5_driftAside_36 ?_
          refine mx_cge (tgt := 106) (pc := 39) hx hb (by omega) (by omega) dX5_driftAside_39 (by decide) (fun c39 => absurd c39 (by omega)) (fun c39 => ?_)
          refine lv_aload_n (pc := 42) hx hb dX5_driftAside_42 rfl (lv_at hl 0 rfl) ?_
          refine va_get (ci := 5) (C := RX5) (T := TX5) (N := 6) (pc := 43) hx hb hts hiX5 hown hK hP 5 w5 rfl 0 (by decide) (hts (.fieldLink RX5 9 "InkPress$Train" "ink" "[I") (by decide +kernel)) (fun _ h9 => h9) rfl dX5_driftAside_43 ?_
          refine lv_iload_n (pc := 46) hx hb dX5_driftAside_46 rfl (lv_at hl 3 rfl) ?_
          refine lv_iload (pc := 47) hx hb dX5_driftAside_47 (lv_at hl 5 rfl) ?_
          refine mx_iadd (pc := 49) hx hb dX5_driftAside_49 ?_
          refine mx_iald (pc := 50) hx hb hK hP 6 w6 (r * 8 + z) (by omega) (by decide) dX5_driftAside_50 ?_
          refine lv_iload_n (pc := 51) hx hb dX5_driftAside_51 rfl (lv_at hl 1 rfl) ?_
          refine lv_sipush (v := nI (200)) (pc := 52) hx hb dX5_driftAside_52 (by decide) ?_
          refine mx_cSi (As := [.int ((ink) (r * 8 + z)), .int (q), .int (nI (200))]) (rest := []) (pc := 55) ⟨hx, hb, hml, hown, hts⟩ (k_X5_share (a := a) (x := (ink) (r * 8 + z)) (q := q) (n := nI (200)) hD  (by decide)) (va_cwS 3 hts gX5_driftAside_X5_share rfl rfl rfl (by decide +kernel) ⟨Nat.le_of_ble_eq_true rfl, Nat.le_of_ble_eq_true rfl⟩) hK hN hZ hP hS rfl hl.1 rfl (Nat.le_of_ble_eq_true rfl) dX5_driftAside_55 ⟨Nat.zero_le _, Nat.zero_le _⟩ (fun G' H locs hP hD hS hB => ?_)
          rw [hB] at hP hD
          clear hB G'
          refine lv_istore (lv' := [(6, .int (gShare ((ink) (r * 8 + z)) (q) (nI (200)))), (0, .ref (a 5)), (1, .int (q)), (2, .int (nI (r))), (3, .int (nI (r * 8))), (4, .int (left)), (5, .int (nI (z)))]) (pc := 58) hx hb dX5_driftAside_58 hl (by decide) rfl (fun ls hl => ?_)
          refine lv_aload_n (pc := 60) hx hb dX5_driftAside_60 rfl (lv_at hl 1 rfl) ?_
          refine va_get (ci := 5) (C := RX5) (T := TX5) (N := 6) (pc := 61) hx hb hts hiX5 hown hK hP 5 w5 rfl 0 (by decide) (hts (.fieldLink RX5 9 "InkPress$Train" "ink" "[I") (by decide +kernel)) (fun _ h9 => h9) rfl dX5_driftAside_61 ?_
          refine lv_iload_n (pc := 64) hx hb dX5_driftAside_64 rfl (lv_at hl 4 rfl) ?_
          refine lv_iload (pc := 65) hx hb dX5_driftAside_65 (lv_at hl 6 rfl) ?_
          refine mx_iadd (pc := 67) hx hb dX5_driftAside_67 ?_
          refine lv_iconst (v := nI (1)) (pc := 68) hx hb dX5_driftAside_68 (by decide) ?_
          refine mx_isub (pc := 69) hx hb (by omega) dX5_driftAside_69 ?_
          refine lv_dup2_11 (pc := 70) hx hb dX5_driftAside_70 rfl rfl ?_
          refine mx_iald (pc := 71) hx hb hK hP 6 w6 ((r * 8 + z) - (1)) (by omega) (by decide) dX5_driftAside_71 ?_
          refine lv_iload (pc := 72) hx hb dX5_driftAside_72 (lv_at hl 0 rfl) ?_
          refine lv_iload (pc := 74) hx hb dX5_driftAside_74 (lv_at hl 5 rfl) ?_
          refine lv_isub (pc := 76) hx hb dX5_driftAside_76 ?_
          refine lv_iadd (pc := 77) hx hb dX5_driftAside_77 ?_
          refine mx_iast (x := ((ink) ((r * 8 + z) - (1)) + (gShare ((ink) (r * 8 + z)) (q) (nI (200)) - left))) (pc := 78) hx hb hK hP hD hS 6 w6 ((r * 8 + z) - (1)) (by omega) (by decide) dX5_driftAside_78 (fun H locs G hP hD hS w6 ho => ?_)
          have w5 := (ho 5 (by decide)).trans w5
          have w6 : G[6]? = some (a 6, .inl (cI, 40, .inl (upd (ink) ((r * 8 + z) - (1)) (((ink) ((r * 8 + z) - (1)) + (gShare ((ink) (r * 8 + z)) (q) (nI (200)) - left)))))) := w6
          have hk := gk_step hk ho (by decide)
          clear ho
          refine lv_aload_n (pc := 79) hx hb dX5_driftAside_79 rfl (lv_at hl 1 rfl) ?_
          refine va_get (ci := 5) (C := RX5) (T := TX5) (N := 6) (pc := 80) hx hb hts hiX5 hown hK hP 5 w5 rfl 0 (by decide) (hts (.fieldLink RX5 9 "InkPress$Train" "ink" "[I") (by decide +kernel)) (fun _ h9 => h9) rfl dX5_driftAside_80 ?_
          refine lv_iload_n (pc := 83) hx hb dX5_driftAside_83 rfl (lv_at hl 4 rfl) ?_
          refine lv_iload (pc := 84) hx hb dX5_driftAside_84 (lv_at hl 6 rfl) ?_
          refine mx_iadd (pc := 86) hx hb dX5_driftAside_86 ?_
          refine lv_dup2_11 (pc := 87) hx hb dX5_driftAside_87 rfl rfl ?_
          refine mx_iald (pc := 88) hx hb hK hP 6 w6 (r * 8 + z) (by omega) (by decide) dX5_driftAside_88 ?_
          refine lv_iload (pc := 89) hx hb dX5_driftAside_89 (lv_at hl 5 rfl) ?_
          refine lv_iload (pc := 91) hx hb dX5_driftAside_91 (lv_at hl 0 rfl) ?_
          refine lv_isub (pc := 93) hx hb dX5_driftAside_93 ?_
          refine lv_iadd (pc := 94) hx hb dX5_driftAside_94 ?_
          refine mx_iast (x := ((upd (ink) ((r * 8 + z) - (1)) (((ink) ((r * 8 + z) - (1)) + (gShare ((ink) (r * 8 + z)) (q) (nI (200)) - left)))) (r * 8 + z) + (left - gShare ((ink) (r * 8 + z)) (q) (nI (200))))) (pc := 95) hx hb hK hP hD hS 6 w6 (r * 8 + z) (by omega) (by decide) dX5_driftAside_95 (fun H locs G hP hD hS w6 ho => ?_)
          have w5 := (ho 5 (by decide)).trans w5
          have w6 : G[6]? = some (a 6, .inl (cI, 40, .inl (upd (upd (ink) ((r * 8 + z) - (1)) (((ink) ((r * 8 + z) - (1)) + (gShare ((ink) (r * 8 + z)) (q) (nI (200)) - left)))) (r * 8 + z) (((upd (ink) ((r * 8 + z) - (1)) (((ink) ((r * 8 + z) - (1)) + (gShare ((ink) (r * 8 + z)) (q) (nI (200)) - left)))) (r * 8 + z) + (left - gShare ((ink) (r * 8 + z)) (q) (nI (200)))))))) := w6
          have hk := gk_step hk ho (by decide)
          clear ho
          refine lv_iload (pc := 96) hx hb dX5_driftAside_96 (lv_at hl 0 rfl) ?_
          refine lv_istore (lv' := [(4, .int (gShare ((ink) (r * 8 + z)) (q) (nI (200)))), (6, .int (gShare ((ink) (r * 8 + z)) (q) (nI (200)))), (0, .ref (a 5)), (1, .int (q)), (2, .int (nI (r))), (3, .int (nI (r * 8))), (5, .int (nI (z)))]) (pc := 98) hx hb dX5_driftAside_98 hl (by decide) rfl (fun ls hl => ?_)
          refine lv_iinc (v := nI (z + 1)) (lv' := [(5, .int (nI (z + 1))), (4, .int (gShare ((ink) (r * 8 + z)) (q) (nI (200)))), (6, .int (gShare ((ink) (r * 8 + z)) (q) (nI (200)))), (0, .ref (a 5)), (1, .int (q)), (2, .int (nI (r))), (3, .int (nI (r * 8)))]) (pc := 100) hx hb dX5_driftAside_100 hl (k := 6) rfl (mx_inc1 _) (by decide) rfl (fun ls hl => ?_)
          refine lv_goto (tgt := 33) (pc := 103) hx hb dX5_driftAside_103 (by decide) ?_
          exact ih (z + 1) (gD1 q (r * 8) z ink left) (gShare (ink (r * 8 + z)) q (nI 200)) (by omega) G H locs ls hP hD hS hk w5 w6 (lv_sub hl [3, 4, 5, 6, 1, 0] rfl) hcont
      refine LZ (tz - 1) (1) (ink) (gShare ((ink) ((r) * (8))) (q) (nI (200))) (by omega) G H locs ls hP hD hS hk w5 w6 (lv_sub hl [3, 4, 5, 2, 1, 0] rfl) (fun G H locs ls hP hD hS hk w5 w6 hl => ?_)
      have w6 : G[6]? = some (a 6, .inl (cI, 40, .inl (gDz q (r * 8) ((tz - 1)) (1) (ink) (gShare ((ink) ((r) * (8))) (q) (nI (200)))))) := w6
      refine lv_iinc (v := nI (r + 1)) (lv' := [(2, .int (nI (r + 1))), (0, .ref (a 5)), (1, .int (q))]) (pc := 106) hx hb dX5_driftAside_106 hl (k := 2) rfl (mx_inc1 _) (by decide) rfl (fun ls hl => ?_)
      refine lv_goto (tgt := 2) (pc := 109) hx hb dX5_driftAside_109 (by decide) ?_
      exact ih (r + 1) (gDz q (r * 8) ((tz - 1)) (1) (ink) (gShare ((ink) ((r) * (8))) (q) (nI (200)))) (by omega) G H locs ls hP hD hS hk w5 w6 (lv_sub hl [1, 2, 0] rfl) hcont
  refine LP tr (0) (ink) (by omega) G0 H locs ls hP hD hS hk w5 w6 (lv_sub hl [1, 2, 0] rfl) (fun G H locs ls hP hD hS hk w5 w6 hl => ?_)
  have w6 : G[6]? = some (a 6, .inl (cI, 40, .inl (gDr q tz (tr) (0) (ink)))) := w6
  exact hret _ _ _ _ _ hP hD hS ⟨w6, hk⟩ dX5_driftAside_112
