/-! the class's own methods, but print -/
def gQz (ky : Int32 → Int32) : Nat → Nat → (Nat → Int32) → Nat → Int32
  | 0, _, zv => zv
  | k + 1, z, zv => gQz ky k (z + 1) (upd zv (0 * 8 + z) (ky (zv (1 * 8 + z))))
def gQo (ky : Int32 → Int32) : Nat → Nat → (Nat → Int32) → Nat → Nat
  | 0, _, _, ot => ot
  | k + 1, z, zv, ot => gQo ky k (z + 1) (upd zv (0 * 8 + z) (ky (zv (1 * 8 + z)))) (if zv (0 * 8 + z) = ky (zv (1 * 8 + z)) then ot else ot + 1)
theorem gQo_e {ky : Int32 → Int32} {k z ot : Nat} {zv : Nat → Int32} (h : zv (0 * 8 + z) = ky (zv (1 * 8 + z))) : gQo ky (k + 1) z zv ot = gQo ky k (z + 1) (upd zv (0 * 8 + z) (ky (zv (1 * 8 + z)))) ot := by
  show gQo ky k (z + 1) _ (if _ then ot else ot + 1) = _
  rw [if_pos h]
theorem gQo_n {ky : Int32 → Int32} {k z ot : Nat} {zv : Nat → Int32} (h : ¬ zv (0 * 8 + z) = ky (zv (1 * 8 + z))) : gQo ky (k + 1) z zv ot = gQo ky k (z + 1) (upd zv (0 * 8 + z) (ky (zv (1 * 8 + z)))) (ot + 1) := by
  show gQo ky k (z + 1) _ (if _ then ot else ot + 1) = _
  rw [if_neg h]
def gGcd : Nat → Int64 → Int64 → Int64
  | 0, hi, _ => hi
  | k + 1, hi, lo => if lo = 0 then hi else gGcd k lo (hi - hi / lo * lo)
theorem gGcd_0 {k : Nat} {hi lo : Int64} (h : lo = 0) : gGcd (k + 1) hi lo = hi := if_pos h
theorem gGcd_1 {k : Nat} {hi lo : Int64} (h : ¬ lo = 0) : gGcd (k + 1) hi lo = gGcd k lo (hi - hi / lo * lo) := if_neg h
def gNum (pt : Nat) (u lo : Int64) : Int64 := match pt with
  | 0 => u
  | _ => lo
def gCd (u lo : Int64) : Int64 := gGcd 100 (gLabs u) (gLabs lo)
def gFit (pt : Nat) (u lo : Int64) : Int64 := if 0 < gCd u lo then gNum pt u lo / gCd u lo else gNum pt u lo
theorem gFit_0 {pt : Nat} {u lo : Int64} (h : gCd u lo ≤ 0) : gFit pt u lo = gNum pt u lo := if_neg (Int64.not_lt.mpr h)
theorem gFit_1 {pt : Nat} {u lo : Int64} (h : 0 < gCd u lo) : gFit pt u lo = gNum pt u lo / gCd u lo := if_pos h
set_option maxHeartbeats 4000000 in
set_option maxRecDepth 100000 in
theorem k_X7_steer {l : Launch} {D : va_G} {cI cZ : ClassId} {A : Nat → Prop} {g a : Nat → Nat} {G0 : va_W} {st : Bool} {on : Bool} (hD : va_D A G0) (w0 : G0[0]? = some (a 0, .inr (7, [.ref (a 1), .ref (a 3), .ref (a 5), .ref (a 7), .ref (a 10), .ref (a 11), .ref (a 16), .int (gB (st))]))) : gMi l D cI cZ A g yX7_steer wsX7_steer ({ frames := 0, cells := 0, slots := 0, locals := 0 }) [.ref (a 0), .int (gB (on))] G0 (gB (st)) (fun G1 => G1[0]? = some (a 0, .inr (7, [.ref (a 1), .ref (a 3), .ref (a 5), .ref (a 7), .ref (a 10), .ref (a 11), .ref (a 16), .int (gB (on))])) ∧ ∀ k, k ∉ [0] → G1[k]? = G0[k]?) := by
  refine gof_i (cc := cX7_steer) (maxL := 3) (by decide) rfl (Nat.le_of_ble_eq_true rfl) hD ?_
  intro p e s m args below meth c Q hx hb hml hts hown hK hN hZ hP hS hret ls hl
  have hown : s.vm.findClass RX7 = some m.cls := hown
  have hl : lv_has ls 3 [(0, .ref (a 0)), (1, .int (gB (on)))] := hl
  obtain ⟨locs, elocs⟩ : ∃ q : List Loc, q = [] := ⟨_, rfl⟩
  rw [← elocs] at hS ⊢
  obtain ⟨H, eH⟩ : ∃ q : Heap, q = s.heap := ⟨_, rfl⟩
  have hP : va_P D vwCl G0 H := eH ▸ hP
  have hS : va_S A s.heap H locs := by rw [eH]; exact hS
  rw [← eH]
  clear elocs eH
  have hiX7 : ∀ w ∈ u_ws RX7 TX7 8, w ∈ wsX7_steer := by decide +kernel
  have hk : ∀ k, k ∉ [0] → G0[k]? = G0[k]? := fun _ _ => rfl
  refine lv_aload_n (pc := 0) hx hb dX7_steer_0 rfl (lv_at hl 0 rfl) ?_
  refine va_get (ci := 7) (C := RX7) (T := TX7) (N := 8) (pc := 1) hx hb hts hiX7 hown hK hP 0 w0 rfl 7 (by decide) (hts (.fieldLink RX7 58 "InkPress" "steering" "Z") (by decide +kernel)) (fun _ h9 => h9) rfl dX7_steer_1 ?_
  refine mx_beq (tgt := 11) (pc := 4) hx hb dX7_steer_4 (by decide) (fun c4 => ?_) (fun c4 => ?_)
  · skip
    refine lv_iconst (v := nI (0)) (pc := 11) hx hb dX7_steer_11 (by decide) ?_
    refine lv_istore_n (lv' := [(2, .int (nI (0))), (0, .ref (a 0)), (1, .int (gB (on)))]) (pc := 12) hx hb dX7_steer_12 rfl hl (by decide) rfl (fun ls hl => ?_)
    refine lv_aload_n (pc := 13) hx hb dX7_steer_13 rfl (lv_at hl 1 rfl) ?_
    refine lv_iload_n (pc := 14) hx hb dX7_steer_14 rfl (lv_at hl 2 rfl) ?_
    refine mx_put (ci := 7) (v := .int (gB (on))) (ty := .boolean) (C := RX7) (T := TX7) (N := 8) (pc := 15) hx hb hts hiX7 tyX7 tyX7_ok nmX7 hown hK hP hD hS 0 w0 rfl 7 (by decide) (hts (.fieldLink RX7 58 "InkPress" "steering" "Z") (by decide +kernel)) (fun _ h9 => h9) rfl (by decide +kernel) (gB_nar _) (gB_fits _) (Nat.le_of_ble_eq_true rfl) dX7_steer_15 (fun H locs G hP hD hS w0 ho => ?_)
    have w0 : G[0]? = some (a 0, .inr (7, [.ref (a 1), .ref (a 3), .ref (a 5), .ref (a 7), .ref (a 10), .ref (a 11), .ref (a 16), .int (gB (on))])) := w0
    have hk := gk_step hk ho (by decide)
    clear ho
    refine lv_iload_n (pc := 18) hx hb dX7_steer_18 rfl (lv_at hl 0 rfl) ?_
    exact hret _ _ _ _ _ _ hP hD hS (by rw [c4]; rfl) ⟨w0, hk⟩ dX7_steer_19
  · skip
    refine lv_iconst (v := nI (1)) (pc := 7) hx hb dX7_steer_7 (by decide) ?_
    refine lv_goto (tgt := 12) (pc := 8) hx hb dX7_steer_8 (by decide) ?_
    refine lv_istore_n (lv' := [(2, .int (nI (1))), (0, .ref (a 0)), (1, .int (gB (on)))]) (pc := 12) hx hb dX7_steer_12 rfl hl (by decide) rfl (fun ls hl => ?_)
    refine lv_aload_n (pc := 13) hx hb dX7_steer_13 rfl (lv_at hl 1 rfl) ?_
    refine lv_iload_n (pc := 14) hx hb dX7_steer_14 rfl (lv_at hl 2 rfl) ?_
    refine mx_put (ci := 7) (v := .int (gB (on))) (ty := .boolean) (C := RX7) (T := TX7) (N := 8) (pc := 15) hx hb hts hiX7 tyX7 tyX7_ok nmX7 hown hK hP hD hS 0 w0 rfl 7 (by decide) (hts (.fieldLink RX7 58 "InkPress" "steering" "Z") (by decide +kernel)) (fun _ h9 => h9) rfl (by decide +kernel) (gB_nar _) (gB_fits _) (Nat.le_of_ble_eq_true rfl) dX7_steer_15 (fun H locs G hP hD hS w0 ho => ?_)
    have w0 : G[0]? = some (a 0, .inr (7, [.ref (a 1), .ref (a 3), .ref (a 5), .ref (a 7), .ref (a 10), .ref (a 11), .ref (a 16), .int (gB (on))])) := w0
    have hk := gk_step hk ho (by decide)
    clear ho
    refine lv_iload_n (pc := 18) hx hb dX7_steer_18 rfl (lv_at hl 0 rfl) ?_
    exact hret _ _ _ _ _ _ hP hD hS (by rw [c4]; rfl) ⟨w0, hk⟩ dX7_steer_19
set_option maxHeartbeats 4000000 in
set_option maxRecDepth 100000 in
theorem k_X7_press_b {l : Launch} {D : va_G} {cI cZ : ClassId} {A : Nat → Prop} {g a : Nat → Nat} {G0 : va_W} {st : Bool} {z : Int32} {r : Int32} (hD : va_D A G0) (w0 : G0[0]? = some (a 0, .inr (7, [.ref (a 1), .ref (a 3), .ref (a 5), .ref (a 7), .ref (a 10), .ref (a 11), .ref (a 16), .int (gB (st))]))) (hbad : gWi z (nI 2) (nI 8) = false ∨ gWi r (nI 2) (nI 5) = false) : gMi l D cI cZ A g yX7_press wsX7_press ({ frames := 1, cells := 0, slots := 0, locals := 22 }) [.ref (a 0), .int (z), .int (r)] G0 ((-2)) (fun G1 => G1 = G0) := by
  refine gof_i (cc := cX7_press) (maxL := 3) (by decide) rfl (Nat.le_of_ble_eq_true rfl) hD ?_
  intro p e s m args below meth c Q hx hb hml hts hown hK hN hZ hP hS hret ls hl
  have hown : s.vm.findClass RX7 = some m.cls := hown
  have hl : lv_has ls 3 [(0, .ref (a 0)), (1, .int (z)), (2, .int (r))] := hl
  obtain ⟨locs, elocs⟩ : ∃ q : List Loc, q = [] := ⟨_, rfl⟩
  rw [← elocs] at hS ⊢
  obtain ⟨H, eH⟩ : ∃ q : Heap, q = s.heap := ⟨_, rfl⟩
  have hP : va_P D vwCl G0 H := eH ▸ hP
  have hS : va_S A s.heap H locs := by rw [eH]; exact hS
  rw [← eH]
  clear elocs eH
  have hk : ∀ k, k ∉ ([] : List Nat) → G0[k]? = G0[k]? := fun _ _ => rfl
  refine lv_iload_n (pc := 0) hx hb dX7_press_0 rfl (lv_at hl 1 rfl) ?_
  refine lv_iconst (v := nI (2)) (pc := 1) hx hb dX7_press_1 (by decide) ?_
  refine lv_bipush (v := nI (8)) (pc := 2) hx hb dX7_press_2 (by decide) ?_
  refine mx_cSi (As := [.int (z), .int (nI (2)), .int (nI (8))]) (rest := []) (pc := 4) ⟨hx, hb, hml, hown, hts⟩ (k_X7_within (a := a) (v := z) (lo := nI (2)) (hi := nI (8)) hD  ) (va_cwS 3 hts gX7_press_X7_within rfl rfl rfl (by decide +kernel) ⟨Nat.le_of_ble_eq_true rfl, Nat.le_of_ble_eq_true rfl⟩) hK hN hZ hP hS rfl hl.1 rfl (Nat.le_of_ble_eq_true rfl) dX7_press_4 ⟨Nat.zero_le _, Nat.zero_le _⟩ (fun G' H locs hP hD hS hB => ?_)
  rw [hB] at hP hD
  clear hB G'
  refine mx_beq (tgt := 19) (pc := 7) hx hb dX7_press_7 (by decide) (fun c7 => ?_) (fun c7 => ?_)
  · skip
    refine lv_bipush (v := (-2)) (pc := 19) hx hb dX7_press_19 (by decide) ?_
    exact hret _ _ _ _ _ _ hP hD hS rfl rfl dX7_press_21
  · skip
    refine lv_iload_n (pc := 10) hx hb dX7_press_10 rfl (lv_at hl 2 rfl) ?_
    refine lv_iconst (v := nI (2)) (pc := 11) hx hb dX7_press_11 (by decide) ?_
    refine lv_iconst (v := nI (5)) (pc := 12) hx hb dX7_press_12 (by decide) ?_
    refine mx_cSi (As := [.int (r), .int (nI (2)), .int (nI (5))]) (rest := []) (pc := 13) ⟨hx, hb, hml, hown, hts⟩ (k_X7_within (a := a) (v := r) (lo := nI (2)) (hi := nI (5)) hD  ) (va_cwS 3 hts gX7_press_X7_within rfl rfl rfl (by decide +kernel) ⟨Nat.le_of_ble_eq_true rfl, Nat.le_of_ble_eq_true rfl⟩) hK hN hZ hP hS rfl hl.1 rfl (Nat.le_of_ble_eq_true rfl) dX7_press_13 ⟨Nat.zero_le _, Nat.zero_le _⟩ (fun G' H locs hP hD hS hB => ?_)
    rw [hB] at hP hD
    clear hB G'
    refine mx_bne (tgt := 22) (pc := 16) hx hb dX7_press_16 (by decide) (fun c16 => ?_) (fun c16 => ?_)
    · skip
      exact (by simp [c7, c16] at hbad)
    · skip
      refine lv_bipush (v := (-2)) (pc := 19) hx hb dX7_press_19 (by decide) ?_
      exact hret _ _ _ _ _ _ hP hD hS rfl rfl dX7_press_21
set_option maxHeartbeats 4000000 in
set_option maxRecDepth 100000 in
theorem k_X7_press_k {l : Launch} {D : va_G} {cI cZ : ClassId} {A : Nat → Prop} {g a : Nat → Nat} {G0 : va_W} {st : Bool} {zv : Nat → Int32} {zn : Nat} {ink : Nat → Int32} {tr : Nat} {fed : Int32} {pap : Int32} {bar : Int32} {den : Nat → Int32} {go : Nat → Bool} {sc : Nat} {sg : Int32} {sr : Int32} {ss : Int32} {z : Nat} {r : Nat} (hD : va_D A G0) (w0 : G0[0]? = some (a 0, .inr (7, [.ref (a 1), .ref (a 3), .ref (a 5), .ref (a 7), .ref (a 10), .ref (a 11), .ref (a 16), .int (gB (st))]))) (w3 : G0[3]? = some (a 3, .inr (6, [.ref (a 4), .int (nI (zn))]))) (w4 : G0[4]? = some (a 4, .inl (cI, 24, .inl (zv)))) (w5 : G0[5]? = some (a 5, .inr (5, [.ref (a 6), .int (nI (zn)), .int (nI (tr)), .int (fed), .int (pap), .int (bar)]))) (w6 : G0[6]? = some (a 6, .inl (cI, 40, .inl (ink)))) (w7 : G0[7]? = some (a 7, .inr (4, [.ref (a 8), .ref (a 9), .int (nI (sc)), .int (sg), .int (sr), .int (ss)]))) (w8 : G0[8]? = some (a 8, .inl (cI, 8000, .inl (den)))) (w9 : G0[9]? = some (a 9, .inl (cZ, 1000, .inl (fun j => gB ((go) j))))) (h1 : gWi (nI z) (nI 2) (nI 8) = true) (h2 : gWi (nI r) (nI 2) (nI 5) = true) : gMi l D cI cZ A g yX7_press wsX7_press ({ frames := 1, cells := 0, slots := 0, locals := 23 }) [.ref (a 0), .int (nI (z)), .int (nI (r))] G0 (nI (z * r)) (fun G1 => G1[0]? = some (a 0, .inr (7, [.ref (a 1), .ref (a 3), .ref (a 5), .ref (a 7), .ref (a 10), .ref (a 11), .ref (a 16), .int (gB (false))])) ∧ G1[3]? = some (a 3, .inr (6, [.ref (a 4), .int (nI (z))])) ∧ G1[4]? = some (a 4, .inl (cI, 24, .inl (gZr 24 0 zv))) ∧ G1[5]? = some (a 5, .inr (5, [.ref (a 6), .int (nI (z)), .int (nI (r)), .int (nI (0)), .int (nI (0)), .int (nI (0))])) ∧ G1[6]? = some (a 6, .inl (cI, 40, .inl (gClr 40 0 ink))) ∧ G1[7]? = some (a 7, .inr (4, [.ref (a 8), .ref (a 9), .int (nI (0)), .int (nI (0)), .int (nI (0)), .int ((-6))])) ∧ ∀ k, k ∉ [0, 3, 4, 5, 6, 7] → G1[k]? = G0[k]?) := by
  refine gof_i (cc := cX7_press) (maxL := 3) (by decide) rfl (Nat.le_of_ble_eq_true rfl) hD ?_
  intro p e s m args below meth c Q hx hb hml hts hown hK hN hZ hP hS hret ls hl
  have hown : s.vm.findClass RX7 = some m.cls := hown
  have hl : lv_has ls 3 [(0, .ref (a 0)), (1, .int (nI (z))), (2, .int (nI (r)))] := hl
  obtain ⟨locs, elocs⟩ : ∃ q : List Loc, q = [] := ⟨_, rfl⟩
  rw [← elocs] at hS ⊢
  obtain ⟨H, eH⟩ : ∃ q : Heap, q = s.heap := ⟨_, rfl⟩
  have hP : va_P D vwCl G0 H := eH ▸ hP
  have hS : va_S A s.heap H locs := by rw [eH]; exact hS
  rw [← eH]
  clear elocs eH
  have hiX7 : ∀ w ∈ u_ws RX7 TX7 8, w ∈ wsX7_press := by decide +kernel
  have hk : ∀ k, k ∉ [0, 3, 4, 5, 6, 7] → G0[k]? = G0[k]? := fun _ _ => rfl
  refine lv_iload_n (pc := 0) hx hb dX7_press_0 rfl (lv_at hl 1 rfl) ?_
  refine lv_iconst (v := nI (2)) (pc := 1) hx hb dX7_press_1 (by decide) ?_
  refine lv_bipush (v := nI (8)) (pc := 2) hx hb dX7_press_2 (by decide) ?_
  refine mx_cSi (As := [.int (nI (z)), .int (nI (2)), .int (nI (8))]) (rest := []) (pc := 4) ⟨hx, hb, hml, hown, hts⟩ (k_X7_within (a := a) (v := nI (z)) (lo := nI (2)) (hi := nI (8)) hD  ) (va_cwS 3 hts gX7_press_X7_within rfl rfl rfl (by decide +kernel) ⟨Nat.le_of_ble_eq_true rfl, Nat.le_of_ble_eq_true rfl⟩) hK hN hZ hP hS rfl hl.1 rfl (Nat.le_of_ble_eq_true rfl) dX7_press_4 ⟨Nat.zero_le _, Nat.zero_le _⟩ (fun G' H locs hP hD hS hB => ?_)
  rw [hB] at hP hD
  clear hB G'
  refine mx_beq (tgt := 19) (pc := 7) hx hb dX7_press_7 (by decide) (fun c7 => absurd (c7.symm.trans h1) (by decide)) (fun c7 => ?_)
  refine lv_iload_n (pc := 10) hx hb dX7_press_10 rfl (lv_at hl 2 rfl) ?_
  refine lv_iconst (v := nI (2)) (pc := 11) hx hb dX7_press_11 (by decide) ?_
  refine lv_iconst (v := nI (5)) (pc := 12) hx hb dX7_press_12 (by decide) ?_
  refine mx_cSi (As := [.int (nI (r)), .int (nI (2)), .int (nI (5))]) (rest := []) (pc := 13) ⟨hx, hb, hml, hown, hts⟩ (k_X7_within (a := a) (v := nI (r)) (lo := nI (2)) (hi := nI (5)) hD  ) (va_cwS 3 hts gX7_press_X7_within rfl rfl rfl (by decide +kernel) ⟨Nat.le_of_ble_eq_true rfl, Nat.le_of_ble_eq_true rfl⟩) hK hN hZ hP hS rfl hl.1 rfl (Nat.le_of_ble_eq_true rfl) dX7_press_13 ⟨Nat.zero_le _, Nat.zero_le _⟩ (fun G' H locs hP hD hS hB => ?_)
  rw [hB] at hP hD
  clear hB G'
  refine mx_bne (tgt := 22) (pc := 16) hx hb dX7_press_16 (by decide) (fun c16 => ?_) (fun c16 => absurd (c16.symm.trans h2) (by decide))
  refine lv_aload_n (pc := 22) hx hb dX7_press_22 rfl (lv_at hl 0 rfl) ?_
  refine va_get (ci := 7) (C := RX7) (T := TX7) (N := 8) (pc := 23) hx hb hts hiX7 hown hK hP 0 w0 rfl 1 (by decide) (hts (.fieldLink RX7 19 "InkPress" "zones" "LInkPress$Zones;") (by decide +kernel)) (fun _ h9 => h9) rfl dX7_press_23 ?_
  refine lv_iload_n (pc := 26) hx hb dX7_press_26 rfl (lv_at hl 1 rfl) ?_
  refine mx_cVv (As := [.int (nI (z))]) (rest := []) (pc := 27) ⟨hx, hb, hml, hown, hts⟩ (k_X6_restart (a := a) (zv := zv) (zn := zn) (n := z) hD w3 w4 ) (cwV 1 hts gX7_press_X6_restart rfl rfl rfl (by decide +kernel) ⟨Nat.le_of_ble_eq_true rfl, Nat.le_of_ble_eq_true rfl⟩) 3 rfl rfl w3 hK hN hZ hP hS rfl hl.1 rfl (Nat.le_of_ble_eq_true rfl) dX7_press_27 ⟨Nat.zero_le _, Nat.zero_le _⟩ (fun G H locs hP hD hS hB => ?_)
  obtain ⟨w3, w4, ho⟩ := hB
  have w0 := (ho 0 (by decide)).trans w0
  have w3 : G[3]? = some (a 3, .inr (6, [.ref (a 4), .int (nI ((z)))])) := w3
  have w4 : G[4]? = some (a 4, .inl (cI, 24, .inl (gZr 24 0 (zv)))) := w4
  have w5 := (ho 5 (by decide)).trans w5
  have w6 := (ho 6 (by decide)).trans w6
  have w7 := (ho 7 (by decide)).trans w7
  have w8 := (ho 8 (by decide)).trans w8
  have w9 := (ho 9 (by decide)).trans w9
  have hk := gk_call hk ho (by decide)
  clear ho
  refine lv_aload_n (pc := 30) hx hb dX7_press_30 rfl (lv_at hl 0 rfl) ?_
  refine va_get (ci := 7) (C := RX7) (T := TX7) (N := 8) (pc := 31) hx hb hts hiX7 hown hK hP 0 w0 rfl 2 (by decide) (hts (.fieldLink RX7 26 "InkPress" "train" "LInkPress$Train;") (by decide +kernel)) (fun _ h9 => h9) rfl dX7_press_31 ?_
  refine lv_iload_n (pc := 34) hx hb dX7_press_34 rfl (lv_at hl 1 rfl) ?_
  refine lv_iload_n (pc := 35) hx hb dX7_press_35 rfl (lv_at hl 2 rfl) ?_
  refine mx_cVv (As := [.int (nI (z)), .int (nI (r))]) (rest := []) (pc := 36) ⟨hx, hb, hml, hown, hts⟩ (k_X5_restart (a := a) (ink := ink) (tz := zn) (tr := tr) (fed := fed) (pap := pap) (bar := bar) (n := z) (r := r) hD w5 w6 ) (cwV 2 hts gX7_press_X5_restart rfl rfl rfl (by decide +kernel) ⟨Nat.le_of_ble_eq_true rfl, Nat.le_of_ble_eq_true rfl⟩) 5 rfl rfl w5 hK hN hZ hP hS rfl hl.1 rfl (Nat.le_of_ble_eq_true rfl) dX7_press_36 ⟨Nat.zero_le _, Nat.zero_le _⟩ (fun G H locs hP hD hS hB => ?_)
  obtain ⟨w5, w6, ho⟩ := hB
  have w0 := (ho 0 (by decide)).trans w0
  have w3 := (ho 3 (by decide)).trans w3
  have w4 := (ho 4 (by decide)).trans w4
  have w5 : G[5]? = some (a 5, .inr (5, [.ref (a 6), .int (nI ((z))), .int (nI ((r))), .int (nI (0)), .int (nI (0)), .int (nI (0))])) := w5
  have w6 : G[6]? = some (a 6, .inl (cI, 40, .inl (gClr 40 0 (ink)))) := w6
  have w7 := (ho 7 (by decide)).trans w7
  have w8 := (ho 8 (by decide)).trans w8
  have w9 := (ho 9 (by decide)).trans w9
  have hk := gk_call hk ho (by decide)
  clear ho
  refine lv_aload_n (pc := 39) hx hb dX7_press_39 rfl (lv_at hl 0 rfl) ?_
  refine va_get (ci := 7) (C := RX7) (T := TX7) (N := 8) (pc := 40) hx hb hts hiX7 hown hK hP 0 w0 rfl 3 (by decide) (hts (.fieldLink RX7 33 "InkPress" "sheets" "LInkPress$SheetLog;") (by decide +kernel)) (fun _ h9 => h9) rfl dX7_press_40 ?_
  refine mx_cVv (As := []) (rest := []) (pc := 43) ⟨hx, hb, hml, hown, hts⟩ (k_X4_restart (a := a) (den := den) (go := go) (sc := sc) (sg := sg) (sr := sr) (ss := ss) hD w7 w8 w9 ) (cwV 0 hts gX7_press_X4_restart rfl rfl rfl (by decide +kernel) ⟨Nat.le_of_ble_eq_true rfl, Nat.le_of_ble_eq_true rfl⟩) 7 rfl rfl w7 hK hN hZ hP hS rfl hl.1 rfl (Nat.le_of_ble_eq_true rfl) dX7_press_43 ⟨Nat.zero_le _, Nat.zero_le _⟩ (fun G H locs hP hD hS hB => ?_)
  obtain ⟨w7, ho⟩ := hB
  have w0 := (ho 0 (by decide)).trans w0
  have w3 := (ho 3 (by decide)).trans w3
  have w4 := (ho 4 (by decide)).trans w4
  have w5 := (ho 5 (by decide)).trans w5
  have w6 := (ho 6 (by decide)).trans w6
  have w7 : G[7]? = some (a 7, .inr (4, [.ref (a 8), .ref (a 9), .int (nI (0)), .int (nI (0)), .int (nI (0)), .int ((-6))])) := w7
  have w8 := (ho 8 (by decide)).trans w8
  have w9 := (ho 9 (by decide)).trans w9
  have hk := gk_call hk ho (by decide)
  clear ho
  refine lv_aload_n (pc := 46) hx hb dX7_press_46 rfl (lv_at hl 0 rfl) ?_
  refine lv_iconst (v := nI (0)) (pc := 47) hx hb dX7_press_47 (by decide) ?_
  refine mx_put (ci := 7) (v := .int (nI (0))) (ty := .boolean) (C := RX7) (T := TX7) (N := 8) (pc := 48) hx hb hts hiX7 tyX7 tyX7_ok nmX7 hown hK hP hD hS 0 w0 rfl 7 (by decide) (hts (.fieldLink RX7 58 "InkPress" "steering" "Z") (by decide +kernel)) (fun _ h9 => h9) rfl (by decide +kernel) rfl rfl (Nat.le_of_ble_eq_true rfl) dX7_press_48 (fun H locs G hP hD hS w0 ho => ?_)
  have w3 := (ho 3 (by decide)).trans w3
  have w4 := (ho 4 (by decide)).trans w4
  have w5 := (ho 5 (by decide)).trans w5
  have w6 := (ho 6 (by decide)).trans w6
  have w7 := (ho 7 (by decide)).trans w7
  have w8 := (ho 8 (by decide)).trans w8
  have w9 := (ho 9 (by decide)).trans w9
  have w0 : G[0]? = some (a 0, .inr (7, [.ref (a 1), .ref (a 3), .ref (a 5), .ref (a 7), .ref (a 10), .ref (a 11), .ref (a 16), .int (gB (false))])) := w0
  have hk := gk_step hk ho (by decide)
  clear ho
  refine lv_iload_n (pc := 51) hx hb dX7_press_51 rfl (lv_at hl 1 rfl) ?_
  refine lv_iload_n (pc := 52) hx hb dX7_press_52 rfl (lv_at hl 2 rfl) ?_
  refine mx_imul (pc := 53) hx hb dX7_press_53 ?_
  exact hret _ _ _ _ _ _ hP hD hS rfl ⟨w0, w3, w4, w5, w6, w7, hk⟩ dX7_press_54
set_option maxHeartbeats 4000000 in
set_option maxRecDepth 100000 in
theorem k_X7_rule_b {l : Launch} {D : va_G} {cI cZ : ClassId} {A : Nat → Prop} {g a : Nat → Nat} {G0 : va_W} {st : Bool} {ru : Nat → Int32} {x : Int32} {v : Int32} (hD : va_D A G0) (w0 : G0[0]? = some (a 0, .inr (7, [.ref (a 1), .ref (a 3), .ref (a 5), .ref (a 7), .ref (a 10), .ref (a 11), .ref (a 16), .int (gB (st))]))) (w1 : G0[1]? = some (a 1, .inr (3, [.ref (a 2)]))) (w2 : G0[2]? = some (a 2, .inl (cI, 9, .inl (ru)))) (h1 : gHas x (nI 9) = false) : gMi l D cI cZ A g yX7_rule wsX7_rule ({ frames := 1, cells := 0, slots := 0, locals := 21 }) [.ref (a 0), .int (x), .int (v)] G0 ((-1000001)) (fun G1 => G1 = G0) := by
  refine gof_i (cc := cX7_rule) (maxL := 3) (by decide) rfl (Nat.le_of_ble_eq_true rfl) hD ?_
  intro p e s m args below meth c Q hx hb hml hts hown hK hN hZ hP hS hret ls hl
  have hown : s.vm.findClass RX7 = some m.cls := hown
  have hl : lv_has ls 3 [(0, .ref (a 0)), (1, .int (x)), (2, .int (v))] := hl
  obtain ⟨locs, elocs⟩ : ∃ q : List Loc, q = [] := ⟨_, rfl⟩
  rw [← elocs] at hS ⊢
  obtain ⟨H, eH⟩ : ∃ q : Heap, q = s.heap := ⟨_, rfl⟩
  have hP : va_P D vwCl G0 H := eH ▸ hP
  have hS : va_S A s.heap H locs := by rw [eH]; exact hS
  rw [← eH]
  clear elocs eH
  have hiX7 : ∀ w ∈ u_ws RX7 TX7 8, w ∈ wsX7_rule := by decide +kernel
  have hk : ∀ k, k ∉ ([] : List Nat) → G0[k]? = G0[k]? := fun _ _ => rfl
  refine lv_aload_n (pc := 0) hx hb dX7_rule_0 rfl (lv_at hl 0 rfl) ?_
  refine va_get (ci := 7) (C := RX7) (T := TX7) (N := 8) (pc := 1) hx hb hts hiX7 hown hK hP 0 w0 rfl 0 (by decide) (hts (.fieldLink RX7 10 "InkPress" "rules" "LInkPress$Rules;") (by decide +kernel)) (fun _ h9 => h9) rfl dX7_rule_1 ?_
  refine lv_iload_n (pc := 4) hx hb dX7_rule_4 rfl (lv_at hl 1 rfl) ?_
  refine mx_cVi (As := [.int (x)]) (rest := []) (pc := 5) ⟨hx, hb, hml, hown, hts⟩ (k_X3_has (a := a) (ru := ru) (x := x) hD w1 w2 ) (cwV 1 hts gX7_rule_X3_has rfl rfl rfl (by decide +kernel) ⟨Nat.le_of_ble_eq_true rfl, Nat.le_of_ble_eq_true rfl⟩) 1 rfl rfl w1 hK hN hZ hP hS rfl hl.1 rfl (Nat.le_of_ble_eq_true rfl) dX7_rule_5 ⟨Nat.zero_le _, Nat.zero_le _⟩ (fun G' H locs hP hD hS hB => ?_)
  rw [hB] at hP hD
  clear hB G'
  refine mx_bne (tgt := 14) (pc := 8) hx hb dX7_rule_8 (by decide) (fun c8 => absurd (c8.symm.trans h1) (by decide)) (fun c8 => ?_)
  refine lv_ldc (own := RX7) (v := (-1000001)) (pc := 11) hx hb hown (hts (.constant RX7 79 (-1000001)) (by decide +kernel)) dX7_rule_11 ?_
  exact hret _ _ _ _ _ _ hP hD hS rfl rfl dX7_rule_13
set_option maxHeartbeats 4000000 in
set_option maxRecDepth 100000 in
theorem k_X7_rule_c {l : Launch} {D : va_G} {cI cZ : ClassId} {A : Nat → Prop} {g a : Nat → Nat} {G0 : va_W} {st : Bool} {ru : Nat → Int32} {k : Nat} {v : Int32} (hD : va_D A G0) (w0 : G0[0]? = some (a 0, .inr (7, [.ref (a 1), .ref (a 3), .ref (a 5), .ref (a 7), .ref (a 10), .ref (a 11), .ref (a 16), .int (gB (st))]))) (w1 : G0[1]? = some (a 1, .inr (3, [.ref (a 2)]))) (w2 : G0[2]? = some (a 2, .inl (cI, 9, .inl (ru)))) (hk9 : k < 9) (h1 : gHas (nI k) (nI 9) = true) (h2 : gWi v ((gTab 0).getD k 0) ((gTab 1).getD k 0) = false) : gMi l D cI cZ A g yX7_rule wsX7_rule ({ frames := 2, cells := 0, slots := 0, locals := 44 }) [.ref (a 0), .int (nI (k)), .int (v)] G0 ((-1000002)) (fun G1 => G1 = G0) := by
  refine gof_i (cc := cX7_rule) (maxL := 3) (by decide) rfl (Nat.le_of_ble_eq_true rfl) hD ?_
  intro p e s m args below meth c Q hx hb hml hts hown hK hN hZ hP hS hret ls hl
  have hown : s.vm.findClass RX7 = some m.cls := hown
  have hl : lv_has ls 3 [(0, .ref (a 0)), (1, .int (nI (k))), (2, .int (v))] := hl
  obtain ⟨locs, elocs⟩ : ∃ q : List Loc, q = [] := ⟨_, rfl⟩
  rw [← elocs] at hS ⊢
  obtain ⟨H, eH⟩ : ∃ q : Heap, q = s.heap := ⟨_, rfl⟩
  have hP : va_P D vwCl G0 H := eH ▸ hP
  have hS : va_S A s.heap H locs := by rw [eH]; exact hS
  rw [← eH]
  clear elocs eH
  have hiX7 : ∀ w ∈ u_ws RX7 TX7 8, w ∈ wsX7_rule := by decide +kernel
  have hk : ∀ k, k ∉ ([] : List Nat) → G0[k]? = G0[k]? := fun _ _ => rfl
  refine lv_aload_n (pc := 0) hx hb dX7_rule_0 rfl (lv_at hl 0 rfl) ?_
  refine va_get (ci := 7) (C := RX7) (T := TX7) (N := 8) (pc := 1) hx hb hts hiX7 hown hK hP 0 w0 rfl 0 (by decide) (hts (.fieldLink RX7 10 "InkPress" "rules" "LInkPress$Rules;") (by decide +kernel)) (fun _ h9 => h9) rfl dX7_rule_1 ?_
  refine lv_iload_n (pc := 4) hx hb dX7_rule_4 rfl (lv_at hl 1 rfl) ?_
  refine mx_cVi (As := [.int (nI (k))]) (rest := []) (pc := 5) ⟨hx, hb, hml, hown, hts⟩ (k_X3_has (a := a) (ru := ru) (x := nI (k)) hD w1 w2 ) (cwV 1 hts gX7_rule_X3_has rfl rfl rfl (by decide +kernel) ⟨Nat.le_of_ble_eq_true rfl, Nat.le_of_ble_eq_true rfl⟩) 1 rfl rfl w1 hK hN hZ hP hS rfl hl.1 rfl (Nat.le_of_ble_eq_true rfl) dX7_rule_5 ⟨Nat.zero_le _, Nat.zero_le _⟩ (fun G' H locs hP hD hS hB => ?_)
  rw [hB] at hP hD
  clear hB G'
  refine mx_bne (tgt := 14) (pc := 8) hx hb dX7_rule_8 (by decide) (fun c8 => ?_) (fun c8 => absurd (c8.symm.trans h1) (by decide))
  refine lv_aload_n (pc := 14) hx hb dX7_rule_14 rfl (lv_at hl 0 rfl) ?_
  refine va_get (ci := 7) (C := RX7) (T := TX7) (N := 8) (pc := 15) hx hb hts hiX7 hown hK hP 0 w0 rfl 0 (by decide) (hts (.fieldLink RX7 10 "InkPress" "rules" "LInkPress$Rules;") (by decide +kernel)) (fun _ h9 => h9) rfl dX7_rule_15 ?_
  refine lv_iload_n (pc := 18) hx hb dX7_rule_18 rfl (lv_at hl 1 rfl) ?_
  refine lv_iload_n (pc := 19) hx hb dX7_rule_19 rfl (lv_at hl 2 rfl) ?_
  refine mx_cVi (As := [.int (nI (k)), .int (v)]) (rest := []) (pc := 20) ⟨hx, hb, hml, hown, hts⟩ (k_X3_allows (a := a) (ru := ru) (k := k) (v := v) hD w1 w2 (by omega)) (cwV 2 hts gX7_rule_X3_allows rfl rfl rfl (by decide +kernel) ⟨Nat.le_of_ble_eq_true rfl, Nat.le_of_ble_eq_true rfl⟩) 1 rfl rfl w1 hK hN hZ hP hS rfl hl.1 rfl (Nat.le_of_ble_eq_true rfl) dX7_rule_20 ⟨Nat.zero_le _, Nat.zero_le _⟩ (fun G' H locs hP hD hS hB => ?_)
  rw [hB] at hP hD
  clear hB G'
  refine mx_bne (tgt := 29) (pc := 23) hx hb dX7_rule_23 (by decide) (fun c23 => absurd (c23.symm.trans h2) (by decide)) (fun c23 => ?_)
  refine lv_ldc (own := RX7) (v := (-1000002)) (pc := 26) hx hb hown (hts (.constant RX7 84 (-1000002)) (by decide +kernel)) dX7_rule_26 ?_
  exact hret _ _ _ _ _ _ hP hD hS rfl rfl dX7_rule_28
set_option maxHeartbeats 4000000 in
set_option maxRecDepth 100000 in
theorem k_X7_rule_k {l : Launch} {D : va_G} {cI cZ : ClassId} {A : Nat → Prop} {g a : Nat → Nat} {G0 : va_W} {st : Bool} {ru : Nat → Int32} {k : Nat} {v : Int32} (hD : va_D A G0) (w0 : G0[0]? = some (a 0, .inr (7, [.ref (a 1), .ref (a 3), .ref (a 5), .ref (a 7), .ref (a 10), .ref (a 11), .ref (a 16), .int (gB (st))]))) (w1 : G0[1]? = some (a 1, .inr (3, [.ref (a 2)]))) (w2 : G0[2]? = some (a 2, .inl (cI, 9, .inl (ru)))) (hk9 : k < 9) (h1 : gHas (nI k) (nI 9) = true) (h2 : gWi v ((gTab 0).getD k 0) ((gTab 1).getD k 0) = true) : gMi l D cI cZ A g yX7_rule wsX7_rule ({ frames := 2, cells := 0, slots := 0, locals := 44 }) [.ref (a 0), .int (nI (k)), .int (v)] G0 (ru k) (fun G1 => G1[2]? = some (a 2, .inl (cI, 9, .inl (upd ru k v))) ∧ ∀ k, k ∉ [2] → G1[k]? = G0[k]?) := by
  refine gof_i (cc := cX7_rule) (maxL := 3) (by decide) rfl (Nat.le_of_ble_eq_true rfl) hD ?_
  intro p e s m args below meth c Q hx hb hml hts hown hK hN hZ hP hS hret ls hl
  have hown : s.vm.findClass RX7 = some m.cls := hown
  have hl : lv_has ls 3 [(0, .ref (a 0)), (1, .int (nI (k))), (2, .int (v))] := hl
  obtain ⟨locs, elocs⟩ : ∃ q : List Loc, q = [] := ⟨_, rfl⟩
  rw [← elocs] at hS ⊢
  obtain ⟨H, eH⟩ : ∃ q : Heap, q = s.heap := ⟨_, rfl⟩
  have hP : va_P D vwCl G0 H := eH ▸ hP
  have hS : va_S A s.heap H locs := by rw [eH]; exact hS
  rw [← eH]
  clear elocs eH
  have hiX7 : ∀ w ∈ u_ws RX7 TX7 8, w ∈ wsX7_rule := by decide +kernel
  have hk : ∀ k, k ∉ [2] → G0[k]? = G0[k]? := fun _ _ => rfl
  refine lv_aload_n (pc := 0) hx hb dX7_rule_0 rfl (lv_at hl 0 rfl) ?_
  refine va_get (ci := 7) (C := RX7) (T := TX7) (N := 8) (pc := 1) hx hb hts hiX7 hown hK hP 0 w0 rfl 0 (by decide) (hts (.fieldLink RX7 10 "InkPress" "rules" "LInkPress$Rules;") (by decide +kernel)) (fun _ h9 => h9) rfl dX7_rule_1 ?_
  refine lv_iload_n (pc := 4) hx hb dX7_rule_4 rfl (lv_at hl 1 rfl) ?_
  refine mx_cVi (As := [.int (nI (k))]) (rest := []) (pc := 5) ⟨hx, hb, hml, hown, hts⟩ (k_X3_has (a := a) (ru := ru) (x := nI (k)) hD w1 w2 ) (cwV 1 hts gX7_rule_X3_has rfl rfl rfl (by decide +kernel) ⟨Nat.le_of_ble_eq_true rfl, Nat.le_of_ble_eq_true rfl⟩) 1 rfl rfl w1 hK hN hZ hP hS rfl hl.1 rfl (Nat.le_of_ble_eq_true rfl) dX7_rule_5 ⟨Nat.zero_le _, Nat.zero_le _⟩ (fun G' H locs hP hD hS hB => ?_)
  rw [hB] at hP hD
  clear hB G'
  refine mx_bne (tgt := 14) (pc := 8) hx hb dX7_rule_8 (by decide) (fun c8 => ?_) (fun c8 => absurd (c8.symm.trans h1) (by decide))
  refine lv_aload_n (pc := 14) hx hb dX7_rule_14 rfl (lv_at hl 0 rfl) ?_
  refine va_get (ci := 7) (C := RX7) (T := TX7) (N := 8) (pc := 15) hx hb hts hiX7 hown hK hP 0 w0 rfl 0 (by decide) (hts (.fieldLink RX7 10 "InkPress" "rules" "LInkPress$Rules;") (by decide +kernel)) (fun _ h9 => h9) rfl dX7_rule_15 ?_
  refine lv_iload_n (pc := 18) hx hb dX7_rule_18 rfl (lv_at hl 1 rfl) ?_
  refine lv_iload_n (pc := 19) hx hb dX7_rule_19 rfl (lv_at hl 2 rfl) ?_
  refine mx_cVi (As := [.int (nI (k)), .int (v)]) (rest := []) (pc := 20) ⟨hx, hb, hml, hown, hts⟩ (k_X3_allows (a := a) (ru := ru) (k := k) (v := v) hD w1 w2 (by omega)) (cwV 2 hts gX7_rule_X3_allows rfl rfl rfl (by decide +kernel) ⟨Nat.le_of_ble_eq_true rfl, Nat.le_of_ble_eq_true rfl⟩) 1 rfl rfl w1 hK hN hZ hP hS rfl hl.1 rfl (Nat.le_of_ble_eq_true rfl) dX7_rule_20 ⟨Nat.zero_le _, Nat.zero_le _⟩ (fun G' H locs hP hD hS hB => ?_)
  rw [hB] at hP hD
  clear hB G'
  refine mx_bne (tgt := 29) (pc := 23) hx hb dX7_rule_23 (by decide) (fun c23 => ?_) (fun c23 => absurd (c23.symm.trans h2) (by decide))
  refine lv_aload_n (pc := 29) hx hb dX7_rule_29 rfl (lv_at hl 0 rfl) ?_
  refine va_get (ci := 7) (C := RX7) (T := TX7) (N := 8) (pc := 30) hx hb hts hiX7 hown hK hP 0 w0 rfl 0 (by decide) (hts (.fieldLink RX7 10 "InkPress" "rules" "LInkPress$Rules;") (by decide +kernel)) (fun _ h9 => h9) rfl dX7_rule_30 ?_
  refine lv_iload_n (pc := 33) hx hb dX7_rule_33 rfl (lv_at hl 1 rfl) ?_
  refine lv_iload_n (pc := 34) hx hb dX7_rule_34 rfl (lv_at hl 2 rfl) ?_
  refine mx_cVi (As := [.int (nI (k)), .int (v)]) (rest := []) (pc := 35) ⟨hx, hb, hml, hown, hts⟩ (k_X3_change (a := a) (ru := ru) (k := k) (v := v) hD w1 w2 (by omega)) (cwV 2 hts gX7_rule_X3_change rfl rfl rfl (by decide +kernel) ⟨Nat.le_of_ble_eq_true rfl, Nat.le_of_ble_eq_true rfl⟩) 1 rfl rfl w1 hK hN hZ hP hS rfl hl.1 rfl (Nat.le_of_ble_eq_true rfl) dX7_rule_35 ⟨Nat.zero_le _, Nat.zero_le _⟩ (fun G H locs hP hD hS hB => ?_)
  obtain ⟨w2, ho⟩ := hB
  have w0 := (ho 0 (by decide)).trans w0
  have w1 := (ho 1 (by decide)).trans w1
  have w2 : G[2]? = some (a 2, .inl (cI, 9, .inl (upd (ru) (k) (v)))) := w2
  have hk := gk_call hk ho (by decide)
  clear ho
  exact hret _ _ _ _ _ _ hP hD hS rfl ⟨w2, hk⟩ dX7_rule_38
set_option maxHeartbeats 4000000 in
set_option maxRecDepth 100000 in
theorem k_X7_set_b {l : Launch} {D : va_G} {cI cZ : ClassId} {A : Nat → Prop} {g a : Nat → Nat} {G0 : va_W} {st : Bool} {zv : Nat → Int32} {zn : Nat} {x : Int32} {y : Int32} {v : Int32} (hD : va_D A G0) (w0 : G0[0]? = some (a 0, .inr (7, [.ref (a 1), .ref (a 3), .ref (a 5), .ref (a 7), .ref (a 10), .ref (a 11), .ref (a 16), .int (gB (st))]))) (w3 : G0[3]? = some (a 3, .inr (6, [.ref (a 4), .int (nI (zn))]))) (w4 : G0[4]? = some (a 4, .inl (cI, 24, .inl (zv)))) (h1 : gHas x (nI zn) = false) : gMi l D cI cZ A g yX7_set wsX7_set ({ frames := 1, cells := 0, slots := 0, locals := 21 }) [.ref (a 0), .int (x), .int (y), .int (v)] G0 ((-1)) (fun G1 => G1 = G0) := by
  refine gof_i (cc := cX7_set) (maxL := 4) (by decide) rfl (Nat.le_of_ble_eq_true rfl) hD ?_
  intro p e s m args below meth c Q hx hb hml hts hown hK hN hZ hP hS hret ls hl
  have hown : s.vm.findClass RX7 = some m.cls := hown
  have hl : lv_has ls 4 [(0, .ref (a 0)), (1, .int (x)), (2, .int (y)), (3, .int (v))] := hl
  obtain ⟨locs, elocs⟩ : ∃ q : List Loc, q = [] := ⟨_, rfl⟩
  rw [← elocs] at hS ⊢
  obtain ⟨H, eH⟩ : ∃ q : Heap, q = s.heap := ⟨_, rfl⟩
  have hP : va_P D vwCl G0 H := eH ▸ hP
  have hS : va_S A s.heap H locs := by rw [eH]; exact hS
  rw [← eH]
  clear elocs eH
  have hiX7 : ∀ w ∈ u_ws RX7 TX7 8, w ∈ wsX7_set := by decide +kernel
  have hk : ∀ k, k ∉ ([] : List Nat) → G0[k]? = G0[k]? := fun _ _ => rfl
  refine lv_aload_n (pc := 0) hx hb dX7_set_0 rfl (lv_at hl 0 rfl) ?_
  refine va_get (ci := 7) (C := RX7) (T := TX7) (N := 8) (pc := 1) hx hb hts hiX7 hown hK hP 0 w0 rfl 1 (by decide) (hts (.fieldLink RX7 19 "InkPress" "zones" "LInkPress$Zones;") (by decide +kernel)) (fun _ h9 => h9) rfl dX7_set_1 ?_
  refine lv_iload_n (pc := 4) hx hb dX7_set_4 rfl (lv_at hl 1 rfl) ?_
  refine mx_cVi (As := [.int (x)]) (rest := []) (pc := 5) ⟨hx, hb, hml, hown, hts⟩ (k_X6_has (a := a) (zv := zv) (zn := zn) (x := x) hD w3 w4 ) (cwV 1 hts gX7_set_X6_has rfl rfl rfl (by decide +kernel) ⟨Nat.le_of_ble_eq_true rfl, Nat.le_of_ble_eq_true rfl⟩) 3 rfl rfl w3 hK hN hZ hP hS rfl hl.1 rfl (Nat.le_of_ble_eq_true rfl) dX7_set_5 ⟨Nat.zero_le _, Nat.zero_le _⟩ (fun G' H locs hP hD hS hB => ?_)
  rw [hB] at hP hD
  clear hB G'
  refine mx_bne (tgt := 13) (pc := 8) hx hb dX7_set_8 (by decide) (fun c8 => absurd (c8.symm.trans h1) (by decide)) (fun c8 => ?_)
  refine lv_iconst (v := (-1)) (pc := 11) hx hb dX7_set_11 (by decide) ?_
  exact hret _ _ _ _ _ _ hP hD hS rfl rfl dX7_set_12
set_option maxHeartbeats 4000000 in
set_option maxRecDepth 100000 in
theorem k_X7_set_c {l : Launch} {D : va_G} {cI cZ : ClassId} {A : Nat → Prop} {g a : Nat → Nat} {G0 : va_W} {st : Bool} {zv : Nat → Int32} {zn : Nat} {x : Int32} {y : Int32} {v : Int32} (hD : va_D A G0) (w0 : G0[0]? = some (a 0, .inr (7, [.ref (a 1), .ref (a 3), .ref (a 5), .ref (a 7), .ref (a 10), .ref (a 11), .ref (a 16), .int (gB (st))]))) (w3 : G0[3]? = some (a 3, .inr (6, [.ref (a 4), .int (nI (zn))]))) (w4 : G0[4]? = some (a 4, .inl (cI, 24, .inl (zv)))) (h1 : gHas x (nI zn) = true) (h2 : gWi y (nI 0) (nI 2) = false) : gMi l D cI cZ A g yX7_set wsX7_set ({ frames := 1, cells := 0, slots := 0, locals := 22 }) [.ref (a 0), .int (x), .int (y), .int (v)] G0 ((-2)) (fun G1 => G1 = G0) := by
  refine gof_i (cc := cX7_set) (maxL := 4) (by decide) rfl (Nat.le_of_ble_eq_true rfl) hD ?_
  intro p e s m args below meth c Q hx hb hml hts hown hK hN hZ hP hS hret ls hl
  have hown : s.vm.findClass RX7 = some m.cls := hown
  have hl : lv_has ls 4 [(0, .ref (a 0)), (1, .int (x)), (2, .int (y)), (3, .int (v))] := hl
  obtain ⟨locs, elocs⟩ : ∃ q : List Loc, q = [] := ⟨_, rfl⟩
  rw [← elocs] at hS ⊢
  obtain ⟨H, eH⟩ : ∃ q : Heap, q = s.heap := ⟨_, rfl⟩
  have hP : va_P D vwCl G0 H := eH ▸ hP
  have hS : va_S A s.heap H locs := by rw [eH]; exact hS
  rw [← eH]
  clear elocs eH
  have hiX7 : ∀ w ∈ u_ws RX7 TX7 8, w ∈ wsX7_set := by decide +kernel
  have hk : ∀ k, k ∉ ([] : List Nat) → G0[k]? = G0[k]? := fun _ _ => rfl
  refine lv_aload_n (pc := 0) hx hb dX7_set_0 rfl (lv_at hl 0 rfl) ?_
  refine va_get (ci := 7) (C := RX7) (T := TX7) (N := 8) (pc := 1) hx hb hts hiX7 hown hK hP 0 w0 rfl 1 (by decide) (hts (.fieldLink RX7 19 "InkPress" "zones" "LInkPress$Zones;") (by decide +kernel)) (fun _ h9 => h9) rfl dX7_set_1 ?_
  refine lv_iload_n (pc := 4) hx hb dX7_set_4 rfl (lv_at hl 1 rfl) ?_
  refine mx_cVi (As := [.int (x)]) (rest := []) (pc := 5) ⟨hx, hb, hml, hown, hts⟩ (k_X6_has (a := a) (zv := zv) (zn := zn) (x := x) hD w3 w4 ) (cwV 1 hts gX7_set_X6_has rfl rfl rfl (by decide +kernel) ⟨Nat.le_of_ble_eq_true rfl, Nat.le_of_ble_eq_true rfl⟩) 3 rfl rfl w3 hK hN hZ hP hS rfl hl.1 rfl (Nat.le_of_ble_eq_true rfl) dX7_set_5 ⟨Nat.zero_le _, Nat.zero_le _⟩ (fun G' H locs hP hD hS hB => ?_)
  rw [hB] at hP hD
  clear hB G'
  refine mx_bne (tgt := 13) (pc := 8) hx hb dX7_set_8 (by decide) (fun c8 => ?_) (fun c8 => absurd (c8.symm.trans h1) (by decide))
  refine lv_iload_n (pc := 13) hx hb dX7_set_13 rfl (lv_at hl 2 rfl) ?_
  refine lv_iconst (v := nI (0)) (pc := 14) hx hb dX7_set_14 (by decide) ?_
  refine lv_iconst (v := nI (2)) (pc := 15) hx hb dX7_set_15 (by decide) ?_
  refine mx_cSi (As := [.int (y), .int (nI (0)), .int (nI (2))]) (rest := []) (pc := 16) ⟨hx, hb, hml, hown, hts⟩ (k_X7_within (a := a) (v := y) (lo := nI (0)) (hi := nI (2)) hD  ) (va_cwS 3 hts gX7_set_X7_within rfl rfl rfl (by decide +kernel) ⟨Nat.le_of_ble_eq_true rfl, Nat.le_of_ble_eq_true rfl⟩) hK hN hZ hP hS rfl hl.1 rfl (Nat.le_of_ble_eq_true rfl) dX7_set_16 ⟨Nat.zero_le _, Nat.zero_le _⟩ (fun G' H locs hP hD hS hB => ?_)
  rw [hB] at hP hD
  clear hB G'
  refine mx_beq (tgt := 34) (pc := 19) hx hb dX7_set_19 (by decide) (fun c19 => ?_) (fun c19 => absurd (c19.symm.trans h2) (by decide))
  refine lv_bipush (v := (-2)) (pc := 34) hx hb dX7_set_34 (by decide) ?_
  exact hret _ _ _ _ _ _ hP hD hS rfl rfl dX7_set_36
set_option maxHeartbeats 4000000 in
set_option maxRecDepth 100000 in
theorem k_X7_set_d {l : Launch} {D : va_G} {cI cZ : ClassId} {A : Nat → Prop} {g a : Nat → Nat} {G0 : va_W} {st : Bool} {zv : Nat → Int32} {zn : Nat} {x : Int32} {k : Nat} {v : Int32} (hD : va_D A G0) (w0 : G0[0]? = some (a 0, .inr (7, [.ref (a 1), .ref (a 3), .ref (a 5), .ref (a 7), .ref (a 10), .ref (a 11), .ref (a 16), .int (gB (st))]))) (w3 : G0[3]? = some (a 3, .inr (6, [.ref (a 4), .int (nI (zn))]))) (w4 : G0[4]? = some (a 4, .inl (cI, 24, .inl (zv)))) (hk3 : k < 3) (h1 : gHas x (nI zn) = true) (h2 : gWi (nI k) (nI 0) (nI 2) = true) (h3 : gWi v (nI 0) ((gTab 3).getD k 0) = false) : gMi l D cI cZ A g yX7_set wsX7_set ({ frames := 2, cells := 0, slots := 0, locals := 44 }) [.ref (a 0), .int (x), .int (nI (k)), .int (v)] G0 ((-2)) (fun G1 => G1 = G0) := by
  refine gof_i (cc := cX7_set) (maxL := 4) (by decide) rfl (Nat.le_of_ble_eq_true rfl) hD ?_
  intro p e s m args below meth c Q hx hb hml hts hown hK hN hZ hP hS hret ls hl
  have hown : s.vm.findClass RX7 = some m.cls := hown
  have hl : lv_has ls 4 [(0, .ref (a 0)), (1, .int (x)), (2, .int (nI (k))), (3, .int (v))] := hl
  obtain ⟨locs, elocs⟩ : ∃ q : List Loc, q = [] := ⟨_, rfl⟩
  rw [← elocs] at hS ⊢
  obtain ⟨H, eH⟩ : ∃ q : Heap, q = s.heap := ⟨_, rfl⟩
  have hP : va_P D vwCl G0 H := eH ▸ hP
  have hS : va_S A s.heap H locs := by rw [eH]; exact hS
  rw [← eH]
  clear elocs eH
  have hiX7 : ∀ w ∈ u_ws RX7 TX7 8, w ∈ wsX7_set := by decide +kernel
  have hk : ∀ k, k ∉ ([] : List Nat) → G0[k]? = G0[k]? := fun _ _ => rfl
  refine lv_aload_n (pc := 0) hx hb dX7_set_0 rfl (lv_at hl 0 rfl) ?_
  refine va_get (ci := 7) (C := RX7) (T := TX7) (N := 8) (pc := 1) hx hb hts hiX7 hown hK hP 0 w0 rfl 1 (by decide) (hts (.fieldLink RX7 19 "InkPress" "zones" "LInkPress$Zones;") (by decide +kernel)) (fun _ h9 => h9) rfl dX7_set_1 ?_
  refine lv_iload_n (pc := 4) hx hb dX7_set_4 rfl (lv_at hl 1 rfl) ?_
  refine mx_cVi (As := [.int (x)]) (rest := []) (pc := 5) ⟨hx, hb, hml, hown, hts⟩ (k_X6_has (a := a) (zv := zv) (zn := zn) (x := x) hD w3 w4 ) (cwV 1 hts gX7_set_X6_has rfl rfl rfl (by decide +kernel) ⟨Nat.le_of_ble_eq_true rfl, Nat.le_of_ble_eq_true rfl⟩) 3 rfl rfl w3 hK hN hZ hP hS rfl hl.1 rfl (Nat.le_of_ble_eq_true rfl) dX7_set_5 ⟨Nat.zero_le _, Nat.zero_le _⟩ (fun G' H locs hP hD hS hB => ?_)
  rw [hB] at hP hD
  clear hB G'
  refine mx_bne (tgt := 13) (pc := 8) hx hb dX7_set_8 (by decide) (fun c8 => ?_) (fun c8 => absurd (c8.symm.trans h1) (by decide))
  refine lv_iload_n (pc := 13) hx hb dX7_set_13 rfl (lv_at hl 2 rfl) ?_
  refine lv_iconst (v := nI (0)) (pc := 14) hx hb dX7_set_14 (by decide) ?_
  refine lv_iconst (v := nI (2)) (pc := 15) hx hb dX7_set_15 (by decide) ?_
  refine mx_cSi (As := [.int (nI (k)), .int (nI (0)), .int (nI (2))]) (rest := []) (pc := 16) ⟨hx, hb, hml, hown, hts⟩ (k_X7_within (a := a) (v := nI (k)) (lo := nI (0)) (hi := nI (2)) hD  ) (va_cwS 3 hts gX7_set_X7_within rfl rfl rfl (by decide +kernel) ⟨Nat.le_of_ble_eq_true rfl, Nat.le_of_ble_eq_true rfl⟩) hK hN hZ hP hS rfl hl.1 rfl (Nat.le_of_ble_eq_true rfl) dX7_set_16 ⟨Nat.zero_le _, Nat.zero_le _⟩ (fun G' H locs hP hD hS hB => ?_)
  rw [hB] at hP hD
  clear hB G'
  refine mx_beq (tgt := 34) (pc := 19) hx hb dX7_set_19 (by decide) (fun c19 => absurd (c19.symm.trans h2) (by decide)) (fun c19 => ?_)
  refine lv_aload_n (pc := 22) hx hb dX7_set_22 rfl (lv_at hl 0 rfl) ?_
  refine va_get (ci := 7) (C := RX7) (T := TX7) (N := 8) (pc := 23) hx hb hts hiX7 hown hK hP 0 w0 rfl 1 (by decide) (hts (.fieldLink RX7 19 "InkPress" "zones" "LInkPress$Zones;") (by decide +kernel)) (fun _ h9 => h9) rfl dX7_set_23 ?_
  refine lv_iload_n (pc := 26) hx hb dX7_set_26 rfl (lv_at hl 2 rfl) ?_
  refine lv_iload_n (pc := 27) hx hb dX7_set_27 rfl (lv_at hl 3 rfl) ?_
  refine mx_cVi (As := [.int (nI (k)), .int (v)]) (rest := []) (pc := 28) ⟨hx, hb, hml, hown, hts⟩ (k_X6_allows (a := a) (zv := zv) (zn := zn) (k := k) (v := v) hD w3 w4 (by omega)) (cwV 2 hts gX7_set_X6_allows rfl rfl rfl (by decide +kernel) ⟨Nat.le_of_ble_eq_true rfl, Nat.le_of_ble_eq_true rfl⟩) 3 rfl rfl w3 hK hN hZ hP hS rfl hl.1 rfl (Nat.le_of_ble_eq_true rfl) dX7_set_28 ⟨Nat.zero_le _, Nat.zero_le _⟩ (fun G' H locs hP hD hS hB => ?_)
  rw [hB] at hP hD
  clear hB G'
  refine mx_bne (tgt := 37) (pc := 31) hx hb dX7_set_31 (by decide) (fun c31 => absurd (c31.symm.trans h3) (by decide)) (fun c31 => ?_)
  refine lv_bipush (v := (-2)) (pc := 34) hx hb dX7_set_34 (by decide) ?_
  exact hret _ _ _ _ _ _ hP hD hS rfl rfl dX7_set_36
set_option maxHeartbeats 4000000 in
set_option maxRecDepth 100000 in
theorem k_X7_set_k {l : Launch} {D : va_G} {cI cZ : ClassId} {A : Nat → Prop} {g a : Nat → Nat} {G0 : va_W} {st : Bool} {zv : Nat → Int32} {zn : Nat} {z : Nat} {k : Nat} {v : Int32} (hD : va_D A G0) (w0 : G0[0]? = some (a 0, .inr (7, [.ref (a 1), .ref (a 3), .ref (a 5), .ref (a 7), .ref (a 10), .ref (a 11), .ref (a 16), .int (gB (st))]))) (w3 : G0[3]? = some (a 3, .inr (6, [.ref (a 4), .int (nI (zn))]))) (w4 : G0[4]? = some (a 4, .inl (cI, 24, .inl (zv)))) (hz : z < 8) (hk3 : k < 3) (h1 : gHas (nI z) (nI zn) = true) (h2 : gWi (nI k) (nI 0) (nI 2) = true) (h3 : gWi v (nI 0) ((gTab 3).getD k 0) = true) : gMi l D cI cZ A g yX7_set wsX7_set ({ frames := 2, cells := 0, slots := 0, locals := 44 }) [.ref (a 0), .int (nI (z)), .int (nI (k)), .int (v)] G0 (zv (k * 8 + z)) (fun G1 => G1[4]? = some (a 4, .inl (cI, 24, .inl (upd zv (k * 8 + z) v))) ∧ ∀ k, k ∉ [4] → G1[k]? = G0[k]?) := by
  refine gof_i (cc := cX7_set) (maxL := 4) (by decide) rfl (Nat.le_of_ble_eq_true rfl) hD ?_
  intro p e s m args below meth c Q hx hb hml hts hown hK hN hZ hP hS hret ls hl
  have hown : s.vm.findClass RX7 = some m.cls := hown
  have hl : lv_has ls 4 [(0, .ref (a 0)), (1, .int (nI (z))), (2, .int (nI (k))), (3, .int (v))] := hl
  obtain ⟨locs, elocs⟩ : ∃ q : List Loc, q = [] := ⟨_, rfl⟩
  rw [← elocs] at hS ⊢
  obtain ⟨H, eH⟩ : ∃ q : Heap, q = s.heap := ⟨_, rfl⟩
  have hP : va_P D vwCl G0 H := eH ▸ hP
  have hS : va_S A s.heap H locs := by rw [eH]; exact hS
  rw [← eH]
  clear elocs eH
  have hiX7 : ∀ w ∈ u_ws RX7 TX7 8, w ∈ wsX7_set := by decide +kernel
  have hk : ∀ k, k ∉ [4] → G0[k]? = G0[k]? := fun _ _ => rfl
  refine lv_aload_n (pc := 0) hx hb dX7_set_0 rfl (lv_at hl 0 rfl) ?_
  refine va_get (ci := 7) (C := RX7) (T := TX7) (N := 8) (pc := 1) hx hb hts hiX7 hown hK hP 0 w0 rfl 1 (by decide) (hts (.fieldLink RX7 19 "InkPress" "zones" "LInkPress$Zones;") (by decide +kernel)) (fun _ h9 => h9) rfl dX7_set_1 ?_
  refine lv_iload_n (pc := 4) hx hb dX7_set_4 rfl (lv_at hl 1 rfl) ?_
  refine mx_cVi (As := [.int (nI (z))]) (rest := []) (pc := 5) ⟨hx, hb, hml, hown, hts⟩ (k_X6_has (a := a) (zv := zv) (zn := zn) (x := nI (z)) hD w3 w4 ) (cwV 1 hts gX7_set_X6_has rfl rfl rfl (by decide +kernel) ⟨Nat.le_of_ble_eq_true rfl, Nat.le_of_ble_eq_true rfl⟩) 3 rfl rfl w3 hK hN hZ hP hS rfl hl.1 rfl (Nat.le_of_ble_eq_true rfl) dX7_set_5 ⟨Nat.zero_le _, Nat.zero_le _⟩ (fun G' H locs hP hD hS hB => ?_)
  rw [hB] at hP hD
  clear hB G'
  refine mx_bne (tgt := 13) (pc := 8) hx hb dX7_set_8 (by decide) (fun c8 => ?_) (fun c8 => absurd (c8.symm.trans h1) (by decide))
  refine lv_iload_n (pc := 13) hx hb dX7_set_13 rfl (lv_at hl 2 rfl) ?_
  refine lv_iconst (v := nI (0)) (pc := 14) hx hb dX7_set_14 (by decide) ?_
  refine lv_iconst (v := nI (2)) (pc := 15) hx hb dX7_set_15 (by decide) ?_
  refine mx_cSi (As := [.int (nI (k)), .int (nI (0)), .int (nI (2))]) (rest := []) (pc := 16) ⟨hx, hb, hml, hown, hts⟩ (k_X7_within (a := a) (v := nI (k)) (lo := nI (0)) (hi := nI (2)) hD  ) (va_cwS 3 hts gX7_set_X7_within rfl rfl rfl (by decide +kernel) ⟨Nat.le_of_ble_eq_true rfl, Nat.le_of_ble_eq_true rfl⟩) hK hN hZ hP hS rfl hl.1 rfl (Nat.le_of_ble_eq_true rfl) dX7_set_16 ⟨Nat.zero_le _, Nat.zero_le _⟩ (fun G' H locs hP hD hS hB => ?_)
  rw [hB] at hP hD
  clear hB G'
  refine mx_beq (tgt := 34) (pc := 19) hx hb dX7_set_19 (by decide) (fun c19 => absurd (c19.symm.trans h2) (by decide)) (fun c19 => ?_)
  refine lv_aload_n (pc := 22) hx hb dX7_set_22 rfl (lv_at hl 0 rfl) ?_
  refine va_get (ci := 7) (C := RX7) (T := TX7) (N := 8) (pc := 23) hx hb hts hiX7 hown hK hP 0 w0 rfl 1 (by decide) (hts (.fieldLink RX7 19 "InkPress" "zones" "LInkPress$Zones;") (by decide +kernel)) (fun _ h9 => h9) rfl dX7_set_23 ?_
  refine lv_iload_n (pc := 26) hx hb dX7_set_26 rfl (lv_at hl 2 rfl) ?_
  refine lv_iload_n (pc := 27) hx hb dX7_set_27 rfl (lv_at hl 3 rfl) ?_
  refine mx_cVi (As := [.int (nI (k)), .int (v)]) (rest := []) (pc := 28) ⟨hx, hb, hml, hown, hts⟩ (k_X6_allows (a := a) (zv := zv) (zn := zn) (k := k) (v := v) hD w3 w4 (by omega)) (cwV 2 hts gX7_set_X6_allows rfl rfl rfl (by decide +kernel) ⟨Nat.le_of_ble_eq_true rfl, Nat.le_of_ble_eq_true rfl⟩) 3 rfl rfl w3 hK hN hZ hP hS rfl hl.1 rfl (Nat.le_of_ble_eq_true rfl) dX7_set_28 ⟨Nat.zero_le _, Nat.zero_le _⟩ (fun G' H locs hP hD hS hB => ?_)
  rw [hB] at hP hD
  clear hB G'
  refine mx_bne (tgt := 37) (pc := 31) hx hb dX7_set_31 (by decide) (fun c31 => ?_) (fun c31 => absurd (c31.symm.trans h3) (by decide))
  refine lv_aload_n (pc := 37) hx hb dX7_set_37 rfl (lv_at hl 0 rfl) ?_
  refine va_get (ci := 7) (C := RX7) (T := TX7) (N := 8) (pc := 38) hx hb hts hiX7 hown hK hP 0 w0 rfl 1 (by decide) (hts (.fieldLink RX7 19 "InkPress" "zones" "LInkPress$Zones;") (by decide +kernel)) (fun _ h9 => h9) rfl dX7_set_38 ?_
  refine lv_iload_n (pc := 41) hx hb dX7_set_41 rfl (lv_at hl 1 rfl) ?_
  refine lv_iload_n (pc := 42) hx hb dX7_set_42 rfl (lv_at hl 2 rfl) ?_
  refine lv_iload_n (pc := 43) hx hb dX7_set_43 rfl (lv_at hl 3 rfl) ?_
  refine mx_cVi (As := [.int (nI (z)), .int (nI (k)), .int (v)]) (rest := []) (pc := 44) ⟨hx, hb, hml, hown, hts⟩ (k_X6_change (a := a) (zv := zv) (zn := zn) (z := z) (k := k) (v := v) hD w3 w4 (by omega) (by omega)) (cwV 3 hts gX7_set_X6_change rfl rfl rfl (by decide +kernel) ⟨Nat.le_of_ble_eq_true rfl, Nat.le_of_ble_eq_true rfl⟩) 3 rfl rfl w3 hK hN hZ hP hS rfl hl.1 rfl (Nat.le_of_ble_eq_true rfl) dX7_set_44 ⟨Nat.zero_le _, Nat.zero_le _⟩ (fun G H locs hP hD hS hB => ?_)
  obtain ⟨w4, ho⟩ := hB
  have w0 := (ho 0 (by decide)).trans w0
  have w3 := (ho 3 (by decide)).trans w3
  have w4 : G[4]? = some (a 4, .inl (cI, 24, .inl (upd (zv) ((k) * 8 + (z)) (v)))) := w4
  have hk := gk_call hk ho (by decide)
  clear ho
  exact hret _ _ _ _ _ _ hP hD hS rfl ⟨w4, hk⟩ dX7_set_47
set_option maxHeartbeats 4000000 in
set_option maxRecDepth 100000 in
theorem k_X7_zone_b {l : Launch} {D : va_G} {cI cZ : ClassId} {A : Nat → Prop} {g a : Nat → Nat} {G0 : va_W} {st : Bool} {zv : Nat → Int32} {zn : Nat} {x : Int32} {y : Int32} (hD : va_D A G0) (w0 : G0[0]? = some (a 0, .inr (7, [.ref (a 1), .ref (a 3), .ref (a 5), .ref (a 7), .ref (a 10), .ref (a 11), .ref (a 16), .int (gB (st))]))) (w3 : G0[3]? = some (a 3, .inr (6, [.ref (a 4), .int (nI (zn))]))) (w4 : G0[4]? = some (a 4, .inl (cI, 24, .inl (zv)))) (h1 : gHas x (nI zn) = false) : gMi l D cI cZ A g yX7_zone wsX7_zone ({ frames := 1, cells := 0, slots := 0, locals := 21 }) [.ref (a 0), .int (x), .int (y)] G0 ((-1)) (fun G1 => G1 = G0) := by
  refine gof_i (cc := cX7_zone) (maxL := 3) (by decide) rfl (Nat.le_of_ble_eq_true rfl) hD ?_
  intro p e s m args below meth c Q hx hb hml hts hown hK hN hZ hP hS hret ls hl
  have hown : s.vm.findClass RX7 = some m.cls := hown
  have hl : lv_has ls 3 [(0, .ref (a 0)), (1, .int (x)), (2, .int (y))] := hl
  obtain ⟨locs, elocs⟩ : ∃ q : List Loc, q = [] := ⟨_, rfl⟩
  rw [← elocs] at hS ⊢
  obtain ⟨H, eH⟩ : ∃ q : Heap, q = s.heap := ⟨_, rfl⟩
  have hP : va_P D vwCl G0 H := eH ▸ hP
  have hS : va_S A s.heap H locs := by rw [eH]; exact hS
  rw [← eH]
  clear elocs eH
  have hiX7 : ∀ w ∈ u_ws RX7 TX7 8, w ∈ wsX7_zone := by decide +kernel
  have hk : ∀ k, k ∉ ([] : List Nat) → G0[k]? = G0[k]? := fun _ _ => rfl
  refine lv_aload_n (pc := 0) hx hb dX7_zone_0 rfl (lv_at hl 0 rfl) ?_
  refine va_get (ci := 7) (C := RX7) (T := TX7) (N := 8) (pc := 1) hx hb hts hiX7 hown hK hP 0 w0 rfl 1 (by decide) (hts (.fieldLink RX7 19 "InkPress" "zones" "LInkPress$Zones;") (by decide +kernel)) (fun _ h9 => h9) rfl dX7_zone_1 ?_
  refine lv_iload_n (pc := 4) hx hb dX7_zone_4 rfl (lv_at hl 1 rfl) ?_
  refine mx_cVi (As := [.int (x)]) (rest := []) (pc := 5) ⟨hx, hb, hml, hown, hts⟩ (k_X6_has (a := a) (zv := zv) (zn := zn) (x := x) hD w3 w4 ) (cwV 1 hts gX7_zone_X6_has rfl rfl rfl (by decide +kernel) ⟨Nat.le_of_ble_eq_true rfl, Nat.le_of_ble_eq_true rfl⟩) 3 rfl rfl w3 hK hN hZ hP hS rfl hl.1 rfl (Nat.le_of_ble_eq_true rfl) dX7_zone_5 ⟨Nat.zero_le _, Nat.zero_le _⟩ (fun G' H locs hP hD hS hB => ?_)
  rw [hB] at hP hD
  clear hB G'
  refine mx_bne (tgt := 13) (pc := 8) hx hb dX7_zone_8 (by decide) (fun c8 => absurd (c8.symm.trans h1) (by decide)) (fun c8 => ?_)
  refine lv_iconst (v := (-1)) (pc := 11) hx hb dX7_zone_11 (by decide) ?_
  exact hret _ _ _ _ _ _ hP hD hS rfl rfl dX7_zone_12
set_option maxHeartbeats 4000000 in
set_option maxRecDepth 100000 in
theorem k_X7_zone_c {l : Launch} {D : va_G} {cI cZ : ClassId} {A : Nat → Prop} {g a : Nat → Nat} {G0 : va_W} {st : Bool} {zv : Nat → Int32} {zn : Nat} {x : Int32} {y : Int32} (hD : va_D A G0) (w0 : G0[0]? = some (a 0, .inr (7, [.ref (a 1), .ref (a 3), .ref (a 5), .ref (a 7), .ref (a 10), .ref (a 11), .ref (a 16), .int (gB (st))]))) (w3 : G0[3]? = some (a 3, .inr (6, [.ref (a 4), .int (nI (zn))]))) (w4 : G0[4]? = some (a 4, .inl (cI, 24, .inl (zv)))) (h1 : gHas x (nI zn) = true) (h2 : gWi y (nI 0) (nI 3) = false) : gMi l D cI cZ A g yX7_zone wsX7_zone ({ frames := 1, cells := 0, slots := 0, locals := 22 }) [.ref (a 0), .int (x), .int (y)] G0 ((-2)) (fun G1 => G1 = G0) := by
  refine gof_i (cc := cX7_zone) (maxL := 3) (by decide) rfl (Nat.le_of_ble_eq_true rfl) hD ?_
  intro p e s m args below meth c Q hx hb hml hts hown hK hN hZ hP hS hret ls hl
  have hown : s.vm.findClass RX7 = some m.cls := hown
  have hl : lv_has ls 3 [(0, .ref (a 0)), (1, .int (x)), (2, .int (y))] := hl
  obtain ⟨locs, elocs⟩ : ∃ q : List Loc, q = [] := ⟨_, rfl⟩
  rw [← elocs] at hS ⊢
  obtain ⟨H, eH⟩ : ∃ q : Heap, q = s.heap := ⟨_, rfl⟩
  have hP : va_P D vwCl G0 H := eH ▸ hP
  have hS : va_S A s.heap H locs := by rw [eH]; exact hS
  rw [← eH]
  clear elocs eH
  have hiX7 : ∀ w ∈ u_ws RX7 TX7 8, w ∈ wsX7_zone := by decide +kernel
  have hk : ∀ k, k ∉ ([] : List Nat) → G0[k]? = G0[k]? := fun _ _ => rfl
  refine lv_aload_n (pc := 0) hx hb dX7_zone_0 rfl (lv_at hl 0 rfl) ?_
  refine va_get (ci := 7) (C := RX7) (T := TX7) (N := 8) (pc := 1) hx hb hts hiX7 hown hK hP 0 w0 rfl 1 (by decide) (hts (.fieldLink RX7 19 "InkPress" "zones" "LInkPress$Zones;") (by decide +kernel)) (fun _ h9 => h9) rfl dX7_zone_1 ?_
  refine lv_iload_n (pc := 4) hx hb dX7_zone_4 rfl (lv_at hl 1 rfl) ?_
  refine mx_cVi (As := [.int (x)]) (rest := []) (pc := 5) ⟨hx, hb, hml, hown, hts⟩ (k_X6_has (a := a) (zv := zv) (zn := zn) (x := x) hD w3 w4 ) (cwV 1 hts gX7_zone_X6_has rfl rfl rfl (by decide +kernel) ⟨Nat.le_of_ble_eq_true rfl, Nat.le_of_ble_eq_true rfl⟩) 3 rfl rfl w3 hK hN hZ hP hS rfl hl.1 rfl (Nat.le_of_ble_eq_true rfl) dX7_zone_5 ⟨Nat.zero_le _, Nat.zero_le _⟩ (fun G' H locs hP hD hS hB => ?_)
  rw [hB] at hP hD
  clear hB G'
  refine mx_bne (tgt := 13) (pc := 8) hx hb dX7_zone_8 (by decide) (fun c8 => ?_) (fun c8 => absurd (c8.symm.trans h1) (by decide))
  refine lv_iload_n (pc := 13) hx hb dX7_zone_13 rfl (lv_at hl 2 rfl) ?_
  refine lv_iconst (v := nI (0)) (pc := 14) hx hb dX7_zone_14 (by decide) ?_
  refine lv_iconst (v := nI (3)) (pc := 15) hx hb dX7_zone_15 (by decide) ?_
  refine mx_cSi (As := [.int (y), .int (nI (0)), .int (nI (3))]) (rest := []) (pc := 16) ⟨hx, hb, hml, hown, hts⟩ (k_X7_within (a := a) (v := y) (lo := nI (0)) (hi := nI (3)) hD  ) (va_cwS 3 hts gX7_zone_X7_within rfl rfl rfl (by decide +kernel) ⟨Nat.le_of_ble_eq_true rfl, Nat.le_of_ble_eq_true rfl⟩) hK hN hZ hP hS rfl hl.1 rfl (Nat.le_of_ble_eq_true rfl) dX7_zone_16 ⟨Nat.zero_le _, Nat.zero_le _⟩ (fun G' H locs hP hD hS hB => ?_)
  rw [hB] at hP hD
  clear hB G'
  refine mx_bne (tgt := 25) (pc := 19) hx hb dX7_zone_19 (by decide) (fun c19 => absurd (c19.symm.trans h2) (by decide)) (fun c19 => ?_)
  refine lv_bipush (v := (-2)) (pc := 22) hx hb dX7_zone_22 (by decide) ?_
  exact hret _ _ _ _ _ _ hP hD hS rfl rfl dX7_zone_24
set_option maxHeartbeats 4000000 in
set_option maxRecDepth 100000 in
theorem k_X7_zone_3 {l : Launch} {D : va_G} {cI cZ : ClassId} {A : Nat → Prop} {g a : Nat → Nat} {G0 : va_W} {st : Bool} {zv : Nat → Int32} {zn : Nat} {den : Nat → Int32} {go : Nat → Bool} {sc : Nat} {sg : Int32} {sr : Int32} {ss : Int32} {z : Nat} (hD : va_D A G0) (w0 : G0[0]? = some (a 0, .inr (7, [.ref (a 1), .ref (a 3), .ref (a 5), .ref (a 7), .ref (a 10), .ref (a 11), .ref (a 16), .int (gB (st))]))) (w3 : G0[3]? = some (a 3, .inr (6, [.ref (a 4), .int (nI (zn))]))) (w4 : G0[4]? = some (a 4, .inl (cI, 24, .inl (zv)))) (w7 : G0[7]? = some (a 7, .inr (4, [.ref (a 8), .ref (a 9), .int (nI (sc)), .int (sg), .int (sr), .int (ss)]))) (w8 : G0[8]? = some (a 8, .inl (cI, 8000, .inl (den)))) (w9 : G0[9]? = some (a 9, .inl (cZ, 1000, .inl (fun j => gB ((go) j))))) (hz : z < 8) (hs : sc ≤ 1000) (h1 : gHas (nI z) (nI zn) = true) : gMi l D cI cZ A g yX7_zone wsX7_zone ({ frames := 2, cells := 0, slots := 0, locals := 43 }) [.ref (a 0), .int (nI (z)), .int (nI (3))] G0 (gLd sc z den) (fun G1 => G1 = G0) := by
  refine gof_i (cc := cX7_zone) (maxL := 3) (by decide) rfl (Nat.le_of_ble_eq_true rfl) hD ?_
  intro p e s m args below meth c Q hx hb hml hts hown hK hN hZ hP hS hret ls hl
  have hown : s.vm.findClass RX7 = some m.cls := hown
  have hl : lv_has ls 3 [(0, .ref (a 0)), (1, .int (nI (z))), (2, .int (nI (3)))] := hl
  obtain ⟨locs, elocs⟩ : ∃ q : List Loc, q = [] := ⟨_, rfl⟩
  rw [← elocs] at hS ⊢
  obtain ⟨H, eH⟩ : ∃ q : Heap, q = s.heap := ⟨_, rfl⟩
  have hP : va_P D vwCl G0 H := eH ▸ hP
  have hS : va_S A s.heap H locs := by rw [eH]; exact hS
  rw [← eH]
  clear elocs eH
  have hiX7 : ∀ w ∈ u_ws RX7 TX7 8, w ∈ wsX7_zone := by decide +kernel
  have hk : ∀ k, k ∉ ([] : List Nat) → G0[k]? = G0[k]? := fun _ _ => rfl
  refine lv_aload_n (pc := 0) hx hb dX7_zone_0 rfl (lv_at hl 0 rfl) ?_
  refine va_get (ci := 7) (C := RX7) (T := TX7) (N := 8) (pc := 1) hx hb hts hiX7 hown hK hP 0 w0 rfl 1 (by decide) (hts (.fieldLink RX7 19 "InkPress" "zones" "LInkPress$Zones;") (by decide +kernel)) (fun _ h9 => h9) rfl dX7_zone_1 ?_
  refine lv_iload_n (pc := 4) hx hb dX7_zone_4 rfl (lv_at hl 1 rfl) ?_
  refine mx_cVi (As := [.int (nI (z))]) (rest := []) (pc := 5) ⟨hx, hb, hml, hown, hts⟩ (k_X6_has (a := a) (zv := zv) (zn := zn) (x := nI (z)) hD w3 w4 ) (cwV 1 hts gX7_zone_X6_has rfl rfl rfl (by decide +kernel) ⟨Nat.le_of_ble_eq_true rfl, Nat.le_of_ble_eq_true rfl⟩) 3 rfl rfl w3 hK hN hZ hP hS rfl hl.1 rfl (Nat.le_of_ble_eq_true rfl) dX7_zone_5 ⟨Nat.zero_le _, Nat.zero_le _⟩ (fun G' H locs hP hD hS hB => ?_)
  rw [hB] at hP hD
  clear hB G'
  refine mx_bne (tgt := 13) (pc := 8) hx hb dX7_zone_8 (by decide) (fun c8 => ?_) (fun c8 => absurd (c8.symm.trans h1) (by decide))
  refine lv_iload_n (pc := 13) hx hb dX7_zone_13 rfl (lv_at hl 2 rfl) ?_
  refine lv_iconst (v := nI (0)) (pc := 14) hx hb dX7_zone_14 (by decide) ?_
  refine lv_iconst (v := nI (3)) (pc := 15) hx hb dX7_zone_15 (by decide) ?_
  refine mx_cSi (As := [.int (nI (3)), .int (nI (0)), .int (nI (3))]) (rest := []) (pc := 16) ⟨hx, hb, hml, hown, hts⟩ (k_X7_within (a := a) (v := nI (3)) (lo := nI (0)) (hi := nI (3)) hD  ) (va_cwS 3 hts gX7_zone_X7_within rfl rfl rfl (by decide +kernel) ⟨Nat.le_of_ble_eq_true rfl, Nat.le_of_ble_eq_true rfl⟩) hK hN hZ hP hS rfl hl.1 rfl (Nat.le_of_ble_eq_true rfl) dX7_zone_16 ⟨Nat.zero_le _, Nat.zero_le _⟩ (fun G' H locs hP hD hS hB => ?_)
  rw [hB] at hP hD
  clear hB G'
  refine mx_bne (tgt := 25) (pc := 19) hx hb dX7_zone_19 (by decide) (fun c19 => ?_) (fun c19 => absurd (c19.symm.trans (show gWi (nI 3) (nI 0) (nI 3) = true by decide)) (by decide))
  refine lv_iload_n (pc := 25) hx hb dX7_zone_25 rfl (lv_at hl 2 rfl) ?_
  refine lv_iconst (v := nI (3)) (pc := 26) hx hb dX7_zone_26 (by decide) ?_
  refine mx_cne (tgt := 41) (pc := 27) hx hb (by omega) (by omega) dX7_zone_27 (by decide) (fun c27 => absurd rfl c27) (fun c27 => ?_)
  refine lv_aload_n (pc := 30) hx hb dX7_zone_30 rfl (lv_at hl 0 rfl) ?_
  refine va_get (ci := 7) (C := RX7) (T := TX7) (N := 8) (pc := 31) hx hb hts hiX7 hown hK hP 0 w0 rfl 3 (by decide) (hts (.fieldLink RX7 33 "InkPress" "sheets" "LInkPress$SheetLog;") (by decide +kernel)) (fun _ h9 => h9) rfl dX7_zone_31 ?_
  refine lv_iload_n (pc := 34) hx hb dX7_zone_34 rfl (lv_at hl 1 rfl) ?_
  refine mx_cVi (As := [.int (nI (z))]) (rest := []) (pc := 35) ⟨hx, hb, hml, hown, hts⟩ (k_X4_latestDensity (a := a) (den := den) (go := go) (sc := sc) (sg := sg) (sr := sr) (ss := ss) (z := z) hD w7 w8 w9 (by omega) (by omega)) (cwV 1 hts gX7_zone_X4_latestDensity rfl rfl rfl (by decide +kernel) ⟨Nat.le_of_ble_eq_true rfl, Nat.le_of_ble_eq_true rfl⟩) 7 rfl rfl w7 hK hN hZ hP hS rfl hl.1 rfl (Nat.le_of_ble_eq_true rfl) dX7_zone_35 ⟨Nat.zero_le _, Nat.zero_le _⟩ (fun G' H locs hP hD hS hB => ?_)
  rw [hB] at hP hD
  clear hB G'
  refine lv_goto (tgt := 50) (pc := 38) hx hb dX7_zone_38 (by decide) ?_
  exact hret _ _ _ _ _ _ hP hD hS rfl rfl dX7_zone_50
set_option maxHeartbeats 4000000 in
set_option maxRecDepth 100000 in
theorem k_X7_zone_k {l : Launch} {D : va_G} {cI cZ : ClassId} {A : Nat → Prop} {g a : Nat → Nat} {G0 : va_W} {st : Bool} {zv : Nat → Int32} {zn : Nat} {z : Nat} {k : Nat} (hD : va_D A G0) (w0 : G0[0]? = some (a 0, .inr (7, [.ref (a 1), .ref (a 3), .ref (a 5), .ref (a 7), .ref (a 10), .ref (a 11), .ref (a 16), .int (gB (st))]))) (w3 : G0[3]? = some (a 3, .inr (6, [.ref (a 4), .int (nI (zn))]))) (w4 : G0[4]? = some (a 4, .inl (cI, 24, .inl (zv)))) (hz : z < 8) (hk3 : k < 3) (h1 : gHas (nI z) (nI zn) = true) (h2 : gWi (nI k) (nI 0) (nI 3) = true) : gMi l D cI cZ A g yX7_zone wsX7_zone ({ frames := 1, cells := 0, slots := 0, locals := 22 }) [.ref (a 0), .int (nI (z)), .int (nI (k))] G0 (zv (k * 8 + z)) (fun G1 => G1 = G0) := by
  refine gof_i (cc := cX7_zone) (maxL := 3) (by decide) rfl (Nat.le_of_ble_eq_true rfl) hD ?_
  intro p e s m args below meth c Q hx hb hml hts hown hK hN hZ hP hS hret ls hl
  have hown : s.vm.findClass RX7 = some m.cls := hown
  have hl : lv_has ls 3 [(0, .ref (a 0)), (1, .int (nI (z))), (2, .int (nI (k)))] := hl
  obtain ⟨locs, elocs⟩ : ∃ q : List Loc, q = [] := ⟨_, rfl⟩
  rw [← elocs] at hS ⊢
  obtain ⟨H, eH⟩ : ∃ q : Heap, q = s.heap := ⟨_, rfl⟩
  have hP : va_P D vwCl G0 H := eH ▸ hP
  have hS : va_S A s.heap H locs := by rw [eH]; exact hS
  rw [← eH]
  clear elocs eH
  have hiX7 : ∀ w ∈ u_ws RX7 TX7 8, w ∈ wsX7_zone := by decide +kernel
  have hk : ∀ k, k ∉ ([] : List Nat) → G0[k]? = G0[k]? := fun _ _ => rfl
  refine lv_aload_n (pc := 0) hx hb dX7_zone_0 rfl (lv_at hl 0 rfl) ?_
  refine va_get (ci := 7) (C := RX7) (T := TX7) (N := 8) (pc := 1) hx hb hts hiX7 hown hK hP 0 w0 rfl 1 (by decide) (hts (.fieldLink RX7 19 "InkPress" "zones" "LInkPress$Zones;") (by decide +kernel)) (fun _ h9 => h9) rfl dX7_zone_1 ?_
  refine lv_iload_n (pc := 4) hx hb dX7_zone_4 rfl (lv_at hl 1 rfl) ?_
  refine mx_cVi (As := [.int (nI (z))]) (rest := []) (pc := 5) ⟨hx, hb, hml, hown, hts⟩ (k_X6_has (a := a) (zv := zv) (zn := zn) (x := nI (z)) hD w3 w4 ) (cwV 1 hts gX7_zone_X6_has rfl rfl rfl (by decide +kernel) ⟨Nat.le_of_ble_eq_true rfl, Nat.le_of_ble_eq_true rfl⟩) 3 rfl rfl w3 hK hN hZ hP hS rfl hl.1 rfl (Nat.le_of_ble_eq_true rfl) dX7_zone_5 ⟨Nat.zero_le _, Nat.zero_le _⟩ (fun G' H locs hP hD hS hB => ?_)
  rw [hB] at hP hD
  clear hB G'
  refine mx_bne (tgt := 13) (pc := 8) hx hb dX7_zone_8 (by decide) (fun c8 => ?_) (fun c8 => absurd (c8.symm.trans h1) (by decide))
  refine lv_iload_n (pc := 13) hx hb dX7_zone_13 rfl (lv_at hl 2 rfl) ?_
  refine lv_iconst (v := nI (0)) (pc := 14) hx hb dX7_zone_14 (by decide) ?_
  refine lv_iconst (v := nI (3)) (pc := 15) hx hb dX7_zone_15 (by decide) ?_
  refine mx_cSi (As := [.int (nI (k)), .int (nI (0)), .int (nI (3))]) (rest := []) (pc := 16) ⟨hx, hb, hml, hown, hts⟩ (k_X7_within (a := a) (v := nI (k)) (lo := nI (0)) (hi := nI (3)) hD  ) (va_cwS 3 hts gX7_zone_X7_within rfl rfl rfl (by decide +kernel) ⟨Nat.le_of_ble_eq_true rfl, Nat.le_of_ble_eq_true rfl⟩) hK hN hZ hP hS rfl hl.1 rfl (Nat.le_of_ble_eq_true rfl) dX7_zone_16 ⟨Nat.zero_le _, Nat.zero_le _⟩ (fun G' H locs hP hD hS hB => ?_)
  rw [hB] at hP hD
  clear hB G'
  refine mx_bne (tgt := 25) (pc := 19) hx hb dX7_zone_19 (by decide) (fun c19 => ?_) (fun c19 => absurd (c19.symm.trans h2) (by decide))
  refine lv_iload_n (pc := 25) hx hb dX7_zone_25 rfl (lv_at hl 2 rfl) ?_
  refine lv_iconst (v := nI (3)) (pc := 26) hx hb dX7_zone_26 (by decide) ?_
  refine mx_cne (tgt := 41) (pc := 27) hx hb (by omega) (by omega) dX7_zone_27 (by decide) (fun c27 => ?_) (fun c27 => absurd c27 (by omega))
  refine lv_aload_n (pc := 41) hx hb dX7_zone_41 rfl (lv_at hl 0 rfl) ?_
  refine va_get (ci := 7) (C := RX7) (T := TX7) (N := 8) (pc := 42) hx hb hts hiX7 hown hK hP 0 w0 rfl 1 (by decide) (hts (.fieldLink RX7 19 "InkPress" "zones" "LInkPress$Zones;") (by decide +kernel)) (fun _ h9 => h9) rfl dX7_zone_42 ?_
  refine lv_iload_n (pc := 45) hx hb dX7_zone_45 rfl (lv_at hl 1 rfl) ?_
  refine lv_iload_n (pc := 46) hx hb dX7_zone_46 rfl (lv_at hl 2 rfl) ?_
  refine mx_cVi (As := [.int (nI (z)), .int (nI (k))]) (rest := []) (pc := 47) ⟨hx, hb, hml, hown, hts⟩ (k_X6_valueOf (a := a) (zv := zv) (zn := zn) (z := z) (k := k) hD w3 w4 (by omega) (by omega)) (cwV 2 hts gX7_zone_X6_valueOf rfl rfl rfl (by decide +kernel) ⟨Nat.le_of_ble_eq_true rfl, Nat.le_of_ble_eq_true rfl⟩) 3 rfl rfl w3 hK hN hZ hP hS rfl hl.1 rfl (Nat.le_of_ble_eq_true rfl) dX7_zone_47 ⟨Nat.zero_le _, Nat.zero_le _⟩ (fun G' H locs hP hD hS hB => ?_)
  rw [hB] at hP hD
  clear hB G'
  exact hret _ _ _ _ _ _ hP hD hS rfl rfl dX7_zone_50
set_option maxHeartbeats 4000000 in
set_option maxRecDepth 100000 in
theorem k_X7_ink_b {l : Launch} {D : va_G} {cI cZ : ClassId} {A : Nat → Prop} {g a : Nat → Nat} {G0 : va_W} {st : Bool} {zv : Nat → Int32} {zn : Nat} {ink : Nat → Int32} {tr : Nat} {fed : Int32} {pap : Int32} {bar : Int32} {x : Int32} {y : Int32} (hD : va_D A G0) (w0 : G0[0]? = some (a 0, .inr (7, [.ref (a 1), .ref (a 3), .ref (a 5), .ref (a 7), .ref (a 10), .ref (a 11), .ref (a 16), .int (gB (st))]))) (w3 : G0[3]? = some (a 3, .inr (6, [.ref (a 4), .int (nI (zn))]))) (w4 : G0[4]? = some (a 4, .inl (cI, 24, .inl (zv)))) (w5 : G0[5]? = some (a 5, .inr (5, [.ref (a 6), .int (nI (zn)), .int (nI (tr)), .int (fed), .int (pap), .int (bar)]))) (w6 : G0[6]? = some (a 6, .inl (cI, 40, .inl (ink)))) (hbad : gHas x (nI tr) = false ∨ gHas y (nI zn) = false) : gMi l D cI cZ A g yX7_ink wsX7_ink ({ frames := 1, cells := 0, slots := 0, locals := 21 }) [.ref (a 0), .int (x), .int (y)] G0 ((-1)) (fun G1 => G1 = G0) := by
  refine gof_i (cc := cX7_ink) (maxL := 3) (by decide) rfl (Nat.le_of_ble_eq_true rfl) hD ?_
  intro p e s m args below meth c Q hx hb hml hts hown hK hN hZ hP hS hret ls hl
  have hown : s.vm.findClass RX7 = some m.cls := hown
  have hl : lv_has ls 3 [(0, .ref (a 0)), (1, .int (x)), (2, .int (y))] := hl
  obtain ⟨locs, elocs⟩ : ∃ q : List Loc, q = [] := ⟨_, rfl⟩
  rw [← elocs] at hS ⊢
  obtain ⟨H, eH⟩ : ∃ q : Heap, q = s.heap := ⟨_, rfl⟩
  have hP : va_P D vwCl G0 H := eH ▸ hP
  have hS : va_S A s.heap H locs := by rw [eH]; exact hS
  rw [← eH]
  clear elocs eH
  have hiX7 : ∀ w ∈ u_ws RX7 TX7 8, w ∈ wsX7_ink := by decide +kernel
  have hk : ∀ k, k ∉ ([] : List Nat) → G0[k]? = G0[k]? := fun _ _ => rfl
  refine lv_aload_n (pc := 0) hx hb dX7_ink_0 rfl (lv_at hl 0 rfl) ?_
  refine va_get (ci := 7) (C := RX7) (T := TX7) (N := 8) (pc := 1) hx hb hts hiX7 hown hK hP 0 w0 rfl 2 (by decide) (hts (.fieldLink RX7 26 "InkPress" "train" "LInkPress$Train;") (by decide +kernel)) (fun _ h9 => h9) rfl dX7_ink_1 ?_
  refine lv_iload_n (pc := 4) hx hb dX7_ink_4 rfl (lv_at hl 1 rfl) ?_
  refine mx_cVi (As := [.int (x)]) (rest := []) (pc := 5) ⟨hx, hb, hml, hown, hts⟩ (k_X5_has (a := a) (ink := ink) (tz := zn) (tr := tr) (fed := fed) (pap := pap) (bar := bar) (x := x) hD w5 w6 ) (cwV 1 hts gX7_ink_X5_has rfl rfl rfl (by decide +kernel) ⟨Nat.le_of_ble_eq_true rfl, Nat.le_of_ble_eq_true rfl⟩) 5 rfl rfl w5 hK hN hZ hP hS rfl hl.1 rfl (Nat.le_of_ble_eq_true rfl) dX7_ink_5 ⟨Nat.zero_le _, Nat.zero_le _⟩ (fun G' H locs hP hD hS hB => ?_)
  rw [hB] at hP hD
  clear hB G'
  refine mx_beq (tgt := 22) (pc := 8) hx hb dX7_ink_8 (by decide) (fun c8 => ?_) (fun c8 => ?_)
  · skip
    refine lv_iconst (v := (-1)) (pc := 22) hx hb dX7_ink_22 (by decide) ?_
    exact hret _ _ _ _ _ _ hP hD hS rfl rfl dX7_ink_23
  · skip
    refine lv_aload_n (pc := 11) hx hb dX7_ink_11 rfl (lv_at hl 0 rfl) ?_
    refine va_get (ci := 7) (C := RX7) (T := TX7) (N := 8) (pc := 12) hx hb hts hiX7 hown hK hP 0 w0 rfl 1 (by decide) (hts (.fieldLink RX7 19 "InkPress" "zones" "LInkPress$Zones;") (by decide +kernel)) (fun _ h9 => h9) rfl dX7_ink_12 ?_
    refine lv_iload_n (pc := 15) hx hb dX7_ink_15 rfl (lv_at hl 2 rfl) ?_
    refine mx_cVi (As := [.int (y)]) (rest := []) (pc := 16) ⟨hx, hb, hml, hown, hts⟩ (k_X6_has (a := a) (zv := zv) (zn := zn) (x := y) hD w3 w4 ) (cwV 1 hts gX7_ink_X6_has rfl rfl rfl (by decide +kernel) ⟨Nat.le_of_ble_eq_true rfl, Nat.le_of_ble_eq_true rfl⟩) 3 rfl rfl w3 hK hN hZ hP hS rfl hl.1 rfl (Nat.le_of_ble_eq_true rfl) dX7_ink_16 ⟨Nat.zero_le _, Nat.zero_le _⟩ (fun G' H locs hP hD hS hB => ?_)
    rw [hB] at hP hD
    clear hB G'
    refine mx_bne (tgt := 24) (pc := 19) hx hb dX7_ink_19 (by decide) (fun c19 => ?_) (fun c19 => ?_)
    · skip
      exact (by simp [c8, c19] at hbad)
    · skip
      refine lv_iconst (v := (-1)) (pc := 22) hx hb dX7_ink_22 (by decide) ?_
      exact hret _ _ _ _ _ _ hP hD hS rfl rfl dX7_ink_23
set_option maxHeartbeats 4000000 in
set_option maxRecDepth 100000 in
theorem k_X7_ink_k {l : Launch} {D : va_G} {cI cZ : ClassId} {A : Nat → Prop} {g a : Nat → Nat} {G0 : va_W} {st : Bool} {zv : Nat → Int32} {zn : Nat} {ink : Nat → Int32} {tr : Nat} {fed : Int32} {pap : Int32} {bar : Int32} {r : Nat} {z : Nat} (hD : va_D A G0) (w0 : G0[0]? = some (a 0, .inr (7, [.ref (a 1), .ref (a 3), .ref (a 5), .ref (a 7), .ref (a 10), .ref (a 11), .ref (a 16), .int (gB (st))]))) (w3 : G0[3]? = some (a 3, .inr (6, [.ref (a 4), .int (nI (zn))]))) (w4 : G0[4]? = some (a 4, .inl (cI, 24, .inl (zv)))) (w5 : G0[5]? = some (a 5, .inr (5, [.ref (a 6), .int (nI (zn)), .int (nI (tr)), .int (fed), .int (pap), .int (bar)]))) (w6 : G0[6]? = some (a 6, .inl (cI, 40, .inl (ink)))) (hr : r < 5) (hz : z < 8) (h1 : gHas (nI r) (nI tr) = true) (h2 : gHas (nI z) (nI zn) = true) : gMi l D cI cZ A g yX7_ink wsX7_ink ({ frames := 1, cells := 0, slots := 0, locals := 22 }) [.ref (a 0), .int (nI (r)), .int (nI (z))] G0 (ink (r * 8 + z)) (fun G1 => G1 = G0) := by
  refine gof_i (cc := cX7_ink) (maxL := 3) (by decide) rfl (Nat.le_of_ble_eq_true rfl) hD ?_
  intro p e s m args below meth c Q hx hb hml hts hown hK hN hZ hP hS hret ls hl
  have hown : s.vm.findClass RX7 = some m.cls := hown
  have hl : lv_has ls 3 [(0, .ref (a 0)), (1, .int (nI (r))), (2, .int (nI (z)))] := hl
  obtain ⟨locs, elocs⟩ : ∃ q : List Loc, q = [] := ⟨_, rfl⟩
  rw [← elocs] at hS ⊢
  obtain ⟨H, eH⟩ : ∃ q : Heap, q = s.heap := ⟨_, rfl⟩
  have hP : va_P D vwCl G0 H := eH ▸ hP
  have hS : va_S A s.heap H locs := by rw [eH]; exact hS
  rw [← eH]
  clear elocs eH
  have hiX7 : ∀ w ∈ u_ws RX7 TX7 8, w ∈ wsX7_ink := by decide +kernel
  have hk : ∀ k, k ∉ ([] : List Nat) → G0[k]? = G0[k]? := fun _ _ => rfl
  refine lv_aload_n (pc := 0) hx hb dX7_ink_0 rfl (lv_at hl 0 rfl) ?_
  refine va_get (ci := 7) (C := RX7) (T := TX7) (N := 8) (pc := 1) hx hb hts hiX7 hown hK hP 0 w0 rfl 2 (by decide) (hts (.fieldLink RX7 26 "InkPress" "train" "LInkPress$Train;") (by decide +kernel)) (fun _ h9 => h9) rfl dX7_ink_1 ?_
  refine lv_iload_n (pc := 4) hx hb dX7_ink_4 rfl (lv_at hl 1 rfl) ?_
  refine mx_cVi (As := [.int (nI (r))]) (rest := []) (pc := 5) ⟨hx, hb, hml, hown, hts⟩ (k_X5_has (a := a) (ink := ink) (tz := zn) (tr := tr) (fed := fed) (pap := pap) (bar := bar) (x := nI (r)) hD w5 w6 ) (cwV 1 hts gX7_ink_X5_has rfl rfl rfl (by decide +kernel) ⟨Nat.le_of_ble_eq_true rfl, Nat.le_of_ble_eq_true rfl⟩) 5 rfl rfl w5 hK hN hZ hP hS rfl hl.1 rfl (Nat.le_of_ble_eq_true rfl) dX7_ink_5 ⟨Nat.zero_le _, Nat.zero_le _⟩ (fun G' H locs hP hD hS hB => ?_)
  rw [hB] at hP hD
  clear hB G'
  refine mx_beq (tgt := 22) (pc := 8) hx hb dX7_ink_8 (by decide) (fun c8 => absurd (c8.symm.trans h1) (by decide)) (fun c8 => ?_)
  refine lv_aload_n (pc := 11) hx hb dX7_ink_11 rfl (lv_at hl 0 rfl) ?_
  refine va_get (ci := 7) (C := RX7) (T := TX7) (N := 8) (pc := 12) hx hb hts hiX7 hown hK hP 0 w0 rfl 1 (by decide) (hts (.fieldLink RX7 19 "InkPress" "zones" "LInkPress$Zones;") (by decide +kernel)) (fun _ h9 => h9) rfl dX7_ink_12 ?_
  refine lv_iload_n (pc := 15) hx hb dX7_ink_15 rfl (lv_at hl 2 rfl) ?_
  refine mx_cVi (As := [.int (nI (z))]) (rest := []) (pc := 16) ⟨hx, hb, hml, hown, hts⟩ (k_X6_has (a := a) (zv := zv) (zn := zn) (x := nI (z)) hD w3 w4 ) (cwV 1 hts gX7_ink_X6_has rfl rfl rfl (by decide +kernel) ⟨Nat.le_of_ble_eq_true rfl, Nat.le_of_ble_eq_true rfl⟩) 3 rfl rfl w3 hK hN hZ hP hS rfl hl.1 rfl (Nat.le_of_ble_eq_true rfl) dX7_ink_16 ⟨Nat.zero_le _, Nat.zero_le _⟩ (fun G' H locs hP hD hS hB => ?_)
  rw [hB] at hP hD
  clear hB G'
  refine mx_bne (tgt := 24) (pc := 19) hx hb dX7_ink_19 (by decide) (fun c19 => ?_) (fun c19 => absurd (c19.symm.trans h2) (by decide))
  refine lv_aload_n (pc := 24) hx hb dX7_ink_24 rfl (lv_at hl 0 rfl) ?_
  refine va_get (ci := 7) (C := RX7) (T := TX7) (N := 8) (pc := 25) hx hb hts hiX7 hown hK hP 0 w0 rfl 2 (by decide) (hts (.fieldLink RX7 26 "InkPress" "train" "LInkPress$Train;") (by decide +kernel)) (fun _ h9 => h9) rfl dX7_ink_25 ?_
  refine lv_iload_n (pc := 28) hx hb dX7_ink_28 rfl (lv_at hl 1 rfl) ?_
  refine lv_iload_n (pc := 29) hx hb dX7_ink_29 rfl (lv_at hl 2 rfl) ?_
  refine mx_cVi (As := [.int (nI (r)), .int (nI (z))]) (rest := []) (pc := 30) ⟨hx, hb, hml, hown, hts⟩ (k_X5_inkAt (a := a) (ink := ink) (tz := zn) (tr := tr) (fed := fed) (pap := pap) (bar := bar) (r := r) (z := z) hD w5 w6 (by omega) (by omega)) (cwV 2 hts gX7_ink_X5_inkAt rfl rfl rfl (by decide +kernel) ⟨Nat.le_of_ble_eq_true rfl, Nat.le_of_ble_eq_true rfl⟩) 5 rfl rfl w5 hK hN hZ hP hS rfl hl.1 rfl (Nat.le_of_ble_eq_true rfl) dX7_ink_30 ⟨Nat.zero_le _, Nat.zero_le _⟩ (fun G' H locs hP hD hS hB => ?_)
  rw [hB] at hP hD
  clear hB G'
  exact hret _ _ _ _ _ _ hP hD hS rfl rfl dX7_ink_33
set_option maxHeartbeats 4000000 in
set_option maxRecDepth 100000 in
theorem k_X7_good_b {l : Launch} {D : va_G} {cI cZ : ClassId} {A : Nat → Prop} {g a : Nat → Nat} {G0 : va_W} {st : Bool} {den : Nat → Int32} {go : Nat → Bool} {sc : Nat} {sg : Int32} {sr : Int32} {ss : Int32} {x : Int32} (hD : va_D A G0) (w0 : G0[0]? = some (a 0, .inr (7, [.ref (a 1), .ref (a 3), .ref (a 5), .ref (a 7), .ref (a 10), .ref (a 11), .ref (a 16), .int (gB (st))]))) (w7 : G0[7]? = some (a 7, .inr (4, [.ref (a 8), .ref (a 9), .int (nI (sc)), .int (sg), .int (sr), .int (ss)]))) (w8 : G0[8]? = some (a 8, .inl (cI, 8000, .inl (den)))) (w9 : G0[9]? = some (a 9, .inl (cZ, 1000, .inl (fun j => gB ((go) j))))) (h1 : gWi x (nI 1) (nI sc) = false) : gMi l D cI cZ A g yX7_good wsX7_good ({ frames := 1, cells := 0, slots := 0, locals := 21 }) [.ref (a 0), .int (x)] G0 ((-1)) (fun G1 => G1 = G0) := by
  refine gof_i (cc := cX7_good) (maxL := 2) (by decide) rfl (Nat.le_of_ble_eq_true rfl) hD ?_
  intro p e s m args below meth c Q hx hb hml hts hown hK hN hZ hP hS hret ls hl
  have hown : s.vm.findClass RX7 = some m.cls := hown
  have hl : lv_has ls 2 [(0, .ref (a 0)), (1, .int (x))] := hl
  obtain ⟨locs, elocs⟩ : ∃ q : List Loc, q = [] := ⟨_, rfl⟩
  rw [← elocs] at hS ⊢
  obtain ⟨H, eH⟩ : ∃ q : Heap, q = s.heap := ⟨_, rfl⟩
  have hP : va_P D vwCl G0 H := eH ▸ hP
  have hS : va_S A s.heap H locs := by rw [eH]; exact hS
  rw [← eH]
  clear elocs eH
  have hiX7 : ∀ w ∈ u_ws RX7 TX7 8, w ∈ wsX7_good := by decide +kernel
  have hk : ∀ k, k ∉ ([] : List Nat) → G0[k]? = G0[k]? := fun _ _ => rfl
  refine lv_aload_n (pc := 0) hx hb dX7_good_0 rfl (lv_at hl 0 rfl) ?_
  refine va_get (ci := 7) (C := RX7) (T := TX7) (N := 8) (pc := 1) hx hb hts hiX7 hown hK hP 0 w0 rfl 3 (by decide) (hts (.fieldLink RX7 33 "InkPress" "sheets" "LInkPress$SheetLog;") (by decide +kernel)) (fun _ h9 => h9) rfl dX7_good_1 ?_
  refine lv_iload_n (pc := 4) hx hb dX7_good_4 rfl (lv_at hl 1 rfl) ?_
  refine mx_cVi (As := [.int (x)]) (rest := []) (pc := 5) ⟨hx, hb, hml, hown, hts⟩ (k_X4_has (a := a) (den := den) (go := go) (sc := sc) (sg := sg) (sr := sr) (ss := ss) (x := x) hD w7 w8 w9 ) (cwV 1 hts gX7_good_X4_has rfl rfl rfl (by decide +kernel) ⟨Nat.le_of_ble_eq_true rfl, Nat.le_of_ble_eq_true rfl⟩) 7 rfl rfl w7 hK hN hZ hP hS rfl hl.1 rfl (Nat.le_of_ble_eq_true rfl) dX7_good_5 ⟨Nat.zero_le _, Nat.zero_le _⟩ (fun G' H locs hP hD hS hB => ?_)
  rw [hB] at hP hD
  clear hB G'
  refine mx_bne (tgt := 13) (pc := 8) hx hb dX7_good_8 (by decide) (fun c8 => absurd (c8.symm.trans h1) (by decide)) (fun c8 => ?_)
  refine lv_iconst (v := (-1)) (pc := 11) hx hb dX7_good_11 (by decide) ?_
  exact hret _ _ _ _ _ _ hP hD hS rfl rfl dX7_good_12
set_option maxHeartbeats 4000000 in
set_option maxRecDepth 100000 in
theorem k_X7_good_k {l : Launch} {D : va_G} {cI cZ : ClassId} {A : Nat → Prop} {g a : Nat → Nat} {G0 : va_W} {st : Bool} {den : Nat → Int32} {go : Nat → Bool} {sc : Nat} {sg : Int32} {sr : Int32} {ss : Int32} {n : Nat} (hD : va_D A G0) (w0 : G0[0]? = some (a 0, .inr (7, [.ref (a 1), .ref (a 3), .ref (a 5), .ref (a 7), .ref (a 10), .ref (a 11), .ref (a 16), .int (gB (st))]))) (w7 : G0[7]? = some (a 7, .inr (4, [.ref (a 8), .ref (a 9), .int (nI (sc)), .int (sg), .int (sr), .int (ss)]))) (w8 : G0[8]? = some (a 8, .inl (cI, 8000, .inl (den)))) (w9 : G0[9]? = some (a 9, .inl (cZ, 1000, .inl (fun j => gB ((go) j))))) (hn1 : 1 ≤ n) (hn2 : n ≤ 1000) (h1 : gWi (nI n) (nI 1) (nI sc) = true) : gMi l D cI cZ A g yX7_good wsX7_good ({ frames := 1, cells := 0, slots := 0, locals := 21 }) [.ref (a 0), .int (nI (n))] G0 (gB (go (n - 1))) (fun G1 => G1 = G0) := by
  refine gof_i (cc := cX7_good) (maxL := 2) (by decide) rfl (Nat.le_of_ble_eq_true rfl) hD ?_
  intro p e s m args below meth c Q hx hb hml hts hown hK hN hZ hP hS hret ls hl
  have hown : s.vm.findClass RX7 = some m.cls := hown
  have hl : lv_has ls 2 [(0, .ref (a 0)), (1, .int (nI (n)))] := hl
  obtain ⟨locs, elocs⟩ : ∃ q : List Loc, q = [] := ⟨_, rfl⟩
  rw [← elocs] at hS ⊢
  obtain ⟨H, eH⟩ : ∃ q : Heap, q = s.heap := ⟨_, rfl⟩
  have hP : va_P D vwCl G0 H := eH ▸ hP
  have hS : va_S A s.heap H locs := by rw [eH]; exact hS
  rw [← eH]
  clear elocs eH
  have hiX7 : ∀ w ∈ u_ws RX7 TX7 8, w ∈ wsX7_good := by decide +kernel
  have hk : ∀ k, k ∉ ([] : List Nat) → G0[k]? = G0[k]? := fun _ _ => rfl
  refine lv_aload_n (pc := 0) hx hb dX7_good_0 rfl (lv_at hl 0 rfl) ?_
  refine va_get (ci := 7) (C := RX7) (T := TX7) (N := 8) (pc := 1) hx hb hts hiX7 hown hK hP 0 w0 rfl 3 (by decide) (hts (.fieldLink RX7 33 "InkPress" "sheets" "LInkPress$SheetLog;") (by decide +kernel)) (fun _ h9 => h9) rfl dX7_good_1 ?_
  refine lv_iload_n (pc := 4) hx hb dX7_good_4 rfl (lv_at hl 1 rfl) ?_
  refine mx_cVi (As := [.int (nI (n))]) (rest := []) (pc := 5) ⟨hx, hb, hml, hown, hts⟩ (k_X4_has (a := a) (den := den) (go := go) (sc := sc) (sg := sg) (sr := sr) (ss := ss) (x := nI (n)) hD w7 w8 w9 ) (cwV 1 hts gX7_good_X4_has rfl rfl rfl (by decide +kernel) ⟨Nat.le_of_ble_eq_true rfl, Nat.le_of_ble_eq_true rfl⟩) 7 rfl rfl w7 hK hN hZ hP hS rfl hl.1 rfl (Nat.le_of_ble_eq_true rfl) dX7_good_5 ⟨Nat.zero_le _, Nat.zero_le _⟩ (fun G' H locs hP hD hS hB => ?_)
  rw [hB] at hP hD
  clear hB G'
  refine mx_bne (tgt := 13) (pc := 8) hx hb dX7_good_8 (by decide) (fun c8 => ?_) (fun c8 => absurd (c8.symm.trans h1) (by decide))
  refine lv_aload_n (pc := 13) hx hb dX7_good_13 rfl (lv_at hl 0 rfl) ?_
  refine va_get (ci := 7) (C := RX7) (T := TX7) (N := 8) (pc := 14) hx hb hts hiX7 hown hK hP 0 w0 rfl 3 (by decide) (hts (.fieldLink RX7 33 "InkPress" "sheets" "LInkPress$SheetLog;") (by decide +kernel)) (fun _ h9 => h9) rfl dX7_good_14 ?_
  refine lv_iload_n (pc := 17) hx hb dX7_good_17 rfl (lv_at hl 1 rfl) ?_
  refine mx_cVi (As := [.int (nI (n))]) (rest := []) (pc := 18) ⟨hx, hb, hml, hown, hts⟩ (k_X4_wasGood (a := a) (den := den) (go := go) (sc := sc) (sg := sg) (sr := sr) (ss := ss) (n := n) hD w7 w8 w9 (by omega) (by omega)) (cwV 1 hts gX7_good_X4_wasGood rfl rfl rfl (by decide +kernel) ⟨Nat.le_of_ble_eq_true rfl, Nat.le_of_ble_eq_true rfl⟩) 7 rfl rfl w7 hK hN hZ hP hS rfl hl.1 rfl (Nat.le_of_ble_eq_true rfl) dX7_good_18 ⟨Nat.zero_le _, Nat.zero_le _⟩ (fun G' H locs hP hD hS hB => ?_)
  rw [hB] at hP hD
  clear hB G'
  refine mx_beq (tgt := 28) (pc := 21) hx hb dX7_good_21 (by decide) (fun c21 => ?_) (fun c21 => ?_)
  · skip
    refine lv_iconst (v := nI (0)) (pc := 28) hx hb dX7_good_28 (by decide) ?_
    exact hret _ _ _ _ _ _ hP hD hS (by rw [c21]; rfl) rfl dX7_good_29
  · skip
    refine lv_iconst (v := nI (1)) (pc := 24) hx hb dX7_good_24 (by decide) ?_
    refine lv_goto (tgt := 29) (pc := 25) hx hb dX7_good_25 (by decide) ?_
    exact hret _ _ _ _ _ _ hP hD hS (by rw [c21]; rfl) rfl dX7_good_29
set_option maxHeartbeats 4000000 in
set_option maxRecDepth 100000 in
theorem k_X7_density_b {l : Launch} {D : va_G} {cI cZ : ClassId} {A : Nat → Prop} {g a : Nat → Nat} {G0 : va_W} {st : Bool} {zv : Nat → Int32} {zn : Nat} {den : Nat → Int32} {go : Nat → Bool} {sc : Nat} {sg : Int32} {sr : Int32} {ss : Int32} {x : Int32} {y : Int32} (hD : va_D A G0) (w0 : G0[0]? = some (a 0, .inr (7, [.ref (a 1), .ref (a 3), .ref (a 5), .ref (a 7), .ref (a 10), .ref (a 11), .ref (a 16), .int (gB (st))]))) (w3 : G0[3]? = some (a 3, .inr (6, [.ref (a 4), .int (nI (zn))]))) (w4 : G0[4]? = some (a 4, .inl (cI, 24, .inl (zv)))) (w7 : G0[7]? = some (a 7, .inr (4, [.ref (a 8), .ref (a 9), .int (nI (sc)), .int (sg), .int (sr), .int (ss)]))) (w8 : G0[8]? = some (a 8, .inl (cI, 8000, .inl (den)))) (w9 : G0[9]? = some (a 9, .inl (cZ, 1000, .inl (fun j => gB ((go) j))))) (hbad : gWi x (nI 1) (nI sc) = false ∨ gHas y (nI zn) = false) : gMi l D cI cZ A g yX7_density wsX7_density ({ frames := 1, cells := 0, slots := 0, locals := 21 }) [.ref (a 0), .int (x), .int (y)] G0 ((-1)) (fun G1 => G1 = G0) := by
  refine gof_i (cc := cX7_density) (maxL := 3) (by decide) rfl (Nat.le_of_ble_eq_true rfl) hD ?_
  intro p e s m args below meth c Q hx hb hml hts hown hK hN hZ hP hS hret ls hl
  have hown : s.vm.findClass RX7 = some m.cls := hown
  have hl : lv_has ls 3 [(0, .ref (a 0)), (1, .int (x)), (2, .int (y))] := hl
  obtain ⟨locs, elocs⟩ : ∃ q : List Loc, q = [] := ⟨_, rfl⟩
  rw [← elocs] at hS ⊢
  obtain ⟨H, eH⟩ : ∃ q : Heap, q = s.heap := ⟨_, rfl⟩
  have hP : va_P D vwCl G0 H := eH ▸ hP
  have hS : va_S A s.heap H locs := by rw [eH]; exact hS
  rw [← eH]
  clear elocs eH
  have hiX7 : ∀ w ∈ u_ws RX7 TX7 8, w ∈ wsX7_density := by decide +kernel
  have hk : ∀ k, k ∉ ([] : List Nat) → G0[k]? = G0[k]? := fun _ _ => rfl
  refine lv_aload_n (pc := 0) hx hb dX7_density_0 rfl (lv_at hl 0 rfl) ?_
  refine va_get (ci := 7) (C := RX7) (T := TX7) (N := 8) (pc := 1) hx hb hts hiX7 hown hK hP 0 w0 rfl 3 (by decide) (hts (.fieldLink RX7 33 "InkPress" "sheets" "LInkPress$SheetLog;") (by decide +kernel)) (fun _ h9 => h9) rfl dX7_density_1 ?_
  refine lv_iload_n (pc := 4) hx hb dX7_density_4 rfl (lv_at hl 1 rfl) ?_
  refine mx_cVi (As := [.int (x)]) (rest := []) (pc := 5) ⟨hx, hb, hml, hown, hts⟩ (k_X4_has (a := a) (den := den) (go := go) (sc := sc) (sg := sg) (sr := sr) (ss := ss) (x := x) hD w7 w8 w9 ) (cwV 1 hts gX7_density_X4_has rfl rfl rfl (by decide +kernel) ⟨Nat.le_of_ble_eq_true rfl, Nat.le_of_ble_eq_true rfl⟩) 7 rfl rfl w7 hK hN hZ hP hS rfl hl.1 rfl (Nat.le_of_ble_eq_true rfl) dX7_density_5 ⟨Nat.zero_le _, Nat.zero_le _⟩ (fun G' H locs hP hD hS hB => ?_)
  rw [hB] at hP hD
  clear hB G'
  refine mx_beq (tgt := 22) (pc := 8) hx hb dX7_density_8 (by decide) (fun c8 => ?_) (fun c8 => ?_)
  · skip
    refine lv_iconst (v := (-1)) (pc := 22) hx hb dX7_density_22 (by decide) ?_
    exact hret _ _ _ _ _ _ hP hD hS rfl rfl dX7_density_23
  · skip
    refine lv_aload_n (pc := 11) hx hb dX7_density_11 rfl (lv_at hl 0 rfl) ?_
    refine va_get (ci := 7) (C := RX7) (T := TX7) (N := 8) (pc := 12) hx hb hts hiX7 hown hK hP 0 w0 rfl 1 (by decide) (hts (.fieldLink RX7 19 "InkPress" "zones" "LInkPress$Zones;") (by decide +kernel)) (fun _ h9 => h9) rfl dX7_density_12 ?_
    refine lv_iload_n (pc := 15) hx hb dX7_density_15 rfl (lv_at hl 2 rfl) ?_
    refine mx_cVi (As := [.int (y)]) (rest := []) (pc := 16) ⟨hx, hb, hml, hown, hts⟩ (k_X6_has (a := a) (zv := zv) (zn := zn) (x := y) hD w3 w4 ) (cwV 1 hts gX7_density_X6_has rfl rfl rfl (by decide +kernel) ⟨Nat.le_of_ble_eq_true rfl, Nat.le_of_ble_eq_true rfl⟩) 3 rfl rfl w3 hK hN hZ hP hS rfl hl.1 rfl (Nat.le_of_ble_eq_true rfl) dX7_density_16 ⟨Nat.zero_le _, Nat.zero_le _⟩ (fun G' H locs hP hD hS hB => ?_)
    rw [hB] at hP hD
    clear hB G'
    refine mx_bne (tgt := 24) (pc := 19) hx hb dX7_density_19 (by decide) (fun c19 => ?_) (fun c19 => ?_)
    · skip
      exact (by simp [c8, c19] at hbad)
    · skip
      refine lv_iconst (v := (-1)) (pc := 22) hx hb dX7_density_22 (by decide) ?_
      exact hret _ _ _ _ _ _ hP hD hS rfl rfl dX7_density_23
set_option maxHeartbeats 4000000 in
set_option maxRecDepth 100000 in
theorem k_X7_density_k {l : Launch} {D : va_G} {cI cZ : ClassId} {A : Nat → Prop} {g a : Nat → Nat} {G0 : va_W} {st : Bool} {zv : Nat → Int32} {zn : Nat} {den : Nat → Int32} {go : Nat → Bool} {sc : Nat} {sg : Int32} {sr : Int32} {ss : Int32} {n : Nat} {z : Nat} (hD : va_D A G0) (w0 : G0[0]? = some (a 0, .inr (7, [.ref (a 1), .ref (a 3), .ref (a 5), .ref (a 7), .ref (a 10), .ref (a 11), .ref (a 16), .int (gB (st))]))) (w3 : G0[3]? = some (a 3, .inr (6, [.ref (a 4), .int (nI (zn))]))) (w4 : G0[4]? = some (a 4, .inl (cI, 24, .inl (zv)))) (w7 : G0[7]? = some (a 7, .inr (4, [.ref (a 8), .ref (a 9), .int (nI (sc)), .int (sg), .int (sr), .int (ss)]))) (w8 : G0[8]? = some (a 8, .inl (cI, 8000, .inl (den)))) (w9 : G0[9]? = some (a 9, .inl (cZ, 1000, .inl (fun j => gB ((go) j))))) (hn1 : 1 ≤ n) (hn2 : n ≤ 1000) (hz : z < 8) (h1 : gWi (nI n) (nI 1) (nI sc) = true) (h2 : gHas (nI z) (nI zn) = true) : gMi l D cI cZ A g yX7_density wsX7_density ({ frames := 1, cells := 0, slots := 0, locals := 22 }) [.ref (a 0), .int (nI (n)), .int (nI (z))] G0 (den ((n - 1) * 8 + z)) (fun G1 => G1 = G0) := by
  refine gof_i (cc := cX7_density) (maxL := 3) (by decide) rfl (Nat.le_of_ble_eq_true rfl) hD ?_
  intro p e s m args below meth c Q hx hb hml hts hown hK hN hZ hP hS hret ls hl
  have hown : s.vm.findClass RX7 = some m.cls := hown
  have hl : lv_has ls 3 [(0, .ref (a 0)), (1, .int (nI (n))), (2, .int (nI (z)))] := hl
  obtain ⟨locs, elocs⟩ : ∃ q : List Loc, q = [] := ⟨_, rfl⟩
  rw [← elocs] at hS ⊢
  obtain ⟨H, eH⟩ : ∃ q : Heap, q = s.heap := ⟨_, rfl⟩
  have hP : va_P D vwCl G0 H := eH ▸ hP
  have hS : va_S A s.heap H locs := by rw [eH]; exact hS
  rw [← eH]
  clear elocs eH
  have hiX7 : ∀ w ∈ u_ws RX7 TX7 8, w ∈ wsX7_density := by decide +kernel
  have hk : ∀ k, k ∉ ([] : List Nat) → G0[k]? = G0[k]? := fun _ _ => rfl
  refine lv_aload_n (pc := 0) hx hb dX7_density_0 rfl (lv_at hl 0 rfl) ?_
  refine va_get (ci := 7) (C := RX7) (T := TX7) (N := 8) (pc := 1) hx hb hts hiX7 hown hK hP 0 w0 rfl 3 (by decide) (hts (.fieldLink RX7 33 "InkPress" "sheets" "LInkPress$SheetLog;") (by decide +kernel)) (fun _ h9 => h9) rfl dX7_density_1 ?_
  refine lv_iload_n (pc := 4) hx hb dX7_density_4 rfl (lv_at hl 1 rfl) ?_
  refine mx_cVi (As := [.int (nI (n))]) (rest := []) (pc := 5) ⟨hx, hb, hml, hown, hts⟩ (k_X4_has (a := a) (den := den) (go := go) (sc := sc) (sg := sg) (sr := sr) (ss := ss) (x := nI (n)) hD w7 w8 w9 ) (cwV 1 hts gX7_density_X4_has rfl rfl rfl (by decide +kernel) ⟨Nat.le_of_ble_eq_true rfl, Nat.le_of_ble_eq_true rfl⟩) 7 rfl rfl w7 hK hN hZ hP hS rfl hl.1 rfl (Nat.le_of_ble_eq_true rfl) dX7_density_5 ⟨Nat.zero_le _, Nat.zero_le _⟩ (fun G' H locs hP hD hS hB => ?_)
  rw [hB] at hP hD
  clear hB G'
  refine mx_beq (tgt := 22) (pc := 8) hx hb dX7_density_8 (by decide) (fun c8 => absurd (c8.symm.trans h1) (by decide)) (fun c8 => ?_)
  refine lv_aload_n (pc := 11) hx hb dX7_density_11 rfl (lv_at hl 0 rfl) ?_
  refine va_get (ci := 7) (C := RX7) (T := TX7) (N := 8) (pc := 12) hx hb hts hiX7 hown hK hP 0 w0 rfl 1 (by decide) (hts (.fieldLink RX7 19 "InkPress" "zones" "LInkPress$Zones;") (by decide +kernel)) (fun _ h9 => h9) rfl dX7_density_12 ?_
  refine lv_iload_n (pc := 15) hx hb dX7_density_15 rfl (lv_at hl 2 rfl) ?_
  refine mx_cVi (As := [.int (nI (z))]) (rest := []) (pc := 16) ⟨hx, hb, hml, hown, hts⟩ (k_X6_has (a := a) (zv := zv) (zn := zn) (x := nI (z)) hD w3 w4 ) (cwV 1 hts gX7_density_X6_has rfl rfl rfl (by decide +kernel) ⟨Nat.le_of_ble_eq_true rfl, Nat.le_of_ble_eq_true rfl⟩) 3 rfl rfl w3 hK hN hZ hP hS rfl hl.1 rfl (Nat.le_of_ble_eq_true rfl) dX7_density_16 ⟨Nat.zero_le _, Nat.zero_le _⟩ (fun G' H locs hP hD hS hB => ?_)
  rw [hB] at hP hD
  clear hB G'
  refine mx_bne (tgt := 24) (pc := 19) hx hb dX7_density_19 (by decide) (fun c19 => ?_) (fun c19 => absurd (c19.symm.trans h2) (by decide))
  refine lv_aload_n (pc := 24) hx hb dX7_density_24 rfl (lv_at hl 0 rfl) ?_
  refine va_get (ci := 7) (C := RX7) (T := TX7) (N := 8) (pc := 25) hx hb hts hiX7 hown hK hP 0 w0 rfl 3 (by decide) (hts (.fieldLink RX7 33 "InkPress" "sheets" "LInkPress$SheetLog;") (by decide +kernel)) (fun _ h9 => h9) rfl dX7_density_25 ?_
  refine lv_iload_n (pc := 28) hx hb dX7_density_28 rfl (lv_at hl 1 rfl) ?_
  refine lv_iload_n (pc := 29) hx hb dX7_density_29 rfl (lv_at hl 2 rfl) ?_
  refine mx_cVi (As := [.int (nI (n)), .int (nI (z))]) (rest := []) (pc := 30) ⟨hx, hb, hml, hown, hts⟩ (k_X4_densityOn (a := a) (den := den) (go := go) (sc := sc) (sg := sg) (sr := sr) (ss := ss) (n := n) (z := z) hD w7 w8 w9 (by omega) (by omega) (by omega)) (cwV 2 hts gX7_density_X4_densityOn rfl rfl rfl (by decide +kernel) ⟨Nat.le_of_ble_eq_true rfl, Nat.le_of_ble_eq_true rfl⟩) 7 rfl rfl w7 hK hN hZ hP hS rfl hl.1 rfl (Nat.le_of_ble_eq_true rfl) dX7_density_30 ⟨Nat.zero_le _, Nat.zero_le _⟩ (fun G' H locs hP hD hS hB => ?_)
  rw [hB] at hP hD
  clear hB G'
  exact hret _ _ _ _ _ _ hP hD hS rfl rfl dX7_density_33
