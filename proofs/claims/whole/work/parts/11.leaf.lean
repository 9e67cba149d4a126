/-! leaves: small methods of the class -/
def gHeld (v : Int64) (lo hi : Int32) : Int32 := (gLmax lo.toInt64 (gLmin hi.toInt64 v)).toInt32
def gShare (x q n : Int32) : Int32 := (x.toInt64 * q.toInt64 / n.toInt64).toInt32
theorem gL_ne {n : Int32} (h : 0 < n) : ¬ n.toInt64 = 0 := by
  intro q
  have h1 : n.toInt64.toInt = (0 : Int64).toInt := by rw [q]
  rw [Int32.toInt_toInt64] at h1
  rw [Int32.lt_iff_toInt_lt] at h
  have : (0 : Int32).toInt = 0 := rfl
  have : (0 : Int64).toInt = 0 := rfl
  omega
def gHolds (d j : Int32) : Bool := decide ((d >>> (j &&& 31)) &&& 1 = 1)
theorem gHolds_f {d j : Int32} (h : ¬ (d >>> (j &&& 31)) &&& nI 1 = nI 1) : nI 0 = gB (gHolds d j) := by
  have h : ¬ (d >>> (j &&& 31)) &&& 1 = 1 := h
  simp [gHolds, gB, h]; rfl
theorem gHolds_t {d j : Int32} (h : (d >>> (j &&& 31)) &&& nI 1 = nI 1) : nI 1 = gB (gHolds d j) := by
  have h : (d >>> (j &&& 31)) &&& 1 = 1 := h
  simp [gHolds, gB, h]; rfl
/-- the zones' values laid anew, from place i on, k of them -/
def gZr : Nat → Nat → (Nat → Int32) → Nat → Int32
  | 0, _, f => f
  | k + 1, i, f => gZr k (i + 1) (upd f i ((gTab 4).getD (i / 8) 0))
set_option maxHeartbeats 4000000 in
set_option maxRecDepth 100000 in
theorem k_X7_within {l : Launch} {D : va_G} {cI cZ : ClassId} {A : Nat → Prop} {g a : Nat → Nat} {G0 : va_W} {v : Int32} {lo : Int32} {hi : Int32} (hD : va_D A G0) : gMi l D cI cZ A g yX7_within wsX7_within ({ frames := 0, cells := 0, slots := 0, locals := 0 }) [.int (v), .int (lo), .int (hi)] G0 (gB (gWi v lo hi)) (fun G1 => G1 = G0) := by
  refine gof_z (cc := cX7_within) (maxL := 3) (by decide) rfl (Nat.le_of_ble_eq_true rfl) hD ?_
  intro p e s m args below meth c Q hx hb hml hts hown hK hN hZ hP hS hret ls hl
  have hown : s.vm.findClass RX7 = some m.cls := hown
  have hl : lv_has ls 3 [(0, .int (v)), (1, .int (lo)), (2, .int (hi))] := hl
  obtain ⟨locs, elocs⟩ : ∃ q : List Loc, q = [] := ⟨_, rfl⟩
  rw [← elocs] at hS ⊢
  obtain ⟨H, eH⟩ : ∃ q : Heap, q = s.heap := ⟨_, rfl⟩
  have hP : va_P D vwCl G0 H := eH ▸ hP
  have hS : va_S A s.heap H locs := by rw [eH]; exact hS
  rw [← eH]
  clear elocs eH
  have hk : ∀ k, k ∉ ([] : List Nat) → G0[k]? = G0[k]? := fun _ _ => rfl
  refine lv_iload_n (pc := 0) hx hb dX7_within_0 rfl (lv_at hl 0 rfl) ?_
  refine lv_iload_n (pc := 1) hx hb dX7_within_1 rfl (lv_at hl 1 rfl) ?_
  refine lv_icmp_lt (tgt := 14) (pc := 2) hx hb dX7_within_2 (by decide) (fun c2 => ?_) (fun c2 => ?_)
  · skip
    refine lv_iconst (v := nI (0)) (pc := 14) hx hb dX7_within_14 (by decide) ?_
    exact hret _ _ _ _ _ _ hP hD hS rfl (by first | exact gWi_lt c2 | exact gWi_gt c7 | exact gWi_in c2 c7) rfl dX7_within_15
  · skip
    refine lv_iload_n (pc := 5) hx hb dX7_within_5 rfl (lv_at hl 0 rfl) ?_
    refine lv_iload_n (pc := 6) hx hb dX7_within_6 rfl (lv_at hl 2 rfl) ?_
    refine lv_icmp_gt (tgt := 14) (pc := 7) hx hb dX7_within_7 (by decide) (fun c7 => ?_) (fun c7 => ?_)
    · skip
      refine lv_iconst (v := nI (0)) (pc := 14) hx hb dX7_within_14 (by decide) ?_
      exact hret _ _ _ _ _ _ hP hD hS rfl (by first | exact gWi_lt c2 | exact gWi_gt c7 | exact gWi_in c2 c7) rfl dX7_within_15
    · skip
      refine lv_iconst (v := nI (1)) (pc := 10) hx hb dX7_within_10 (by decide) ?_
      refine lv_goto (tgt := 15) (pc := 11) hx hb dX7_within_11 (by decide) ?_
      exact hret _ _ _ _ _ _ hP hD hS rfl (by first | exact gWi_lt c2 | exact gWi_gt c7 | exact gWi_in c2 c7) rfl dX7_within_15
set_option maxHeartbeats 4000000 in
set_option maxRecDepth 100000 in
theorem k_X7_held {l : Launch} {D : va_G} {cI cZ : ClassId} {A : Nat → Prop} {g a : Nat → Nat} {G0 : va_W} {v : Int64} {lo : Int32} {hi : Int32} (hD : va_D A G0) : gMi l D cI cZ A g yX7_held wsX7_held ({ frames := 1, cells := 0, slots := 0, locals := 17 }) [.long (v), .int (lo), .int (hi)] G0 (gHeld v lo hi) (fun G1 => G1 = G0) := by
  refine gof_i (cc := cX7_held) (maxL := 4) (by decide) rfl (Nat.le_of_ble_eq_true rfl) hD ?_
  intro p e s m args below meth c Q hx hb hml hts hown hK hN hZ hP hS hret ls hl
  have hown : s.vm.findClass RX7 = some m.cls := hown
  have hl : lv_has ls 4 [(0, .long (v)), (2, .int (lo)), (3, .int (hi))] := hl
  obtain ⟨locs, elocs⟩ : ∃ q : List Loc, q = [] := ⟨_, rfl⟩
  rw [← elocs] at hS ⊢
  obtain ⟨H, eH⟩ : ∃ q : Heap, q = s.heap := ⟨_, rfl⟩
  have hP : va_P D vwCl G0 H := eH ▸ hP
  have hS : va_S A s.heap H locs := by rw [eH]; exact hS
  rw [← eH]
  clear elocs eH
  have hmemM5_1 : Cond.methodLink RX7 253 Lib.MathLoose.min_long.x ∈ wsX7_held := by decide +kernel
  have hmemM5_2 : Cond.static Lib.MathLoose.min_long.x ∈ wsX7_held := by decide +kernel
  have hmemM5_3 : Cond.code Lib.MathLoose.min_long.x Lib.MathLoose.min_long.code 4 (some .long) ∈ wsX7_held := by decide +kernel
  have hmemM8_1 : Cond.methodLink RX7 256 Lib.MathLoose.max_long.x ∈ wsX7_held := by decide +kernel
  have hmemM8_2 : Cond.static Lib.MathLoose.max_long.x ∈ wsX7_held := by decide +kernel
  have hmemM8_3 : Cond.code Lib.MathLoose.max_long.x Lib.MathLoose.max_long.code 4 (some .long) ∈ wsX7_held := by decide +kernel
  have hk : ∀ k, k ∉ ([] : List Nat) → G0[k]? = G0[k]? := fun _ _ => rfl
  refine lv_iload_n (pc := 0) hx hb dX7_held_0 rfl (lv_at hl 1 rfl) ?_
  refine lv_i2l (v := (lo).toInt64) (pc := 1) hx hb dX7_held_1 rfl ?_
  refine lv_iload_n (pc := 2) hx hb dX7_held_2 rfl (lv_at hl 2 rfl) ?_
  refine lv_i2l (v := (hi).toInt64) (pc := 3) hx hb dX7_held_3 rfl ?_
  refine lv_lload_n (pc := 4) hx hb dX7_held_4 rfl (lv_at hl 0 rfl) ?_
  refine va_mmin_long (own := RX7) (index := 253) (pc := 5) hx hb (hml.trans hl.1.symm) hown (hts (.methodLink RX7 253 Lib.MathLoose.min_long.x) (hmemM5_1)) (hts (.static Lib.MathLoose.min_long.x) (hmemM5_2)) (hts (.initialized "java/lang/Math") (by decide +kernel)) (hts (.code Lib.MathLoose.min_long.x Lib.MathLoose.min_long.code 4 (some .long)) (hmemM5_3)) (Nat.le_of_ble_eq_true rfl) (Nat.le_of_ble_eq_true rfl) (Nat.zero_le _) (Nat.zero_le _) dX7_held_5 ?_
  show W _ _ _ _ _ _ _ _ _ _ _ _ _ _ _ (F0 _ _ _ (.long (gLmin ((hi).toInt64) (v)) :: _))
  refine va_mmax_long (own := RX7) (index := 256) (pc := 8) hx hb (hml.trans hl.1.symm) hown (hts (.methodLink RX7 256 Lib.MathLoose.max_long.x) (hmemM8_1)) (hts (.static Lib.MathLoose.max_long.x) (hmemM8_2)) (hts (.initialized "java/lang/Math") (by decide +kernel)) (hts (.code Lib.MathLoose.max_long.x Lib.MathLoose.max_long.code 4 (some .long)) (hmemM8_3)) (Nat.le_of_ble_eq_true rfl) (Nat.le_of_ble_eq_true rfl) (Nat.zero_le _) (Nat.zero_le _) dX7_held_8 ?_
  show W _ _ _ _ _ _ _ _ _ _ _ _ _ _ _ (F0 _ _ _ (.long (gLmax ((lo).toInt64) (gLmin ((hi).toInt64) (v))) :: _))
  refine lv_l2i (v := (gLmax ((lo).toInt64) (gLmin ((hi).toInt64) (v))).toInt32) (pc := 11) hx hb dX7_held_11 rfl ?_
  exact hret _ _ _ _ _ _ hP hD hS rfl rfl dX7_held_12
set_option maxHeartbeats 4000000 in
set_option maxRecDepth 100000 in
theorem k_X5_share {l : Launch} {D : va_G} {cI cZ : ClassId} {A : Nat → Prop} {g a : Nat → Nat} {G0 : va_W} {x : Int32} {q : Int32} {n : Int32} (hD : va_D A G0) (hn : 0 < n) : gMi l D cI cZ A g yX5_share wsX5_share ({ frames := 0, cells := 0, slots := 0, locals := 0 }) [.int (x), .int (q), .int (n)] G0 (gShare x q n) (fun G1 => G1 = G0) := by
  refine gof_i (cc := cX5_share) (maxL := 3) (by decide) rfl (Nat.le_of_ble_eq_true rfl) hD ?_
  intro p e s m args below meth c Q hx hb hml hts hown hK hN hZ hP hS hret ls hl
  have hown : s.vm.findClass RX5 = some m.cls := hown
  have hl : lv_has ls 3 [(0, .int (x)), (1, .int (q)), (2, .int (n))] := hl
  obtain ⟨locs, elocs⟩ : ∃ q : List Loc, q = [] := ⟨_, rfl⟩
  rw [← elocs] at hS ⊢
  obtain ⟨H, eH⟩ : ∃ q : Heap, q = s.heap := ⟨_, rfl⟩
  have hP : va_P D vwCl G0 H := eH ▸ hP
  have hS : va_S A s.heap H locs := by rw [eH]; exact hS
  rw [← eH]
  clear elocs eH
  have hk : ∀ k, k ∉ ([] : List Nat) → G0[k]? = G0[k]? := fun _ _ => rfl
  refine lv_iload_n (pc := 0) hx hb dX5_share_0 rfl (lv_at hl 2 rfl) ?_
  refine lv_if_le (tgt := 16) (pc := 1) hx hb dX5_share_1 (by decide) (fun c1 => absurd c1 (Int32.not_le.mpr hn)) (fun c1 => ?_)
  refine lv_iload_n (pc := 4) hx hb dX5_share_4 rfl (lv_at hl 0 rfl) ?_
  refine lv_i2l (v := (x).toInt64) (pc := 5) hx hb dX5_share_5 rfl ?_
  refine lv_iload_n (pc := 6) hx hb dX5_share_6 rfl (lv_at hl 1 rfl) ?_
  refine lv_i2l (v := (q).toInt64) (pc := 7) hx hb dX5_share_7 rfl ?_
  refine lv_lmul (pc := 8) hx hb dX5_share_8 ?_
  refine lv_iload_n (pc := 9) hx hb dX5_share_9 rfl (lv_at hl 2 rfl) ?_
  refine lv_i2l (v := (n).toInt64) (pc := 10) hx hb dX5_share_10 rfl ?_
  refine lv_ldiv (pc := 11) hx hb dX5_share_11 (gL_ne hn) ?_
  refine lv_l2i (v := ((((x).toInt64 * (q).toInt64) / (n).toInt64)).toInt32) (pc := 12) hx hb dX5_share_12 rfl ?_
  refine lv_goto (tgt := 17) (pc := 13) hx hb dX5_share_13 (by decide) ?_
  exact hret _ _ _ _ _ _ hP hD hS rfl rfl dX5_share_17
set_option maxHeartbeats 4000000 in
set_option maxRecDepth 100000 in
theorem k_X0_holds {l : Launch} {D : va_G} {cI cZ : ClassId} {A : Nat → Prop} {g a : Nat → Nat} {G0 : va_W} {d : Int32} {j : Int32} (hD : va_D A G0) : gMi l D cI cZ A g yX0_holds wsX0_holds ({ frames := 0, cells := 0, slots := 0, locals := 0 }) [.int (d), .int (j)] G0 (gB (gHolds d j)) (fun G1 => G1 = G0) := by
  refine gof_z (cc := cX0_holds) (maxL := 2) (by decide) rfl (Nat.le_of_ble_eq_true rfl) hD ?_
  intro p e s m args below meth c Q hx hb hml hts hown hK hN hZ hP hS hret ls hl
  have hown : s.vm.findClass RX0 = some m.cls := hown
  have hl : lv_has ls 2 [(0, .int (d)), (1, .int (j))] := hl
  obtain ⟨locs, elocs⟩ : ∃ q : List Loc, q = [] := ⟨_, rfl⟩
  rw [← elocs] at hS ⊢
  obtain ⟨H, eH⟩ : ∃ q : Heap, q = s.heap := ⟨_, rfl⟩
  have hP : va_P D vwCl G0 H := eH ▸ hP
  have hS : va_S A s.heap H locs := by rw [eH]; exact hS
  rw [← eH]
  clear elocs eH
  have hk : ∀ k, k ∉ ([] : List Nat) → G0[k]? = G0[k]? := fun _ _ => rfl
  refine lv_iload_n (pc := 0) hx hb dX0_holds_0 rfl (lv_at hl 0 rfl) ?_
  refine lv_iload_n (pc := 1) hx hb dX0_holds_1 rfl (lv_at hl 1 rfl) ?_
  refine lv_ishr (pc := 2) hx hb dX0_holds_2 ?_
  refine lv_iconst (v := nI (1)) (pc := 3) hx hb dX0_holds_3 (by decide) ?_
  refine lv_iand (pc := 4) hx hb dX0_holds_4 ?_
  refine lv_iconst (v := nI (1)) (pc := 5) hx hb dX0_holds_5 (by decide) ?_
  refine lv_icmp_ne (tgt := 13) (pc := 6) hx hb dX0_holds_6 (by decide) (fun c6 => ?_) (fun c6 => ?_)
  · skip
    refine lv_iconst (v := nI (0)) (pc := 13) hx hb dX0_holds_13 (by decide) ?_
    exact hret _ _ _ _ _ _ hP hD hS rfl (by first | exact gHolds_f c6 | exact gHolds_t c6) rfl dX0_holds_14
  · skip
    refine lv_iconst (v := nI (1)) (pc := 9) hx hb dX0_holds_9 (by decide) ?_
    refine lv_goto (tgt := 14) (pc := 10) hx hb dX0_holds_10 (by decide) ?_
    exact hret _ _ _ _ _ _ hP hD hS rfl (by first | exact gHolds_f c6 | exact gHolds_t c6) rfl dX0_holds_14
set_option maxHeartbeats 4000000 in
set_option maxRecDepth 100000 in
theorem k_X0_isColour {l : Launch} {D : va_G} {cI cZ : ClassId} {A : Nat → Prop} {g a : Nat → Nat} {G0 : va_W} {v : Int32} (hD : va_D A G0) : gMi l D cI cZ A g yX0_isColour wsX0_isColour ({ frames := 0, cells := 0, slots := 0, locals := 0 }) [.int (v)] G0 (gB (gHas v (nI 4))) (fun G1 => G1 = G0) := by
  refine gof_z (cc := cX0_isColour) (maxL := 1) (by decide) rfl (Nat.le_of_ble_eq_true rfl) hD ?_
  intro p e s m args below meth c Q hx hb hml hts hown hK hN hZ hP hS hret ls hl
  have hown : s.vm.findClass RX0 = some m.cls := hown
  have hl : lv_has ls 1 [(0, .int (v))] := hl
  obtain ⟨locs, elocs⟩ : ∃ q : List Loc, q = [] := ⟨_, rfl⟩
  rw [← elocs] at hS ⊢
  obtain ⟨H, eH⟩ : ∃ q : Heap, q = s.heap := ⟨_, rfl⟩
  have hP : va_P D vwCl G0 H := eH ▸ hP
  have hS : va_S A s.heap H locs := by rw [eH]; exact hS
  rw [← eH]
  clear elocs eH
  have hk : ∀ k, k ∉ ([] : List Nat) → G0[k]? = G0[k]? := fun _ _ => rfl
  refine lv_iload_n (pc := 0) hx hb dX0_isColour_0 rfl (lv_at hl 0 rfl) ?_
  refine lv_if_lt (tgt := 13) (pc := 1) hx hb dX0_isColour_1 (by decide) (fun c1 => ?_) (fun c1 => ?_)
  · skip
    refine lv_iconst (v := nI (0)) (pc := 13) hx hb dX0_isColour_13 (by decide) ?_
    exact hret _ _ _ _ _ _ hP hD hS rfl (by first | exact gHas_lt c1 | exact gHas_ge c6 | exact gHas_in c1 c6) rfl dX0_isColour_14
  · skip
    refine lv_iload_n (pc := 4) hx hb dX0_isColour_4 rfl (lv_at hl 0 rfl) ?_
    refine lv_iconst (v := nI (4)) (pc := 5) hx hb dX0_isColour_5 (by decide) ?_
    refine lv_icmp_ge (tgt := 13) (pc := 6) hx hb dX0_isColour_6 (by decide) (fun c6 => ?_) (fun c6 => ?_)
    · skip
      refine lv_iconst (v := nI (0)) (pc := 13) hx hb dX0_isColour_13 (by decide) ?_
      exact hret _ _ _ _ _ _ hP hD hS rfl (by first | exact gHas_lt c1 | exact gHas_ge c6 | exact gHas_in c1 c6) rfl dX0_isColour_14
    · skip
      refine lv_iconst (v := nI (1)) (pc := 9) hx hb dX0_isColour_9 (by decide) ?_
      refine lv_goto (tgt := 14) (pc := 10) hx hb dX0_isColour_10 (by decide) ?_
      exact hret _ _ _ _ _ _ hP hD hS rfl (by first | exact gHas_lt c1 | exact gHas_ge c6 | exact gHas_in c1 c6) rfl dX0_isColour_14
set_option maxHeartbeats 4000000 in
set_option maxRecDepth 100000 in
theorem k_X0_isPaper {l : Launch} {D : va_G} {cI cZ : ClassId} {A : Nat → Prop} {g a : Nat → Nat} {G0 : va_W} {v : Int32} (hD : va_D A G0) : gMi l D cI cZ A g yX0_isPaper wsX0_isPaper ({ frames := 0, cells := 0, slots := 0, locals := 0 }) [.int (v)] G0 (gB (gHas v (nI 6))) (fun G1 => G1 = G0) := by
  refine gof_z (cc := cX0_isPaper) (maxL := 1) (by decide) rfl (Nat.le_of_ble_eq_true rfl) hD ?_
  intro p e s m args below meth c Q hx hb hml hts hown hK hN hZ hP hS hret ls hl
  have hown : s.vm.findClass RX0 = some m.cls := hown
  have hl : lv_has ls 1 [(0, .int (v))] := hl
  obtain ⟨locs, elocs⟩ : ∃ q : List Loc, q = [] := ⟨_, rfl⟩
  rw [← elocs] at hS ⊢
  obtain ⟨H, eH⟩ : ∃ q : Heap, q = s.heap := ⟨_, rfl⟩
  have hP : va_P D vwCl G0 H := eH ▸ hP
  have hS : va_S A s.heap H locs := by rw [eH]; exact hS
  rw [← eH]
  clear elocs eH
  have hk : ∀ k, k ∉ ([] : List Nat) → G0[k]? = G0[k]? := fun _ _ => rfl
  refine lv_iload_n (pc := 0) hx hb dX0_isPaper_0 rfl (lv_at hl 0 rfl) ?_
  refine lv_if_lt (tgt := 14) (pc := 1) hx hb dX0_isPaper_1 (by decide) (fun c1 => ?_) (fun c1 => ?_)
  · skip
    refine lv_iconst (v := nI (0)) (pc := 14) hx hb dX0_isPaper_14 (by decide) ?_
    exact hret _ _ _ _ _ _ hP hD hS rfl (by first | exact gHas_lt c1 | exact gHas_ge c7 | exact gHas_in c1 c7) rfl dX0_isPaper_15
  · skip
    refine lv_iload_n (pc := 4) hx hb dX0_isPaper_4 rfl (lv_at hl 0 rfl) ?_
    refine lv_bipush (v := nI (6)) (pc := 5) hx hb dX0_isPaper_5 (by decide) ?_
    refine lv_icmp_ge (tgt := 14) (pc := 7) hx hb dX0_isPaper_7 (by decide) (fun c7 => ?_) (fun c7 => ?_)
    · skip
      refine lv_iconst (v := nI (0)) (pc := 14) hx hb dX0_isPaper_14 (by decide) ?_
      exact hret _ _ _ _ _ _ hP hD hS rfl (by first | exact gHas_lt c1 | exact gHas_ge c7 | exact gHas_in c1 c7) rfl dX0_isPaper_15
    · skip
      refine lv_iconst (v := nI (1)) (pc := 10) hx hb dX0_isPaper_10 (by decide) ?_
      refine lv_goto (tgt := 15) (pc := 11) hx hb dX0_isPaper_11 (by decide) ?_
      exact hret _ _ _ _ _ _ hP hD hS rfl (by first | exact gHas_lt c1 | exact gHas_ge c7 | exact gHas_in c1 c7) rfl dX0_isPaper_15
set_option maxHeartbeats 4000000 in
set_option maxRecDepth 100000 in
theorem k_X0_isWashCost {l : Launch} {D : va_G} {cI cZ : ClassId} {A : Nat → Prop} {g a : Nat → Nat} {G0 : va_W} {v : Int32} (hD : va_D A G0) : gMi l D cI cZ A g yX0_isWashCost wsX0_isWashCost ({ frames := 1, cells := 0, slots := 0, locals := 22 }) [.int (v)] G0 (gB (gWi v (nI 0) (nI 100))) (fun G1 => G1 = G0) := by
  refine gof_z (cc := cX0_isWashCost) (maxL := 1) (by decide) rfl (Nat.le_of_ble_eq_true rfl) hD ?_
  intro p e s m args below meth c Q hx hb hml hts hown hK hN hZ hP hS hret ls hl
  have hown : s.vm.findClass RX0 = some m.cls := hown
  have hl : lv_has ls 1 [(0, .int (v))] := hl
  obtain ⟨locs, elocs⟩ : ∃ q : List Loc, q = [] := ⟨_, rfl⟩
  rw [← elocs] at hS ⊢
  obtain ⟨H, eH⟩ : ∃ q : Heap, q = s.heap := ⟨_, rfl⟩
  have hP : va_P D vwCl G0 H := eH ▸ hP
  have hS : va_S A s.heap H locs := by rw [eH]; exact hS
  rw [← eH]
  clear elocs eH
  have hk : ∀ k, k ∉ ([] : List Nat) → G0[k]? = G0[k]? := fun _ _ => rfl
  refine lv_iload_n (pc := 0) hx hb dX0_isWashCost_0 rfl (lv_at hl 0 rfl) ?_
  refine lv_iconst (v := nI (0)) (pc := 1) hx hb dX0_isWashCost_1 (by decide) ?_
  refine lv_bipush (v := nI (100)) (pc := 2) hx hb dX0_isWashCost_2 (by decide) ?_
  refine mx_cNi (As := [.int (v), .int (nI (0)), .int (nI (100))]) (rest := []) (pc := 4) ⟨hx, hb, hml, hown, hts⟩ (k_X7_within (a := a) (v := v) (lo := nI (0)) (hi := nI (100)) hD  ) ⟨va_cnB (host := "InkPress") 3 hts gX0_isWashCost_X7_within_n27 rfl rfl rfl (hN (.methodLinkNest "InkPress$Jobs" 27 ⟨"InkPress", "within", "(III)Z"⟩ "InkPress") (by decide +kernel)) (hts (.initialized RX7) (by decide +kernel)) (by decide +kernel) ⟨Nat.le_of_ble_eq_true rfl, Nat.le_of_ble_eq_true rfl⟩, hts (.static yX7_within) (by decide +kernel), trivial⟩ hK hN hZ hP hS rfl hl.1 rfl (Nat.le_of_ble_eq_true rfl) dX0_isWashCost_4 ⟨Nat.zero_le _, Nat.zero_le _⟩ (fun G' H locs hP hD hS hB => ?_)
  rw [hB] at hP hD
  clear hB G'
  exact hret _ _ _ _ _ _ hP hD hS (gB_nar _) rfl rfl dX0_isWashCost_7
set_option maxHeartbeats 4000000 in
set_option maxRecDepth 100000 in
theorem k_X1_isPlace {l : Launch} {D : va_G} {cI cZ : ClassId} {A : Nat → Prop} {g a : Nat → Nat} {G0 : va_W} {v : Int32} (hD : va_D A G0) : gMi l D cI cZ A g yX1_isPlace wsX1_isPlace ({ frames := 1, cells := 0, slots := 0, locals := 22 }) [.int (v)] G0 (gB (gWi v (-1000) (nI 1000))) (fun G1 => G1 = G0) := by
  refine gof_z (cc := cX1_isPlace) (maxL := 1) (by decide) rfl (Nat.le_of_ble_eq_true rfl) hD ?_
  intro p e s m args below meth c Q hx hb hml hts hown hK hN hZ hP hS hret ls hl
  have hown : s.vm.findClass RX1 = some m.cls := hown
  have hl : lv_has ls 1 [(0, .int (v))] := hl
  obtain ⟨locs, elocs⟩ : ∃ q : List Loc, q = [] := ⟨_, rfl⟩
  rw [← elocs] at hS ⊢
  obtain ⟨H, eH⟩ : ∃ q : Heap, q = s.heap := ⟨_, rfl⟩
  have hP : va_P D vwCl G0 H := eH ▸ hP
  have hS : va_S A s.heap H locs := by rw [eH]; exact hS
  rw [← eH]
  clear elocs eH
  have hk : ∀ k, k ∉ ([] : List Nat) → G0[k]? = G0[k]? := fun _ _ => rfl
  refine lv_iload_n (pc := 0) hx hb dX1_isPlace_0 rfl (lv_at hl 0 rfl) ?_
  refine lv_sipush (v := (-1000)) (pc := 1) hx hb dX1_isPlace_1 (by decide) ?_
  refine lv_sipush (v := nI (1000)) (pc := 4) hx hb dX1_isPlace_4 (by decide) ?_
  refine mx_cNi (As := [.int (v), .int ((-1000)), .int (nI (1000))]) (rest := []) (pc := 7) ⟨hx, hb, hml, hown, hts⟩ (k_X7_within (a := a) (v := v) (lo := (-1000)) (hi := nI (1000)) hD  ) ⟨va_cnB (host := "InkPress") 3 hts gX1_isPlace_X7_within_n24 rfl rfl rfl (hN (.methodLinkNest "InkPress$Marks" 24 ⟨"InkPress", "within", "(III)Z"⟩ "InkPress") (by decide +kernel)) (hts (.initialized RX7) (by decide +kernel)) (by decide +kernel) ⟨Nat.le_of_ble_eq_true rfl, Nat.le_of_ble_eq_true rfl⟩, hts (.static yX7_within) (by decide +kernel), trivial⟩ hK hN hZ hP hS rfl hl.1 rfl (Nat.le_of_ble_eq_true rfl) dX1_isPlace_7 ⟨Nat.zero_le _, Nat.zero_le _⟩ (fun G' H locs hP hD hS hB => ?_)
  rw [hB] at hP hD
  clear hB G'
  exact hret _ _ _ _ _ _ hP hD hS (gB_nar _) rfl rfl dX1_isPlace_10
set_option maxHeartbeats 4000000 in
set_option maxRecDepth 100000 in
theorem k_X1_isOffset {l : Launch} {D : va_G} {cI cZ : ClassId} {A : Nat → Prop} {g a : Nat → Nat} {G0 : va_W} {v : Int32} (hD : va_D A G0) : gMi l D cI cZ A g yX1_isOffset wsX1_isOffset ({ frames := 1, cells := 0, slots := 0, locals := 22 }) [.int (v)] G0 (gB (gWi v (-100) (nI 100))) (fun G1 => G1 = G0) := by
  refine gof_z (cc := cX1_isOffset) (maxL := 1) (by decide) rfl (Nat.le_of_ble_eq_true rfl) hD ?_
  intro p e s m args below meth c Q hx hb hml hts hown hK hN hZ hP hS hret ls hl
  have hown : s.vm.findClass RX1 = some m.cls := hown
  have hl : lv_has ls 1 [(0, .int (v))] := hl
  obtain ⟨locs, elocs⟩ : ∃ q : List Loc, q = [] := ⟨_, rfl⟩
  rw [← elocs] at hS ⊢
  obtain ⟨H, eH⟩ : ∃ q : Heap, q = s.heap := ⟨_, rfl⟩
  have hP : va_P D vwCl G0 H := eH ▸ hP
  have hS : va_S A s.heap H locs := by rw [eH]; exact hS
  rw [← eH]
  clear elocs eH
  have hk : ∀ k, k ∉ ([] : List Nat) → G0[k]? = G0[k]? := fun _ _ => rfl
  refine lv_iload_n (pc := 0) hx hb dX1_isOffset_0 rfl (lv_at hl 0 rfl) ?_
  refine lv_bipush (v := (-100)) (pc := 1) hx hb dX1_isOffset_1 (by decide) ?_
  refine lv_bipush (v := nI (100)) (pc := 3) hx hb dX1_isOffset_3 (by decide) ?_
  refine mx_cNi (As := [.int (v), .int ((-100)), .int (nI (100))]) (rest := []) (pc := 5) ⟨hx, hb, hml, hown, hts⟩ (k_X7_within (a := a) (v := v) (lo := (-100)) (hi := nI (100)) hD  ) ⟨va_cnB (host := "InkPress") 3 hts gX1_isOffset_X7_within_n24 rfl rfl rfl (hN (.methodLinkNest "InkPress$Marks" 24 ⟨"InkPress", "within", "(III)Z"⟩ "InkPress") (by decide +kernel)) (hts (.initialized RX7) (by decide +kernel)) (by decide +kernel) ⟨Nat.le_of_ble_eq_true rfl, Nat.le_of_ble_eq_true rfl⟩, hts (.static yX7_within) (by decide +kernel), trivial⟩ hK hN hZ hP hS rfl hl.1 rfl (Nat.le_of_ble_eq_true rfl) dX1_isOffset_5 ⟨Nat.zero_le _, Nat.zero_le _⟩ (fun G' H locs hP hD hS hB => ?_)
  rw [hB] at hP hD
  clear hB G'
  exact hret _ _ _ _ _ _ hP hD hS (gB_nar _) rfl rfl dX1_isOffset_8
set_option maxHeartbeats 4000000 in
set_option maxRecDepth 100000 in
theorem k_X3_has {l : Launch} {D : va_G} {cI cZ : ClassId} {A : Nat → Prop} {g a : Nat → Nat} {G0 : va_W} {ru : Nat → Int32} {x : Int32} (hD : va_D A G0) (w1 : G0[1]? = some (a 1, .inr (3, [.ref (a 2)]))) (w2 : G0[2]? = some (a 2, .inl (cI, 9, .inl (ru)))) : gMi l D cI cZ A g yX3_has wsX3_has ({ frames := 0, cells := 0, slots := 0, locals := 0 }) [.ref (a 1), .int (x)] G0 (gB (gHas x (nI 9))) (fun G1 => G1 = G0) := by
  refine gof_z (cc := cX3_has) (maxL := 2) (by decide) rfl (Nat.le_of_ble_eq_true rfl) hD ?_
  intro p e s m args below meth c Q hx hb hml hts hown hK hN hZ hP hS hret ls hl
  have hown : s.vm.findClass RX3 = some m.cls := hown
  have hl : lv_has ls 2 [(0, .ref (a 1)), (1, .int (x))] := hl
  obtain ⟨locs, elocs⟩ : ∃ q : List Loc, q = [] := ⟨_, rfl⟩
  rw [← elocs] at hS ⊢
  obtain ⟨H, eH⟩ : ∃ q : Heap, q = s.heap := ⟨_, rfl⟩
  have hP : va_P D vwCl G0 H := eH ▸ hP
  have hS : va_S A s.heap H locs := by rw [eH]; exact hS
  rw [← eH]
  clear elocs eH
  have hiX3 : ∀ w ∈ u_ws RX3 TX3 1, w ∈ wsX3_has := by decide +kernel
  have hk : ∀ k, k ∉ ([] : List Nat) → G0[k]? = G0[k]? := fun _ _ => rfl
  refine lv_iload_n (pc := 0) hx hb dX3_has_0 rfl (lv_at hl 1 rfl) ?_
  refine lv_if_lt (tgt := 17) (pc := 1) hx hb dX3_has_1 (by decide) (fun c1 => ?_) (fun c1 => ?_)
  · skip
    refine lv_iconst (v := nI (0)) (pc := 17) hx hb dX3_has_17 (by decide) ?_
    exact hret _ _ _ _ _ _ hP hD hS rfl (by first | exact gHas_lt c1 | exact gHas_ge c10 | exact gHas_in c1 c10) rfl dX3_has_18
  · skip
    refine lv_iload_n (pc := 4) hx hb dX3_has_4 rfl (lv_at hl 1 rfl) ?_
    refine lv_aload_n (pc := 5) hx hb dX3_has_5 rfl (lv_at hl 0 rfl) ?_
    refine va_get (ci := 3) (C := RX3) (T := TX3) (N := 1) (pc := 6) hx hb hts hiX3 hown hK hP 1 w1 rfl 0 (by decide) (hts (.fieldLink RX3 18 "InkPress$Rules" "values" "[I") (by decide +kernel)) (fun _ h9 => h9) rfl dX3_has_6 ?_
    refine va_alen (v := nI 9) (pc := 9) hx hb hK hP 2 0 w2 rfl rfl dX3_has_9 ?_
    refine lv_icmp_ge (tgt := 17) (pc := 10) hx hb dX3_has_10 (by decide) (fun c10 => ?_) (fun c10 => ?_)
    · skip
      refine lv_iconst (v := nI (0)) (pc := 17) hx hb dX3_has_17 (by decide) ?_
      exact hret _ _ _ _ _ _ hP hD hS rfl (by first | exact gHas_lt c1 | exact gHas_ge c10 | exact gHas_in c1 c10) rfl dX3_has_18
    · skip
      refine lv_iconst (v := nI (1)) (pc := 13) hx hb dX3_has_13 (by decide) ?_
      refine lv_goto (tgt := 18) (pc := 14) hx hb dX3_has_14 (by decide) ?_
      exact hret _ _ _ _ _ _ hP hD hS rfl (by first | exact gHas_lt c1 | exact gHas_ge c10 | exact gHas_in c1 c10) rfl dX3_has_18
set_option maxHeartbeats 4000000 in
set_option maxRecDepth 100000 in
theorem k_X3_allows {l : Launch} {D : va_G} {cI cZ : ClassId} {A : Nat → Prop} {g a : Nat → Nat} {G0 : va_W} {ru : Nat → Int32} {k : Nat} {v : Int32} (hD : va_D A G0) (w1 : G0[1]? = some (a 1, .inr (3, [.ref (a 2)]))) (w2 : G0[2]? = some (a 2, .inl (cI, 9, .inl (ru)))) (hk9 : k < 9) : gMi l D cI cZ A g yX3_allows wsX3_allows ({ frames := 1, cells := 0, slots := 0, locals := 22 }) [.ref (a 1), .int (nI (k)), .int (v)] G0 (gB (gWi v ((gTab 0).getD k 0) ((gTab 1).getD k 0))) (fun G1 => G1 = G0) := by
  refine gof_z (cc := cX3_allows) (maxL := 3) (by decide) rfl (Nat.le_of_ble_eq_true rfl) hD ?_
  intro p e s m args below meth c Q hx hb hml hts hown hK hN hZ hP hS hret ls hl
  have hown : s.vm.findClass RX3 = some m.cls := hown
  have hl : lv_has ls 3 [(0, .ref (a 1)), (1, .int (nI (k))), (2, .int (v))] := hl
  obtain ⟨locs, elocs⟩ : ∃ q : List Loc, q = [] := ⟨_, rfl⟩
  rw [← elocs] at hS ⊢
  obtain ⟨H, eH⟩ : ∃ q : Heap, q = s.heap := ⟨_, rfl⟩
  have hP : va_P D vwCl G0 H := eH ▸ hP
  have hS : va_S A s.heap H locs := by rw [eH]; exact hS
  rw [← eH]
  clear elocs eH
  have hk : ∀ k, k ∉ ([] : List Nat) → G0[k]? = G0[k]? := fun _ _ => rfl
  refine lv_iload_n (pc := 0) hx hb dX3_allows_0 rfl (lv_at hl 2 rfl) ?_
  refine va_gets (C := gTabC 0) (n := gTabN 0) (d := "[I") (own := RX3) (ref := "InkPress$Rules") (v := .ref (g 0)) (pc := 1) hx hb (hZ 0 (by decide)).1 hS hown (hts (.fieldLink RX3 21 "InkPress$Rules" "LEAST" "[I") (by decide +kernel)) (fun _ h9 => h9) dX3_allows_1 ?_
  refine lv_iload_n (pc := 4) hx hb dX3_allows_4 rfl (lv_at hl 1 rfl) ?_
  refine mx_ti (pc := 5) hx hb hZ hS 0 (by decide) (k) (show k < 9 from hk9) dX3_allows_5 ?_
  refine va_gets (C := gTabC 1) (n := gTabN 1) (d := "[I") (own := RX3) (ref := "InkPress$Rules") (v := .ref (g 1)) (pc := 6) hx hb (hZ 1 (by decide)).1 hS hown (hts (.fieldLink RX3 24 "InkPress$Rules" "MOST" "[I") (by decide +kernel)) (fun _ h9 => h9) dX3_allows_6 ?_
  refine lv_iload_n (pc := 9) hx hb dX3_allows_9 rfl (lv_at hl 1 rfl) ?_
  refine mx_ti (pc := 10) hx hb hZ hS 1 (by decide) (k) (show k < 9 from hk9) dX3_allows_10 ?_
  refine mx_cNi (As := [.int (v), .int ((gTab 0).getD (k) 0), .int ((gTab 1).getD (k) 0)]) (rest := []) (pc := 11) ⟨hx, hb, hml, hown, hts⟩ (k_X7_within (a := a) (v := v) (lo := (gTab 0).getD (k) 0) (hi := (gTab 1).getD (k) 0) hD  ) ⟨va_cnB (host := "InkPress") 3 hts gX3_allows_X7_within_n27 rfl rfl rfl (hN (.methodLinkNest "InkPress$Rules" 27 ⟨"InkPress", "within", "(III)Z"⟩ "InkPress") (by decide +kernel)) (hts (.initialized RX7) (by decide +kernel)) (by decide +kernel) ⟨Nat.le_of_ble_eq_true rfl, Nat.le_of_ble_eq_true rfl⟩, hts (.static yX7_within) (by decide +kernel), trivial⟩ hK hN hZ hP hS rfl hl.1 rfl (Nat.le_of_ble_eq_true rfl) dX3_allows_11 ⟨Nat.zero_le _, Nat.zero_le _⟩ (fun G' H locs hP hD hS hB => ?_)
  rw [hB] at hP hD
  clear hB G'
  exact hret _ _ _ _ _ _ hP hD hS (gB_nar _) rfl rfl dX3_allows_14
set_option maxHeartbeats 4000000 in
set_option maxRecDepth 100000 in
theorem k_X3_valueOf {l : Launch} {D : va_G} {cI cZ : ClassId} {A : Nat → Prop} {g a : Nat → Nat} {G0 : va_W} {ru : Nat → Int32} {k : Nat} (hD : va_D A G0) (w1 : G0[1]? = some (a 1, .inr (3, [.ref (a 2)]))) (w2 : G0[2]? = some (a 2, .inl (cI, 9, .inl (ru)))) (hk9 : k < 9) : gMi l D cI cZ A g yX3_valueOf wsX3_valueOf ({ frames := 0, cells := 0, slots := 0, locals := 0 }) [.ref (a 1), .int (nI (k))] G0 (ru k) (fun G1 => G1 = G0) := by
  refine gof_i (cc := cX3_valueOf) (maxL := 2) (by decide) rfl (Nat.le_of_ble_eq_true rfl) hD ?_
  intro p e s m args below meth c Q hx hb hml hts hown hK hN hZ hP hS hret ls hl
  have hown : s.vm.findClass RX3 = some m.cls := hown
  have hl : lv_has ls 2 [(0, .ref (a 1)), (1, .int (nI (k)))] := hl
  obtain ⟨locs, elocs⟩ : ∃ q : List Loc, q = [] := ⟨_, rfl⟩
  rw [← elocs] at hS ⊢
  obtain ⟨H, eH⟩ : ∃ q : Heap, q = s.heap := ⟨_, rfl⟩
  have hP : va_P D vwCl G0 H := eH ▸ hP
  have hS : va_S A s.heap H locs := by rw [eH]; exact hS
  rw [← eH]
  clear elocs eH
  have hiX3 : ∀ w ∈ u_ws RX3 TX3 1, w ∈ wsX3_valueOf := by decide +kernel
  have hk : ∀ k, k ∉ ([] : List Nat) → G0[k]? = G0[k]? := fun _ _ => rfl
  refine lv_aload_n (pc := 0) hx hb dX3_valueOf_0 rfl (lv_at hl 0 rfl) ?_
  refine va_get (ci := 3) (C := RX3) (T := TX3) (N := 1) (pc := 1) hx hb hts hiX3 hown hK hP 1 w1 rfl 0 (by decide) (hts (.fieldLink RX3 18 "InkPress$Rules" "values" "[I") (by decide +kernel)) (fun _ h9 => h9) rfl dX3_valueOf_1 ?_
  refine lv_iload_n (pc := 4) hx hb dX3_valueOf_4 rfl (lv_at hl 1 rfl) ?_
  refine mx_iald (pc := 5) hx hb hK hP 2 w2 (k) (by omega) (by decide) dX3_valueOf_5 ?_
  exact hret _ _ _ _ _ _ hP hD hS rfl rfl dX3_valueOf_6
set_option maxHeartbeats 4000000 in
set_option maxRecDepth 100000 in
theorem k_X3_change {l : Launch} {D : va_G} {cI cZ : ClassId} {A : Nat → Prop} {g a : Nat → Nat} {G0 : va_W} {ru : Nat → Int32} {k : Nat} {v : Int32} (hD : va_D A G0) (w1 : G0[1]? = some (a 1, .inr (3, [.ref (a 2)]))) (w2 : G0[2]? = some (a 2, .inl (cI, 9, .inl (ru)))) (hk9 : k < 9) : gMi l D cI cZ A g yX3_change wsX3_change ({ frames := 0, cells := 0, slots := 0, locals := 0 }) [.ref (a 1), .int (nI (k)), .int (v)] G0 (ru k) (fun G1 => G1[2]? = some (a 2, .inl (cI, 9, .inl (upd ru k v))) ∧ ∀ k, k ∉ [2] → G1[k]? = G0[k]?) := by
  refine gof_i (cc := cX3_change) (maxL := 4) (by decide) rfl (Nat.le_of_ble_eq_true rfl) hD ?_
  intro p e s m args below meth c Q hx hb hml hts hown hK hN hZ hP hS hret ls hl
  have hown : s.vm.findClass RX3 = some m.cls := hown
  have hl : lv_has ls 4 [(0, .ref (a 1)), (1, .int (nI (k))), (2, .int (v))] := hl
  obtain ⟨locs, elocs⟩ : ∃ q : List Loc, q = [] := ⟨_, rfl⟩
  rw [← elocs] at hS ⊢
  obtain ⟨H, eH⟩ : ∃ q : Heap, q = s.heap := ⟨_, rfl⟩
  have hP : va_P D vwCl G0 H := eH ▸ hP
  have hS : va_S A s.heap H locs := by rw [eH]; exact hS
  rw [← eH]
  clear elocs eH
  have hiX3 : ∀ w ∈ u_ws RX3 TX3 1, w ∈ wsX3_change := by decide +kernel
  have hk : ∀ k, k ∉ [2] → G0[k]? = G0[k]? := fun _ _ => rfl
  refine lv_aload_n (pc := 0) hx hb dX3_change_0 rfl (lv_at hl 0 rfl) ?_
  refine va_get (ci := 3) (C := RX3) (T := TX3) (N := 1) (pc := 1) hx hb hts hiX3 hown hK hP 1 w1 rfl 0 (by decide) (hts (.fieldLink RX3 18 "InkPress$Rules" "values" "[I") (by decide +kernel)) (fun _ h9 => h9) rfl dX3_change_1 ?_
  refine lv_iload_n (pc := 4) hx hb dX3_change_4 rfl (lv_at hl 1 rfl) ?_
  refine mx_iald (pc := 5) hx hb hK hP 2 w2 (k) (by omega) (by decide) dX3_change_5 ?_
  refine lv_istore_n (lv' := [(3, .int ((ru) (k))), (0, .ref (a 1)), (1, .int (nI (k))), (2, .int (v))]) (pc := 6) hx hb dX3_change_6 rfl hl (by decide) rfl (fun ls hl => ?_)
  refine lv_aload_n (pc := 7) hx hb dX3_change_7 rfl (lv_at hl 1 rfl) ?_
  refine va_get (ci := 3) (C := RX3) (T := TX3) (N := 1) (pc := 8) hx hb hts hiX3 hown hK hP 1 w1 rfl 0 (by decide) (hts (.fieldLink RX3 18 "InkPress$Rules" "values" "[I") (by decide +kernel)) (fun _ h9 => h9) rfl dX3_change_8 ?_
  refine lv_iload_n (pc := 11) hx hb dX3_change_11 rfl (lv_at hl 2 rfl) ?_
  refine lv_iload_n (pc := 12) hx hb dX3_change_12 rfl (lv_at hl 3 rfl) ?_
  refine mx_iast (x := v) (pc := 13) hx hb hK hP hD hS 2 w2 (k) (by omega) (by decide) dX3_change_13 (fun H locs G hP hD hS w2 ho => ?_)
  have w1 := (ho 1 (by decide)).trans w1
  have w2 : G[2]? = some (a 2, .inl (cI, 9, .inl (upd (ru) (k) (v)))) := w2
  have hk := gk_step hk ho (by decide)
  clear ho
  refine lv_iload_n (pc := 14) hx hb dX3_change_14 rfl (lv_at hl 0 rfl) ?_
  exact hret _ _ _ _ _ _ hP hD hS rfl ⟨w2, hk⟩ dX3_change_15
set_option maxHeartbeats 4000000 in
set_option maxRecDepth 100000 in
theorem k_X6_has {l : Launch} {D : va_G} {cI cZ : ClassId} {A : Nat → Prop} {g a : Nat → Nat} {G0 : va_W} {zv : Nat → Int32} {zn : Nat} {x : Int32} (hD : va_D A G0) (w3 : G0[3]? = some (a 3, .inr (6, [.ref (a 4), .int (nI (zn))]))) (w4 : G0[4]? = some (a 4, .inl (cI, 24, .inl (zv)))) : gMi l D cI cZ A g yX6_has wsX6_has ({ frames := 0, cells := 0, slots := 0, locals := 0 }) [.ref (a 3), .int (x)] G0 (gB (gHas x (nI zn))) (fun G1 => G1 = G0) := by
  refine gof_z (cc := cX6_has) (maxL := 2) (by decide) rfl (Nat.le_of_ble_eq_true rfl) hD ?_
  intro p e s m args below meth c Q hx hb hml hts hown hK hN hZ hP hS hret ls hl
  have hown : s.vm.findClass RX6 = some m.cls := hown
  have hl : lv_has ls 2 [(0, .ref (a 3)), (1, .int (x))] := hl
  obtain ⟨locs, elocs⟩ : ∃ q : List Loc, q = [] := ⟨_, rfl⟩
  rw [← elocs] at hS ⊢
  obtain ⟨H, eH⟩ : ∃ q : Heap, q = s.heap := ⟨_, rfl⟩
  have hP : va_P D vwCl G0 H := eH ▸ hP
  have hS : va_S A s.heap H locs := by rw [eH]; exact hS
  rw [← eH]
  clear elocs eH
  have hiX6 : ∀ w ∈ u_ws RX6 TX6 2, w ∈ wsX6_has := by decide +kernel
  have hk : ∀ k, k ∉ ([] : List Nat) → G0[k]? = G0[k]? := fun _ _ => rfl
  refine lv_iload_n (pc := 0) hx hb dX6_has_0 rfl (lv_at hl 1 rfl) ?_
  refine lv_if_lt (tgt := 16) (pc := 1) hx hb dX6_has_1 (by decide) (fun c1 => ?_) (fun c1 => ?_)
  · skip
    refine lv_iconst (v := nI (0)) (pc := 16) hx hb dX6_has_16 (by decide) ?_
    exact hret _ _ _ _ _ _ hP hD hS rfl (by first | exact gHas_lt c1 | exact gHas_ge c9 | exact gHas_in c1 c9) rfl dX6_has_17
  · skip
    refine lv_iload_n (pc := 4) hx hb dX6_has_4 rfl (lv_at hl 1 rfl) ?_
    refine lv_aload_n (pc := 5) hx hb dX6_has_5 rfl (lv_at hl 0 rfl) ?_
    refine va_get (ci := 6) (C := RX6) (T := TX6) (N := 2) (pc := 6) hx hb hts hiX6 hown hK hP 3 w3 rfl 1 (by decide) (hts (.fieldLink RX6 22 "InkPress$Zones" "count" "I") (by decide +kernel)) (fun _ h9 => h9) rfl dX6_has_6 ?_
    refine lv_icmp_ge (tgt := 16) (pc := 9) hx hb dX6_has_9 (by decide) (fun c9 => ?_) (fun c9 => ?_)
    · skip
      refine lv_iconst (v := nI (0)) (pc := 16) hx hb dX6_has_16 (by decide) ?_
      exact hret _ _ _ _ _ _ hP hD hS rfl (by first | exact gHas_lt c1 | exact gHas_ge c9 | exact gHas_in c1 c9) rfl dX6_has_17
    · skip
      refine lv_iconst (v := nI (1)) (pc := 12) hx hb dX6_has_12 (by decide) ?_
      refine lv_goto (tgt := 17) (pc := 13) hx hb dX6_has_13 (by decide) ?_
      exact hret _ _ _ _ _ _ hP hD hS rfl (by first | exact gHas_lt c1 | exact gHas_ge c9 | exact gHas_in c1 c9) rfl dX6_has_17
set_option maxHeartbeats 4000000 in
set_option maxRecDepth 100000 in
theorem k_X6_allows {l : Launch} {D : va_G} {cI cZ : ClassId} {A : Nat → Prop} {g a : Nat → Nat} {G0 : va_W} {zv : Nat → Int32} {zn : Nat} {k : Nat} {v : Int32} (hD : va_D A G0) (w3 : G0[3]? = some (a 3, .inr (6, [.ref (a 4), .int (nI (zn))]))) (w4 : G0[4]? = some (a 4, .inl (cI, 24, .inl (zv)))) (hk3 : k < 3) : gMi l D cI cZ A g yX6_allows wsX6_allows ({ frames := 1, cells := 0, slots := 0, locals := 22 }) [.ref (a 3), .int (nI (k)), .int (v)] G0 (gB (gWi v (nI 0) ((gTab 3).getD k 0))) (fun G1 => G1 = G0) := by
  refine gof_z (cc := cX6_allows) (maxL := 3) (by decide) rfl (Nat.le_of_ble_eq_true rfl) hD ?_
  intro p e s m args below meth c Q hx hb hml hts hown hK hN hZ hP hS hret ls hl
  have hown : s.vm.findClass RX6 = some m.cls := hown
  have hl : lv_has ls 3 [(0, .ref (a 3)), (1, .int (nI (k))), (2, .int (v))] := hl
  obtain ⟨locs, elocs⟩ : ∃ q : List Loc, q = [] := ⟨_, rfl⟩
  rw [← elocs] at hS ⊢
  obtain ⟨H, eH⟩ : ∃ q : Heap, q = s.heap := ⟨_, rfl⟩
  have hP : va_P D vwCl G0 H := eH ▸ hP
  have hS : va_S A s.heap H locs := by rw [eH]; exact hS
  rw [← eH]
  clear elocs eH
  have hk : ∀ k, k ∉ ([] : List Nat) → G0[k]? = G0[k]? := fun _ _ => rfl
  refine lv_iload_n (pc := 0) hx hb dX6_allows_0 rfl (lv_at hl 2 rfl) ?_
  refine lv_iconst (v := nI (0)) (pc := 1) hx hb dX6_allows_1 (by decide) ?_
  refine va_gets (C := gTabC 3) (n := gTabN 3) (d := "[I") (own := RX6) (ref := "InkPress$Zones") (v := .ref (g 3)) (pc := 2) hx hb (hZ 3 (by decide)).1 hS hown (hts (.fieldLink RX6 26 "InkPress$Zones" "MOST" "[I") (by decide +kernel)) (fun _ h9 => h9) dX6_allows_2 ?_
  refine lv_iload_n (pc := 5) hx hb dX6_allows_5 rfl (lv_at hl 1 rfl) ?_
  refine mx_ti (pc := 6) hx hb hZ hS 3 (by decide) (k) (show k < 3 from hk3) dX6_allows_6 ?_
  refine mx_cNi (As := [.int (v), .int (nI (0)), .int ((gTab 3).getD (k) 0)]) (rest := []) (pc := 7) ⟨hx, hb, hml, hown, hts⟩ (k_X7_within (a := a) (v := v) (lo := nI (0)) (hi := (gTab 3).getD (k) 0) hD  ) ⟨va_cnB (host := "InkPress") 3 hts gX6_allows_X7_within_n29 rfl rfl rfl (hN (.methodLinkNest "InkPress$Zones" 29 ⟨"InkPress", "within", "(III)Z"⟩ "InkPress") (by decide +kernel)) (hts (.initialized RX7) (by decide +kernel)) (by decide +kernel) ⟨Nat.le_of_ble_eq_true rfl, Nat.le_of_ble_eq_true rfl⟩, hts (.static yX7_within) (by decide +kernel), trivial⟩ hK hN hZ hP hS rfl hl.1 rfl (Nat.le_of_ble_eq_true rfl) dX6_allows_7 ⟨Nat.zero_le _, Nat.zero_le _⟩ (fun G' H locs hP hD hS hB => ?_)
  rw [hB] at hP hD
  clear hB G'
  exact hret _ _ _ _ _ _ hP hD hS (gB_nar _) rfl rfl dX6_allows_10
set_option maxHeartbeats 4000000 in
set_option maxRecDepth 100000 in
theorem k_X6_valueOf {l : Launch} {D : va_G} {cI cZ : ClassId} {A : Nat → Prop} {g a : Nat → Nat} {G0 : va_W} {zv : Nat → Int32} {zn : Nat} {z : Nat} {k : Nat} (hD : va_D A G0) (w3 : G0[3]? = some (a 3, .inr (6, [.ref (a 4), .int (nI (zn))]))) (w4 : G0[4]? = some (a 4, .inl (cI, 24, .inl (zv)))) (hz : z < 8) (hk3 : k < 3) : gMi l D cI cZ A g yX6_valueOf wsX6_valueOf ({ frames := 0, cells := 0, slots := 0, locals := 0 }) [.ref (a 3), .int (nI (z)), .int (nI (k))] G0 (zv (k * 8 + z)) (fun G1 => G1 = G0) := by
  refine gof_i (cc := cX6_valueOf) (maxL := 3) (by decide) rfl (Nat.le_of_ble_eq_true rfl) hD ?_
  intro p e s m args below meth c Q hx hb hml hts hown hK hN hZ hP hS hret ls hl
  have hown : s.vm.findClass RX6 = some m.cls := hown
  have hl : lv_has ls 3 [(0, .ref (a 3)), (1, .int (nI (z))), (2, .int (nI (k)))] := hl
  obtain ⟨locs, elocs⟩ : ∃ q : List Loc, q = [] := ⟨_, rfl⟩
  rw [← elocs] at hS ⊢
  obtain ⟨H, eH⟩ : ∃ q : Heap, q = s.heap := ⟨_, rfl⟩
  have hP : va_P D vwCl G0 H := eH ▸ hP
  have hS : va_S A s.heap H locs := by rw [eH]; exact hS
  rw [← eH]
  clear elocs eH
  have hiX6 : ∀ w ∈ u_ws RX6 TX6 2, w ∈ wsX6_valueOf := by decide +kernel
  have hk : ∀ k, k ∉ ([] : List Nat) → G0[k]? = G0[k]? := fun _ _ => rfl
  refine lv_aload_n (pc := 0) hx hb dX6_valueOf_0 rfl (lv_at hl 0 rfl) ?_
  refine va_get (ci := 6) (C := RX6) (T := TX6) (N := 2) (pc := 1) hx hb hts hiX6 hown hK hP 3 w3 rfl 0 (by decide) (hts (.fieldLink RX6 15 "InkPress$Zones" "values" "[I") (by decide +kernel)) (fun _ h9 => h9) rfl dX6_valueOf_1 ?_
  refine lv_iload_n (pc := 4) hx hb dX6_valueOf_4 rfl (lv_at hl 2 rfl) ?_
  refine lv_bipush (v := nI (8)) (pc := 5) hx hb dX6_valueOf_5 (by decide) ?_
  refine mx_imul (pc := 7) hx hb dX6_valueOf_7 ?_
  refine lv_iload_n (pc := 8) hx hb dX6_valueOf_8 rfl (lv_at hl 1 rfl) ?_
  refine mx_iadd (pc := 9) hx hb dX6_valueOf_9 ?_
  refine mx_iald (pc := 10) hx hb hK hP 4 w4 ((k) * (8) + z) (by omega) (by decide) dX6_valueOf_10 ?_
  exact hret _ _ _ _ _ _ hP hD hS rfl rfl dX6_valueOf_11
set_option maxHeartbeats 4000000 in
set_option maxRecDepth 100000 in
theorem k_X6_change {l : Launch} {D : va_G} {cI cZ : ClassId} {A : Nat → Prop} {g a : Nat → Nat} {G0 : va_W} {zv : Nat → Int32} {zn : Nat} {z : Nat} {k : Nat} {v : Int32} (hD : va_D A G0) (w3 : G0[3]? = some (a 3, .inr (6, [.ref (a 4), .int (nI (zn))]))) (w4 : G0[4]? = some (a 4, .inl (cI, 24, .inl (zv)))) (hz : z < 8) (hk3 : k < 3) : gMi l D cI cZ A g yX6_change wsX6_change ({ frames := 0, cells := 0, slots := 0, locals := 0 }) [.ref (a 3), .int (nI (z)), .int (nI (k)), .int (v)] G0 (zv (k * 8 + z)) (fun G1 => G1[4]? = some (a 4, .inl (cI, 24, .inl (upd zv (k * 8 + z) v))) ∧ ∀ k, k ∉ [4] → G1[k]? = G0[k]?) := by
  refine gof_i (cc := cX6_change) (maxL := 6) (by decide) rfl (Nat.le_of_ble_eq_true rfl) hD ?_
  intro p e s m args below meth c Q hx hb hml hts hown hK hN hZ hP hS hret ls hl
  have hown : s.vm.findClass RX6 = some m.cls := hown
  have hl : lv_has ls 6 [(0, .ref (a 3)), (1, .int (nI (z))), (2, .int (nI (k))), (3, .int (v))] := hl
  obtain ⟨locs, elocs⟩ : ∃ q : List Loc, q = [] := ⟨_, rfl⟩
  rw [← elocs] at hS ⊢
  obtain ⟨H, eH⟩ : ∃ q : Heap, q = s.heap := ⟨_, rfl⟩
  have hP : va_P D vwCl G0 H := eH ▸ hP
  have hS : va_S A s.heap H locs := by rw [eH]; exact hS
  rw [← eH]
  clear elocs eH
  have hiX6 : ∀ w ∈ u_ws RX6 TX6 2, w ∈ wsX6_change := by decide +kernel
  have hk : ∀ k, k ∉ [4] → G0[k]? = G0[k]? := fun _ _ => rfl
  refine lv_iload_n (pc := 0) hx hb dX6_change_0 rfl (lv_at hl 2 rfl) ?_
  refine lv_bipush (v := nI (8)) (pc := 1) hx hb dX6_change_1 (by decide) ?_
  refine mx_imul (pc := 3) hx hb dX6_change_3 ?_
  refine lv_iload_n (pc := 4) hx hb dX6_change_4 rfl (lv_at hl 1 rfl) ?_
  refine mx_iadd (pc := 5) hx hb dX6_change_5 ?_
  refine lv_istore (lv' := [(4, .int (nI ((k) * (8) + z))), (0, .ref (a 3)), (1, .int (nI (z))), (2, .int (nI (k))), (3, .int (v))]) (pc := 6) hx hb dX6_change_6 hl (by decide) rfl (fun ls hl => ?_)
  refine lv_aload_n (pc := 8) hx hb dX6_change_8 rfl (lv_at hl 1 rfl) ?_
  refine va_get (ci := 6) (C := RX6) (T := TX6) (N := 2) (pc := 9) hx hb hts hiX6 hown hK hP 3 w3 rfl 0 (by decide) (hts (.fieldLink RX6 15 "InkPress$Zones" "values" "[I") (by decide +kernel)) (fun _ h9 => h9) rfl dX6_change_9 ?_
  refine lv_iload (pc := 12) hx hb dX6_change_12 (lv_at hl 0 rfl) ?_
  refine mx_iald (pc := 14) hx hb hK hP 4 w4 ((k) * (8) + z) (by omega) (by decide) dX6_change_14 ?_
  refine lv_istore (lv' := [(5, .int ((zv) ((k) * (8) + z))), (4, .int (nI ((k) * (8) + z))), (0, .ref (a 3)), (1, .int (nI (z))), (2, .int (nI (k))), (3, .int (v))]) (pc := 15) hx hb dX6_change_15 hl (by decide) rfl (fun ls hl => ?_)
  refine lv_aload_n (pc := 17) hx hb dX6_change_17 rfl (lv_at hl 2 rfl) ?_
  refine va_get (ci := 6) (C := RX6) (T := TX6) (N := 2) (pc := 18) hx hb hts hiX6 hown hK hP 3 w3 rfl 0 (by decide) (hts (.fieldLink RX6 15 "InkPress$Zones" "values" "[I") (by decide +kernel)) (fun _ h9 => h9) rfl dX6_change_18 ?_
  refine lv_iload (pc := 21) hx hb dX6_change_21 (lv_at hl 1 rfl) ?_
  refine lv_iload_n (pc := 23) hx hb dX6_change_23 rfl (lv_at hl 5 rfl) ?_
  refine mx_iast (x := v) (pc := 24) hx hb hK hP hD hS 4 w4 ((k) * (8) + z) (by omega) (by decide) dX6_change_24 (fun H locs G hP hD hS w4 ho => ?_)
  have w3 := (ho 3 (by decide)).trans w3
  have w4 : G[4]? = some (a 4, .inl (cI, 24, .inl (upd (zv) ((k) * (8) + z) (v)))) := w4
  have hk := gk_step hk ho (by decide)
  clear ho
  refine lv_iload (pc := 25) hx hb dX6_change_25 (lv_at hl 0 rfl) ?_
  exact hret _ _ _ _ _ _ hP hD hS rfl ⟨w4, hk⟩ dX6_change_27
set_option maxHeartbeats 4000000 in
set_option maxRecDepth 100000 in
theorem k_X6_restart {l : Launch} {D : va_G} {cI cZ : ClassId} {A : Nat → Prop} {g a : Nat → Nat} {G0 : va_W} {zv : Nat → Int32} {zn : Nat} {n : Nat} (hD : va_D A G0) (w3 : G0[3]? = some (a 3, .inr (6, [.ref (a 4), .int (nI (zn))]))) (w4 : G0[4]? = some (a 4, .inl (cI, 24, .inl (zv)))) : gMv l D cI cZ A g yX6_restart wsX6_restart ({ frames := 0, cells := 0, slots := 0, locals := 0 }) [.ref (a 3), .int (nI (n))] G0 (fun G1 => G1[3]? = some (a 3, .inr (6, [.ref (a 4), .int (nI (n))])) ∧ G1[4]? = some (a 4, .inl (cI, 24, .inl (gZr 24 0 zv))) ∧ ∀ k, k ∉ [3, 4] → G1[k]? = G0[k]?) := by
  refine gof_v (cc := cX6_restart) (maxL := 3) (by decide) rfl (Nat.le_of_ble_eq_true rfl) hD ?_
  intro p e s m args below meth c Q hx hb hml hts hown hK hN hZ hP hS hret ls hl
  have hown : s.vm.findClass RX6 = some m.cls := hown
  have hl : lv_has ls 3 [(0, .ref (a 3)), (1, .int (nI (n)))] := hl
  obtain ⟨locs, elocs⟩ : ∃ q : List Loc, q = [] := ⟨_, rfl⟩
  rw [← elocs] at hS ⊢
  obtain ⟨H, eH⟩ : ∃ q : Heap, q = s.heap := ⟨_, rfl⟩
  have hP : va_P D vwCl G0 H := eH ▸ hP
  have hS : va_S A s.heap H locs := by rw [eH]; exact hS
  rw [← eH]
  clear elocs eH
  have hiX6 : ∀ w ∈ u_ws RX6 TX6 2, w ∈ wsX6_restart := by decide +kernel
  have hk : ∀ k, k ∉ [3, 4] → G0[k]? = G0[k]? := fun _ _ => rfl
  refine lv_aload_n (pc := 0) hx hb dX6_restart_0 rfl (lv_at hl 0 rfl) ?_
  refine lv_iload_n (pc := 1) hx hb dX6_restart_1 rfl (lv_at hl 1 rfl) ?_
  refine mx_put (ci := 6) (v := .int (nI (n))) (ty := .int) (C := RX6) (T := TX6) (N := 2) (pc := 2) hx hb hts hiX6 tyX6 tyX6_ok nmX6 hown hK hP hD hS 3 w3 rfl 1 (by decide) (hts (.fieldLink RX6 22 "InkPress$Zones" "count" "I") (by decide +kernel)) (fun _ h9 => h9) rfl (by decide +kernel) rfl rfl (Nat.le_of_ble_eq_true rfl) dX6_restart_2 (fun H locs G hP hD hS w3 ho => ?_)
  have w4 := (ho 4 (by decide)).trans w4
  have w3 : G[3]? = some (a 3, .inr (6, [.ref (a 4), .int (nI (n))])) := w3
  have hk := gk_step hk ho (by decide)
  clear ho
  refine lv_iconst (v := nI (0)) (pc := 5) hx hb dX6_restart_5 (by decide) ?_
  refine lv_istore_n (lv' := [(2, .int (nI (0))), (0, .ref (a 3)), (1, .int (nI (n)))]) (pc := 6) hx hb dX6_restart_6 rfl hl (by decide) rfl (fun ls hl => ?_)
  have LP : ∀ (k : Nat) (i : Nat) (zv : Nat → Int32), i + k = 24 → ∀ (G : va_W) (H : Heap) (locs : List Loc) (ls : Array Slot), va_P D vwCl G H → va_D A G → va_S A s.heap H locs → (∀ j, j ∉ [3, 4] → G[j]? = G0[j]?) → G[3]? = some (a 3, .inr (6, [.ref (a 4), .int (nI (n))])) → G[4]? = some (a 4, .inl (cI, 24, .inl (zv))) → lv_has ls 3 [(0, .ref (a 3)), (1, .int (nI (n))), (2, .int (nI (i)))] → (∀ (G : va_W) (H : Heap) (locs : List Loc) (ls : Array Slot), va_P D vwCl G H → va_D A G → va_S A s.heap H locs → (∀ j, j ∉ [3, 4] → G[j]? = G0[j]?) → G[3]? = some (a 3, .inr (6, [.ref (a 4), .int (nI (n))])) → G[4]? = some (a 4, .inl (cI, 24, .inl (gZr k i zv))) → lv_has ls 3 [(0, .ref (a 3)), (1, .int (nI (n)))] → W p l e ({ frames := 0, cells := 0, slots := 0, locals := 0 } : Room) s m args below meth c H locs 0 0 Q (F0 m 36 ls [])) → W p l e ({ frames := 0, cells := 0, slots := 0, locals := 0 } : Room) s m args below meth c H locs 0 0 Q (F0 m 7 ls []) := by
    intro k
    induction k with
    | zero =>
      intro i zv hi G H locs ls hP hD hS hk w3 w4 hl hcont
      refine lv_iload_n (pc := 7) hx hb dX6_restart_7 rfl (lv_at hl 2 rfl) ?_
      refine lv_aload_n (pc := 8) hx hb dX6_restart_8 rfl (lv_at hl 0 rfl) ?_
      refine va_get (ci := 6) (C := RX6) (T := TX6) (N := 2) (pc := 9) hx hb hts hiX6 hown hK hP 3 w3 rfl 0 (by decide) (hts (.fieldLink RX6 15 "InkPress$Zones" "values" "[I") (by decide +kernel)) (fun _ h9 => h9) rfl dX6_restart_9 ?_
      refine va_alen (v := nI 24) (pc := 12) hx hb hK hP 4 0 w4 rfl rfl dX6_restart_12 ?_
      refine mx_cge (tgt := 36) (pc := 13) hx hb (by omega) (by omega) dX6_restart_13 (by decide) (fun c13 => ?_) (fun c13 => absurd c13 (by omega))
      exact hcont G H locs ls hP hD hS hk w3 w4 (lv_sub hl [0, 1] rfl)
    | succ k ih =>
      intro i zv hi G H locs ls hP hD hS hk w3 w4 hl hcont
      refine lv_iload_n (pc := 7) hx hb dX6_restart_7 rfl (lv_at hl 2 rfl) ?_
      refine lv_aload_n (pc := 8) hx hb dX6_restart_8 rfl (lv_at hl 0 rfl) ?_
      refine va_get (ci := 6) (C := RX6) (T := TX6) (N := 2) (pc := 9) hx hb hts hiX6 hown hK hP 3 w3 rfl 0 (by decide) (hts (.fieldLink RX6 15 "InkPress$Zones" "values" "[I") (by decide +kernel)) (fun _ h9 => h9) rfl dX6_restart_9 ?_
      refine va_alen (v := nI 24) (pc := 12) hx hb hK hP 4 0 w4 rfl rfl dX6_restart_12 ?_
      refine mx_cge (tgt := 36) (pc := 13) hx hb (by omega) (by omega) dX6_restart_13 (by decide) (fun c13 => absurd c13 (by omega)) (fun c13 => ?_)
      refine lv_aload_n (pc := 16) hx hb dX6_restart_16 rfl (lv_at hl 0 rfl) ?_
      refine va_get (ci := 6) (C := RX6) (T := TX6) (N := 2) (pc := 17) hx hb hts hiX6 hown hK hP 3 w3 rfl 0 (by decide) (hts (.fieldLink RX6 15 "InkPress$Zones" "values" "[I") (by decide +kernel)) (fun _ h9 => h9) rfl dX6_restart_17 ?_
      refine lv_iload_n (pc := 20) hx hb dX6_restart_20 rfl (lv_at hl 2 rfl) ?_
      refine va_gets (C := gTabC 4) (n := gTabN 4) (d := "[I") (own := RX6) (ref := "InkPress$Zones") (v := .ref (g 4)) (pc := 21) hx hb (hZ 4 (by decide)).1 hS hown (hts (.fieldLink RX6 9 "InkPress$Zones" "FIRST" "[I") (by decide +kernel)) (fun _ h9 => h9) dX6_restart_21 ?_
      refine lv_iload_n (pc := 24) hx hb dX6_restart_24 rfl (lv_at hl 2 rfl) ?_
      refine lv_bipush (v := nI (8)) (pc := 25) hx hb dX6_restart_25 (by decide) ?_
      refine mx_idiv (pc := 27) hx hb (by omega) (by omega) (by omega) dX6_restart_27 ?_
      refine mx_ti (pc := 28) hx hb hZ hS 4 (by decide) ((i) / (8)) (show i / 8 < 3 by omega) dX6_restart_28 ?_
      refine mx_iast (x := (gTab 4).getD ((i) / (8)) 0) (pc := 29) hx hb hK hP hD hS 4 w4 (i) (by omega) (by decide) dX6_restart_29 (fun H locs G hP hD hS w4 ho => ?_)
      have w3 := (ho 3 (by decide)).trans w3
      have w4 : G[4]? = some (a 4, .inl (cI, 24, .inl (upd (zv) (i) ((gTab 4).getD ((i) / (8)) 0)))) := w4
      have hk := gk_step hk ho (by decide)
      clear ho
      refine lv_iinc (v := nI (i + 1)) (lv' := [(2, .int (nI (i + 1))), (0, .ref (a 3)), (1, .int (nI (n)))]) (pc := 30) hx hb dX6_restart_30 hl (k := 2) rfl (mx_inc1 _) (by decide) rfl (fun ls hl => ?_)
      refine lv_goto (tgt := 7) (pc := 33) hx hb dX6_restart_33 (by decide) ?_
      exact ih (i + 1) (upd (zv) (i) ((gTab 4).getD ((i) / (8)) 0)) (by omega) G H locs ls hP hD hS hk w3 w4 (lv_sub hl [1, 2, 0] rfl) hcont
  refine LP 24 (0) (zv) (by omega) G H locs ls hP hD hS hk w3 w4 (lv_sub hl [1, 2, 0] rfl) (fun G H locs ls hP hD hS hk w3 w4 hl => ?_)
  have w4 : G[4]? = some (a 4, .inl (cI, 24, .inl (gZr (24) (0) (zv)))) := w4
  exact hret _ _ _ _ _ hP hD hS ⟨w3, w4, hk⟩ dX6_restart_36
