/-! the marks -/
def gSp (n : Nat) (m1 m2 m3 m4 m5 m6 m7 : Int64) : Int64 := (nI n).toInt64 * m5 - m1 * m1 - m2 * m2
def gStr (n : Nat) (m1 m2 m3 m4 m5 m6 m7 : Int64) : Int64 := (nI n).toInt64 * m6 - m1 * m3 - m2 * m4
def gTu (n : Nat) (m1 m2 m3 m4 m5 m6 m7 : Int64) : Int64 := (nI n).toInt64 * m7 - m1 * m4 + m2 * m3
def gAc (n : Nat) (m1 m2 m3 m4 m5 m6 m7 : Int64) : Int64 := m3 * gSp n m1 m2 m3 m4 m5 m6 m7 - gStr n m1 m2 m3 m4 m5 m6 m7 * m1 + gTu n m1 m2 m3 m4 m5 m6 m7 * m2
def gUp (n : Nat) (m1 m2 m3 m4 m5 m6 m7 : Int64) : Int64 := m4 * gSp n m1 m2 m3 m4 m5 m6 m7 - gStr n m1 m2 m3 m4 m5 m6 m7 * m2 - gTu n m1 m2 m3 m4 m5 m6 m7 * m1
def gTh (lo : Int64) (u : Int32) (md : Int64) : Int32 := if 0 < lo then (1000 * (u.toInt64 * lo - md) / lo).toInt32 else nI 0
theorem gTh_0 {lo : Int64} {u : Int32} {md : Int64} (h : lo ≤ 0) : gTh lo u md = nI 0 := if_neg (Int64.not_lt.mpr h)
theorem gTh_1 {lo : Int64} {u : Int32} {md : Int64} (h : 0 < lo) : gTh lo u md = (1000 * (u.toInt64 * lo - md) / lo).toInt32 := if_pos h
def gUpp (wh n : Nat) (m1 m2 m3 m4 m5 m6 m7 : Int64) : Int64 := match wh with
  | 0 => gStr n m1 m2 m3 m4 m5 m6 m7
  | 1 => gTu n m1 m2 m3 m4 m5 m6 m7
  | 2 => gAc n m1 m2 m3 m4 m5 m6 m7
  | _ => gUp n m1 m2 m3 m4 m5 m6 m7
def gLow (wh n : Nat) (m1 m2 m3 m4 m5 m6 m7 : Int64) : Int64 := match wh with
  | 0 => gSp n m1 m2 m3 m4 m5 m6 m7
  | 1 => gSp n m1 m2 m3 m4 m5 m6 m7
  | _ => gSp n m1 m2 m3 m4 m5 m6 m7 * (nI n).toInt64
set_option maxHeartbeats 4000000 in
set_option maxRecDepth 100000 in
theorem k_X1_has {l : Launch} {D : va_G} {cI cZ : ClassId} {A : Nat → Prop} {g a : Nat → Nat} {G0 : va_W} {mx : Nat → Int32} {my : Nat → Int32} {mdx : Nat → Int32} {mdy : Nat → Int32} {mn : Nat} {m1 : Int64} {m2 : Int64} {m3 : Int64} {m4 : Int64} {m5 : Int64} {m6 : Int64} {m7 : Int64} {x : Int32} (hD : va_D A G0) (w11 : G0[11]? = some (a 11, .inr (1, [.ref (a 12), .ref (a 13), .ref (a 14), .ref (a 15), .int (nI (mn)), .long (m1), .long (m2), .long (m3), .long (m4), .long (m5), .long (m6), .long (m7)]))) (w12 : G0[12]? = some (a 12, .inl (cI, 8, .inl (mx)))) (w13 : G0[13]? = some (a 13, .inl (cI, 8, .inl (my)))) (w14 : G0[14]? = some (a 14, .inl (cI, 8, .inl (mdx)))) (w15 : G0[15]? = some (a 15, .inl (cI, 8, .inl (mdy)))) : gMi l D cI cZ A g yX1_has wsX1_has ({ frames := 0, cells := 0, slots := 0, locals := 0 }) [.ref (a 11), .int (x)] G0 (gB (gHas x (nI mn))) (fun G1 => G1 = G0) := by
  refine gof_z (cc := cX1_has) (maxL := 2) (by decide) rfl (Nat.le_of_ble_eq_true rfl) hD ?_
  intro p e s m args below meth c Q hx hb hml hts hown hK hN hZ hP hS hret ls hl
  have hown : s.vm.findClass RX1 = some m.cls := hown
  have hl : lv_has ls 2 [(0, .ref (a 11)), (1, .int (x))] := hl
  obtain ⟨locs, elocs⟩ : ∃ q : List Loc, q = [] := ⟨_, rfl⟩
  rw [← elocs] at hS ⊢
  obtain ⟨H, eH⟩ : ∃ q : Heap, q = s.heap := ⟨_, rfl⟩
  have hP : va_P D vwCl G0 H := eH ▸ hP
  have hS : va_S A s.heap H locs := by rw [eH]; exact hS
  rw [← eH]
  clear elocs eH
  have hiX1 : ∀ w ∈ u_ws RX1 TX1 12, w ∈ wsX1_has := by decide +kernel
  have hk : ∀ k, k ∉ ([] : List Nat) → G0[k]? = G0[k]? := fun _ _ => rfl
  refine lv_iload_n (pc := 0) hx hb dX1_has_0 rfl (lv_at hl 1 rfl) ?_
  refine lv_if_lt (tgt := 16) (pc := 1) hx hb dX1_has_1 (by decide) (fun c1 => ?_) (fun c1 => ?_)
  · skip
    refine lv_iconst (v := nI (0)) (pc := 16) hx hb dX1_has_16 (by decide) ?_
    exact hret _ _ _ _ _ _ hP hD hS rfl (by first | exact gHas_lt c1 | exact gHas_ge c9 | exact gHas_in c1 c9) rfl dX1_has_17
  · skip
    refine lv_iload_n (pc := 4) hx hb dX1_has_4 rfl (lv_at hl 1 rfl) ?_
    refine lv_aload_n (pc := 5) hx hb dX1_has_5 rfl (lv_at hl 0 rfl) ?_
    refine va_get (ci := 1) (C := RX1) (T := TX1) (N := 12) (pc := 6) hx hb hts hiX1 hown hK hP 11 w11 rfl 4 (by decide) (hts (.fieldLink RX1 28 "InkPress$Marks" "count" "I") (by decide +kernel)) (fun _ h9 => h9) rfl dX1_has_6 ?_
    refine lv_icmp_ge (tgt := 16) (pc := 9) hx hb dX1_has_9 (by decide) (fun c9 => ?_) (fun c9 => ?_)
    · skip
      refine lv_iconst (v := nI (0)) (pc := 16) hx hb dX1_has_16 (by decide) ?_
      exact hret _ _ _ _ _ _ hP hD hS rfl (by first | exact gHas_lt c1 | exact gHas_ge c9 | exact gHas_in c1 c9) rfl dX1_has_17
    · skip
      refine lv_iconst (v := nI (1)) (pc := 12) hx hb dX1_has_12 (by decide) ?_
      refine lv_goto (tgt := 17) (pc := 13) hx hb dX1_has_13 (by decide) ?_
      exact hret _ _ _ _ _ _ hP hD hS rfl (by first | exact gHas_lt c1 | exact gHas_ge c9 | exact gHas_in c1 c9) rfl dX1_has_17
set_option maxHeartbeats 4000000 in
set_option maxRecDepth 100000 in
theorem k_X1_isFull {l : Launch} {D : va_G} {cI cZ : ClassId} {A : Nat → Prop} {g a : Nat → Nat} {G0 : va_W} {mx : Nat → Int32} {my : Nat → Int32} {mdx : Nat → Int32} {mdy : Nat → Int32} {mn : Nat} {m1 : Int64} {m2 : Int64} {m3 : Int64} {m4 : Int64} {m5 : Int64} {m6 : Int64} {m7 : Int64} (hD : va_D A G0) (w11 : G0[11]? = some (a 11, .inr (1, [.ref (a 12), .ref (a 13), .ref (a 14), .ref (a 15), .int (nI (mn)), .long (m1), .long (m2), .long (m3), .long (m4), .long (m5), .long (m6), .long (m7)]))) (w12 : G0[12]? = some (a 12, .inl (cI, 8, .inl (mx)))) (w13 : G0[13]? = some (a 13, .inl (cI, 8, .inl (my)))) (w14 : G0[14]? = some (a 14, .inl (cI, 8, .inl (mdx)))) (w15 : G0[15]? = some (a 15, .inl (cI, 8, .inl (mdy)))) (hm : mn ≤ 8) : gMi l D cI cZ A g yX1_isFull wsX1_isFull ({ frames := 0, cells := 0, slots := 0, locals := 0 }) [.ref (a 11)] G0 (gB (decide (8 ≤ mn))) (fun G1 => G1 = G0) := by
  refine gof_z (cc := cX1_isFull) (maxL := 1) (by decide) rfl (Nat.le_of_ble_eq_true rfl) hD ?_
  intro p e s m args below meth c Q hx hb hml hts hown hK hN hZ hP hS hret ls hl
  have hown : s.vm.findClass RX1 = some m.cls := hown
  have hl : lv_has ls 1 [(0, .ref (a 11))] := hl
  obtain ⟨locs, elocs⟩ : ∃ q : List Loc, q = [] := ⟨_, rfl⟩
  rw [← elocs] at hS ⊢
  obtain ⟨H, eH⟩ : ∃ q : Heap, q = s.heap := ⟨_, rfl⟩
  have hP : va_P D vwCl G0 H := eH ▸ hP
  have hS : va_S A s.heap H locs := by rw [eH]; exact hS
  rw [← eH]
  clear elocs eH
  have hiX1 : ∀ w ∈ u_ws RX1 TX1 12, w ∈ wsX1_isFull := by decide +kernel
  have hk : ∀ k, k ∉ ([] : List Nat) → G0[k]? = G0[k]? := fun _ _ => rfl
  refine lv_aload_n (pc := 0) hx hb dX1_isFull_0 rfl (lv_at hl 0 rfl) ?_
  refine va_get (ci := 1) (C := RX1) (T := TX1) (N := 12) (pc := 1) hx hb hts hiX1 hown hK hP 11 w11 rfl 4 (by decide) (hts (.fieldLink RX1 28 "InkPress$Marks" "count" "I") (by decide +kernel)) (fun _ h9 => h9) rfl dX1_isFull_1 ?_
  refine lv_bipush (v := nI (8)) (pc := 4) hx hb dX1_isFull_4 (by decide) ?_
  refine mx_clt (tgt := 13) (pc := 6) hx hb (by omega) (by omega) dX1_isFull_6 (by decide) (fun c6 => ?_) (fun c6 => ?_)
  · skip
    refine lv_iconst (v := nI (0)) (pc := 13) hx hb dX1_isFull_13 (by decide) ?_
    exact hret _ _ _ _ _ _ hP hD hS rfl (by first | exact gDe_f (Nat.not_le.mpr c6) | exact gDe_t c6) rfl dX1_isFull_14
  · skip
    refine lv_iconst (v := nI (1)) (pc := 9) hx hb dX1_isFull_9 (by decide) ?_
    refine lv_goto (tgt := 14) (pc := 10) hx hb dX1_isFull_10 (by decide) ?_
    exact hret _ _ _ _ _ _ hP hD hS rfl (by first | exact gDe_f (Nat.not_le.mpr c6) | exact gDe_t c6) rfl dX1_isFull_14
set_option maxHeartbeats 4000000 in
set_option maxRecDepth 100000 in
theorem k_X1_add {l : Launch} {D : va_G} {cI cZ : ClassId} {A : Nat → Prop} {g a : Nat → Nat} {G0 : va_W} {mx : Nat → Int32} {my : Nat → Int32} {mdx : Nat → Int32} {mdy : Nat → Int32} {mn : Nat} {m1 : Int64} {m2 : Int64} {m3 : Int64} {m4 : Int64} {m5 : Int64} {m6 : Int64} {m7 : Int64} {x : Int32} {y : Int32} {u : Int32} {v : Int32} (hD : va_D A G0) (w11 : G0[11]? = some (a 11, .inr (1, [.ref (a 12), .ref (a 13), .ref (a 14), .ref (a 15), .int (nI (mn)), .long (m1), .long (m2), .long (m3), .long (m4), .long (m5), .long (m6), .long (m7)]))) (w12 : G0[12]? = some (a 12, .inl (cI, 8, .inl (mx)))) (w13 : G0[13]? = some (a 13, .inl (cI, 8, .inl (my)))) (w14 : G0[14]? = some (a 14, .inl (cI, 8, .inl (mdx)))) (w15 : G0[15]? = some (a 15, .inl (cI, 8, .inl (mdy)))) (hm : mn < 8) : gMi l D cI cZ A g yX1_add wsX1_add ({ frames := 0, cells := 0, slots := 0, locals := 0 }) [.ref (a 11), .int (x), .int (y), .int (u), .int (v)] G0 (nI (mn + 1)) (fun G1 => G1[11]? = some (a 11, .inr (1, [.ref (a 12), .ref (a 13), .ref (a 14), .ref (a 15), .int (nI (mn + 1)), .long ((m1 + (x).toInt64)), .long ((m2 + (y).toInt64)), .long ((m3 + (u).toInt64)), .long ((m4 + (v).toInt64)), .long ((m5 + (((x * x) + (y * y))).toInt64)), .long ((m6 + (((x * u) + (y * v))).toInt64)), .long ((m7 + (((x * v) - (y * u))).toInt64))])) ∧ G1[12]? = some (a 12, .inl (cI, 8, .inl (upd mx mn x))) ∧ G1[13]? = some (a 13, .inl (cI, 8, .inl (upd my mn y))) ∧ G1[14]? = some (a 14, .inl (cI, 8, .inl (upd mdx mn u))) ∧ G1[15]? = some (a 15, .inl (cI, 8, .inl (upd mdy mn v))) ∧ ∀ k, k ∉ [11, 12, 13, 14, 15] → G1[k]? = G0[k]?) := by
  refine gof_i (cc := cX1_add) (maxL := 5) (by decide) rfl (Nat.le_of_ble_eq_true rfl) hD ?_
  intro p e s m args below meth c Q hx hb hml hts hown hK hN hZ hP hS hret ls hl
  have hown : s.vm.findClass RX1 = some m.cls := hown
  have hl : lv_has ls 5 [(0, .ref (a 11)), (1, .int (x)), (2, .int (y)), (3, .int (u)), (4, .int (v))] := hl
  obtain ⟨locs, elocs⟩ : ∃ q : List Loc, q = [] := ⟨_, rfl⟩
  rw [← elocs] at hS ⊢
  obtain ⟨H, eH⟩ : ∃ q : Heap, q = s.heap := ⟨_, rfl⟩
  have hP : va_P D vwCl G0 H := eH ▸ hP
  have hS : va_S A s.heap H locs := by rw [eH]; exact hS
  rw [← eH]
  clear elocs eH
  have hiX1 : ∀ w ∈ u_ws RX1 TX1 12, w ∈ wsX1_add := by decide +kernel
  have hk : ∀ k, k ∉ [11, 12, 13, 14, 15] → G0[k]? = G0[k]? := fun _ _ => rfl
  refine lv_aload_n (pc := 0) hx hb dX1_add_0 rfl (lv_at hl 0 rfl) ?_
  refine va_get (ci := 1) (C := RX1) (T := TX1) (N := 12) (pc := 1) hx hb hts hiX1 hown hK hP 11 w11 rfl 0 (by decide) (hts (.fieldLink RX1 11 "InkPress$Marks" "x" "[I") (by decide +kernel)) (fun _ h9 => h9) rfl dX1_add_1 ?_
  refine lv_aload_n (pc := 4) hx hb dX1_add_4 rfl (lv_at hl 0 rfl) ?_
  refine va_get (ci := 1) (C := RX1) (T := TX1) (N := 12) (pc := 5) hx hb hts hiX1 hown hK hP 11 w11 rfl 4 (by decide) (hts (.fieldLink RX1 28 "InkPress$Marks" "count" "I") (by decide +kernel)) (fun _ h9 => h9) rfl dX1_add_5 ?_
  refine lv_iload_n (pc := 8) hx hb dX1_add_8 rfl (lv_at hl 1 rfl) ?_
  refine mx_iast (x := x) (pc := 9) hx hb hK hP hD hS 12 w12 (mn) (by omega) (by decide) dX1_add_9 (fun H locs G hP hD hS w12 ho => ?_)
  have w11 := (ho 11 (by decide)).trans w11
  have w13 := (ho 13 (by decide)).trans w13
  have w14 := (ho 14 (by decide)).trans w14
  have w15 := (ho 15 (by decide)).trans w15
  have w12 : G[12]? = some (a 12, .inl (cI, 8, .inl (upd (mx) (mn) (x)))) := w12
  have hk := gk_step hk ho (by decide)
  clear ho
  refine lv_aload_n (pc := 10) hx hb dX1_add_10 rfl (lv_at hl 0 rfl) ?_
  refine va_get (ci := 1) (C := RX1) (T := TX1) (N := 12) (pc := 11) hx hb hts hiX1 hown hK hP 11 w11 rfl 1 (by decide) (hts (.fieldLink RX1 15 "InkPress$Marks" "y" "[I") (by decide +kernel)) (fun _ h9 => h9) rfl dX1_add_11 ?_
  refine lv_aload_n (pc := 14) hx hb dX1_add_14 rfl (lv_at hl 0 rfl) ?_
  refine va_get (ci := 1) (C := RX1) (T := TX1) (N := 12) (pc := 15) hx hb hts hiX1 hown hK hP 11 w11 rfl 4 (by decide) (hts (.fieldLink RX1 28 "InkPress$Marks" "count" "I") (by decide +kernel)) (fun _ h9 => h9) rfl dX1_add_15 ?_
  refine lv_iload_n (pc := 18) hx hb dX1_add_18 rfl (lv_at hl 2 rfl) ?_
  refine mx_iast (x := y) (pc := 19) hx hb hK hP hD hS 13 w13 (mn) (by omega) (by decide) dX1_add_19 (fun H locs G hP hD hS w13 ho => ?_)
  have w11 := (ho 11 (by decide)).trans w11
  have w12 := (ho 12 (by decide)).trans w12
  have w14 := (ho 14 (by decide)).trans w14
  have w15 := (ho 15 (by decide)).trans w15
  have w13 : G[13]? = some (a 13, .inl (cI, 8, .inl (upd (my) (mn) (y)))) := w13
  have hk := gk_step hk ho (by decide)
  clear ho
  refine lv_aload_n (pc := 20) hx hb dX1_add_20 rfl (lv_at hl 0 rfl) ?_
  refine va_get (ci := 1) (C := RX1) (T := TX1) (N := 12) (pc := 21) hx hb hts hiX1 hown hK hP 11 w11 rfl 2 (by decide) (hts (.fieldLink RX1 18 "InkPress$Marks" "dx" "[I") (by decide +kernel)) (fun _ h9 => h9) rfl dX1_add_21 ?_
  refine lv_aload_n (pc := 24) hx hb dX1_add_24 rfl (lv_at hl 0 rfl) ?_
  refine va_get (ci := 1) (C := RX1) (T := TX1) (N := 12) (pc := 25) hx hb hts hiX1 hown hK hP 11 w11 rfl 4 (by decide) (hts (.fieldLink RX1 28 "InkPress$Marks" "count" "I") (by decide +kernel)) (fun _ h9 => h9) rfl dX1_add_25 ?_
  refine lv_iload_n (pc := 28) hx hb dX1_add_28 rfl (lv_at hl 3 rfl) ?_
  refine mx_iast (x := u) (pc := 29) hx hb hK hP hD hS 14 w14 (mn) (by omega) (by decide) dX1_add_29 (fun H locs G hP hD hS w14 ho => ?_)
  have w11 := (ho 11 (by decide)).trans w11
  have w12 := (ho 12 (by decide)).trans w12
  have w13 := (ho 13 (by decide)).trans w13
  have w15 := (ho 15 (by decide)).trans w15
  have w14 : G[14]? = some (a 14, .inl (cI, 8, .inl (upd (mdx) (mn) (u)))) := w14
  have hk := gk_step hk ho (by decide)
  clear ho
  refine lv_aload_n (pc := 30) hx hb dX1_add_30 rfl (lv_at hl 0 rfl) ?_
  refine va_get (ci := 1) (C := RX1) (T := TX1) (N := 12) (pc := 31) hx hb hts hiX1 hown hK hP 11 w11 rfl 3 (by decide) (hts (.fieldLink RX1 21 "InkPress$Marks" "dy" "[I") (by decide +kernel)) (fun _ h9 => h9) rfl dX1_add_31 ?_
  refine lv_aload_n (pc := 34) hx hb dX1_add_34 rfl (lv_at hl 0 rfl) ?_
  refine va_get (ci := 1) (C := RX1) (T := TX1) (N := 12) (pc := 35) hx hb hts hiX1 hown hK hP 11 w11 rfl 4 (by decide) (hts (.fieldLink RX1 28 "InkPress$Marks" "count" "I") (by decide +kernel)) (fun _ h9 => h9) rfl dX1_add_35 ?_
  refine lv_iload (pc := 38) hx hb dX1_add_38 (lv_at hl 4 rfl) ?_
  refine mx_iast (x := v) (pc := 40) hx hb hK hP hD hS 15 w15 (mn) (by omega) (by decide) dX1_add_40 (fun H locs G hP hD hS w15 ho => ?_)
  have w11 := (ho 11 (by decide)).trans w11
  have w12 := (ho 12 (by decide)).trans w12
  have w13 := (ho 13 (by decide)).trans w13
  have w14 := (ho 14 (by decide)).trans w14
  have w15 : G[15]? = some (a 15, .inl (cI, 8, .inl (upd (mdy) (mn) (v)))) := w15
  have hk := gk_step hk ho (by decide)
  clear ho
  refine lv_aload_n (pc := 41) hx hb dX1_add_41 rfl (lv_at hl 0 rfl) ?_
  refine lv_dup (pc := 42) hx hb dX1_add_42 rfl ?_
  refine va_get (ci := 1) (C := RX1) (T := TX1) (N := 12) (pc := 43) hx hb hts hiX1 hown hK hP 11 w11 rfl 4 (by decide) (hts (.fieldLink RX1 28 "InkPress$Marks" "count" "I") (by decide +kernel)) (fun _ h9 => h9) rfl dX1_add_43 ?_
  refine lv_iconst (v := nI (1)) (pc := 46) hx hb dX1_add_46 (by decide) ?_
  refine mx_iadd (pc := 47) hx hb dX1_add_47 ?_
  refine mx_put (ci := 1) (v := .int (nI (mn + 1))) (ty := .int) (C := RX1) (T := TX1) (N := 12) (pc := 48) hx hb hts hiX1 tyX1 tyX1_ok nmX1 hown hK hP hD hS 11 w11 rfl 4 (by decide) (hts (.fieldLink RX1 28 "InkPress$Marks" "count" "I") (by decide +kernel)) (fun _ h9 => h9) rfl (by decide +kernel) rfl rfl (Nat.le_of_ble_eq_true rfl) dX1_add_48 (fun H locs G hP hD hS w11 ho => ?_)
  have w12 := (ho 12 (by decide)).trans w12
  have w13 := (ho 13 (by decide)).trans w13
  have w14 := (ho 14 (by decide)).trans w14
  have w15 := (ho 15 (by decide)).trans w15
  have w11 : G[11]? = some (a 11, .inr (1, [.ref (a 12), .ref (a 13), .ref (a 14), .ref (a 15), .int (nI (mn + 1)), .long (m1), .long (m2), .long (m3), .long (m4), .long (m5), .long (m6), .long (m7)])) := w11
  have hk := gk_step hk ho (by decide)
  clear ho
  refine lv_aload_n (pc := 51) hx hb dX1_add_51 rfl (lv_at hl 0 rfl) ?_
  refine lv_dup (pc := 52) hx hb dX1_add_52 rfl ?_
  refine va_get (ci := 1) (C := RX1) (T := TX1) (N := 12) (pc := 53) hx hb hts hiX1 hown hK hP 11 w11 rfl 5 (by decide) (hts (.fieldLink RX1 32 "InkPress$Marks" "sumX" "J") (by decide +kernel)) (fun _ h9 => h9) rfl dX1_add_53 ?_
  refine lv_iload_n (pc := 56) hx hb dX1_add_56 rfl (lv_at hl 1 rfl) ?_
  refine lv_i2l (v := (x).toInt64) (pc := 57) hx hb dX1_add_57 rfl ?_
  refine lv_ladd (pc := 58) hx hb dX1_add_58 ?_
  refine mx_put (ci := 1) (v := .long ((m1 + (x).toInt64))) (ty := .long) (C := RX1) (T := TX1) (N := 12) (pc := 59) hx hb hts hiX1 tyX1 tyX1_ok nmX1 hown hK hP hD hS 11 w11 rfl 5 (by decide) (hts (.fieldLink RX1 32 "InkPress$Marks" "sumX" "J") (by decide +kernel)) (fun _ h9 => h9) rfl (by decide +kernel) rfl rfl (Nat.le_of_ble_eq_true rfl) dX1_add_59 (fun H locs G hP hD hS w11 ho => ?_)
  have w12 := (ho 12 (by decide)).trans w12
  have w13 := (ho 13 (by decide)).trans w13
  have w14 := (ho 14 (by decide)).trans w14
  have w15 := (ho 15 (by decide)).trans w15
  have w11 : G[11]? = some (a 11, .inr (1, [.ref (a 12), .ref (a 13), .ref (a 14), .ref (a 15), .int (nI (mn + 1)), .long ((m1 + (x).toInt64)), .long (m2), .long (m3), .long (m4), .long (m5), .long (m6), .long (m7)])) := w11
  have hk := gk_step hk ho (by decide)
  clear ho
  refine lv_aload_n (pc := 62) hx hb dX1_add_62 rfl (lv_at hl 0 rfl) ?_
  refine lv_dup (pc := 63) hx hb dX1_add_63 rfl ?_
  refine va_get (ci := 1) (C := RX1) (T := TX1) (N := 12) (pc := 64) hx hb hts hiX1 hown hK hP 11 w11 rfl 6 (by decide) (hts (.fieldLink RX1 36 "InkPress$Marks" "sumY" "J") (by decide +kernel)) (fun _ h9 => h9) rfl dX1_add_64 ?_
  refine lv_iload_n (pc := 67) hx hb dX1_add_67 rfl (lv_at hl 2 rfl) ?_
  refine lv_i2l (v := (y).toInt64) (pc := 68) hx hb dX1_add_68 rfl ?_
  refine lv_ladd (pc := 69) hx hb dX1_add_69 ?_
  refine mx_put (ci := 1) (v := .long ((m2 + (y).toInt64))) (ty := .long) (C := RX1) (T := TX1) (N := 12) (pc := 70) hx hb hts hiX1 tyX1 tyX1_ok nmX1 hown hK hP hD hS 11 w11 rfl 6 (by decide) (hts (.fieldLink RX1 36 "InkPress$Marks" "sumY" "J") (by decide +kernel)) (fun _ h9 => h9) rfl (by decide +kernel) rfl rfl (Nat.le_of_ble_eq_true rfl) dX1_add_70 (fun H locs G hP hD hS w11 ho => ?_)
  have w12 := (ho 12 (by decide)).trans w12
  have w13 := (ho 13 (by decide)).trans w13
  have w14 := (ho 14 (by decide)).trans w14
  have w15 := (ho 15 (by decide)).trans w15
  have w11 : G[11]? = some (a 11, .inr (1, [.ref (a 12), .ref (a 13), .ref (a 14), .ref (a 15), .int (nI (mn + 1)), .long ((m1 + (x).toInt64)), .long ((m2 + (y).toInt64)), .long (m3), .long (m4), .long (m5), .long (m6), .long (m7)])) := w11
  have hk := gk_step hk ho (by decide)
  clear ho
  refine lv_aload_n (pc := 73) hx hb dX1_add_73 rfl (lv_at hl 0 rfl) ?_
  refine lv_dup (pc := 74) hx hb dX1_add_74 rfl ?_
  refine va_get (ci := 1) (C := RX1) (T := TX1) (N := 12) (pc := 75) hx hb hts hiX1 hown hK hP 11 w11 rfl 7 (by decide) (hts (.fieldLink RX1 39 "InkPress$Marks" "sumDx" "J") (by decide +kernel)) (fun _ h9 => h9) rfl dX1_add_75 ?_
  refine lv_iload_n (pc := 78) hx hb dX1_add_78 rfl (lv_at hl 3 rfl) ?_
  refine lv_i2l (v := (u).toInt64) (pc := 79) hx hb dX1_add_79 rfl ?_
  refine lv_ladd (pc := 80) hx hb dX1_add_80 ?_
  refine mx_put (ci := 1) (v := .long ((m3 + (u).toInt64))) (ty := .long) (C := RX1) (T := TX1) (N := 12) (pc := 81) hx hb hts hiX1 tyX1 tyX1_ok nmX1 hown hK hP hD hS 11 w11 rfl 7 (by decide) (hts (.fieldLink RX1 39 "InkPress$Marks" "sumDx" "J") (by decide +kernel)) (fun _ h9 => h9) rfl (by decide +kernel) rfl rfl (Nat.le_of_ble_eq_true rfl) dX1_add_81 (fun H locs G hP hD hS w11 ho => ?_)
  have w12 := (ho 12 (by decide)).trans w12
  have w13 := (ho 13 (by decide)).trans w13
  have w14 := (ho 14 (by decide)).trans w14
  have w15 := (ho 15 (by decide)).trans w15
  have w11 : G[11]? = some (a 11, .inr (1, [.ref (a 12), .ref (a 13), .ref (a 14), .ref (a 15), .int (nI (mn + 1)), .long ((m1 + (x).toInt64)), .long ((m2 + (y).toInt64)), .long ((m3 + (u).toInt64)), .long (m4), .long (m5), .long (m6), .long (m7)])) := w11
  have hk := gk_step hk ho (by decide)
  clear ho
  refine lv_aload_n (pc := 84) hx hb dX1_add_84 rfl (lv_at hl 0 rfl) ?_
  refine lv_dup (pc := 85) hx hb dX1_add_85 rfl ?_
  refine va_get (ci := 1) (C := RX1) (T := TX1) (N := 12) (pc := 86) hx hb hts hiX1 hown hK hP 11 w11 rfl 8 (by decide) (hts (.fieldLink RX1 42 "InkPress$Marks" "sumDy" "J") (by decide +kernel)) (fun _ h9 => h9) rfl dX1_add_86 ?_
  refine lv_iload (pc := 89) hx hb dX1_add_89 (lv_at hl 4 rfl) ?_
  refine lv_i2l (v := (v).toInt64) (pc := 91) hx hb dX1_add_91 rfl ?_
  refine lv_ladd (pc := 92) hx hb dX1_add_92 ?_
  refine mx_put (ci := 1) (v := .long ((m4 + (v).toInt64))) (ty := .long) (C := RX1) (T := TX1) (N := 12) (pc := 93) hx hb hts hiX1 tyX1 tyX1_ok nmX1 hown hK hP hD hS 11 w11 rfl 8 (by decide) (hts (.fieldLink RX1 42 "InkPress$Marks" "sumDy" "J") (by decide +kernel)) (fun _ h9 => h9) rfl (by decide +kernel) rfl rfl (Nat.le_of_ble_eq_true rfl) dX1_add_93 (fun H locs G hP hD hS w11 ho => ?_)
  have w12 := (ho 12 (by decide)).trans w12
  have w13 := (ho 13 (by decide)).trans w13
  have w14 := (ho 14 (by decide)).trans w14
  have w15 := (ho 15 (by decide)).trans w15
  have w11 : G[11]? = some (a 11, .inr (1, [.ref (a 12), .ref (a 13), .ref (a 14), .ref (a 15), .int (nI (mn + 1)), .long ((m1 + (x).toInt64)), .long ((m2 + (y).toInt64)), .long ((m3 + (u).toInt64)), .long ((m4 + (v).toInt64)), .long (m5), .long (m6), .long (m7)])) := w11
  have hk := gk_step hk ho (by decide)
  clear ho
  refine lv_aload_n (pc := 96) hx hb dX1_add_96 rfl (lv_at hl 0 rfl) ?_
  refine lv_dup (pc := 97) hx hb dX1_add_97 rfl ?_
  refine va_get (ci := 1) (C := RX1) (T := TX1) (N := 12) (pc := 98) hx hb hts hiX1 hown hK hP 11 w11 rfl 9 (by decide) (hts (.fieldLink RX1 45 "InkPress$Marks" "sumSquares" "J") (by decide +kernel)) (fun _ h9 => h9) rfl dX1_add_98 ?_
  refine lv_iload_n (pc := 101) hx hb dX1_add_101 rfl (lv_at hl 1 rfl) ?_
  refine lv_iload_n (pc := 102) hx hb dX1_add_102 rfl (lv_at hl 1 rfl) ?_
  refine lv_imul (pc := 103) hx hb dX1_add_103 ?_
  refine lv_iload_n (pc := 104) hx hb dX1_add_104 rfl (lv_at hl 2 rfl) ?_
  refine lv_iload_n (pc := 105) hx hb dX1_add_105 rfl (lv_at hl 2 rfl) ?_
  refine lv_imul (pc := 106) hx hb dX1_add_106 ?_
  refine lv_iadd (pc := 107) hx hb dX1_add_107 ?_
  refine lv_i2l (v := (((x * x) + (y * y))).toInt64) (pc := 108) hx hb dX1_add_108 rfl ?_
  refine lv_ladd (pc := 109) hx hb dX1_add_109 ?_
  refine mx_put (ci := 1) (v := .long ((m5 + (((x * x) + (y * y))).toInt64))) (ty := .long) (C := RX1) (T := TX1) (N := 12) (pc := 110) hx hb hts hiX1 tyX1 tyX1_ok nmX1 hown hK hP hD hS 11 w11 rfl 9 (by decide) (hts (.fieldLink RX1 45 "InkPress$Marks" "sumSquares" "J") (by decide +kernel)) (fun _ h9 => h9) rfl (by decide +kernel) rfl rfl (Nat.le_of_ble_eq_true rfl) dX1_add_110 (fun H locs G hP hD hS w11 ho => ?_)
  have w12 := (ho 12 (by decide)).trans w12
  have w13 := (ho 13 (by decide)).trans w13
  have w14 := (ho 14 (by decide)).trans w14
  have w15 := (ho 15 (by decide)).trans w15
  have w11 : G[11]? = some (a 11, .inr (1, [.ref (a 12), .ref (a 13), .ref (a 14), .ref (a 15), .int (nI (mn + 1)), .long ((m1 + (x).toInt64)), .long ((m2 + (y).toInt64)), .long ((m3 + (u).toInt64)), .long ((m4 + (v).toInt64)), .long ((m5 + (((x * x) + (y * y))).toInt64)), .long (m6), .long (m7)])) := w11
  have hk := gk_step hk ho (by decide)
  clear ho
  refine lv_aload_n (pc := 113) hx hb dX1_add_113 rfl (lv_at hl 0 rfl) ?_
  refine lv_dup (pc := 114) hx hb dX1_add_114 rfl ?_
  refine va_get (ci := 1) (C := RX1) (T := TX1) (N := 12) (pc := 115) hx hb hts hiX1 hown hK hP 11 w11 rfl 10 (by decide) (hts (.fieldLink RX1 48 "InkPress$Marks" "sumOutward" "J") (by decide +kernel)) (fun _ h9 => h9) rfl dX1_add_115 ?_
  refine lv_iload_n (pc := 118) hx hb dX1_add_118 rfl (lv_at hl 1 rfl) ?_
  refine lv_iload_n (pc := 119) hx hb dX1_add_119 rfl (lv_at hl 3 rfl) ?_
  refine lv_imul (pc := 120) hx hb dX1_add_120 ?_
  refine lv_iload_n (pc := 121) hx hb dX1_add_121 rfl (lv_at hl 2 rfl) ?_
  refine lv_iload (pc := 122) hx hb dX1_add_122 (lv_at hl 4 rfl) ?_
  refine lv_imul (pc := 124) hx hb dX1_add_124 ?_
  refine lv_iadd (pc := 125) hx hb dX1_add_125 ?_
  refine lv_i2l (v := (((x * u) + (y * v))).toInt64) (pc := 126) hx hb dX1_add_126 rfl ?_
  refine lv_ladd (pc := 127) hx hb dX1_add_127 ?_
  refine mx_put (ci := 1) (v := .long ((m6 + (((x * u) + (y * v))).toInt64))) (ty := .long) (C := RX1) (T := TX1) (N := 12) (pc := 128) hx hb hts hiX1 tyX1 tyX1_ok nmX1 hown hK hP hD hS 11 w11 rfl 10 (by decide) (hts (.fieldLink RX1 48 "InkPress$Marks" "sumOutward" "J") (by decide +kernel)) (fun _ h9 => h9) rfl (by decide +kernel) rfl rfl (Nat.le_of_ble_eq_true rfl) dX1_add_128 (fun H locs G hP hD hS w11 ho => ?_)
  have w12 := (ho 12 (by decide)).trans w12
  have w13 := (ho 13 (by decide)).trans w13
  have w14 := (ho 14 (by decide)).trans w14
  have w15 := (ho 15 (by decide)).trans w15
  have w11 : G[11]? = some (a 11, .inr (1, [.ref (a 12), .ref (a 13), .ref (a 14), .ref (a 15), .int (nI (mn + 1)), .long ((m1 + (x).toInt64)), .long ((m2 + (y).toInt64)), .long ((m3 + (u).toInt64)), .long ((m4 + (v).toInt64)), .long ((m5 + (((x * x) + (y * y))).toInt64)), .long ((m6 + (((x * u) + (y * v))).toInt64)), .long (m7)])) := w11
  have hk := gk_step hk ho (by decide)
  clear ho
  refine lv_aload_n (pc := 131) hx hb dX1_add_131 rfl (lv_at hl 0 rfl) ?_
  refine lv_dup (pc := 132) hx hb dX1_add_132 rfl ?_
  refine va_get (ci := 1) (C := RX1) (T := TX1) (N := 12) (pc := 133) hx hb hts hiX1 hown hK hP 11 w11 rfl 11 (by decide) (hts (.fieldLink RX1 51 "InkPress$Marks" "sumAround" "J") (by decide +kernel)) (fun _ h9 => h9) rfl dX1_add_133 ?_
  refine lv_iload_n (pc := 136) hx hb dX1_add_136 rfl (lv_at hl 1 rfl) ?_
  refine lv_iload (pc := 137) hx hb dX1_add_137 (lv_at hl 4 rfl) ?_
  refine lv_imul (pc := 139) hx hb dX1_add_139 ?_
  refine lv_iload_n (pc := 140) hx hb dX1_add_140 rfl (lv_at hl 2 rfl) ?_
  refine lv_iload_n (pc := 141) hx hb dX1_add_141 rfl (lv_at hl 3 rfl) ?_
  refine lv_imul (pc := 142) hx hb dX1_add_142 ?_
  refine lv_isub (pc := 143) hx hb dX1_add_143 ?_
  refine lv_i2l (v := (((x * v) - (y * u))).toInt64) (pc := 144) hx hb dX1_add_144 rfl ?_
  refine lv_ladd (pc := 145) hx hb dX1_add_145 ?_
  refine mx_put (ci := 1) (v := .long ((m7 + (((x * v) - (y * u))).toInt64))) (ty := .long) (C := RX1) (T := TX1) (N := 12) (pc := 146) hx hb hts hiX1 tyX1 tyX1_ok nmX1 hown hK hP hD hS 11 w11 rfl 11 (by decide) (hts (.fieldLink RX1 51 "InkPress$Marks" "sumAround" "J") (by decide +kernel)) (fun _ h9 => h9) rfl (by decide +kernel) rfl rfl (Nat.le_of_ble_eq_true rfl) dX1_add_146 (fun H locs G hP hD hS w11 ho => ?_)
  have w12 := (ho 12 (by decide)).trans w12
  have w13 := (ho 13 (by decide)).trans w13
  have w14 := (ho 14 (by decide)).trans w14
  have w15 := (ho 15 (by decide)).trans w15
  have w11 : G[11]? = some (a 11, .inr (1, [.ref (a 12), .ref (a 13), .ref (a 14), .ref (a 15), .int (nI (mn + 1)), .long ((m1 + (x).toInt64)), .long ((m2 + (y).toInt64)), .long ((m3 + (u).toInt64)), .long ((m4 + (v).toInt64)), .long ((m5 + (((x * x) + (y * y))).toInt64)), .long ((m6 + (((x * u) + (y * v))).toInt64)), .long ((m7 + (((x * v) - (y * u))).toInt64))])) := w11
  have hk := gk_step hk ho (by decide)
  clear ho
  refine lv_aload_n (pc := 149) hx hb dX1_add_149 rfl (lv_at hl 0 rfl) ?_
  refine va_get (ci := 1) (C := RX1) (T := TX1) (N := 12) (pc := 150) hx hb hts hiX1 hown hK hP 11 w11 rfl 4 (by decide) (hts (.fieldLink RX1 28 "InkPress$Marks" "count" "I") (by decide +kernel)) (fun _ h9 => h9) rfl dX1_add_150 ?_
  exact hret _ _ _ _ _ _ hP hD hS rfl ⟨w11, w12, w13, w14, w15, hk⟩ dX1_add_153
set_option maxHeartbeats 4000000 in
set_option maxRecDepth 100000 in
theorem k_X1_removeAll {l : Launch} {D : va_G} {cI cZ : ClassId} {A : Nat → Prop} {g a : Nat → Nat} {G0 : va_W} {mx : Nat → Int32} {my : Nat → Int32} {mdx : Nat → Int32} {mdy : Nat → Int32} {mn : Nat} {m1 : Int64} {m2 : Int64} {m3 : Int64} {m4 : Int64} {m5 : Int64} {m6 : Int64} {m7 : Int64} (hD : va_D A G0) (w11 : G0[11]? = some (a 11, .inr (1, [.ref (a 12), .ref (a 13), .ref (a 14), .ref (a 15), .int (nI (mn)), .long (m1), .long (m2), .long (m3), .long (m4), .long (m5), .long (m6), .long (m7)]))) (w12 : G0[12]? = some (a 12, .inl (cI, 8, .inl (mx)))) (w13 : G0[13]? = some (a 13, .inl (cI, 8, .inl (my)))) (w14 : G0[14]? = some (a 14, .inl (cI, 8, .inl (mdx)))) (w15 : G0[15]? = some (a 15, .inl (cI, 8, .inl (mdy)))) : gMi l D cI cZ A g yX1_removeAll wsX1_removeAll ({ frames := 0, cells := 0, slots := 0, locals := 0 }) [.ref (a 11)] G0 (nI (mn)) (fun G1 => G1[11]? = some (a 11, .inr (1, [.ref (a 12), .ref (a 13), .ref (a 14), .ref (a 15), .int (nI (0)), .long (0), .long (0), .long (0), .long (0), .long (0), .long (0), .long (0)])) ∧ ∀ k, k ∉ [11] → G1[k]? = G0[k]?) := by
  refine gof_i (cc := cX1_removeAll) (maxL := 2) (by decide) rfl (Nat.le_of_ble_eq_true rfl) hD ?_
  intro p e s m args below meth c Q hx hb hml hts hown hK hN hZ hP hS hret ls hl
  have hown : s.vm.findClass RX1 = some m.cls := hown
  have hl : lv_has ls 2 [(0, .ref (a 11))] := hl
  obtain ⟨locs, elocs⟩ : ∃ q : List Loc, q = [] := ⟨_, rfl⟩
  rw [← elocs] at hS ⊢
  obtain ⟨H, eH⟩ : ∃ q : Heap, q = s.heap := ⟨_, rfl⟩
  have hP : va_P D vwCl G0 H := eH ▸ hP
  have hS : va_S A s.heap H locs := by rw [eH]; exact hS
  rw [← eH]
  clear elocs eH
  have hiX1 : ∀ w ∈ u_ws RX1 TX1 12, w ∈ wsX1_removeAll := by decide +kernel
  have hk : ∀ k, k ∉ [11] → G0[k]? = G0[k]? := fun _ _ => rfl
  refine lv_aload_n (pc := 0) hx hb dX1_removeAll_0 rfl (lv_at hl 0 rfl) ?_
  refine va_get (ci := 1) (C := RX1) (T := TX1) (N := 12) (pc := 1) hx hb hts hiX1 hown hK hP 11 w11 rfl 4 (by decide) (hts (.fieldLink RX1 28 "InkPress$Marks" "count" "I") (by decide +kernel)) (fun _ h9 => h9) rfl dX1_removeAll_1 ?_
  refine lv_istore_n (lv' := [(1, .int (nI (mn))), (0, .ref (a 11))]) (pc := 4) hx hb dX1_removeAll_4 rfl hl (by decide) rfl (fun ls hl => ?_)
  refine lv_aload_n (pc := 5) hx hb dX1_removeAll_5 rfl (lv_at hl 1 rfl) ?_
  refine lv_iconst (v := nI (0)) (pc := 6) hx hb dX1_removeAll_6 (by decide) ?_
  refine mx_put (ci := 1) (v := .int (nI (0))) (ty := .int) (C := RX1) (T := TX1) (N := 12) (pc := 7) hx hb hts hiX1 tyX1 tyX1_ok nmX1 hown hK hP hD hS 11 w11 rfl 4 (by decide) (hts (.fieldLink RX1 28 "InkPress$Marks" "count" "I") (by decide +kernel)) (fun _ h9 => h9) rfl (by decide +kernel) rfl rfl (Nat.le_of_ble_eq_true rfl) dX1_removeAll_7 (fun H locs G hP hD hS w11 ho => ?_)
  have w12 := (ho 12 (by decide)).trans w12
  have w13 := (ho 13 (by decide)).trans w13
  have w14 := (ho 14 (by decide)).trans w14
  have w15 := (ho 15 (by decide)).trans w15
  have w11 : G[11]? = some (a 11, .inr (1, [.ref (a 12), .ref (a 13), .ref (a 14), .ref (a 15), .int (nI (0)), .long (m1), .long (m2), .long (m3), .long (m4), .long (m5), .long (m6), .long (m7)])) := w11
  have hk := gk_step hk ho (by decide)
  clear ho
  refine lv_aload_n (pc := 10) hx hb dX1_removeAll_10 rfl (lv_at hl 1 rfl) ?_
  refine lv_lconst (v := 0) (pc := 11) hx hb dX1_removeAll_11 (by decide) ?_
  refine mx_put (ci := 1) (v := .long (0)) (ty := .long) (C := RX1) (T := TX1) (N := 12) (pc := 12) hx hb hts hiX1 tyX1 tyX1_ok nmX1 hown hK hP hD hS 11 w11 rfl 5 (by decide) (hts (.fieldLink RX1 32 "InkPress$Marks" "sumX" "J") (by decide +kernel)) (fun _ h9 => h9) rfl (by decide +kernel) rfl rfl (Nat.le_of_ble_eq_true rfl) dX1_removeAll_12 (fun H locs G hP hD hS w11 ho => ?_)
  have w12 := (ho 12 (by decide)).trans w12
  have w13 := (ho 13 (by decide)).trans w13
  have w14 := (ho 14 (by decide)).trans w14
  have w15 := (ho 15 (by decide)).trans w15
  have w11 : G[11]? = some (a 11, .inr (1, [.ref (a 12), .ref (a 13), .ref (a 14), .ref (a 15), .int (nI (0)), .long (0), .long (m2), .long (m3), .long (m4), .long (m5), .long (m6), .long (m7)])) := w11
  have hk := gk_step hk ho (by decide)
  clear ho
  refine lv_aload_n (pc := 15) hx hb dX1_removeAll_15 rfl (lv_at hl 1 rfl) ?_
  refine lv_lconst (v := 0) (pc := 16) hx hb dX1_removeAll_16 (by decide) ?_
  refine mx_put (ci := 1) (v := .long (0)) (ty := .long) (C := RX1) (T := TX1) (N := 12) (pc := 17) hx hb hts hiX1 tyX1 tyX1_ok nmX1 hown hK hP hD hS 11 w11 rfl 6 (by decide) (hts (.fieldLink RX1 36 "InkPress$Marks" "sumY" "J") (by decide +kernel)) (fun _ h9 => h9) rfl (by decide +kernel) rfl rfl (Nat.le_of_ble_eq_true rfl) dX1_removeAll_17 (fun H locs G hP hD hS w11 ho => ?_)
  have w12 := (ho 12 (by decide)).trans w12
  have w13 := (ho 13 (by decide)).trans w13
  have w14 := (ho 14 (by decide)).trans w14
  have w15 := (ho 15 (by decide)).trans w15
  have w11 : G[11]? = some (a 11, .inr (1, [.ref (a 12), .ref (a 13), .ref (a 14), .ref (a 15), .int (nI (0)), .long (0), .long (0), .long (m3), .long (m4), .long (m5), .long (m6), .long (m7)])) := w11
  have hk := gk_step hk ho (by decide)
  clear ho
  refine lv_aload_n (pc := 20) hx hb dX1_removeAll_20 rfl (lv_at hl 1 rfl) ?_
  refine lv_lconst (v := 0) (pc := 21) hx hb dX1_removeAll_21 (by decide) ?_
  refine mx_put (ci := 1) (v := .long (0)) (ty := .long) (C := RX1) (T := TX1) (N := 12) (pc := 22) hx hb hts hiX1 tyX1 tyX1_ok nmX1 hown hK hP hD hS 11 w11 rfl 7 (by decide) (hts (.fieldLink RX1 39 "InkPress$Marks" "sumDx" "J") (by decide +kernel)) (fun _ h9 => h9) rfl (by decide +kernel) rfl rfl (Nat.le_of_ble_eq_true rfl) dX1_removeAll_22 (fun H locs G hP hD hS w11 ho => ?_)
  have w12 := (ho 12 (by decide)).trans w12
  have w13 := (ho 13 (by decide)).trans w13
  have w14 := (ho 14 (by decide)).trans w14
  have w15 := (ho 15 (by decide)).trans w15
  have w11 : G[11]? = some (a 11, .inr (1, [.ref (a 12), .ref (a 13), .ref (a 14), .ref (a 15), .int (nI (0)), .long (0), .long (0), .long (0), .long (m4), .long (m5), .long (m6), .long (m7)])) := w11
  have hk := gk_step hk ho (by decide)
  clear ho
  refine lv_aload_n (pc := 25) hx hb dX1_removeAll_25 rfl (lv_at hl 1 rfl) ?_
  refine lv_lconst (v := 0) (pc := 26) hx hb dX1_removeAll_26 (by decide) ?_
  refine mx_put (ci := 1) (v := .long (0)) (ty := .long) (C := RX1) (T := TX1) (N := 12) (pc := 27) hx hb hts hiX1 tyX1 tyX1_ok nmX1 hown hK hP hD hS 11 w11 rfl 8 (by decide) (hts (.fieldLink RX1 42 "InkPress$Marks" "sumDy" "J") (by decide +kernel)) (fun _ h9 => h9) rfl (by decide +kernel) rfl rfl (Nat.le_of_ble_eq_true rfl) dX1_removeAll_27 (fun H locs G hP hD hS w11 ho => ?_)
  have w12 := (ho 12 (by decide)).trans w12
  have w13 := (ho 13 (by decide)).trans w13
  have w14 := (ho 14 (by decide)).trans w14
  have w15 := (ho 15 (by decide)).trans w15
  have w11 : G[11]? = some (a 11, .inr (1, [.ref (a 12), .ref (a 13), .ref (a 14), .ref (a 15), .int (nI (0)), .long (0), .long (0), .long (0), .long (0), .long (m5), .long (m6), .long (m7)])) := w11
  have hk := gk_step hk ho (by decide)
  clear ho
  refine lv_aload_n (pc := 30) hx hb dX1_removeAll_30 rfl (lv_at hl 1 rfl) ?_
  refine lv_lconst (v := 0) (pc := 31) hx hb dX1_removeAll_31 (by decide) ?_
  refine mx_put (ci := 1) (v := .long (0)) (ty := .long) (C := RX1) (T := TX1) (N := 12) (pc := 32) hx hb hts hiX1 tyX1 tyX1_ok nmX1 hown hK hP hD hS 11 w11 rfl 9 (by decide) (hts (.fieldLink RX1 45 "InkPress$Marks" "sumSquares" "J") (by decide +kernel)) (fun _ h9 => h9) rfl (by decide +kernel) rfl rfl (Nat.le_of_ble_eq_true rfl) dX1_removeAll_32 (fun H locs G hP hD hS w11 ho => ?_)
  have w12 := (ho 12 (by decide)).trans w12
  have w13 := (ho 13 (by decide)).trans w13
  have w14 := (ho 14 (by decide)).trans w14
  have w15 := (ho 15 (by decide)).trans w15
  have w11 : G[11]? = some (a 11, .inr (1, [.ref (a 12), .ref (a 13), .ref (a 14), .ref (a 15), .int (nI (0)), .long (0), .long (0), .long (0), .long (0), .long (0), .long (m6), .long (m7)])) := w11
  have hk := gk_step hk ho (by decide)
  clear ho
  refine lv_aload_n (pc := 35) hx hb dX1_removeAll_35 rfl (lv_at hl 1 rfl) ?_
  refine lv_lconst (v := 0) (pc := 36) hx hb dX1_removeAll_36 (by decide) ?_
  refine mx_put (ci := 1) (v := .long (0)) (ty := .long) (C := RX1) (T := TX1) (N := 12) (pc := 37) hx hb hts hiX1 tyX1 tyX1_ok nmX1 hown hK hP hD hS 11 w11 rfl 10 (by decide) (hts (.fieldLink RX1 48 "InkPress$Marks" "sumOutward" "J") (by decide +kernel)) (fun _ h9 => h9) rfl (by decide +kernel) rfl rfl (Nat.le_of_ble_eq_true rfl) dX1_removeAll_37 (fun H locs G hP hD hS w11 ho => ?_)
  have w12 := (ho 12 (by decide)).trans w12
  have w13 := (ho 13 (by decide)).trans w13
  have w14 := (ho 14 (by decide)).trans w14
  have w15 := (ho 15 (by decide)).trans w15
  have w11 : G[11]? = some (a 11, .inr (1, [.ref (a 12), .ref (a 13), .ref (a 14), .ref (a 15), .int (nI (0)), .long (0), .long (0), .long (0), .long (0), .long (0), .long (0), .long (m7)])) := w11
  have hk := gk_step hk ho (by decide)
  clear ho
  refine lv_aload_n (pc := 40) hx hb dX1_removeAll_40 rfl (lv_at hl 1 rfl) ?_
  refine lv_lconst (v := 0) (pc := 41) hx hb dX1_removeAll_41 (by decide) ?_
  refine mx_put (ci := 1) (v := .long (0)) (ty := .long) (C := RX1) (T := TX1) (N := 12) (pc := 42) hx hb hts hiX1 tyX1 tyX1_ok nmX1 hown hK hP hD hS 11 w11 rfl 11 (by decide) (hts (.fieldLink RX1 51 "InkPress$Marks" "sumAround" "J") (by decide +kernel)) (fun _ h9 => h9) rfl (by decide +kernel) rfl rfl (Nat.le_of_ble_eq_true rfl) dX1_removeAll_42 (fun H locs G hP hD hS w11 ho => ?_)
  have w12 := (ho 12 (by decide)).trans w12
  have w13 := (ho 13 (by decide)).trans w13
  have w14 := (ho 14 (by decide)).trans w14
  have w15 := (ho 15 (by decide)).trans w15
  have w11 : G[11]? = some (a 11, .inr (1, [.ref (a 12), .ref (a 13), .ref (a 14), .ref (a 15), .int (nI (0)), .long (0), .long (0), .long (0), .long (0), .long (0), .long (0), .long (0)])) := w11
  have hk := gk_step hk ho (by decide)
  clear ho
  refine lv_iload_n (pc := 45) hx hb dX1_removeAll_45 rfl (lv_at hl 0 rfl) ?_
  exact hret _ _ _ _ _ _ hP hD hS rfl ⟨w11, hk⟩ dX1_removeAll_46
set_option maxHeartbeats 4000000 in
set_option maxRecDepth 100000 in
theorem k_X1_spread {l : Launch} {D : va_G} {cI cZ : ClassId} {A : Nat → Prop} {g a : Nat → Nat} {G0 : va_W} {mx : Nat → Int32} {my : Nat → Int32} {mdx : Nat → Int32} {mdy : Nat → Int32} {mn : Nat} {m1 : Int64} {m2 : Int64} {m3 : Int64} {m4 : Int64} {m5 : Int64} {m6 : Int64} {m7 : Int64} (hD : va_D A G0) (w11 : G0[11]? = some (a 11, .inr (1, [.ref (a 12), .ref (a 13), .ref (a 14), .ref (a 15), .int (nI (mn)), .long (m1), .long (m2), .long (m3), .long (m4), .long (m5), .long (m6), .long (m7)]))) (w12 : G0[12]? = some (a 12, .inl (cI, 8, .inl (mx)))) (w13 : G0[13]? = some (a 13, .inl (cI, 8, .inl (my)))) (w14 : G0[14]? = some (a 14, .inl (cI, 8, .inl (mdx)))) (w15 : G0[15]? = some (a 15, .inl (cI, 8, .inl (mdy)))) : gMl l D cI cZ A g yX1_spread wsX1_spread ({ frames := 0, cells := 0, slots := 0, locals := 0 }) [.ref (a 11)] G0 (gSp mn m1 m2 m3 m4 m5 m6 m7) (fun G1 => G1 = G0) := by
  refine gof_l (cc := cX1_spread) (maxL := 1) (by decide) rfl (Nat.le_of_ble_eq_true rfl) hD ?_
  intro p e s m args below meth c Q hx hb hml hts hown hK hN hZ hP hS hret ls hl
  have hown : s.vm.findClass RX1 = some m.cls := hown
  have hl : lv_has ls 1 [(0, .ref (a 11))] := hl
  obtain ⟨locs, elocs⟩ : ∃ q : List Loc, q = [] := ⟨_, rfl⟩
  rw [← elocs] at hS ⊢
  obtain ⟨H, eH⟩ : ∃ q : Heap, q = s.heap := ⟨_, rfl⟩
  have hP : va_P D vwCl G0 H := eH ▸ hP
  have hS : va_S A s.heap H locs := by rw [eH]; exact hS
  rw [← eH]
  clear elocs eH
  have hiX1 : ∀ w ∈ u_ws RX1 TX1 12, w ∈ wsX1_spread := by decide +kernel
  have hk : ∀ k, k ∉ ([] : List Nat) → G0[k]? = G0[k]? := fun _ _ => rfl
  refine lv_aload_n (pc := 0) hx hb dX1_spread_0 rfl (lv_at hl 0 rfl) ?_
  refine va_get (ci := 1) (C := RX1) (T := TX1) (N := 12) (pc := 1) hx hb hts hiX1 hown hK hP 11 w11 rfl 4 (by decide) (hts (.fieldLink RX1 28 "InkPress$Marks" "count" "I") (by decide +kernel)) (fun _ h9 => h9) rfl dX1_spread_1 ?_
  refine lv_i2l (v := (nI (mn)).toInt64) (pc := 4) hx hb dX1_spread_4 rfl ?_
  refine lv_aload_n (pc := 5) hx hb dX1_spread_5 rfl (lv_at hl 0 rfl) ?_
  refine va_get (ci := 1) (C := RX1) (T := TX1) (N := 12) (pc := 6) hx hb hts hiX1 hown hK hP 11 w11 rfl 9 (by decide) (hts (.fieldLink RX1 45 "InkPress$Marks" "sumSquares" "J") (by decide +kernel)) (fun _ h9 => h9) rfl dX1_spread_6 ?_
  refine lv_lmul (pc := 9) hx hb dX1_spread_9 ?_
  refine lv_aload_n (pc := 10) hx hb dX1_spread_10 rfl (lv_at hl 0 rfl) ?_
  refine va_get (ci := 1) (C := RX1) (T := TX1) (N := 12) (pc := 11) hx hb hts hiX1 hown hK hP 11 w11 rfl 5 (by decide) (hts (.fieldLink RX1 32 "InkPress$Marks" "sumX" "J") (by decide +kernel)) (fun _ h9 => h9) rfl dX1_spread_11 ?_
  refine lv_aload_n (pc := 14) hx hb dX1_spread_14 rfl (lv_at hl 0 rfl) ?_
  refine va_get (ci := 1) (C := RX1) (T := TX1) (N := 12) (pc := 15) hx hb hts hiX1 hown hK hP 11 w11 rfl 5 (by decide) (hts (.fieldLink RX1 32 "InkPress$Marks" "sumX" "J") (by decide +kernel)) (fun _ h9 => h9) rfl dX1_spread_15 ?_
  refine lv_lmul (pc := 18) hx hb dX1_spread_18 ?_
  refine lv_lsub (pc := 19) hx hb dX1_spread_19 ?_
  refine lv_aload_n (pc := 20) hx hb dX1_spread_20 rfl (lv_at hl 0 rfl) ?_
  refine va_get (ci := 1) (C := RX1) (T := TX1) (N := 12) (pc := 21) hx hb hts hiX1 hown hK hP 11 w11 rfl 6 (by decide) (hts (.fieldLink RX1 36 "InkPress$Marks" "sumY" "J") (by decide +kernel)) (fun _ h9 => h9) rfl dX1_spread_21 ?_
  refine lv_aload_n (pc := 24) hx hb dX1_spread_24 rfl (lv_at hl 0 rfl) ?_
  refine va_get (ci := 1) (C := RX1) (T := TX1) (N := 12) (pc := 25) hx hb hts hiX1 hown hK hP 11 w11 rfl 6 (by decide) (hts (.fieldLink RX1 36 "InkPress$Marks" "sumY" "J") (by decide +kernel)) (fun _ h9 => h9) rfl dX1_spread_25 ?_
  refine lv_lmul (pc := 28) hx hb dX1_spread_28 ?_
  refine lv_lsub (pc := 29) hx hb dX1_spread_29 ?_
  exact hret _ _ _ _ _ _ hP hD hS rfl rfl dX1_spread_30
set_option maxHeartbeats 4000000 in
set_option maxRecDepth 100000 in
theorem k_X1_stretch {l : Launch} {D : va_G} {cI cZ : ClassId} {A : Nat → Prop} {g a : Nat → Nat} {G0 : va_W} {mx : Nat → Int32} {my : Nat → Int32} {mdx : Nat → Int32} {mdy : Nat → Int32} {mn : Nat} {m1 : Int64} {m2 : Int64} {m3 : Int64} {m4 : Int64} {m5 : Int64} {m6 : Int64} {m7 : Int64} (hD : va_D A G0) (w11 : G0[11]? = some (a 11, .inr (1, [.ref (a 12), .ref (a 13), .ref (a 14), .ref (a 15), .int (nI (mn)), .long (m1), .long (m2), .long (m3), .long (m4), .long (m5), .long (m6), .long (m7)]))) (w12 : G0[12]? = some (a 12, .inl (cI, 8, .inl (mx)))) (w13 : G0[13]? = some (a 13, .inl (cI, 8, .inl (my)))) (w14 : G0[14]? = some (a 14, .inl (cI, 8, .inl (mdx)))) (w15 : G0[15]? = some (a 15, .inl (cI, 8, .inl (mdy)))) : gMl l D cI cZ A g yX1_stretch wsX1_stretch ({ frames := 0, cells := 0, slots := 0, locals := 0 }) [.ref (a 11)] G0 (gStr mn m1 m2 m3 m4 m5 m6 m7) (fun G1 => G1 = G0) := by
  refine gof_l (cc := cX1_stretch) (maxL := 1) (by decide) rfl (Nat.le_of_ble_eq_true rfl) hD ?_
  intro p e s m args below meth c Q hx hb hml hts hown hK hN hZ hP hS hret ls hl
  have hown : s.vm.findClass RX1 = some m.cls := hown
  have hl : lv_has ls 1 [(0, .ref (a 11))] := hl
  obtain ⟨locs, elocs⟩ : ∃ q : List Loc, q = [] := ⟨_, rfl⟩
  rw [← elocs] at hS ⊢
  obtain ⟨H, eH⟩ : ∃ q : Heap, q = s.heap := ⟨_, rfl⟩
  have hP : va_P D vwCl G0 H := eH ▸ hP
  have hS : va_S A s.heap H locs := by rw [eH]; exact hS
  rw [← eH]
  clear elocs eH
  have hiX1 : ∀ w ∈ u_ws RX1 TX1 12, w ∈ wsX1_stretch := by decide +kernel
  have hk : ∀ k, k ∉ ([] : List Nat) → G0[k]? = G0[k]? := fun _ _ => rfl
  refine lv_aload_n (pc := 0) hx hb dX1_stretch_0 rfl (lv_at hl 0 rfl) ?_
  refine va_get (ci := 1) (C := RX1) (T := TX1) (N := 12) (pc := 1) hx hb hts hiX1 hown hK hP 11 w11 rfl 4 (by decide) (hts (.fieldLink RX1 28 "InkPress$Marks" "count" "I") (by decide +kernel)) (fun _ h9 => h9) rfl dX1_stretch_1 ?_
  refine lv_i2l (v := (nI (mn)).toInt64) (pc := 4) hx hb dX1_stretch_4 rfl ?_
  refine lv_aload_n (pc := 5) hx hb dX1_stretch_5 rfl (lv_at hl 0 rfl) ?_
  refine va_get (ci := 1) (C := RX1) (T := TX1) (N := 12) (pc := 6) hx hb hts hiX1 hown hK hP 11 w11 rfl 10 (by decide) (hts (.fieldLink RX1 48 "InkPress$Marks" "sumOutward" "J") (by decide +kernel)) (fun _ h9 => h9) rfl dX1_stretch_6 ?_
  refine lv_lmul (pc := 9) hx hb dX1_stretch_9 ?_
  refine lv_aload_n (pc := 10) hx hb dX1_stretch_10 rfl (lv_at hl 0 rfl) ?_
  refine va_get (ci := 1) (C := RX1) (T := TX1) (N := 12) (pc := 11) hx hb hts hiX1 hown hK hP 11 w11 rfl 5 (by decide) (hts (.fieldLink RX1 32 "InkPress$Marks" "sumX" "J") (by decide +kernel)) (fun _ h9 => h9) rfl dX1_stretch_11 ?_
  refine lv_aload_n (pc := 14) hx hb dX1_stretch_14 rfl (lv_at hl 0 rfl) ?_
  refine va_get (ci := 1) (C := RX1) (T := TX1) (N := 12) (pc := 15) hx hb hts hiX1 hown hK hP 11 w11 rfl 7 (by decide) (hts (.fieldLink RX1 39 "InkPress$Marks" "sumDx" "J") (by decide +kernel)) (fun _ h9 => h9) rfl dX1_stretch_15 ?_
  refine lv_lmul (pc := 18) hx hb dX1_stretch_18 ?_
  refine lv_lsub (pc := 19) hx hb dX1_stretch_19 ?_
  refine lv_aload_n (pc := 20) hx hb dX1_stretch_20 rfl (lv_at hl 0 rfl) ?_
  refine va_get (ci := 1) (C := RX1) (T := TX1) (N := 12) (pc := 21) hx hb hts hiX1 hown hK hP 11 w11 rfl 6 (by decide) (hts (.fieldLink RX1 36 "InkPress$Marks" "sumY" "J") (by decide +kernel)) (fun _ h9 => h9) rfl dX1_stretch_21 ?_
  refine lv_aload_n (pc := 24) hx hb dX1_stretch_24 rfl (lv_at hl 0 rfl) ?_
  refine va_get (ci := 1) (C := RX1) (T := TX1) (N := 12) (pc := 25) hx hb hts hiX1 hown hK hP 11 w11 rfl 8 (by decide) (hts (.fieldLink RX1 42 "InkPress$Marks" "sumDy" "J") (by decide +kernel)) (fun _ h9 => h9) rfl dX1_stretch_25 ?_
  refine lv_lmul (pc := 28) hx hb dX1_stretch_28 ?_
  refine lv_lsub (pc := 29) hx hb dX1_stretch_29 ?_
  exact hret _ _ _ _ _ _ hP hD hS rfl rfl dX1_stretch_30
set_option maxHeartbeats 4000000 in
set_option maxRecDepth 100000 in
theorem k_X1_turn {l : Launch} {D : va_G} {cI cZ : ClassId} {A : Nat → Prop} {g a : Nat → Nat} {G0 : va_W} {mx : Nat → Int32} {my : Nat → Int32} {mdx : Nat → Int32} {mdy : Nat → Int32} {mn : Nat} {m1 : Int64} {m2 : Int64} {m3 : Int64} {m4 : Int64} {m5 : Int64} {m6 : Int64} {m7 : Int64} (hD : va_D A G0) (w11 : G0[11]? = some (a 11, .inr (1, [.ref (a 12), .ref (a 13), .ref (a 14), .ref (a 15), .int (nI (mn)), .long (m1), .long (m2), .long (m3), .long (m4), .long (m5), .long (m6), .long (m7)]))) (w12 : G0[12]? = some (a 12, .inl (cI, 8, .inl (mx)))) (w13 : G0[13]? = some (a 13, .inl (cI, 8, .inl (my)))) (w14 : G0[14]? = some (a 14, .inl (cI, 8, .inl (mdx)))) (w15 : G0[15]? = some (a 15, .inl (cI, 8, .inl (mdy)))) : gMl l D cI cZ A g yX1_turn wsX1_turn ({ frames := 0, cells := 0, slots := 0, locals := 0 }) [.ref (a 11)] G0 (gTu mn m1 m2 m3 m4 m5 m6 m7) (fun G1 => G1 = G0) := by
  refine gof_l (cc := cX1_turn) (maxL := 1) (by decide) rfl (Nat.le_of_ble_eq_true rfl) hD ?_
  intro p e s m args below meth c Q hx hb hml hts hown hK hN hZ hP hS hret ls hl
  have hown : s.vm.findClass RX1 = some m.cls := hown
  have hl : lv_has ls 1 [(0, .ref (a 11))] := hl
  obtain ⟨locs, elocs⟩ : ∃ q : List Loc, q = [] := ⟨_, rfl⟩
  rw [← elocs] at hS ⊢
  obtain ⟨H, eH⟩ : ∃ q : Heap, q = s.heap := ⟨_, rfl⟩
  have hP : va_P D vwCl G0 H := eH ▸ hP
  have hS : va_S A s.heap H locs := by rw [eH]; exact hS
  rw [← eH]
  clear elocs eH
  have hiX1 : ∀ w ∈ u_ws RX1 TX1 12, w ∈ wsX1_turn := by decide +kernel
  have hk : ∀ k, k ∉ ([] : List Nat) → G0[k]? = G0[k]? := fun _ _ => rfl
  refine lv_aload_n (pc := 0) hx hb dX1_turn_0 rfl (lv_at hl 0 rfl) ?_
  refine va_get (ci := 1) (C := RX1) (T := TX1) (N := 12) (pc := 1) hx hb hts hiX1 hown hK hP 11 w11 rfl 4 (by decide) (hts (.fieldLink RX1 28 "InkPress$Marks" "count" "I") (by decide +kernel)) (fun _ h9 => h9) rfl dX1_turn_1 ?_
  refine lv_i2l (v := (nI (mn)).toInt64) (pc := 4) hx hb dX1_turn_4 rfl ?_
  refine lv_aload_n (pc := 5) hx hb dX1_turn_5 rfl (lv_at hl 0 rfl) ?_
  refine va_get (ci := 1) (C := RX1) (T := TX1) (N := 12) (pc := 6) hx hb hts hiX1 hown hK hP 11 w11 rfl 11 (by decide) (hts (.fieldLink RX1 51 "InkPress$Marks" "sumAround" "J") (by decide +kernel)) (fun _ h9 => h9) rfl dX1_turn_6 ?_
  refine lv_lmul (pc := 9) hx hb dX1_turn_9 ?_
  refine lv_aload_n (pc := 10) hx hb dX1_turn_10 rfl (lv_at hl 0 rfl) ?_
  refine va_get (ci := 1) (C := RX1) (T := TX1) (N := 12) (pc := 11) hx hb hts hiX1 hown hK hP 11 w11 rfl 5 (by decide) (hts (.fieldLink RX1 32 "InkPress$Marks" "sumX" "J") (by decide +kernel)) (fun _ h9 => h9) rfl dX1_turn_11 ?_
  refine lv_aload_n (pc := 14) hx hb dX1_turn_14 rfl (lv_at hl 0 rfl) ?_
  refine va_get (ci := 1) (C := RX1) (T := TX1) (N := 12) (pc := 15) hx hb hts hiX1 hown hK hP 11 w11 rfl 8 (by decide) (hts (.fieldLink RX1 42 "InkPress$Marks" "sumDy" "J") (by decide +kernel)) (fun _ h9 => h9) rfl dX1_turn_15 ?_
  refine lv_lmul (pc := 18) hx hb dX1_turn_18 ?_
  refine lv_lsub (pc := 19) hx hb dX1_turn_19 ?_
  refine lv_aload_n (pc := 20) hx hb dX1_turn_20 rfl (lv_at hl 0 rfl) ?_
  refine va_get (ci := 1) (C := RX1) (T := TX1) (N := 12) (pc := 21) hx hb hts hiX1 hown hK hP 11 w11 rfl 6 (by decide) (hts (.fieldLink RX1 36 "InkPress$Marks" "sumY" "J") (by decide +kernel)) (fun _ h9 => h9) rfl dX1_turn_21 ?_
  refine lv_aload_n (pc := 24) hx hb dX1_turn_24 rfl (lv_at hl 0 rfl) ?_
  refine va_get (ci := 1) (C := RX1) (T := TX1) (N := 12) (pc := 25) hx hb hts hiX1 hown hK hP 11 w11 rfl 7 (by decide) (hts (.fieldLink RX1 39 "InkPress$Marks" "sumDx" "J") (by decide +kernel)) (fun _ h9 => h9) rfl dX1_turn_25 ?_
  refine lv_lmul (pc := 28) hx hb dX1_turn_28 ?_
  refine lv_ladd (pc := 29) hx hb dX1_turn_29 ?_
  exact hret _ _ _ _ _ _ hP hD hS rfl rfl dX1_turn_30
set_option maxHeartbeats 4000000 in
set_option maxRecDepth 100000 in
theorem k_X1_across {l : Launch} {D : va_G} {cI cZ : ClassId} {A : Nat → Prop} {g a : Nat → Nat} {G0 : va_W} {mx : Nat → Int32} {my : Nat → Int32} {mdx : Nat → Int32} {mdy : Nat → Int32} {mn : Nat} {m1 : Int64} {m2 : Int64} {m3 : Int64} {m4 : Int64} {m5 : Int64} {m6 : Int64} {m7 : Int64} (hD : va_D A G0) (w11 : G0[11]? = some (a 11, .inr (1, [.ref (a 12), .ref (a 13), .ref (a 14), .ref (a 15), .int (nI (mn)), .long (m1), .long (m2), .long (m3), .long (m4), .long (m5), .long (m6), .long (m7)]))) (w12 : G0[12]? = some (a 12, .inl (cI, 8, .inl (mx)))) (w13 : G0[13]? = some (a 13, .inl (cI, 8, .inl (my)))) (w14 : G0[14]? = some (a 14, .inl (cI, 8, .inl (mdx)))) (w15 : G0[15]? = some (a 15, .inl (cI, 8, .inl (mdy)))) : gMl l D cI cZ A g yX1_across wsX1_across ({ frames := 1, cells := 0, slots := 0, locals := 20 }) [.ref (a 11)] G0 (gAc mn m1 m2 m3 m4 m5 m6 m7) (fun G1 => G1 = G0) := by
  refine gof_l (cc := cX1_across) (maxL := 1) (by decide) rfl (Nat.le_of_ble_eq_true rfl) hD ?_
  intro p e s m args below meth c Q hx hb hml hts hown hK hN hZ hP hS hret ls hl
  have hown : s.vm.findClass RX1 = some m.cls := hown
  have hl : lv_has ls 1 [(0, .ref (a 11))] := hl
  obtain ⟨locs, elocs⟩ : ∃ q : List Loc, q = [] := ⟨_, rfl⟩
  rw [← elocs] at hS ⊢
  obtain ⟨H, eH⟩ : ∃ q : Heap, q = s.heap := ⟨_, rfl⟩
  have hP : va_P D vwCl G0 H := eH ▸ hP
  have hS : va_S A s.heap H locs := by rw [eH]; exact hS
  rw [← eH]
  clear elocs eH
  have hiX1 : ∀ w ∈ u_ws RX1 TX1 12, w ∈ wsX1_across := by decide +kernel
  have hk : ∀ k, k ∉ ([] : List Nat) → G0[k]? = G0[k]? := fun _ _ => rfl
  refine lv_aload_n (pc := 0) hx hb dX1_across_0 rfl (lv_at hl 0 rfl) ?_
  refine va_get (ci := 1) (C := RX1) (T := TX1) (N := 12) (pc := 1) hx hb hts hiX1 hown hK hP 11 w11 rfl 7 (by decide) (hts (.fieldLink RX1 39 "InkPress$Marks" "sumDx" "J") (by decide +kernel)) (fun _ h9 => h9) rfl dX1_across_1 ?_
  refine lv_aload_n (pc := 4) hx hb dX1_across_4 rfl (lv_at hl 0 rfl) ?_
  refine mx_cVl (As := []) (rest := [.long (m3)]) (pc := 5) ⟨hx, hb, hml, hown, hts⟩ (k_X1_spread (a := a) (mx := mx) (my := my) (mdx := mdx) (mdy := mdy) (mn := mn) (m1 := m1) (m2 := m2) (m3 := m3) (m4 := m4) (m5 := m5) (m6 := m6) (m7 := m7) hD w11 w12 w13 w14 w15 ) (cwV 0 hts gX1_across_X1_spread rfl rfl rfl (by decide +kernel) ⟨Nat.le_of_ble_eq_true rfl, Nat.le_of_ble_eq_true rfl⟩) 11 rfl rfl w11 hK hN hZ hP hS rfl hl.1 rfl (Nat.le_of_ble_eq_true rfl) dX1_across_5 ⟨Nat.zero_le _, Nat.zero_le _⟩ (fun G' H locs hP hD hS hB => ?_)
  rw [hB] at hP hD
  clear hB G'
  refine lv_lmul (pc := 8) hx hb dX1_across_8 ?_
  refine lv_aload_n (pc := 9) hx hb dX1_across_9 rfl (lv_at hl 0 rfl) ?_
  refine mx_cVl (As := []) (rest := [.long ((m3 * gSp (mn) (m1) (m2) (m3) (m4) (m5) (m6) (m7)))]) (pc := 10) ⟨hx, hb, hml, hown, hts⟩ (k_X1_stretch (a := a) (mx := mx) (my := my) (mdx := mdx) (mdy := mdy) (mn := mn) (m1 := m1) (m2 := m2) (m3 := m3) (m4 := m4) (m5 := m5) (m6 := m6) (m7 := m7) hD w11 w12 w13 w14 w15 ) (cwV 0 hts gX1_across_X1_stretch rfl rfl rfl (by decide +kernel) ⟨Nat.le_of_ble_eq_true rfl, Nat.le_of_ble_eq_true rfl⟩) 11 rfl rfl w11 hK hN hZ hP hS rfl hl.1 rfl (Nat.le_of_ble_eq_true rfl) dX1_across_10 ⟨Nat.zero_le _, Nat.zero_le _⟩ (fun G' H locs hP hD hS hB => ?_)
  rw [hB] at hP hD
  clear hB G'
  refine lv_aload_n (pc := 13) hx hb dX1_across_13 rfl (lv_at hl 0 rfl) ?_
  refine va_get (ci := 1) (C := RX1) (T := TX1) (N := 12) (pc := 14) hx hb hts hiX1 hown hK hP 11 w11 rfl 5 (by decide) (hts (.fieldLink RX1 32 "InkPress$Marks" "sumX" "J") (by decide +kernel)) (fun _ h9 => h9) rfl dX1_across_14 ?_
  refine lv_lmul (pc := 17) hx hb dX1_across_17 ?_
  refine lv_lsub (pc := 18) hx hb dX1_across_18 ?_
  refine lv_aload_n (pc := 19) hx hb dX1_across_19 rfl (lv_at hl 0 rfl) ?_
  refine mx_cVl (As := []) (rest := [.long (((m3 * gSp (mn) (m1) (m2) (m3) (m4) (m5) (m6) (m7)) - (gStr (mn) (m1) (m2) (m3) (m4) (m5) (m6) (m7) * m1)))]) (pc := 20) ⟨hx, hb, hml, hown, hts⟩ (k_X1_turn (a := a) (mx := mx) (my := my) (mdx := mdx) (mdy := mdy) (mn := mn) (m1 := m1) (m2 := m2) (m3 := m3) (m4 := m4) (m5 := m5) (m6 := m6) (m7 := m7) hD w11 w12 w13 w14 w15 ) (cwV 0 hts gX1_across_X1_turn rfl rfl rfl (by decide +kernel) ⟨Nat.le_of_ble_eq_true rfl, Nat.le_of_ble_eq_true rfl⟩) 11 rfl rfl w11 hK hN hZ hP hS rfl hl.1 rfl (Nat.le_of_ble_eq_true rfl) dX1_across_20 ⟨Nat.zero_le _, Nat.zero_le _⟩ (fun G' H locs hP hD hS hB => ?_)
  rw [hB] at hP hD
  clear hB G'
  refine lv_aload_n (pc := 23) hx hb dX1_across_23 rfl (lv_at hl 0 rfl) ?_
  refine va_get (ci := 1) (C := RX1) (T := TX1) (N := 12) (pc := 24) hx hb hts hiX1 hown hK hP 11 w11 rfl 6 (by decide) (hts (.fieldLink RX1 36 "InkPress$Marks" "sumY" "J") (by decide +kernel)) (fun _ h9 => h9) rfl dX1_across_24 ?_
  refine lv_lmul (pc := 27) hx hb dX1_across_27 ?_
  refine lv_ladd (pc := 28) hx hb dX1_across_28 ?_
  exact hret _ _ _ _ _ _ hP hD hS rfl rfl dX1_across_29
set_option maxHeartbeats 4000000 in
set_option maxRecDepth 100000 in
theorem k_X1_up {l : Launch} {D : va_G} {cI cZ : ClassId} {A : Nat → Prop} {g a : Nat → Nat} {G0 : va_W} {mx : Nat → Int32} {my : Nat → Int32} {mdx : Nat → Int32} {mdy : Nat → Int32} {mn : Nat} {m1 : Int64} {m2 : Int64} {m3 : Int64} {m4 : Int64} {m5 : Int64} {m6 : Int64} {m7 : Int64} (hD : va_D A G0) (w11 : G0[11]? = some (a 11, .inr (1, [.ref (a 12), .ref (a 13), .ref (a 14), .ref (a 15), .int (nI (mn)), .long (m1), .long (m2), .long (m3), .long (m4), .long (m5), .long (m6), .long (m7)]))) (w12 : G0[12]? = some (a 12, .inl (cI, 8, .inl (mx)))) (w13 : G0[13]? = some (a 13, .inl (cI, 8, .inl (my)))) (w14 : G0[14]? = some (a 14, .inl (cI, 8, .inl (mdx)))) (w15 : G0[15]? = some (a 15, .inl (cI, 8, .inl (mdy)))) : gMl l D cI cZ A g yX1_up wsX1_up ({ frames := 1, cells := 0, slots := 0, locals := 20 }) [.ref (a 11)] G0 (gUp mn m1 m2 m3 m4 m5 m6 m7) (fun G1 => G1 = G0) := by
  refine gof_l (cc := cX1_up) (maxL := 1) (by decide) rfl (Nat.le_of_ble_eq_true rfl) hD ?_
  intro p e s m args below meth c Q hx hb hml hts hown hK hN hZ hP hS hret ls hl
  have hown : s.vm.findClass RX1 = some m.cls := hown
  have hl : lv_has ls 1 [(0, .ref (a 11))] := hl
  obtain ⟨locs, elocs⟩ : ∃ q : List Loc, q = [] := ⟨_, rfl⟩
  rw [← elocs] at hS ⊢
  obtain ⟨H, eH⟩ : ∃ q : Heap, q = s.heap := ⟨_, rfl⟩
  have hP : va_P D vwCl G0 H := eH ▸ hP
  have hS : va_S A s.heap H locs := by rw [eH]; exact hS
  rw [← eH]
  clear elocs eH
  have hiX1 : ∀ w ∈ u_ws RX1 TX1 12, w ∈ wsX1_up := by decide +kernel
  have hk : ∀ k, k ∉ ([] : List Nat) → G0[k]? = G0[k]? := fun _ _ => rfl
  refine lv_aload_n (pc := 0) hx hb dX1_up_0 rfl (lv_at hl 0 rfl) ?_
  refine va_get (ci := 1) (C := RX1) (T := TX1) (N := 12) (pc := 1) hx hb hts hiX1 hown hK hP 11 w11 rfl 8 (by decide) (hts (.fieldLink RX1 42 "InkPress$Marks" "sumDy" "J") (by decide +kernel)) (fun _ h9 => h9) rfl dX1_up_1 ?_
  refine lv_aload_n (pc := 4) hx hb dX1_up_4 rfl (lv_at hl 0 rfl) ?_
  refine mx_cVl (As := []) (rest := [.long (m4)]) (pc := 5) ⟨hx, hb, hml, hown, hts⟩ (k_X1_spread (a := a) (mx := mx) (my := my) (mdx := mdx) (mdy := mdy) (mn := mn) (m1 := m1) (m2 := m2) (m3 := m3) (m4 := m4) (m5 := m5) (m6 := m6) (m7 := m7) hD w11 w12 w13 w14 w15 ) (cwV 0 hts gX1_up_X1_spread rfl rfl rfl (by decide +kernel) ⟨Nat.le_of_ble_eq_true rfl, Nat.le_of_ble_eq_true rfl⟩) 11 rfl rfl w11 hK hN hZ hP hS rfl hl.1 rfl (Nat.le_of_ble_eq_true rfl) dX1_up_5 ⟨Nat.zero_le _, Nat.zero_le _⟩ (fun G' H locs hP hD hS hB => ?_)
  rw [hB] at hP hD
  clear hB G'
  refine lv_lmul (pc := 8) hx hb dX1_up_8 ?_
  refine lv_aload_n (pc := 9) hx hb dX1_up_9 rfl (lv_at hl 0 rfl) ?_
  refine mx_cVl (As := []) (rest := [.long ((m4 * gSp (mn) (m1) (m2) (m3) (m4) (m5) (m6) (m7)))]) (pc := 10) ⟨hx, hb, hml, hown, hts⟩ (k_X1_stretch (a := a) (mx := mx) (my := my) (mdx := mdx) (mdy := mdy) (mn := mn) (m1 := m1) (m2 := m2) (m3 := m3) (m4 := m4) (m5 := m5) (m6 := m6) (m7 := m7) hD w11 w12 w13 w14 w15 ) (cwV 0 hts gX1_up_X1_stretch rfl rfl rfl (by decide +kernel) ⟨Nat.le_of_ble_eq_true rfl, Nat.le_of_ble_eq_true rfl⟩) 11 rfl rfl w11 hK hN hZ hP hS rfl hl.1 rfl (Nat.le_of_ble_eq_true rfl) dX1_up_10 ⟨Nat.zero_le _, Nat.zero_le _⟩ (fun G' H locs hP hD hS hB => ?_)
  rw [hB] at hP hD
  clear hB G'
  refine lv_aload_n (pc := 13) hx hb dX1_up_13 rfl (lv_at hl 0 rfl) ?_
  refine va_get (ci := 1) (C := RX1) (T := TX1) (N := 12) (pc := 14) hx hb hts hiX1 hown hK hP 11 w11 rfl 6 (by decide) (hts (.fieldLink RX1 36 "InkPress$Marks" "sumY" "J") (by decide +kernel)) (fun _ h9 => h9) rfl dX1_up_14 ?_
  refine lv_lmul (pc := 17) hx hb dX1_up_17 ?_
  refine lv_lsub (pc := 18) hx hb dX1_up_18 ?_
  refine lv_aload_n (pc := 19) hx hb dX1_up_19 rfl (lv_at hl 0 rfl) ?_
  refine mx_cVl (As := []) (rest := [.long (((m4 * gSp (mn) (m1) (m2) (m3) (m4) (m5) (m6) (m7)) - (gStr (mn) (m1) (m2) (m3) (m4) (m5) (m6) (m7) * m2)))]) (pc := 20) ⟨hx, hb, hml, hown, hts⟩ (k_X1_turn (a := a) (mx := mx) (my := my) (mdx := mdx) (mdy := mdy) (mn := mn) (m1 := m1) (m2 := m2) (m3 := m3) (m4 := m4) (m5 := m5) (m6 := m6) (m7 := m7) hD w11 w12 w13 w14 w15 ) (cwV 0 hts gX1_up_X1_turn rfl rfl rfl (by decide +kernel) ⟨Nat.le_of_ble_eq_true rfl, Nat.le_of_ble_eq_true rfl⟩) 11 rfl rfl w11 hK hN hZ hP hS rfl hl.1 rfl (Nat.le_of_ble_eq_true rfl) dX1_up_20 ⟨Nat.zero_le _, Nat.zero_le _⟩ (fun G' H locs hP hD hS hB => ?_)
  rw [hB] at hP hD
  clear hB G'
  refine lv_aload_n (pc := 23) hx hb dX1_up_23 rfl (lv_at hl 0 rfl) ?_
  refine va_get (ci := 1) (C := RX1) (T := TX1) (N := 12) (pc := 24) hx hb hts hiX1 hown hK hP 11 w11 rfl 5 (by decide) (hts (.fieldLink RX1 32 "InkPress$Marks" "sumX" "J") (by decide +kernel)) (fun _ h9 => h9) rfl dX1_up_24 ?_
  refine lv_lmul (pc := 27) hx hb dX1_up_27 ?_
  refine lv_lsub (pc := 28) hx hb dX1_up_28 ?_
  exact hret _ _ _ _ _ _ hP hD hS rfl rfl dX1_up_29
set_option maxHeartbeats 4000000 in
set_option maxRecDepth 100000 in
theorem k_X1_isTold {l : Launch} {D : va_G} {cI cZ : ClassId} {A : Nat → Prop} {g a : Nat → Nat} {G0 : va_W} {mx : Nat → Int32} {my : Nat → Int32} {mdx : Nat → Int32} {mdy : Nat → Int32} {mn : Nat} {m1 : Int64} {m2 : Int64} {m3 : Int64} {m4 : Int64} {m5 : Int64} {m6 : Int64} {m7 : Int64} (hD : va_D A G0) (w11 : G0[11]? = some (a 11, .inr (1, [.ref (a 12), .ref (a 13), .ref (a 14), .ref (a 15), .int (nI (mn)), .long (m1), .long (m2), .long (m3), .long (m4), .long (m5), .long (m6), .long (m7)]))) (w12 : G0[12]? = some (a 12, .inl (cI, 8, .inl (mx)))) (w13 : G0[13]? = some (a 13, .inl (cI, 8, .inl (my)))) (w14 : G0[14]? = some (a 14, .inl (cI, 8, .inl (mdx)))) (w15 : G0[15]? = some (a 15, .inl (cI, 8, .inl (mdy)))) : gMi l D cI cZ A g yX1_isTold wsX1_isTold ({ frames := 1, cells := 0, slots := 0, locals := 20 }) [.ref (a 11)] G0 (gB (decide (0 < gSp mn m1 m2 m3 m4 m5 m6 m7))) (fun G1 => G1 = G0) := by
  refine gof_z (cc := cX1_isTold) (maxL := 1) (by decide) rfl (Nat.le_of_ble_eq_true rfl) hD ?_
  intro p e s m args below meth c Q hx hb hml hts hown hK hN hZ hP hS hret ls hl
  have hown : s.vm.findClass RX1 = some m.cls := hown
  have hl : lv_has ls 1 [(0, .ref (a 11))] := hl
  obtain ⟨locs, elocs⟩ : ∃ q : List Loc, q = [] := ⟨_, rfl⟩
  rw [← elocs] at hS ⊢
  obtain ⟨H, eH⟩ : ∃ q : Heap, q = s.heap := ⟨_, rfl⟩
  have hP : va_P D vwCl G0 H := eH ▸ hP
  have hS : va_S A s.heap H locs := by rw [eH]; exact hS
  rw [← eH]
  clear elocs eH
  have hk : ∀ k, k ∉ ([] : List Nat) → G0[k]? = G0[k]? := fun _ _ => rfl
  refine lv_aload_n (pc := 0) hx hb dX1_isTold_0 rfl (lv_at hl 0 rfl) ?_
  refine mx_cVl (As := []) (rest := []) (pc := 1) ⟨hx, hb, hml, hown, hts⟩ (k_X1_spread (a := a) (mx := mx) (my := my) (mdx := mdx) (mdy := mdy) (mn := mn) (m1 := m1) (m2 := m2) (m3 := m3) (m4 := m4) (m5 := m5) (m6 := m6) (m7 := m7) hD w11 w12 w13 w14 w15 ) (cwV 0 hts gX1_isTold_X1_spread rfl rfl rfl (by decide +kernel) ⟨Nat.le_of_ble_eq_true rfl, Nat.le_of_ble_eq_true rfl⟩) 11 rfl rfl w11 hK hN hZ hP hS rfl hl.1 rfl (Nat.le_of_ble_eq_true rfl) dX1_isTold_1 ⟨Nat.zero_le _, Nat.zero_le _⟩ (fun G' H locs hP hD hS hB => ?_)
  rw [hB] at hP hD
  clear hB G'
  refine lv_lconst (v := 0) (pc := 4) hx hb dX1_isTold_4 (by decide) ?_
  refine W.lcmp (pc := 5) hx hb dX1_isTold_5 ?_
  refine lv_if_le (tgt := 13) (pc := 6) hx hb dX1_isTold_6 (by decide) (fun c6 => ?_) (fun c6 => ?_)
  · skip
    have c6 := lg_le.mp c6
    refine lv_iconst (v := nI (0)) (pc := 13) hx hb dX1_isTold_13 (by decide) ?_
    exact hret _ _ _ _ _ _ hP hD hS rfl (by first | exact gDe_f (Int64.not_lt.mpr c6) | exact gDe_t (Int64.not_le.mp c6)) rfl dX1_isTold_14
  · skip
    have c6 := fun z => c6 (lg_le.mpr z)
    refine lv_iconst (v := nI (1)) (pc := 9) hx hb dX1_isTold_9 (by decide) ?_
    refine lv_goto (tgt := 14) (pc := 10) hx hb dX1_isTold_10 (by decide) ?_
    exact hret _ _ _ _ _ _ hP hD hS rfl (by first | exact gDe_f (Int64.not_lt.mpr c6) | exact gDe_t (Int64.not_le.mp c6)) rfl dX1_isTold_14
set_option maxHeartbeats 4000000 in
set_option maxRecDepth 100000 in
theorem k_X1_inThousandths {l : Launch} {D : va_G} {cI cZ : ClassId} {A : Nat → Prop} {g a : Nat → Nat} {G0 : va_W} {mx : Nat → Int32} {my : Nat → Int32} {mdx : Nat → Int32} {mdy : Nat → Int32} {mn : Nat} {m1 : Int64} {m2 : Int64} {m3 : Int64} {m4 : Int64} {m5 : Int64} {m6 : Int64} {m7 : Int64} {u : Int32} {md : Int64} (hD : va_D A G0) (w11 : G0[11]? = some (a 11, .inr (1, [.ref (a 12), .ref (a 13), .ref (a 14), .ref (a 15), .int (nI (mn)), .long (m1), .long (m2), .long (m3), .long (m4), .long (m5), .long (m6), .long (m7)]))) (w12 : G0[12]? = some (a 12, .inl (cI, 8, .inl (mx)))) (w13 : G0[13]? = some (a 13, .inl (cI, 8, .inl (my)))) (w14 : G0[14]? = some (a 14, .inl (cI, 8, .inl (mdx)))) (w15 : G0[15]? = some (a 15, .inl (cI, 8, .inl (mdy)))) : gMi l D cI cZ A g yX1_inThousandths wsX1_inThousandths ({ frames := 1, cells := 0, slots := 0, locals := 20 }) [.ref (a 11), .int (u), .long (md)] G0 (gTh (gSp mn m1 m2 m3 m4 m5 m6 m7 * (nI mn).toInt64) u md) (fun G1 => G1 = G0) := by
  refine gof_i (cc := cX1_inThousandths) (maxL := 6) (by decide) rfl (Nat.le_of_ble_eq_true rfl) hD ?_
  intro p e s m args below meth c Q hx hb hml hts hown hK hN hZ hP hS hret ls hl
  have hown : s.vm.findClass RX1 = some m.cls := hown
  have hl : lv_has ls 6 [(0, .ref (a 11)), (1, .int (u)), (2, .long (md))] := hl
  obtain ⟨locs, elocs⟩ : ∃ q : List Loc, q = [] := ⟨_, rfl⟩
  rw [← elocs] at hS ⊢
  obtain ⟨H, eH⟩ : ∃ q : Heap, q = s.heap := ⟨_, rfl⟩
  have hP : va_P D vwCl G0 H := eH ▸ hP
  have hS : va_S A s.heap H locs := by rw [eH]; exact hS
  rw [← eH]
  clear elocs eH
  have hiX1 : ∀ w ∈ u_ws RX1 TX1 12, w ∈ wsX1_inThousandths := by decide +kernel
  have hk : ∀ k, k ∉ ([] : List Nat) → G0[k]? = G0[k]? := fun _ _ => rfl
  refine lv_aload_n (pc := 0) hx hb dX1_inThousandths_0 rfl (lv_at hl 0 rfl) ?_
  refine mx_cVl (As := []) (rest := []) (pc := 1) ⟨hx, hb, hml, hown, hts⟩ (k_X1_spread (a := a) (mx := mx) (my := my) (mdx := mdx) (mdy := mdy) (mn := mn) (m1 := m1) (m2 := m2) (m3 := m3) (m4 := m4) (m5 := m5) (m6 := m6) (m7 := m7) hD w11 w12 w13 w14 w15 ) (cwV 0 hts gX1_inThousandths_X1_spread rfl rfl rfl (by decide +kernel) ⟨Nat.le_of_ble_eq_true rfl, Nat.le_of_ble_eq_true rfl⟩) 11 rfl rfl w11 hK hN hZ hP hS rfl hl.1 rfl (Nat.le_of_ble_eq_true rfl) dX1_inThousandths_1 ⟨Nat.zero_le _, Nat.zero_le _⟩ (fun G' H locs hP hD hS hB => ?_)
  rw [hB] at hP hD
  clear hB G'
  refine lv_aload_n (pc := 4) hx hb dX1_inThousandths_4 rfl (lv_at hl 0 rfl) ?_
  refine va_get (ci := 1) (C := RX1) (T := TX1) (N := 12) (pc := 5) hx hb hts hiX1 hown hK hP 11 w11 rfl 4 (by decide) (hts (.fieldLink RX1 28 "InkPress$Marks" "count" "I") (by decide +kernel)) (fun _ h9 => h9) rfl dX1_inThousandths_5 ?_
  refine lv_i2l (v := (nI (mn)).toInt64) (pc := 8) hx hb dX1_inThousandths_8 rfl ?_
  refine lv_lmul (pc := 9) hx hb dX1_inThousandths_9 ?_
  refine lv_lstore (lv' := [(4, .long ((gSp (mn) (m1) (m2) (m3) (m4) (m5) (m6) (m7) * (nI (mn)).toInt64))), (0, .ref (a 11)), (1, .int (u)), (2, .long (md))]) (pc := 10) hx hb dX1_inThousandths_10 hl (by decide) rfl (fun ls hl => ?_)
  refine lv_lload (pc := 12) hx hb dX1_inThousandths_12 (lv_at hl 0 rfl) ?_
  refine lv_lconst (v := 0) (pc := 14) hx hb dX1_inThousandths_14 (by decide) ?_
  refine W.lcmp (pc := 15) hx hb dX1_inThousandths_15 ?_
  refine lv_if_le (tgt := 37) (pc := 16) hx hb dX1_inThousandths_16 (by decide) (fun c16 => ?_) (fun c16 => ?_)
  · skip
    have c16 := lg_le.mp c16
    refine lv_iconst (v := nI (0)) (pc := 37) hx hb dX1_inThousandths_37 (by decide) ?_
    exact hret _ _ _ _ _ _ hP hD hS (by first | exact (gTh_0 c16).symm | exact (gTh_1 (Int64.not_le.mp c16)).symm) rfl dX1_inThousandths_38
  · skip
    have c16 := fun z => c16 (lg_le.mpr z)
    refine lv_ldc2 (own := RX1) (v := (1000)) (pc := 19) hx hb hown (hts (.constantLong RX1 74 (1000)) (by decide +kernel)) dX1_inThousandths_19 ?_
    refine lv_iload_n (pc := 22) hx hb dX1_inThousandths_22 rfl (lv_at hl 2 rfl) ?_
    refine lv_i2l (v := (u).toInt64) (pc := 23) hx hb dX1_inThousandths_23 rfl ?_
    refine lv_lload (pc := 24) hx hb dX1_inThousandths_24 (lv_at hl 0 rfl) ?_
    refine lv_lmul (pc := 26) hx hb dX1_inThousandths_26 ?_
    refine lv_lload_n (pc := 27) hx hb dX1_inThousandths_27 rfl (lv_at hl 3 rfl) ?_
    refine lv_lsub (pc := 28) hx hb dX1_inThousandths_28 ?_
    refine lv_lmul (pc := 29) hx hb dX1_inThousandths_29 ?_
    refine lv_lload (pc := 30) hx hb dX1_inThousandths_30 (lv_at hl 0 rfl) ?_
    refine lv_ldiv (pc := 32) hx hb dX1_inThousandths_32 (fun q9 => c16 (by rw [q9]; exact Int64.le_refl _)) ?_
    refine lv_l2i (v := ((((1000) * (((u).toInt64 * (gSp (mn) (m1) (m2) (m3) (m4) (m5) (m6) (m7) * (nI (mn)).toInt64)) - md)) / (gSp (mn) (m1) (m2) (m3) (m4) (m5) (m6) (m7) * (nI (mn)).toInt64))).toInt32) (pc := 33) hx hb dX1_inThousandths_33 rfl ?_
    refine lv_goto (tgt := 38) (pc := 34) hx hb dX1_inThousandths_34 (by decide) ?_
    exact hret _ _ _ _ _ _ hP hD hS (by first | exact (gTh_0 c16).symm | exact (gTh_1 (Int64.not_le.mp c16)).symm) rfl dX1_inThousandths_38
set_option maxHeartbeats 4000000 in
set_option maxRecDepth 100000 in
theorem k_X1_offAcross {l : Launch} {D : va_G} {cI cZ : ClassId} {A : Nat → Prop} {g a : Nat → Nat} {G0 : va_W} {mx : Nat → Int32} {my : Nat → Int32} {mdx : Nat → Int32} {mdy : Nat → Int32} {mn : Nat} {m1 : Int64} {m2 : Int64} {m3 : Int64} {m4 : Int64} {m5 : Int64} {m6 : Int64} {m7 : Int64} {i : Nat} (hD : va_D A G0) (w11 : G0[11]? = some (a 11, .inr (1, [.ref (a 12), .ref (a 13), .ref (a 14), .ref (a 15), .int (nI (mn)), .long (m1), .long (m2), .long (m3), .long (m4), .long (m5), .long (m6), .long (m7)]))) (w12 : G0[12]? = some (a 12, .inl (cI, 8, .inl (mx)))) (w13 : G0[13]? = some (a 13, .inl (cI, 8, .inl (my)))) (w14 : G0[14]? = some (a 14, .inl (cI, 8, .inl (mdx)))) (w15 : G0[15]? = some (a 15, .inl (cI, 8, .inl (mdy)))) (hi : i < 8) : gMi l D cI cZ A g yX1_offAcross wsX1_offAcross ({ frames := 2, cells := 0, slots := 0, locals := 45 }) [.ref (a 11), .int (nI (i))] G0 (gTh (gSp mn m1 m2 m3 m4 m5 m6 m7 * (nI mn).toInt64) (mdx i) ((nI mn).toInt64 * (gStr mn m1 m2 m3 m4 m5 m6 m7 * (mx i).toInt64 - gTu mn m1 m2 m3 m4 m5 m6 m7 * (my i).toInt64) + gAc mn m1 m2 m3 m4 m5 m6 m7)) (fun G1 => G1 = G0) := by
  refine gof_i (cc := cX1_offAcross) (maxL := 4) (by decide) rfl (Nat.le_of_ble_eq_true rfl) hD ?_
  intro p e s m args below meth c Q hx hb hml hts hown hK hN hZ hP hS hret ls hl
  have hown : s.vm.findClass RX1 = some m.cls := hown
  have hl : lv_has ls 4 [(0, .ref (a 11)), (1, .int (nI (i)))] := hl
  obtain ⟨locs, elocs⟩ : ∃ q : List Loc, q = [] := ⟨_, rfl⟩
  rw [← elocs] at hS ⊢
  obtain ⟨H, eH⟩ : ∃ q : Heap, q = s.heap := ⟨_, rfl⟩
  have hP : va_P D vwCl G0 H := eH ▸ hP
  have hS : va_S A s.heap H locs := by rw [eH]; exact hS
  rw [← eH]
  clear elocs eH
  have hiX1 : ∀ w ∈ u_ws RX1 TX1 12, w ∈ wsX1_offAcross := by decide +kernel
  have hk : ∀ k, k ∉ ([] : List Nat) → G0[k]? = G0[k]? := fun _ _ => rfl
  refine lv_aload_n (pc := 0) hx hb dX1_offAcross_0 rfl (lv_at hl 0 rfl) ?_
  refine va_get (ci := 1) (C := RX1) (T := TX1) (N := 12) (pc := 1) hx hb hts hiX1 hown hK hP 11 w11 rfl 4 (by decide) (hts (.fieldLink RX1 28 "InkPress$Marks" "count" "I") (by decide +kernel)) (fun _ h9 => h9) rfl dX1_offAcross_1 ?_
  refine lv_i2l (v := (nI (mn)).toInt64) (pc := 4) hx hb dX1_offAcross_4 rfl ?_
  refine lv_aload_n (pc := 5) hx hb dX1_offAcross_5 rfl (lv_at hl 0 rfl) ?_
  refine mx_cVl (As := []) (rest := [.long ((nI (mn)).toInt64)]) (pc := 6) ⟨hx, hb, hml, hown, hts⟩ (k_X1_stretch (a := a) (mx := mx) (my := my) (mdx := mdx) (mdy := mdy) (mn := mn) (m1 := m1) (m2 := m2) (m3 := m3) (m4 := m4) (m5 := m5) (m6 := m6) (m7 := m7) hD w11 w12 w13 w14 w15 ) (cwV 0 hts gX1_offAcross_X1_stretch rfl rfl rfl (by decide +kernel) ⟨Nat.le_of_ble_eq_true rfl, Nat.le_of_ble_eq_true rfl⟩) 11 rfl rfl w11 hK hN hZ hP hS rfl hl.1 rfl (Nat.le_of_ble_eq_true rfl) dX1_offAcross_6 ⟨Nat.zero_le _, Nat.zero_le _⟩ (fun G' H locs hP hD hS hB => ?_)
  rw [hB] at hP hD
  clear hB G'
  refine lv_aload_n (pc := 9) hx hb dX1_offAcross_9 rfl (lv_at hl 0 rfl) ?_
  refine va_get (ci := 1) (C := RX1) (T := TX1) (N := 12) (pc := 10) hx hb hts hiX1 hown hK hP 11 w11 rfl 0 (by decide) (hts (.fieldLink RX1 11 "InkPress$Marks" "x" "[I") (by decide +kernel)) (fun _ h9 => h9) rfl dX1_offAcross_10 ?_
  refine lv_iload_n (pc := 13) hx hb dX1_offAcross_13 rfl (lv_at hl 1 rfl) ?_
  refine mx_iald (pc := 14) hx hb hK hP 12 w12 (i) (by omega) (by decide) dX1_offAcross_14 ?_
  refine lv_i2l (v := ((mx) (i)).toInt64) (pc := 15) hx hb dX1_offAcross_15 rfl ?_
  refine lv_lmul (pc := 16) hx hb dX1_offAcross_16 ?_
  refine lv_aload_n (pc := 17) hx hb dX1_offAcross_17 rfl (lv_at hl 0 rfl) ?_
  refine mx_cVl (As := []) (rest := [.long ((gStr (mn) (m1) (m2) (m3) (m4) (m5) (m6) (m7) * ((mx) (i)).toInt64)), .long ((nI (mn)).toInt64)]) (pc := 18) ⟨hx, hb, hml, hown, hts⟩ (k_X1_turn (a := a) (mx := mx) (my := my) (mdx := mdx) (mdy := mdy) (mn := mn) (m1 := m1) (m2 := m2) (m3 := m3) (m4 := m4) (m5 := m5) (m6 := m6) (m7 := m7) hD w11 w12 w13 w14 w15 ) (cwV 0 hts gX1_offAcross_X1_turn rfl rfl rfl (by decide +kernel) ⟨Nat.le_of_ble_eq_true rfl, Nat.le_of_ble_eq_true rfl⟩) 11 rfl rfl w11 hK hN hZ hP hS rfl hl.1 rfl (Nat.le_of_ble_eq_true rfl) dX1_offAcross_18 ⟨Nat.zero_le _, Nat.zero_le _⟩ (fun G' H locs hP hD hS hB => ?_)
  rw [hB] at hP hD
  clear hB G'
  refine lv_aload_n (pc := 21) hx hb dX1_offAcross_21 rfl (lv_at hl 0 rfl) ?_
  refine va_get (ci := 1) (C := RX1) (T := TX1) (N := 12) (pc := 22) hx hb hts hiX1 hown hK hP 11 w11 rfl 1 (by decide) (hts (.fieldLink RX1 15 "InkPress$Marks" "y" "[I") (by decide +kernel)) (fun _ h9 => h9) rfl dX1_offAcross_22 ?_
  refine lv_iload_n (pc := 25) hx hb dX1_offAcross_25 rfl (lv_at hl 1 rfl) ?_
  refine mx_iald (pc := 26) hx hb hK hP 13 w13 (i) (by omega) (by decide) dX1_offAcross_26 ?_
  refine lv_i2l (v := ((my) (i)).toInt64) (pc := 27) hx hb dX1_offAcross_27 rfl ?_
  refine lv_lmul (pc := 28) hx hb dX1_offAcross_28 ?_
  refine lv_lsub (pc := 29) hx hb dX1_offAcross_29 ?_
  refine lv_lmul (pc := 30) hx hb dX1_offAcross_30 ?_
  refine lv_aload_n (pc := 31) hx hb dX1_offAcross_31 rfl (lv_at hl 0 rfl) ?_
  refine mx_cVl (As := []) (rest := [.long (((nI (mn)).toInt64 * ((gStr (mn) (m1) (m2) (m3) (m4) (m5) (m6) (m7) * ((mx) (i)).toInt64) - (gTu (mn) (m1) (m2) (m3) (m4) (m5) (m6) (m7) * ((my) (i)).toInt64))))]) (pc := 32) ⟨hx, hb, hml, hown, hts⟩ (k_X1_across (a := a) (mx := mx) (my := my) (mdx := mdx) (mdy := mdy) (mn := mn) (m1 := m1) (m2 := m2) (m3 := m3) (m4 := m4) (m5 := m5) (m6 := m6) (m7 := m7) hD w11 w12 w13 w14 w15 ) (cwV 0 hts gX1_offAcross_X1_across rfl rfl rfl (by decide +kernel) ⟨Nat.le_of_ble_eq_true rfl, Nat.le_of_ble_eq_true rfl⟩) 11 rfl rfl w11 hK hN hZ hP hS rfl hl.1 rfl (Nat.le_of_ble_eq_true rfl) dX1_offAcross_32 ⟨Nat.zero_le _, Nat.zero_le _⟩ (fun G' H locs hP hD hS hB => ?_)
  rw [hB] at hP hD
  clear hB G'
  refine lv_ladd (pc := 35) hx hb dX1_offAcross_35 ?_
  refine lv_lstore_n (lv' := [(2, .long ((((nI (mn)).toInt64 * ((gStr (mn) (m1) (m2) (m3) (m4) (m5) (m6) (m7) * ((mx) (i)).toInt64) - (gTu (mn) (m1) (m2) (m3) (m4) (m5) (m6) (m7) * ((my) (i)).toInt64))) + gAc (mn) (m1) (m2) (m3) (m4) (m5) (m6) (m7)))), (0, .ref (a 11)), (1, .int (nI (i)))]) (pc := 36) hx hb dX1_offAcross_36 rfl hl (by decide) rfl (fun ls hl => ?_)
  refine lv_aload_n (pc := 37) hx hb dX1_offAcross_37 rfl (lv_at hl 1 rfl) ?_
  refine lv_aload_n (pc := 38) hx hb dX1_offAcross_38 rfl (lv_at hl 1 rfl) ?_
  refine va_get (ci := 1) (C := RX1) (T := TX1) (N := 12) (pc := 39) hx hb hts hiX1 hown hK hP 11 w11 rfl 2 (by decide) (hts (.fieldLink RX1 18 "InkPress$Marks" "dx" "[I") (by decide +kernel)) (fun _ h9 => h9) rfl dX1_offAcross_39 ?_
  refine lv_iload_n (pc := 42) hx hb dX1_offAcross_42 rfl (lv_at hl 2 rfl) ?_
  refine mx_iald (pc := 43) hx hb hK hP 14 w14 (i) (by omega) (by decide) dX1_offAcross_43 ?_
  refine lv_lload_n (pc := 44) hx hb dX1_offAcross_44 rfl (lv_at hl 0 rfl) ?_
  refine mx_cVi (As := [.int ((mdx) (i)), .long ((((nI (mn)).toInt64 * ((gStr (mn) (m1) (m2) (m3) (m4) (m5) (m6) (m7) * ((mx) (i)).toInt64) - (gTu (mn) (m1) (m2) (m3) (m4) (m5) (m6) (m7) * ((my) (i)).toInt64))) + gAc (mn) (m1) (m2) (m3) (m4) (m5) (m6) (m7)))]) (rest := []) (pc := 45) ⟨hx, hb, hml, hown, hts⟩ (k_X1_inThousandths (a := a) (mx := mx) (my := my) (mdx := mdx) (mdy := mdy) (mn := mn) (m1 := m1) (m2 := m2) (m3 := m3) (m4 := m4) (m5 := m5) (m6 := m6) (m7 := m7) (u := (mdx) (i)) (md := (((nI (mn)).toInt64 * ((gStr (mn) (m1) (m2) (m3) (m4) (m5) (m6) (m7) * ((mx) (i)).toInt64) - (gTu (mn) (m1) (m2) (m3) (m4) (m5) (m6) (m7) * ((my) (i)).toInt64))) + gAc (mn) (m1) (m2) (m3) (m4) (m5) (m6) (m7))) hD w11 w12 w13 w14 w15 ) (cwV 2 hts gX1_offAcross_X1_inThousandths rfl rfl rfl (by decide +kernel) ⟨Nat.le_of_ble_eq_true rfl, Nat.le_of_ble_eq_true rfl⟩) 11 rfl rfl w11 hK hN hZ hP hS rfl hl.1 rfl (Nat.le_of_ble_eq_true rfl) dX1_offAcross_45 ⟨Nat.zero_le _, Nat.zero_le _⟩ (fun G' H locs hP hD hS hB => ?_)
  rw [hB] at hP hD
  clear hB G'
  exact hret _ _ _ _ _ _ hP hD hS rfl rfl dX1_offAcross_48
set_option maxHeartbeats 4000000 in
set_option maxRecDepth 100000 in
theorem k_X1_offUp {l : Launch} {D : va_G} {cI cZ : ClassId} {A : Nat → Prop} {g a : Nat → Nat} {G0 : va_W} {mx : Nat → Int32} {my : Nat → Int32} {mdx : Nat → Int32} {mdy : Nat → Int32} {mn : Nat} {m1 : Int64} {m2 : Int64} {m3 : Int64} {m4 : Int64} {m5 : Int64} {m6 : Int64} {m7 : Int64} {i : Nat} (hD : va_D A G0) (w11 : G0[11]? = some (a 11, .inr (1, [.ref (a 12), .ref (a 13), .ref (a 14), .ref (a 15), .int (nI (mn)), .long (m1), .long (m2), .long (m3), .long (m4), .long (m5), .long (m6), .long (m7)]))) (w12 : G0[12]? = some (a 12, .inl (cI, 8, .inl (mx)))) (w13 : G0[13]? = some (a 13, .inl (cI, 8, .inl (my)))) (w14 : G0[14]? = some (a 14, .inl (cI, 8, .inl (mdx)))) (w15 : G0[15]? = some (a 15, .inl (cI, 8, .inl (mdy)))) (hi : i < 8) : gMi l D cI cZ A g yX1_offUp wsX1_offUp ({ frames := 2, cells := 0, slots := 0, locals := 45 }) [.ref (a 11), .int (nI (i))] G0 (gTh (gSp mn m1 m2 m3 m4 m5 m6 m7 * (nI mn).toInt64) (mdy i) ((nI mn).toInt64 * (gStr mn m1 m2 m3 m4 m5 m6 m7 * (my i).toInt64 + gTu mn m1 m2 m3 m4 m5 m6 m7 * (mx i).toInt64) + gUp mn m1 m2 m3 m4 m5 m6 m7)) (fun G1 => G1 = G0) := by
  refine gof_i (cc := cX1_offUp) (maxL := 4) (by decide) rfl (Nat.le_of_ble_eq_true rfl) hD ?_
  intro p e s m args below meth c Q hx hb hml hts hown hK hN hZ hP hS hret ls hl
  have hown : s.vm.findClass RX1 = some m.cls := hown
  have hl : lv_has ls 4 [(0, .ref (a 11)), (1, .int (nI (i)))] := hl
  obtain ⟨locs, elocs⟩ : ∃ q : List Loc, q = [] := ⟨_, rfl⟩
  rw [← elocs] at hS ⊢
  obtain ⟨H, eH⟩ : ∃ q : Heap, q = s.heap := ⟨_, rfl⟩
  have hP : va_P D vwCl G0 H := eH ▸ hP
  have hS : va_S A s.heap H locs := by rw [eH]; exact hS
  rw [← eH]
  clear elocs eH
  have hiX1 : ∀ w ∈ u_ws RX1 TX1 12, w ∈ wsX1_offUp := by decide +kernel
  have hk : ∀ k, k ∉ ([] : List Nat) → G0[k]? = G0[k]? := fun _ _ => rfl
  refine lv_aload_n (pc := 0) hx hb dX1_offUp_0 rfl (lv_at hl 0 rfl) ?_
  refine va_get (ci := 1) (C := RX1) (T := TX1) (N := 12) (pc := 1) hx hb hts hiX1 hown hK hP 11 w11 rfl 4 (by decide) (hts (.fieldLink RX1 28 "InkPress$Marks" "count" "I") (by decide +kernel)) (fun _ h9 => h9) rfl dX1_offUp_1 ?_
  refine lv_i2l (v := (nI (mn)).toInt64) (pc := 4) hx hb dX1_offUp_4 rfl ?_
  refine lv_aload_n (pc := 5) hx hb dX1_offUp_5 rfl (lv_at hl 0 rfl) ?_
  refine mx_cVl (As := []) (rest := [.long ((nI (mn)).toInt64)]) (pc := 6) ⟨hx, hb, hml, hown, hts⟩ (k_X1_stretch (a := a) (mx := mx) (my := my) (mdx := mdx) (mdy := mdy) (mn := mn) (m1 := m1) (m2 := m2) (m3 := m3) (m4 := m4) (m5 := m5) (m6 := m6) (m7 := m7) hD w11 w12 w13 w14 w15 ) (cwV 0 hts gX1_offUp_X1_stretch rfl rfl rfl (by decide +kernel) ⟨Nat.le_of_ble_eq_true rfl, Nat.le_of_ble_eq_true rfl⟩) 11 rfl rfl w11 hK hN hZ hP hS rfl hl.1 rfl (Nat.le_of_ble_eq_true rfl) dX1_offUp_6 ⟨Nat.zero_le _, Nat.zero_le _⟩ (fun G' H locs hP hD hS hB => ?_)
  rw [hB] at hP hD
  clear hB G'
  refine lv_aload_n (pc := 9) hx hb dX1_offUp_9 rfl (lv_at hl 0 rfl) ?_
  refine va_get (ci := 1) (C := RX1) (T := TX1) (N := 12) (pc := 10) hx hb hts hiX1 hown hK hP 11 w11 rfl 1 (by decide) (hts (.fieldLink RX1 15 "InkPress$Marks" "y" "[I") (by decide +kernel)) (fun _ h9 => h9) rfl dX1_offUp_10 ?_
  refine lv_iload_n (pc := 13) hx hb dX1_offUp_13 rfl (lv_at hl 1 rfl) ?_
  refine mx_iald (pc := 14) hx hb hK hP 13 w13 (i) (by omega) (by decide) dX1_offUp_14 ?_
  refine lv_i2l (v := ((my) (i)).toInt64) (pc := 15) hx hb dX1_offUp_15 rfl ?_
  refine lv_lmul (pc := 16) hx hb dX1_offUp_16 ?_
  refine lv_aload_n (pc := 17) hx hb dX1_offUp_17 rfl (lv_at hl 0 rfl) ?_
  refine mx_cVl (As := []) (rest := [.long ((gStr (mn) (m1) (m2) (m3) (m4) (m5) (m6) (m7) * ((my) (i)).toInt64)), .long ((nI (mn)).toInt64)]) (pc := 18) ⟨hx, hb, hml, hown, hts⟩ (k_X1_turn (a := a) (mx := mx) (my := my) (mdx := mdx) (mdy := mdy) (mn := mn) (m1 := m1) (m2 := m2) (m3 := m3) (m4 := m4) (m5 := m5) (m6 := m6) (m7 := m7) hD w11 w12 w13 w14 w15 ) (cwV 0 hts gX1_offUp_X1_turn rfl rfl rfl (by decide +kernel) ⟨Nat.le_of_ble_eq_true rfl, Nat.le_of_ble_eq_true rfl⟩) 11 rfl rfl w11 hK hN hZ hP hS rfl hl.1 rfl (Nat.le_of_ble_eq_true rfl) dX1_offUp_18 ⟨Nat.zero_le _, Nat.zero_le _⟩ (fun G' H locs hP hD hS hB => ?_)
  rw [hB] at hP hD
  clear hB G'
  refine lv_aload_n (pc := 21) hx hb dX1_offUp_21 rfl (lv_at hl 0 rfl) ?_
  refine va_get (ci := 1) (C := RX1) (T := TX1) (N := 12) (pc := 22) hx hb hts hiX1 hown hK hP 11 w11 rfl 0 (by decide) (hts (.fieldLink RX1 11 "InkPress$Marks" "x" "[I") (by decide +kernel)) (fun _ h9 => h9) rfl dX1_offUp_22 ?_
  refine lv_iload_n (pc := 25) hx hb dX1_offUp_25 rfl (lv_at hl 1 rfl) ?_
  refine mx_iald (pc := 26) hx hb hK hP 12 w12 (i) (by omega) (by decide) dX1_offUp_26 ?_
  refine lv_i2l (v := ((mx) (i)).toInt64) (pc := 27) hx hb dX1_offUp_27 rfl ?_
  refine lv_lmul (pc := 28) hx hb dX1_offUp_28 ?_
  refine lv_ladd (pc := 29) hx hb dX1_offUp_29 ?_
  refine lv_lmul (pc := 30) hx hb dX1_offUp_30 ?_
  refine lv_aload_n (pc := 31) hx hb dX1_offUp_31 rfl (lv_at hl 0 rfl) ?_
  refine mx_cVl (As := []) (rest := [.long (((nI (mn)).toInt64 * ((gStr (mn) (m1) (m2) (m3) (m4) (m5) (m6) (m7) * ((my) (i)).toInt64) + (gTu (mn) (m1) (m2) (m3) (m4) (m5) (m6) (m7) * ((mx) (i)).toInt64))))]) (pc := 32) ⟨hx, hb, hml, hown, hts⟩ (k_X1_up (a := a) (mx := mx) (my := my) (mdx := mdx) (mdy := mdy) (mn := mn) (m1 := m1) (m2 := m2) (m3 := m3) (m4 := m4) (m5 := m5) (m6 := m6) (m7 := m7) hD w11 w12 w13 w14 w15 ) (cwV 0 hts gX1_offUp_X1_up rfl rfl rfl (by decide +kernel) ⟨Nat.le_of_ble_eq_true rfl, Nat.le_of_ble_eq_true rfl⟩) 11 rfl rfl w11 hK hN hZ hP hS rfl hl.1 rfl (Nat.le_of_ble_eq_true rfl) dX1_offUp_32 ⟨Nat.zero_le _, Nat.zero_le _⟩ (fun G' H locs hP hD hS hB => ?_)
  rw [hB] at hP hD
  clear hB G'
  refine lv_ladd (pc := 35) hx hb dX1_offUp_35 ?_
  refine lv_lstore_n (lv' := [(2, .long ((((nI (mn)).toInt64 * ((gStr (mn) (m1) (m2) (m3) (m4) (m5) (m6) (m7) * ((my) (i)).toInt64) + (gTu (mn) (m1) (m2) (m3) (m4) (m5) (m6) (m7) * ((mx) (i)).toInt64))) + gUp (mn) (m1) (m2) (m3) (m4) (m5) (m6) (m7)))), (0, .ref (a 11)), (1, .int (nI (i)))]) (pc := 36) hx hb dX1_offUp_36 rfl hl (by decide) rfl (fun ls hl => ?_)
  refine lv_aload_n (pc := 37) hx hb dX1_offUp_37 rfl (lv_at hl 1 rfl) ?_
  refine lv_aload_n (pc := 38) hx hb dX1_offUp_38 rfl (lv_at hl 1 rfl) ?_
  refine va_get (ci := 1) (C := RX1) (T := TX1) (N := 12) (pc := 39) hx hb hts hiX1 hown hK hP 11 w11 rfl 3 (by decide) (hts (.fieldLink RX1 21 "InkPress$Marks" "dy" "[I") (by decide +kernel)) (fun _ h9 => h9) rfl dX1_offUp_39 ?_
  refine lv_iload_n (pc := 42) hx hb dX1_offUp_42 rfl (lv_at hl 2 rfl) ?_
  refine mx_iald (pc := 43) hx hb hK hP 15 w15 (i) (by omega) (by decide) dX1_offUp_43 ?_
  refine lv_lload_n (pc := 44) hx hb dX1_offUp_44 rfl (lv_at hl 0 rfl) ?_
  refine mx_cVi (As := [.int ((mdy) (i)), .long ((((nI (mn)).toInt64 * ((gStr (mn) (m1) (m2) (m3) (m4) (m5) (m6) (m7) * ((my) (i)).toInt64) + (gTu (mn) (m1) (m2) (m3) (m4) (m5) (m6) (m7) * ((mx) (i)).toInt64))) + gUp (mn) (m1) (m2) (m3) (m4) (m5) (m6) (m7)))]) (rest := []) (pc := 45) ⟨hx, hb, hml, hown, hts⟩ (k_X1_inThousandths (a := a) (mx := mx) (my := my) (mdx := mdx) (mdy := mdy) (mn := mn) (m1 := m1) (m2 := m2) (m3 := m3) (m4 := m4) (m5 := m5) (m6 := m6) (m7 := m7) (u := (mdy) (i)) (md := (((nI (mn)).toInt64 * ((gStr (mn) (m1) (m2) (m3) (m4) (m5) (m6) (m7) * ((my) (i)).toInt64) + (gTu (mn) (m1) (m2) (m3) (m4) (m5) (m6) (m7) * ((mx) (i)).toInt64))) + gUp (mn) (m1) (m2) (m3) (m4) (m5) (m6) (m7))) hD w11 w12 w13 w14 w15 ) (cwV 2 hts gX1_offUp_X1_inThousandths rfl rfl rfl (by decide +kernel) ⟨Nat.le_of_ble_eq_true rfl, Nat.le_of_ble_eq_true rfl⟩) 11 rfl rfl w11 hK hN hZ hP hS rfl hl.1 rfl (Nat.le_of_ble_eq_true rfl) dX1_offUp_45 ⟨Nat.zero_le _, Nat.zero_le _⟩ (fun G' H locs hP hD hS hB => ?_)
  rw [hB] at hP hD
  clear hB G'
  exact hret _ _ _ _ _ _ hP hD hS rfl rfl dX1_offUp_48
set_option maxHeartbeats 4000000 in
set_option maxRecDepth 100000 in
theorem k_X1_upper {l : Launch} {D : va_G} {cI cZ : ClassId} {A : Nat → Prop} {g a : Nat → Nat} {G0 : va_W} {mx : Nat → Int32} {my : Nat → Int32} {mdx : Nat → Int32} {mdy : Nat → Int32} {mn : Nat} {m1 : Int64} {m2 : Int64} {m3 : Int64} {m4 : Int64} {m5 : Int64} {m6 : Int64} {m7 : Int64} {wh : Nat} (hD : va_D A G0) (w11 : G0[11]? = some (a 11, .inr (1, [.ref (a 12), .ref (a 13), .ref (a 14), .ref (a 15), .int (nI (mn)), .long (m1), .long (m2), .long (m3), .long (m4), .long (m5), .long (m6), .long (m7)]))) (w12 : G0[12]? = some (a 12, .inl (cI, 8, .inl (mx)))) (w13 : G0[13]? = some (a 13, .inl (cI, 8, .inl (my)))) (w14 : G0[14]? = some (a 14, .inl (cI, 8, .inl (mdx)))) (w15 : G0[15]? = some (a 15, .inl (cI, 8, .inl (mdy)))) (hw : wh < 4) : gMl l D cI cZ A g yX1_upper wsX1_upper ({ frames := 2, cells := 0, slots := 0, locals := 40 }) [.ref (a 11), .int (nI (wh))] G0 (gUpp wh mn m1 m2 m3 m4 m5 m6 m7) (fun G1 => G1 = G0) := by
  refine gof_l (cc := cX1_upper) (maxL := 2) (by decide) rfl (Nat.le_of_ble_eq_true rfl) hD ?_
  intro p e s m args below meth c Q hx hb hml hts hown hK hN hZ hP hS hret ls hl
  have hown : s.vm.findClass RX1 = some m.cls := hown
  have hl : lv_has ls 2 [(0, .ref (a 11)), (1, .int (nI (wh)))] := hl
  obtain ⟨locs, elocs⟩ : ∃ q : List Loc, q = [] := ⟨_, rfl⟩
  rw [← elocs] at hS ⊢
  obtain ⟨H, eH⟩ : ∃ q : Heap, q = s.heap := ⟨_, rfl⟩
  have hP : va_P D vwCl G0 H := eH ▸ hP
  have hS : va_S A s.heap H locs := by rw [eH]; exact hS
  rw [← eH]
  clear elocs eH
  have hk : ∀ k, k ∉ ([] : List Nat) → G0[k]? = G0[k]? := fun _ _ => rfl
  rcases (show wh = 0 ∨ wh = 1 ∨ wh = 2 ∨ wh = 3 by omega) with rfl | rfl | rfl | rfl
  · skip
    refine lv_iload_n (pc := 0) hx hb dX1_upper_0 rfl (lv_at hl 1 rfl) ?_
    refine lv_tableIn (tgt := 28) (pc := 1) hx hb dX1_upper_1 (by decide) (by decide) rfl (by decide) ?_
    refine lv_aload_n (pc := 28) hx hb dX1_upper_28 rfl (lv_at hl 0 rfl) ?_
    refine mx_cVl (As := []) (rest := []) (pc := 29) ⟨hx, hb, hml, hown, hts⟩ (k_X1_stretch (a := a) (mx := mx) (my := my) (mdx := mdx) (mdy := mdy) (mn := mn) (m1 := m1) (m2 := m2) (m3 := m3) (m4 := m4) (m5 := m5) (m6 := m6) (m7 := m7) hD w11 w12 w13 w14 w15 ) (cwV 0 hts gX1_upper_X1_stretch rfl rfl rfl (by decide +kernel) ⟨Nat.le_of_ble_eq_true rfl, Nat.le_of_ble_eq_true rfl⟩) 11 rfl rfl w11 hK hN hZ hP hS rfl hl.1 rfl (Nat.le_of_ble_eq_true rfl) dX1_upper_29 ⟨Nat.zero_le _, Nat.zero_le _⟩ (fun G' H locs hP hD hS hB => ?_)
    rw [hB] at hP hD
    clear hB G'
    exact hret _ _ _ _ _ _ hP hD hS rfl rfl dX1_upper_32
  · skip
    refine lv_iload_n (pc := 0) hx hb dX1_upper_0 rfl (lv_at hl 1 rfl) ?_
    refine lv_tableIn (tgt := 33) (pc := 1) hx hb dX1_upper_1 (by decide) (by decide) rfl (by decide) ?_
    refine lv_aload_n (pc := 33) hx hb dX1_upper_33 rfl (lv_at hl 0 rfl) ?_
    refine mx_cVl (As := []) (rest := []) (pc := 34) ⟨hx, hb, hml, hown, hts⟩ (k_X1_turn (a := a) (mx := mx) (my := my) (mdx := mdx) (mdy := mdy) (mn := mn) (m1 := m1) (m2 := m2) (m3 := m3) (m4 := m4) (m5 := m5) (m6 := m6) (m7 := m7) hD w11 w12 w13 w14 w15 ) (cwV 0 hts gX1_upper_X1_turn rfl rfl rfl (by decide +kernel) ⟨Nat.le_of_ble_eq_true rfl, Nat.le_of_ble_eq_true rfl⟩) 11 rfl rfl w11 hK hN hZ hP hS rfl hl.1 rfl (Nat.le_of_ble_eq_true rfl) dX1_upper_34 ⟨Nat.zero_le _, Nat.zero_le _⟩ (fun G' H locs hP hD hS hB => ?_)
    rw [hB] at hP hD
    clear hB G'
    exact hret _ _ _ _ _ _ hP hD hS rfl rfl dX1_upper_37
  · skip
    refine lv_iload_n (pc := 0) hx hb dX1_upper_0 rfl (lv_at hl 1 rfl) ?_
    refine lv_tableIn (tgt := 38) (pc := 1) hx hb dX1_upper_1 (by decide) (by decide) rfl (by decide) ?_
    refine lv_aload_n (pc := 38) hx hb dX1_upper_38 rfl (lv_at hl 0 rfl) ?_
    refine mx_cVl (As := []) (rest := []) (pc := 39) ⟨hx, hb, hml, hown, hts⟩ (k_X1_across (a := a) (mx := mx) (my := my) (mdx := mdx) (mdy := mdy) (mn := mn) (m1 := m1) (m2 := m2) (m3 := m3) (m4 := m4) (m5 := m5) (m6 := m6) (m7 := m7) hD w11 w12 w13 w14 w15 ) (cwV 0 hts gX1_upper_X1_across rfl rfl rfl (by decide +kernel) ⟨Nat.le_of_ble_eq_true rfl, Nat.le_of_ble_eq_true rfl⟩) 11 rfl rfl w11 hK hN hZ hP hS rfl hl.1 rfl (Nat.le_of_ble_eq_true rfl) dX1_upper_39 ⟨Nat.zero_le _, Nat.zero_le _⟩ (fun G' H locs hP hD hS hB => ?_)
    rw [hB] at hP hD
    clear hB G'
    exact hret _ _ _ _ _ _ hP hD hS rfl rfl dX1_upper_42
  · skip
    refine lv_iload_n (pc := 0) hx hb dX1_upper_0 rfl (lv_at hl 1 rfl) ?_
    refine lv_tableOut (tgt := 43) (pc := 1) hx hb dX1_upper_1 (by decide) (by decide) ?_
    refine lv_aload_n (pc := 43) hx hb dX1_upper_43 rfl (lv_at hl 0 rfl) ?_
    refine mx_cVl (As := []) (rest := []) (pc := 44) ⟨hx, hb, hml, hown, hts⟩ (k_X1_up (a := a) (mx := mx) (my := my) (mdx := mdx) (mdy := mdy) (mn := mn) (m1 := m1) (m2 := m2) (m3 := m3) (m4 := m4) (m5 := m5) (m6 := m6) (m7 := m7) hD w11 w12 w13 w14 w15 ) (cwV 0 hts gX1_upper_X1_up rfl rfl rfl (by decide +kernel) ⟨Nat.le_of_ble_eq_true rfl, Nat.le_of_ble_eq_true rfl⟩) 11 rfl rfl w11 hK hN hZ hP hS rfl hl.1 rfl (Nat.le_of_ble_eq_true rfl) dX1_upper_44 ⟨Nat.zero_le _, Nat.zero_le _⟩ (fun G' H locs hP hD hS hB => ?_)
    rw [hB] at hP hD
    clear hB G'
    exact hret _ _ _ _ _ _ hP hD hS rfl rfl dX1_upper_47
set_option maxHeartbeats 4000000 in
set_option maxRecDepth 100000 in
theorem k_X1_lower {l : Launch} {D : va_G} {cI cZ : ClassId} {A : Nat → Prop} {g a : Nat → Nat} {G0 : va_W} {mx : Nat → Int32} {my : Nat → Int32} {mdx : Nat → Int32} {mdy : Nat → Int32} {mn : Nat} {m1 : Int64} {m2 : Int64} {m3 : Int64} {m4 : Int64} {m5 : Int64} {m6 : Int64} {m7 : Int64} {wh : Nat} (hD : va_D A G0) (w11 : G0[11]? = some (a 11, .inr (1, [.ref (a 12), .ref (a 13), .ref (a 14), .ref (a 15), .int (nI (mn)), .long (m1), .long (m2), .long (m3), .long (m4), .long (m5), .long (m6), .long (m7)]))) (w12 : G0[12]? = some (a 12, .inl (cI, 8, .inl (mx)))) (w13 : G0[13]? = some (a 13, .inl (cI, 8, .inl (my)))) (w14 : G0[14]? = some (a 14, .inl (cI, 8, .inl (mdx)))) (w15 : G0[15]? = some (a 15, .inl (cI, 8, .inl (mdy)))) (hw : wh < 4) : gMl l D cI cZ A g yX1_lower wsX1_lower ({ frames := 1, cells := 0, slots := 0, locals := 20 }) [.ref (a 11), .int (nI (wh))] G0 (gLow wh mn m1 m2 m3 m4 m5 m6 m7) (fun G1 => G1 = G0) := by
  refine gof_l (cc := cX1_lower) (maxL := 2) (by decide) rfl (Nat.le_of_ble_eq_true rfl) hD ?_
  intro p e s m args below meth c Q hx hb hml hts hown hK hN hZ hP hS hret ls hl
  have hown : s.vm.findClass RX1 = some m.cls := hown
  have hl : lv_has ls 2 [(0, .ref (a 11)), (1, .int (nI (wh)))] := hl
  obtain ⟨locs, elocs⟩ : ∃ q : List Loc, q = [] := ⟨_, rfl⟩
  rw [← elocs] at hS ⊢
  obtain ⟨H, eH⟩ : ∃ q : Heap, q = s.heap := ⟨_, rfl⟩
  have hP : va_P D vwCl G0 H := eH ▸ hP
  have hS : va_S A s.heap H locs := by rw [eH]; exact hS
  rw [← eH]
  clear elocs eH
  have hiX1 : ∀ w ∈ u_ws RX1 TX1 12, w ∈ wsX1_lower := by decide +kernel
  have hk : ∀ k, k ∉ ([] : List Nat) → G0[k]? = G0[k]? := fun _ _ => rfl
  rcases (show wh = 0 ∨ wh = 1 ∨ wh = 2 ∨ wh = 3 by omega) with rfl | rfl | rfl | rfl
  · skip
    refine lv_iload_n (pc := 0) hx hb dX1_lower_0 rfl (lv_at hl 1 rfl) ?_
    refine lv_if_eq (tgt := 9) (pc := 1) hx hb dX1_lower_1 (by decide) (fun c1 => ?_) (fun c1 => absurd (by decide) c1)
    refine lv_aload_n (pc := 9) hx hb dX1_lower_9 rfl (lv_at hl 0 rfl) ?_
    refine mx_cVl (As := []) (rest := []) (pc := 10) ⟨hx, hb, hml, hown, hts⟩ (k_X1_spread (a := a) (mx := mx) (my := my) (mdx := mdx) (mdy := mdy) (mn := mn) (m1 := m1) (m2 := m2) (m3 := m3) (m4 := m4) (m5 := m5) (m6 := m6) (m7 := m7) hD w11 w12 w13 w14 w15 ) (cwV 0 hts gX1_lower_X1_spread rfl rfl rfl (by decide +kernel) ⟨Nat.le_of_ble_eq_true rfl, Nat.le_of_ble_eq_true rfl⟩) 11 rfl rfl w11 hK hN hZ hP hS rfl hl.1 rfl (Nat.le_of_ble_eq_true rfl) dX1_lower_10 ⟨Nat.zero_le _, Nat.zero_le _⟩ (fun G' H locs hP hD hS hB => ?_)
    rw [hB] at hP hD
    clear hB G'
    refine lv_goto (tgt := 26) (pc := 13) hx hb dX1_lower_13 (by decide) ?_
    exact hret _ _ _ _ _ _ hP hD hS rfl rfl dX1_lower_26
  · skip
    refine lv_iload_n (pc := 0) hx hb dX1_lower_0 rfl (lv_at hl 1 rfl) ?_
    refine lv_if_eq (tgt := 9) (pc := 1) hx hb dX1_lower_1 (by decide) (fun c1 => absurd c1 (by decide)) (fun c1 => ?_)
    refine lv_iload_n (pc := 4) hx hb dX1_lower_4 rfl (lv_at hl 1 rfl) ?_
    refine lv_iconst (v := nI (1)) (pc := 5) hx hb dX1_lower_5 (by decide) ?_
    refine mx_cne (tgt := 16) (pc := 6) hx hb (by omega) (by omega) dX1_lower_6 (by decide) (fun c6 => absurd c6 (by omega)) (fun c6 => ?_)
    refine lv_aload_n (pc := 9) hx hb dX1_lower_9 rfl (lv_at hl 0 rfl) ?_
    refine mx_cVl (As := []) (rest := []) (pc := 10) ⟨hx, hb, hml, hown, hts⟩ (k_X1_spread (a := a) (mx := mx) (my := my) (mdx := mdx) (mdy := mdy) (mn := mn) (m1 := m1) (m2 := m2) (m3 := m3) (m4 := m4) (m5 := m5) (m6 := m6) (m7 := m7) hD w11 w12 w13 w14 w15 ) (cwV 0 hts gX1_lower_X1_spread rfl rfl rfl (by decide +kernel) ⟨Nat.le_of_ble_eq_true rfl, Nat.le_of_ble_eq_true rfl⟩) 11 rfl rfl w11 hK hN hZ hP hS rfl hl.1 rfl (Nat.le_of_ble_eq_true rfl) dX1_lower_10 ⟨Nat.zero_le _, Nat.zero_le _⟩ (fun G' H locs hP hD hS hB => ?_)
    rw [hB] at hP hD
    clear hB G'
    refine lv_goto (tgt := 26) (pc := 13) hx hb dX1_lower_13 (by decide) ?_
    exact hret _ _ _ _ _ _ hP hD hS rfl rfl dX1_lower_26
  · skip
    refine lv_iload_n (pc := 0) hx hb dX1_lower_0 rfl (lv_at hl 1 rfl) ?_
    refine lv_if_eq (tgt := 9) (pc := 1) hx hb dX1_lower_1 (by decide) (fun c1 => absurd c1 (by decide)) (fun c1 => ?_)
    refine lv_iload_n (pc := 4) hx hb dX1_lower_4 rfl (lv_at hl 1 rfl) ?_
    refine lv_iconst (v := nI (1)) (pc := 5) hx hb dX1_lower_5 (by decide) ?_
    refine mx_cne (tgt := 16) (pc := 6) hx hb (by omega) (by omega) dX1_lower_6 (by decide) (fun c6 => ?_) (fun c6 => absurd c6 (by omega))
    refine lv_aload_n (pc := 16) hx hb dX1_lower_16 rfl (lv_at hl 0 rfl) ?_
    refine mx_cVl (As := []) (rest := []) (pc := 17) ⟨hx, hb, hml, hown, hts⟩ (k_X1_spread (a := a) (mx := mx) (my := my) (mdx := mdx) (mdy := mdy) (mn := mn) (m1 := m1) (m2 := m2) (m3 := m3) (m4 := m4) (m5 := m5) (m6 := m6) (m7 := m7) hD w11 w12 w13 w14 w15 ) (cwV 0 hts gX1_lower_X1_spread rfl rfl rfl (by decide +kernel) ⟨Nat.le_of_ble_eq_true rfl, Nat.le_of_ble_eq_true rfl⟩) 11 rfl rfl w11 hK hN hZ hP hS rfl hl.1 rfl (Nat.le_of_ble_eq_true rfl) dX1_lower_17 ⟨Nat.zero_le _, Nat.zero_le _⟩ (fun G' H locs hP hD hS hB => ?_)
    rw [hB] at hP hD
    clear hB G'
    refine lv_aload_n (pc := 20) hx hb dX1_lower_20 rfl (lv_at hl 0 rfl) ?_
    refine va_get (ci := 1) (C := RX1) (T := TX1) (N := 12) (pc := 21) hx hb hts hiX1 hown hK hP 11 w11 rfl 4 (by decide) (hts (.fieldLink RX1 28 "InkPress$Marks" "count" "I") (by decide +kernel)) (fun _ h9 => h9) rfl dX1_lower_21 ?_
    refine lv_i2l (v := (nI (mn)).toInt64) (pc := 24) hx hb dX1_lower_24 rfl ?_
    refine lv_lmul (pc := 25) hx hb dX1_lower_25 ?_
    exact hret _ _ _ _ _ _ hP hD hS rfl rfl dX1_lower_26
  · skip
    refine lv_iload_n (pc := 0) hx hb dX1_lower_0 rfl (lv_at hl 1 rfl) ?_
    refine lv_if_eq (tgt := 9) (pc := 1) hx hb dX1_lower_1 (by decide) (fun c1 => absurd c1 (by decide)) (fun c1 => ?_)
    refine lv_iload_n (pc := 4) hx hb dX1_lower_4 rfl (lv_at hl 1 rfl) ?_
    refine lv_iconst (v := nI (1)) (pc := 5) hx hb dX1_lower_5 (by decide) ?_
    refine mx_cne (tgt := 16) (pc := 6) hx hb (by omega) (by omega) dX1_lower_6 (by decide) (fun c6 => ?_) (fun c6 => absurd c6 (by omega))
    refine lv_aload_n (pc := 16) hx hb dX1_lower_16 rfl (lv_at hl 0 rfl) ?_
    refine mx_cVl (As := []) (rest := []) (pc := 17) ⟨hx, hb, hml, hown, hts⟩ (k_X1_spread (a := a) (mx := mx) (my := my) (mdx := mdx) (mdy := mdy) (mn := mn) (m1 := m1) (m2 := m2) (m3 := m3) (m4 := m4) (m5 := m5) (m6 := m6) (m7 := m7) hD w11 w12 w13 w14 w15 ) (cwV 0 hts gX1_lower_X1_spread rfl rfl rfl (by decide +kernel) ⟨Nat.le_of_ble_eq_true rfl, Nat.le_of_ble_eq_true rfl⟩) 11 rfl rfl w11 hK hN hZ hP hS rfl hl.1 rfl (Nat.le_of_ble_eq_true rfl) dX1_lower_17 ⟨Nat.zero_le _, Nat.zero_le _⟩ (fun G' H locs hP hD hS hB => ?_)
    rw [hB] at hP hD
    clear hB G'
    refine lv_aload_n (pc := 20) hx hb dX1_lower_20 rfl (lv_at hl 0 rfl) ?_
    refine va_get (ci := 1) (C := RX1) (T := TX1) (N := 12) (pc := 21) hx hb hts hiX1 hown hK hP 11 w11 rfl 4 (by decide) (hts (.fieldLink RX1 28 "InkPress$Marks" "count" "I") (by decide +kernel)) (fun _ h9 => h9) rfl dX1_lower_21 ?_
    refine lv_i2l (v := (nI (mn)).toInt64) (pc := 24) hx hb dX1_lower_24 rfl ?_
    refine lv_lmul (pc := 25) hx hb dX1_lower_25 ?_
    exact hret _ _ _ _ _ _ hP hD hS rfl rfl dX1_lower_26
