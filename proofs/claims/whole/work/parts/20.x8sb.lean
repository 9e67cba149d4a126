/-! the reference, on -/
set_option maxHeartbeats 4000000 in
set_option maxRecDepth 100000 in
theorem k_X8_sheet {l : Launch} {D : va_G} {cI cZ : ClassId} {A : Nat → Prop} {g a : Nat → Nat} {G0 : va_W} {zn : Nat} {tr : Nat} {sc : Nat} {pn : Nat} {mn : Nat} {jn : Nat} {sg : Int32} {sr : Int32} {ss : Int32} {fed : Int32} {pap : Int32} {bar : Int32} {st : Bool} {q1 : Int64} {q2 : Int64} {q3 : Int64} {q4 : Int64} {q5 : Int64} {ru : Nat → Int32} {ke : Nat → Int32} {cv : Nat → Int32} {tg : Nat → Int32} {ink : Nat → Int32} {den : Nat → Int32} {go : Nat → Bool} {asd : Nat → Int32} (hD : va_D A G0) (w22 : G0[22]? = some (a 22, .inr (8, [.int (nI (zn)), .int (nI (tr)), .ref (a 23), .ref (a 24), .ref (a 25), .ref (a 26), .ref (a 27), .ref (a 28), .ref (a 29), .int (nI (sc)), .int (sg), .int (sr), .int (ss), .int (fed), .int (pap), .int (bar), .int (gB (st)), .ref (a 30), .ref (a 31), .ref (a 32), .int (nI (pn)), .ref (a 33), .ref (a 34), .ref (a 35), .ref (a 36), .int (nI (mn)), .long (q1), .long (q2), .long (q3), .long (q4), .long (q5), .ref (a 37), .ref (a 38), .ref (a 39), .int (nI (jn)), .ref (a 40), .ref (a 41)]))) (w23 : G0[23]? = some (a 23, .inl (cI, 9, .inl (ru)))) (w24 : G0[24]? = some (a 24, .inl (cI, 8, .inl (ke)))) (w25 : G0[25]? = some (a 25, .inl (cI, 8, .inl (cv)))) (w26 : G0[26]? = some (a 26, .inl (cI, 8, .inl (tg)))) (w27 : G0[27]? = some (a 27, .inl (cI, 40, .inl (ink)))) (w28 : G0[28]? = some (a 28, .inl (cI, 8000, .inl (den)))) (w29 : G0[29]? = some (a 29, .inl (cZ, 1000, .inl (fun j => gB ((go) j))))) (w30 : G0[30]? = some (a 30, .inl (cI, 8, .inl (asd)))) (hz2 : 2 ≤ zn) (hz8 : zn ≤ 8) (hr2 : 2 ≤ tr) (hr5 : tr ≤ 5) (hs : sc < 1000) (hev : ¬ ru 7 = 0) : gMv l D cI cZ A g yX8_sheet wsX8_sheet ({ frames := 2, cells := 0, slots := 0, locals := 44 }) [.ref (a 22)] G0 (fun G1 => G1[22]? = some (a 22, .inr (8, [.int (nI (zn)), .int (nI (tr)), .ref (a 23), .ref (a 24), .ref (a 25), .ref (a 26), .ref (a 27), .ref (a 28), .ref (a 29), .int (nI (sc + 1)), .int (gMJg (gMTg tr (ru 3) cv tg (ru 6) zn 0 (gMi3 ru ke zn tr ink asd) true) sg), .int ((gJr (gMTg tr (ru 3) cv tg (ru 6) zn 0 (gMi3 ru ke zn tr ink asd) true) sr)), .int (gMJs (gJr (gMTg tr (ru 3) cv tg (ru 6) zn 0 (gMi3 ru ke zn tr ink asd) true) sr) (ru 8) (nI (sc + 1)) ss), .int (gFf ke (ru 0) zn 0 fed), .int (gMTp tr (ru 3) cv zn 0 (gMi3 ru ke zn tr ink asd) pap), .int (gMTb tr (ru 3) cv zn 0 (gMi3 ru ke zn tr ink asd) bar), .int (gB (st)), .ref (a 30), .ref (a 31), .ref (a 32), .int (nI (pn)), .ref (a 33), .ref (a 34), .ref (a 35), .ref (a 36), .int (nI (mn)), .long (q1), .long (q2), .long (q3), .long (q4), .long (q5), .ref (a 37), .ref (a 38), .ref (a 39), .int (nI (jn)), .ref (a 40), .ref (a 41)])) ∧ G1[24]? = some (a 24, .inl (cI, 8, .inl (gMst st (ru 7) (nI (sc + 1)) (gMSk ru (sc + 1) (gMTd tr (ru 3) cv (8 * sc) zn 0 (gMi3 ru ke zn tr ink asd) den) tg zn 0 ke) ke))) ∧ G1[27]? = some (a 27, .inl (cI, 40, .inl (gMTi tr (ru 3) cv zn 0 (gMi3 ru ke zn tr ink asd)))) ∧ G1[28]? = some (a 28, .inl (cI, 8000, .inl (gMTd tr (ru 3) cv (8 * sc) zn 0 (gMi3 ru ke zn tr ink asd) den))) ∧ G1[29]? = some (a 29, .inl (cZ, 1000, .inl (fun j => gB ((vf_upd go sc (gMTg tr (ru 3) cv tg (ru 6) zn 0 (gMi3 ru ke zn tr ink asd) true)) j)))) ∧ G1[30]? = some (a 30, .inl (cI, 8, .inl ((gMa3 ru ke zn tr ink asd)))) ∧ ∀ k, k ∉ [22, 24, 27, 28, 29, 30] → G1[k]? = G0[k]?) := by
  refine gof_v (cc := cX8_sheet) (maxL := 8) (by decide) rfl (Nat.le_of_ble_eq_true rfl) hD ?_
  intro p e s m args below meth c Q hx hb hml hts hown hK hN hZ hP hS hret ls hl
  have hown : s.vm.findClass RX8 = some m.cls := hown
  have hl : lv_has ls 8 [(0, .ref (a 22))] := hl
  obtain ⟨locs, elocs⟩ : ∃ q : List Loc, q = [] := ⟨_, rfl⟩
  rw [← elocs] at hS ⊢
  obtain ⟨H, eH⟩ : ∃ q : Heap, q = s.heap := ⟨_, rfl⟩
  have hP : va_P D vwCl G0 H := eH ▸ hP
  have hS : va_S A s.heap H locs := by rw [eH]; exact hS
  rw [← eH]
  clear elocs eH
  have hiX8 : ∀ w ∈ u_ws RX8 TX8 37, w ∈ wsX8_sheet := by decide +kernel
  have hk : ∀ k, k ∉ [22, 24, 27, 28, 29, 30] → G0[k]? = G0[k]? := fun _ _ => rfl
  refine lv_iconst (v := nI (0)) (pc := 0) hx hb dX8_sheet_0 (by decide) ?_
  refine lv_istore_n (lv' := [(1, .int (nI (0))), (0, .ref (a 22))]) (pc := 1) hx hb dX8_sheet_1 rfl hl (by decide) rfl (fun ls hl => ?_)
  have LF : ∀ (k : Nat) (z : Nat) (ink : Nat → Int32) (fed : Int32), z + k = zn → ∀ (G : va_W) (H : Heap) (locs : List Loc) (ls : Array Slot), va_P D vwCl G H → va_D A G → va_S A s.heap H locs → (∀ j, j ∉ [22, 24, 27, 28, 29, 30] → G[j]? = G0[j]?) → G[22]? = some (a 22, .inr (8, [.int (nI (zn)), .int (nI (tr)), .ref (a 23), .ref (a 24), .ref (a 25), .ref (a 26), .ref (a 27), .ref (a 28), .ref (a 29), .int (nI (sc)), .int (sg), .int (sr), .int (ss), .int (fed), .int (pap), .int (bar), .int (gB (st)), .ref (a 30), .ref (a 31), .ref (a 32), .int (nI (pn)), .ref (a 33), .ref (a 34), .ref (a 35), .ref (a 36), .int (nI (mn)), .long (q1), .long (q2), .long (q3), .long (q4), .long (q5), .ref (a 37), .ref (a 38), .ref (a 39), .int (nI (jn)), .ref (a 40), .ref (a 41)])) → G[23]? = some (a 23, .inl (cI, 9, .inl (ru))) → G[24]? = some (a 24, .inl (cI, 8, .inl (ke))) → G[25]? = some (a 25, .inl (cI, 8, .inl (cv))) → G[26]? = some (a 26, .inl (cI, 8, .inl (tg))) → G[27]? = some (a 27, .inl (cI, 40, .inl (ink))) → G[28]? = some (a 28, .inl (cI, 8000, .inl (den))) → G[29]? = some (a 29, .inl (cZ, 1000, .inl (fun j => gB ((go) j)))) → G[30]? = some (a 30, .inl (cI, 8, .inl (asd))) → lv_has ls 8 [(0, .ref (a 22)), (1, .int (nI (z)))] → (∀ (G : va_W) (H : Heap) (locs : List Loc) (ls : Array Slot), va_P D vwCl G H → va_D A G → va_S A s.heap H locs → (∀ j, j ∉ [22, 24, 27, 28, 29, 30] → G[j]? = G0[j]?) → G[22]? = some (a 22, .inr (8, [.int (nI (zn)), .int (nI (tr)), .ref (a 23), .ref (a 24), .ref (a 25), .ref (a 26), .ref (a 27), .ref (a 28), .ref (a 29), .int (nI (sc)), .int (sg), .int (sr), .int (ss), .int (gFf ke (ru 0) k z fed), .int (pap), .int (bar), .int (gB (st)), .ref (a 30), .ref (a 31), .ref (a 32), .int (nI (pn)), .ref (a 33), .ref (a 34), .ref (a 35), .ref (a 36), .int (nI (mn)), .long (q1), .long (q2), .long (q3), .long (q4), .long (q5), .ref (a 37), .ref (a 38), .ref (a 39), .int (nI (jn)), .ref (a 40), .ref (a 41)])) → G[23]? = some (a 23, .inl (cI, 9, .inl (ru))) → G[24]? = some (a 24, .inl (cI, 8, .inl (ke))) → G[25]? = some (a 25, .inl (cI, 8, .inl (cv))) → G[26]? = some (a 26, .inl (cI, 8, .inl (tg))) → G[27]? = some (a 27, .inl (cI, 40, .inl (gFi ke (ru 0) k z ink))) → G[28]? = some (a 28, .inl (cI, 8000, .inl (den))) → G[29]? = some (a 29, .inl (cZ, 1000, .inl (fun j => gB ((go) j)))) → G[30]? = some (a 30, .inl (cI, 8, .inl (asd))) → lv_has ls 8 [(0, .ref (a 22))] → W p l e ({ frames := 2, cells := 0, slots := 0, locals := 44 } : Room) s m args below meth c H locs 0 0 Q (F0 m 60 ls [])) → W p l e ({ frames := 2, cells := 0, slots := 0, locals := 44 } : Room) s m args below meth c H locs 0 0 Q (F0 m 2 ls []) := by
    intro k
    induction k with
    | zero =>
      intro z ink fed hz G H locs ls hP hD hS hk w22 w23 w24 w25 w26 w27 w28 w29 w30 hl hcont
      refine lv_iload_n (pc := 2) hx hb dX8_sheet_2 rfl (lv_at hl 1 rfl) ?_
      refine lv_aload_n (pc := 3) hx hb dX8_sheet_3 rfl (lv_at hl 0 rfl) ?_
      refine va_get (ci := 8) (C := RX8) (T := TX8) (N := 37) (pc := 4) hx hb hts hiX8 hown hK hP 22 w22 rfl 0 (by decide) (hts (.fieldLink RX8 7 "InkPressModel" "zones" "I") (by decide +kernel)) (fun _ h9 => h9) rfl dX8_sheet_4 ?_
      refine mx_cge (tgt := 60) (pc := 7) hx hb (by omega) (by omega) dX8_sheet_7 (by decide) (fun c7 => ?_) (fun c7 => absurd c7 (by omega))
      exact hcont G H locs ls hP hD hS hk w22 w23 w24 w25 w26 w27 w28 w29 w30 (lv_sub hl [0] rfl)
    | succ k ih =>
      intro z ink fed hz G H locs ls hP hD hS hk w22 w23 w24 w25 w26 w27 w28 w29 w30 hl hcont
      refine lv_iload_n (pc := 2) hx hb dX8_sheet_2 rfl (lv_at hl 1 rfl) ?_
      refine lv_aload_n (pc := 3) hx hb dX8_sheet_3 rfl (lv_at hl 0 rfl) ?_
      refine va_get (ci := 8) (C := RX8) (T := TX8) (N := 37) (pc := 4) hx hb hts hiX8 hown hK hP 22 w22 rfl 0 (by decide) (hts (.fieldLink RX8 7 "InkPressModel" "zones" "I") (by decide +kernel)) (fun _ h9 => h9) rfl dX8_sheet_4 ?_
      refine mx_cge (tgt := 60) (pc := 7) hx hb (by omega) (by omega) dX8_sheet_7 (by decide) (fun c7 => absurd c7 (by omega)) (fun c7 => ?_)
      refine lv_aload_n (pc := 10) hx hb dX8_sheet_10 rfl (lv_at hl 0 rfl) ?_
      refine va_get (ci := 8) (C := RX8) (T := TX8) (N := 37) (pc := 11) hx hb hts hiX8 hown hK hP 22 w22 rfl 6 (by decide) (hts (.fieldLink RX8 29 "InkPressModel" "ink" "[I") (by decide +kernel)) (fun _ h9 => h9) rfl dX8_sheet_11 ?_
      refine lv_iload_n (pc := 14) hx hb dX8_sheet_14 rfl (lv_at hl 1 rfl) ?_
      refine lv_dup2_11 (pc := 15) hx hb dX8_sheet_15 rfl rfl ?_
      refine mx_iald (pc := 16) hx hb hK hP 27 w27 (z) (by omega) (by decide) dX8_sheet_16 ?_
      refine lv_aload_n (pc := 17) hx hb dX8_sheet_17 rfl (lv_at hl 0 rfl) ?_
      refine va_get (ci := 8) (C := RX8) (T := TX8) (N := 37) (pc := 18) hx hb hts hiX8 hown hK hP 22 w22 rfl 3 (by decide) (hts (.fieldLink RX8 20 "InkPressModel" "key" "[I") (by decide +kernel)) (fun _ h9 => h9) rfl dX8_sheet_18 ?_
      refine lv_iload_n (pc := 21) hx hb dX8_sheet_21 rfl (lv_at hl 1 rfl) ?_
      refine mx_iald (pc := 22) hx hb hK hP 24 w24 (z) (by omega) (by decide) dX8_sheet_22 ?_
      refine lv_aload_n (pc := 23) hx hb dX8_sheet_23 rfl (lv_at hl 0 rfl) ?_
      refine va_get (ci := 8) (C := RX8) (T := TX8) (N := 37) (pc := 24) hx hb hts hiX8 hown hK hP 22 w22 rfl 2 (by decide) (hts (.fieldLink RX8 16 "InkPressModel" "rules" "[I") (by decide +kernel)) (fun _ h9 => h9) rfl dX8_sheet_24 ?_
      refine lv_iconst (v := nI (0)) (pc := 27) hx hb dX8_sheet_27 (by decide) ?_
      refine mx_iald (pc := 28) hx hb hK hP 23 w23 (0) (by omega) (by decide) dX8_sheet_28 ?_
      refine lv_imul (pc := 29) hx hb dX8_sheet_29 ?_
      refine lv_iadd (pc := 30) hx hb dX8_sheet_30 ?_
      refine mx_iast (x := ((ink) (z) + ((ke) (z) * (ru) (0)))) (pc := 31) hx hb hK hP hD hS 27 w27 (z) (by omega) (by decide) dX8_sheet_31 (fun H locs G hP hD hS w27 ho => ?_)
      have w22 := (ho 22 (by decide)).trans w22
      have w23 := (ho 23 (by decide)).trans w23
      have w24 := (ho 24 (by decide)).trans w24
      have w25 := (ho 25 (by decide)).trans w25
      have w26 := (ho 26 (by decide)).trans w26
      have w28 := (ho 28 (by decide)).trans w28
      have w29 := (ho 29 (by decide)).trans w29
      have w30 := (ho 30 (by decide)).trans w30
      have w27 : G[27]? = some (a 27, .inl (cI, 40, .inl (upd (ink) (z) (((ink) (z) + ((ke) (z) * (ru) (0))))))) := w27
      have hk := gk_step hk ho (by decide)
      clear ho
      refine lv_aload_n (pc := 32) hx hb dX8_sheet_32 rfl (lv_at hl 0 rfl) ?_
      refine lv_dup (pc := 33) hx hb dX8_sheet_33 rfl ?_
      refine va_get (ci := 8) (C := RX8) (T := TX8) (N := 37) (pc := 34) hx hb hts hiX8 hown hK hP 22 w22 rfl 13 (by decide) (hts (.fieldLink RX8 90 "InkPressModel" "fed" "I") (by decide +kernel)) (fun _ h9 => h9) rfl dX8_sheet_34 ?_
      refine lv_aload_n (pc := 37) hx hb dX8_sheet_37 rfl (lv_at hl 0 rfl) ?_
      refine va_get (ci := 8) (C := RX8) (T := TX8) (N := 37) (pc := 38) hx hb hts hiX8 hown hK hP 22 w22 rfl 3 (by decide) (hts (.fieldLink RX8 20 "InkPressModel" "key" "[I") (by decide +kernel)) (fun _ h9 => h9) rfl dX8_sheet_38 ?_
      refine lv_iload_n (pc := 41) hx hb dX8_sheet_41 rfl (lv_at hl 1 rfl) ?_
      refine mx_iald (pc := 42) hx hb hK hP 24 w24 (z) (by omega) (by decide) dX8_sheet_42 ?_
      refine lv_aload_n (pc := 43) hx hb dX8_sheet_43 rfl (lv_at hl 0 rfl) ?_
      refine va_get (ci := 8) (C := RX8) (T := TX8) (N := 37) (pc := 44) hx hb hts hiX8 hown hK hP 22 w22 rfl 2 (by decide) (hts (.fieldLink RX8 16 "InkPressModel" "rules" "[I") (by decide +kernel)) (fun _ h9 => h9) rfl dX8_sheet_44 ?_
      refine lv_iconst (v := nI (0)) (pc := 47) hx hb dX8_sheet_47 (by decide) ?_
      refine mx_iald (pc := 48) hx hb hK hP 23 w23 (0) (by omega) (by decide) dX8_sheet_48 ?_
      refine lv_imul (pc := 49) hx hb dX8_sheet_49 ?_
      refine lv_iadd (pc := 50) hx hb dX8_sheet_50 ?_
      refine mx_put (ci := 8) (v := .int ((fed + ((ke) (z) * (ru) (0))))) (ty := .int) (C := RX8) (T := TX8) (N := 37) (pc := 51) hx hb hts hiX8 tyX8 tyX8_ok nmX8 hown hK hP hD hS 22 w22 rfl 13 (by decide) (hts (.fieldLink RX8 90 "InkPressModel" "fed" "I") (by decide +kernel)) (fun _ h9 => h9) rfl (by decide +kernel) rfl rfl (Nat.le_of_ble_eq_true rfl) dX8_sheet_51 (fun H locs G hP hD hS w22 ho => ?_)
      have w23 := (ho 23 (by decide)).trans w23
      have w24 := (ho 24 (by decide)).trans w24
      have w25 := (ho 25 (by decide)).trans w25
      have w26 := (ho 26 (by decide)).trans w26
      have w27 := (ho 27 (by decide)).trans w27
      have w28 := (ho 28 (by decide)).trans w28
      have w29 := (ho 29 (by decide)).trans w29
      have w30 := (ho 30 (by decide)).trans w30
      have w22 : G[22]? = some (a 22, .inr (8, [.int (nI (zn)), .int (nI (tr)), .ref (a 23), .ref (a 24), .ref (a 25), .ref (a 26), .ref (a 27), .ref (a 28), .ref (a 29), .int (nI (sc)), .int (sg), .int (sr), .int (ss), .int ((fed + ((ke) (z) * (ru) (0)))), .int (pap), .int (bar), .int (gB (st)), .ref (a 30), .ref (a 31), .ref (a 32), .int (nI (pn)), .ref (a 33), .ref (a 34), .ref (a 35), .ref (a 36), .int (nI (mn)), .long (q1), .long (q2), .long (q3), .long (q4), .long (q5), .ref (a 37), .ref (a 38), .ref (a 39), .int (nI (jn)), .ref (a 40), .ref (a 41)])) := w22
      have hk := gk_step hk ho (by decide)
      clear ho
      refine lv_iinc (v := nI (z + 1)) (lv' := [(1, .int (nI (z + 1))), (0, .ref (a 22))]) (pc := 54) hx hb dX8_sheet_54 hl (k := 1) rfl (mx_inc1 _) (by decide) rfl (fun ls hl => ?_)
      refine lv_goto (tgt := 2) (pc := 57) hx hb dX8_sheet_57 (by decide) ?_
      exact ih (z + 1) (upd ink z (ink z + ke z * ru 0)) (fed + ke z * ru 0) (by omega) G H locs ls hP hD hS hk w22 w23 w24 w25 w26 w27 w28 w29 w30 (lv_sub hl [1, 0] rfl) hcont
  refine LF zn (0) (ink) (fed) (by omega) G0 H locs ls hP hD hS hk w22 w23 w24 w25 w26 w27 w28 w29 w30 (lv_sub hl [1, 0] rfl) (fun G H locs ls hP hD hS hk w22 w23 w24 w25 w26 w27 w28 w29 w30 hl => ?_)
  have w22 : G[22]? = some (a 22, .inr (8, [.int (nI (zn)), .int (nI (tr)), .ref (a 23), .ref (a 24), .ref (a 25), .ref (a 26), .ref (a 27), .ref (a 28), .ref (a 29), .int (nI (sc)), .int (sg), .int (sr), .int (ss), .int (gFf ke (ru 0) (zn) (0) (fed)), .int (pap), .int (bar), .int (gB (st)), .ref (a 30), .ref (a 31), .ref (a 32), .int (nI (pn)), .ref (a 33), .ref (a 34), .ref (a 35), .ref (a 36), .int (nI (mn)), .long (q1), .long (q2), .long (q3), .long (q4), .long (q5), .ref (a 37), .ref (a 38), .ref (a 39), .int (nI (jn)), .ref (a 40), .ref (a 41)])) := w22
  have w27 : G[27]? = some (a 27, .inl (cI, 40, .inl (gFi ke (ru 0) (zn) (0) (ink)))) := w27
  refine lv_iconst (v := nI (0)) (pc := 60) hx hb dX8_sheet_60 (by decide) ?_
  refine lv_istore_n (lv' := [(1, .int (nI (0))), (0, .ref (a 22))]) (pc := 61) hx hb dX8_sheet_61 rfl hl (by decide) rfl (fun ls hl => ?_)
  have LP : ∀ (k : Nat) (r : Nat) (ink : Nat → Int32), r + 1 + k = tr → ∀ (G : va_W) (H : Heap) (locs : List Loc) (ls : Array Slot), va_P D vwCl G H → va_D A G → va_S A s.heap H locs → (∀ j, j ∉ [22, 24, 27, 28, 29, 30] → G[j]? = G0[j]?) → G[22]? = some (a 22, .inr (8, [.int (nI (zn)), .int (nI (tr)), .ref (a 23), .ref (a 24), .ref (a 25), .ref (a 26), .ref (a 27), .ref (a 28), .ref (a 29), .int (nI (sc)), .int (sg), .int (sr), .int (ss), .int (gFf ke (ru 0) (zn) (0) (fed)), .int (pap), .int (bar), .int (gB (st)), .ref (a 30), .ref (a 31), .ref (a 32), .int (nI (pn)), .ref (a 33), .ref (a 34), .ref (a 35), .ref (a 36), .int (nI (mn)), .long (q1), .long (q2), .long (q3), .long (q4), .long (q5), .ref (a 37), .ref (a 38), .ref (a 39), .int (nI (jn)), .ref (a 40), .ref (a 41)])) → G[23]? = some (a 23, .inl (cI, 9, .inl (ru))) → G[24]? = some (a 24, .inl (cI, 8, .inl (ke))) → G[25]? = some (a 25, .inl (cI, 8, .inl (cv))) → G[26]? = some (a 26, .inl (cI, 8, .inl (tg))) → G[27]? = some (a 27, .inl (cI, 40, .inl (ink))) → G[28]? = some (a 28, .inl (cI, 8000, .inl (den))) → G[29]? = some (a 29, .inl (cZ, 1000, .inl (fun j => gB ((go) j)))) → G[30]? = some (a 30, .inl (cI, 8, .inl (asd))) → lv_has ls 8 [(0, .ref (a 22)), (1, .int (nI (r)))] → (∀ (G : va_W) (H : Heap) (locs : List Loc) (ls : Array Slot), va_P D vwCl G H → va_D A G → va_S A s.heap H locs → (∀ j, j ∉ [22, 24, 27, 28, 29, 30] → G[j]? = G0[j]?) → G[22]? = some (a 22, .inr (8, [.int (nI (zn)), .int (nI (tr)), .ref (a 23), .ref (a 24), .ref (a 25), .ref (a 26), .ref (a 27), .ref (a 28), .ref (a 29), .int (nI (sc)), .int (sg), .int (sr), .int (ss), .int (gFf ke (ru 0) (zn) (0) (fed)), .int (pap), .int (bar), .int (gB (st)), .ref (a 30), .ref (a 31), .ref (a 32), .int (nI (pn)), .ref (a 33), .ref (a 34), .ref (a 35), .ref (a 36), .int (nI (mn)), .long (q1), .long (q2), .long (q3), .long (q4), .long (q5), .ref (a 37), .ref (a 38), .ref (a 39), .int (nI (jn)), .ref (a 40), .ref (a 41)])) → G[23]? = some (a 23, .inl (cI, 9, .inl (ru))) → G[24]? = some (a 24, .inl (cI, 8, .inl (ke))) → G[25]? = some (a 25, .inl (cI, 8, .inl (cv))) → G[26]? = some (a 26, .inl (cI, 8, .inl (tg))) → G[27]? = some (a 27, .inl (cI, 40, .inl (gMPr (ru 1) zn k r ink))) → G[28]? = some (a 28, .inl (cI, 8000, .inl (den))) → G[29]? = some (a 29, .inl (cZ, 1000, .inl (fun j => gB ((go) j)))) → G[30]? = some (a 30, .inl (cI, 8, .inl (asd))) → lv_has ls 8 [(0, .ref (a 22))] → W p l e ({ frames := 2, cells := 0, slots := 0, locals := 44 } : Room) s m args below meth c H locs 0 0 Q (F0 m 148 ls [])) → W p l e ({ frames := 2, cells := 0, slots := 0, locals := 44 } : Room) s m args below meth c H locs 0 0 Q (F0 m 62 ls []) := by
    intro k
    induction k with
    | zero =>
      intro r ink hr G H locs ls hP hD hS hk w22 w23 w24 w25 w26 w27 w28 w29 w30 hl hcont
      refine lv_iload_n (pc := 62) hx hb dX8_sheet_62 rfl (lv_at hl 1 rfl) ?_
      refine lv_iconst (v := nI (1)) (pc := 63) hx hb dX8_sheet_63 (by decide) ?_
      refine mx_iadd (pc := 64) hx hb dX8_sheet_64 ?_
      refine lv_aload_n (pc := 65) hx hb dX8_sheet_65 rfl (lv_at hl 0 rfl) ?_
      refine va_get (ci := 8) (C := RX8) (T := TX8) (N := 37) (pc := 66) hx hb hts hiX8 hown hK hP 22 w22 rfl 1 (by decide) (hts (.fieldLink RX8 13 "InkPressModel" "rollers" "I") (by decide +kernel)) (fun _ h9 => h9) rfl dX8_sheet_66 ?_
      refine mx_cge (tgt := 148) (pc := 69) hx hb (by omega) (by omega) dX8_sheet_69 (by decide) (fun c69 => ?_) (fun c69 => absurd c69 (by omega))
      exact hcont G H locs ls hP hD hS hk w22 w23 w24 w25 w26 w27 w28 w29 w30 (lv_sub hl [0] rfl)
    | succ k ih =>
      intro r ink hr G H locs ls hP hD hS hk w22 w23 w24 w25 w26 w27 w28 w29 w30 hl hcont
      refine lv_iload_n (pc := 62) hx hb dX8_sheet_62 rfl (lv_at hl 1 rfl) ?_
      refine lv_iconst (v := nI (1)) (pc := 63) hx hb dX8_sheet_63 (by decide) ?_
      refine mx_iadd (pc := 64) hx hb dX8_sheet_64 ?_
      refine lv_aload_n (pc := 65) hx hb dX8_sheet_65 rfl (lv_at hl 0 rfl) ?_
      refine va_get (ci := 8) (C := RX8) (T := TX8) (N := 37) (pc := 66) hx hb hts hiX8 hown hK hP 22 w22 rfl 1 (by decide) (hts (.fieldLink RX8 13 "InkPressModel" "rollers" "I") (by decide +kernel)) (fun _ h9 => h9) rfl dX8_sheet_66 ?_
      refine mx_cge (tgt := 148) (pc := 69) hx hb (by omega) (by omega) dX8_sheet_69 (by decide) (fun c69 => absurd c69 (by omega)) (fun c69 => ?_)
      refine lv_iconst (v := nI (0)) (pc := 72) hx hb dX8_sheet_72 (by decide) ?_
      refine lv_istore_n (lv' := [(2, .int (nI (0))), (0, .ref (a 22)), (1, .int (nI (r)))]) (pc := 73) hx hb dX8_sheet_73 rfl hl (by decide) rfl (fun ls hl => ?_)
      have LZ : ∀ (j : Nat) (z : Nat) (ink : Nat → Int32), z + j = zn → ∀ (G : va_W) (H : Heap) (locs : List Loc) (ls : Array Slot), va_P D vwCl G H → va_D A G → va_S A s.heap H locs → (∀ j, j ∉ [22, 24, 27, 28, 29, 30] → G[j]? = G0[j]?) → G[22]? = some (a 22, .inr (8, [.int (nI (zn)), .int (nI (tr)), .ref (a 23), .ref (a 24), .ref (a 25), .ref (a 26), .ref (a 27), .ref (a 28), .ref (a 29), .int (nI (sc)), .int (sg), .int (sr), .int (ss), .int (gFf ke (ru 0) (zn) (0) (fed)), .int (pap), .int (bar), .int (gB (st)), .ref (a 30), .ref (a 31), .ref (a 32), .int (nI (pn)), .ref (a 33), .ref (a 34), .ref (a 35), .ref (a 36), .int (nI (mn)), .long (q1), .long (q2), .long (q3), .long (q4), .long (q5), .ref (a 37), .ref (a 38), .ref (a 39), .int (nI (jn)), .ref (a 40), .ref (a 41)])) → G[23]? = some (a 23, .inl (cI, 9, .inl (ru))) → G[24]? = some (a 24, .inl (cI, 8, .inl (ke))) → G[25]? = some (a 25, .inl (cI, 8, .inl (cv))) → G[26]? = some (a 26, .inl (cI, 8, .inl (tg))) → G[27]? = some (a 27, .inl (cI, 40, .inl (ink))) → G[28]? = some (a 28, .inl (cI, 8000, .inl (den))) → G[29]? = some (a 29, .inl (cZ, 1000, .inl (fun j => gB ((go) j)))) → G[30]? = some (a 30, .inl (cI, 8, .inl (asd))) → lv_has ls 8 [(0, .ref (a 22)), (1, .int (nI (r))), (2, .int (nI (z)))] → (∀ (G : va_W) (H : Heap) (locs : List Loc) (ls : Array Slot), va_P D vwCl G H → va_D A G → va_S A s.heap H locs → (∀ j, j ∉ [22, 24, 27, 28, 29, 30] → G[j]? = G0[j]?) → G[22]? = some (a 22, .inr (8, [.int (nI (zn)), .int (nI (tr)), .ref (a 23), .ref (a 24), .ref (a 25), .ref (a 26), .ref (a 27), .ref (a 28), .ref (a 29), .int (nI (sc)), .int (sg), .int (sr), .int (ss), .int (gFf ke (ru 0) (zn) (0) (fed)), .int (pap), .int (bar), .int (gB (st)), .ref (a 30), .ref (a 31), .ref (a 32), .int (nI (pn)), .ref (a 33), .ref (a 34), .ref (a 35), .ref (a 36), .int (nI (mn)), .long (q1), .long (q2), .long (q3), .long (q4), .long (q5), .ref (a 37), .ref (a 38), .ref (a 39), .int (nI (jn)), .ref (a 40), .ref (a 41)])) → G[23]? = some (a 23, .inl (cI, 9, .inl (ru))) → G[24]? = some (a 24, .inl (cI, 8, .inl (ke))) → G[25]? = some (a 25, .inl (cI, 8, .inl (cv))) → G[26]? = some (a 26, .inl (cI, 8, .inl (tg))) → G[27]? = some (a 27, .inl (cI, 40, .inl (gMPz (ru 1) r j z ink))) → G[28]? = some (a 28, .inl (cI, 8000, .inl (den))) → G[29]? = some (a 29, .inl (cZ, 1000, .inl (fun j => gB ((go) j)))) → G[30]? = some (a 30, .inl (cI, 8, .inl (asd))) → lv_has ls 8 [(0, .ref (a 22)), (1, .int (nI (r)))] → W p l e ({ frames := 2, cells := 0, slots := 0, locals := 44 } : Room) s m args below meth c H locs 0 0 Q (F0 m 142 ls [])) → W p l e ({ frames := 2, cells := 0, slots := 0, locals := 44 } : Room) s m args below meth c H locs 0 0 Q (F0 m 74 ls []) := by
        intro j
        induction j with
        | zero =>
          intro z ink hz G H locs ls hP hD hS hk w22 w23 w24 w25 w26 w27 w28 w29 w30 hl hcont
          refine lv_iload_n (pc := 74) hx hb dX8_sheet_74 rfl (lv_at hl 2 rfl) ?_
          refine lv_aload_n (pc := 75) hx hb dX8_sheet_75 rfl (lv_at hl 0 rfl) ?_
          refine va_get (ci := 8) (C := RX8) (T := TX8) (N := 37) (pc := 76) hx hb hts hiX8 hown hK hP 22 w22 rfl 0 (by decide) (hts (.fieldLink RX8 7 "InkPressModel" "zones" "I") (by decide +kernel)) (fun _ h9 => h9) rfl dX8_sheet_76 ?_
          refine mx_cge (tgt := 142) (pc := 79) hx hb (by omega) (by omega) dX8_sheet_79 (by decide) (fun c79 => ?_) (fun c79 => absurd c79 (by omega))
          exact hcont G H locs ls hP hD hS hk w22 w23 w24 w25 w26 w27 w28 w29 w30 (lv_sub hl [0, 1] rfl)
        | succ j ih =>
          intro z ink hz G H locs ls hP hD hS hk w22 w23 w24 w25 w26 w27 w28 w29 w30 hl hcont
          refine lv_iload_n (pc := 74) hx hb dX8_sheet_74 rfl (lv_at hl 2 rfl) ?_
          refine lv_aload_n (pc := 75) hx hb dX8_sheet_75 rfl (lv_at hl 0 rfl) ?_
          refine va_get (ci := 8) (C := RX8) (T := TX8) (N := 37) (pc := 76) hx hb hts hiX8 hown hK hP 22 w22 rfl 0 (by decide) (hts (.fieldLink RX8 7 "InkPressModel" "zones" "I") (by decide +kernel)) (fun _ h9 => h9) rfl dX8_sheet_76 ?_
          refine mx_cge (tgt := 142) (pc := 79) hx hb (by omega) (by omega) dX8_sheet_79 (by decide) (fun c79 => absurd c79 (by omega)) (fun c79 => ?_)
          refine lv_bipush (v := nI (8)) (pc := 82) hx hb dX8_sheet_82 (by decide) ?_
          refine lv_iload_n (pc := 84) hx hb dX8_sheet_84 rfl (lv_at hl 1 rfl) ?_
          refine mx_imul (pc := 85) hx hb dX8_sheet_85 ?_
          refine lv_iload_n (pc := 86) hx hb dX8_sheet_86 rfl (lv_at hl 2 rfl) ?_
          refine mx_iadd (pc := 87) hx hb dX8_sheet_87 ?_
          refine lv_istore_n (lv' := [(3, .int (nI ((8) * (r) + z))), (0, .ref (a 22)), (1, .int (nI (r))), (2, .int (nI (z)))]) (pc := 88) hx hb dX8_sheet_88 rfl hl (by decide) rfl (fun ls hl => ?_)
          refine lv_aload_n (pc := 89) hx hb dX8_sheet_89 rfl (lv_at hl 1 rfl) ?_
          refine va_get (ci := 8) (C := RX8) (T := TX8) (N := 37) (pc := 90) hx hb hts hiX8 hown hK hP 22 w22 rfl 6 (by decide) (hts (.fieldLink RX8 29 "InkPressModel" "ink" "[I") (by decide +kernel)) (fun _ h9 => h9) rfl dX8_sheet_90 ?_
          refine lv_iload_n (pc := 93) hx hb dX8_sheet_93 rfl (lv_at hl 0 rfl) ?_
          refine mx_iald (pc := 94) hx hb hK hP 27 w27 ((8) * (r) + z) (by omega) (by decide) dX8_sheet_94 ?_
          refine lv_i2l (v := ((ink) ((8) * (r) + z)).toInt64) (pc := 95) hx hb dX8_sheet_95 rfl ?_
          refine lv_aload_n (pc := 96) hx hb dX8_sheet_96 rfl (lv_at hl 1 rfl) ?_
          refine va_get (ci := 8) (C := RX8) (T := TX8) (N := 37) (pc := 97) hx hb hts hiX8 hown hK hP 22 w22 rfl 2 (by decide) (hts (.fieldLink RX8 16 "InkPressModel" "rules" "[I") (by decide +kernel)) (fun _ h9 => h9) rfl dX8_sheet_97 ?_
          refine lv_iconst (v := nI (1)) (pc := 100) hx hb dX8_sheet_100 (by decide) ?_
          refine mx_iald (pc := 101) hx hb hK hP 23 w23 (1) (by omega) (by decide) dX8_sheet_101 ?_
          refine lv_i2l (v := ((ru) (1)).toInt64) (pc := 102) hx hb dX8_sheet_102 rfl ?_
          refine lv_lmul (pc := 103) hx hb dX8_sheet_103 ?_
          refine lv_ldc2 (own := RX8) (v := (100)) (pc := 104) hx hb hown (hts (.constantLong RX8 125 (100)) (by decide +kernel)) dX8_sheet_104 ?_
          refine lv_ldiv (pc := 107) hx hb dX8_sheet_107 (by decide) ?_
          refine lv_l2i (v := (((((ink) ((8) * (r) + z)).toInt64 * ((ru) (1)).toInt64) / (100))).toInt32) (pc := 108) hx hb dX8_sheet_108 rfl ?_
          refine lv_istore (lv' := [(4, .int ((((((ink) ((8) * (r) + z)).toInt64 * ((ru) (1)).toInt64) / (100))).toInt32)), (3, .int (nI ((8) * (r) + z))), (0, .ref (a 22)), (1, .int (nI (r))), (2, .int (nI (z)))]) (pc := 109) hx hb dX8_sheet_109 hl (by decide) rfl (fun ls hl => ?_)
          refine lv_aload_n (pc := 111) hx hb dX8_sheet_111 rfl (lv_at hl 2 rfl) ?_
          refine va_get (ci := 8) (C := RX8) (T := TX8) (N := 37) (pc := 112) hx hb hts hiX8 hown hK hP 22 w22 rfl 6 (by decide) (hts (.fieldLink RX8 29 "InkPressModel" "ink" "[I") (by decide +kernel)) (fun _ h9 => h9) rfl dX8_sheet_112 ?_
          refine lv_iload_n (pc := 115) hx hb dX8_sheet_115 rfl (lv_at hl 1 rfl) ?_
          refine lv_dup2_11 (pc := 116) hx hb dX8_sheet_116 rfl rfl ?_
          refine mx_iald (pc := 117) hx hb hK hP 27 w27 ((8) * (r) + z) (by omega) (by decide) dX8_sheet_117 ?_
          refine lv_iload (pc := 118) hx hb dX8_sheet_118 (lv_at hl 0 rfl) ?_
          refine lv_isub (pc := 120) hx hb dX8_sheet_120 ?_
          refine mx_iast (x := ((ink) ((8) * (r) + z) - (((((ink) ((8) * (r) + z)).toInt64 * ((ru) (1)).toInt64) / (100))).toInt32)) (pc := 121) hx hb hK hP hD hS 27 w27 ((8) * (r) + z) (by omega) (by decide) dX8_sheet_121 (fun H locs G hP hD hS w27 ho => ?_)
          have w22 := (ho 22 (by decide)).trans w22
          have w23 := (ho 23 (by decide)).trans w23
          have w24 := (ho 24 (by decide)).trans w24
          have w25 := (ho 25 (by decide)).trans w25
          have w26 := (ho 26 (by decide)).trans w26
          have w28 := (ho 28 (by decide)).trans w28
          have w29 := (ho 29 (by decide)).trans w29
          have w30 := (ho 30 (by decide)).trans w30
          have w27 : G[27]? = some (a 27, .inl (cI, 40, .inl (upd (ink) ((8) * (r) + z) (((ink) ((8) * (r) + z) - (((((ink) ((8) * (r) + z)).toInt64 * ((ru) (1)).toInt64) / (100))).toInt32))))) := w27
          have hk := gk_step hk ho (by decide)
          clear ho
          refine lv_aload_n (pc := 122) hx hb dX8_sheet_122 rfl (lv_at hl 2 rfl) ?_
          refine va_get (ci := 8) (C := RX8) (T := TX8) (N := 37) (pc := 123) hx hb hts hiX8 hown hK hP 22 w22 rfl 6 (by decide) (hts (.fieldLink RX8 29 "InkPressModel" "ink" "[I") (by decide +kernel)) (fun _ h9 => h9) rfl dX8_sheet_123 ?_
          refine lv_iload_n (pc := 126) hx hb dX8_sheet_126 rfl (lv_at hl 1 rfl) ?_
          refine lv_bipush (v := nI (8)) (pc := 127) hx hb dX8_sheet_127 (by decide) ?_
          refine mx_iadd (pc := 129) hx hb dX8_sheet_129 ?_
          refine lv_dup2_11 (pc := 130) hx hb dX8_sheet_130 rfl rfl ?_
          refine mx_iald (pc := 131) hx hb hK hP 27 w27 ((8) * (r) + z + 8) (by omega) (by decide) dX8_sheet_131 ?_
          refine lv_iload (pc := 132) hx hb dX8_sheet_132 (lv_at hl 0 rfl) ?_
          refine lv_iadd (pc := 134) hx hb dX8_sheet_134 ?_
          refine mx_iast (x := ((upd (ink) ((8) * (r) + z) (((ink) ((8) * (r) + z) - (((((ink) ((8) * (r) + z)).toInt64 * ((ru) (1)).toInt64) / (100))).toInt32))) ((8) * (r) + z + 8) + (((((ink) ((8) * (r) + z)).toInt64 * ((ru) (1)).toInt64) / (100))).toInt32)) (pc := 135) hx hb hK hP hD hS 27 w27 ((8) * (r) + z + 8) (by omega) (by decide) dX8_sheet_135 (fun H locs G hP hD hS w27 ho => ?_)
          have w22 := (ho 22 (by decide)).trans w22
          have w23 := (ho 23 (by decide)).trans w23
          have w24 := (ho 24 (by decide)).trans w24
          have w25 := (ho 25 (by decide)).trans w25
          have w26 := (ho 26 (by decide)).trans w26
          have w28 := (ho 28 (by decide)).trans w28
          have w29 := (ho 29 (by decide)).trans w29
          have w30 := (ho 30 (by decide)).trans w30
          have w27 : G[27]? = some (a 27, .inl (cI, 40, .inl (upd (upd (ink) ((8) * (r) + z) (((ink) ((8) * (r) + z) - (((((ink) ((8) * (r) + z)).toInt64 * ((ru) (1)).toInt64) / (100))).toInt32))) ((8) * (r) + z + 8) (((upd (ink) ((8) * (r) + z) (((ink) ((8) * (r) + z) - (((((ink) ((8) * (r) + z)).toInt64 * ((ru) (1)).toInt64) / (100))).toInt32))) ((8) * (r) + z + 8) + (((((ink) ((8) * (r) + z)).toInt64 * ((ru) (1)).toInt64) / (100))).toInt32))))) := w27
          have hk := gk_step hk ho (by decide)
          clear ho
          refine lv_iinc (v := nI (z + 1)) (lv' := [(2, .int (nI (z + 1))), (4, .int ((((((ink) ((8) * (r) + z)).toInt64 * ((ru) (1)).toInt64) / (100))).toInt32)), (3, .int (nI ((8) * (r) + z))), (0, .ref (a 22)), (1, .int (nI (r)))]) (pc := 136) hx hb dX8_sheet_136 hl (k := 4) rfl (mx_inc1 _) (by decide) rfl (fun ls hl => ?_)
          refine lv_goto (tgt := 74) (pc := 139) hx hb dX8_sheet_139 (by decide) ?_
          exact ih (z + 1) (gMP1 (ru 1) r z ink) (by omega) G H locs ls hP hD hS hk w22 w23 w24 w25 w26 w27 w28 w29 w30 (lv_sub hl [3, 4, 0] rfl) hcont
      refine LZ zn (0) (ink) (by omega) G H locs ls hP hD hS hk w22 w23 w24 w25 w26 w27 w28 w29 w30 (lv_sub hl [1, 2, 0] rfl) (fun G H locs ls hP hD hS hk w22 w23 w24 w25 w26 w27 w28 w29 w30 hl => ?_)
      have w27 : G[27]? = some (a 27, .inl (cI, 40, .inl (gMPz (ru 1) r (zn) (0) (ink)))) := w27
      refine lv_iinc (v := nI (r + 1)) (lv' := [(1, .int (nI (r + 1))), (0, .ref (a 22))]) (pc := 142) hx hb dX8_sheet_142 hl (k := 1) rfl (mx_inc1 _) (by decide) rfl (fun ls hl => ?_)
      refine lv_goto (tgt := 62) (pc := 145) hx hb dX8_sheet_145 (by decide) ?_
      exact ih (r + 1) (gMPz (ru 1) r (zn) (0) (ink)) (by omega) G H locs ls hP hD hS hk w22 w23 w24 w25 w26 w27 w28 w29 w30 (lv_sub hl [1, 0] rfl) hcont
  refine LP (tr - 1) (0) (gFi ke (ru 0) (zn) (0) (ink)) (by omega) G H locs ls hP hD hS hk w22 w23 w24 w25 w26 w27 w28 w29 w30 (lv_sub hl [1, 0] rfl) (fun G H locs ls hP hD hS hk w22 w23 w24 w25 w26 w27 w28 w29 w30 hl => ?_)
  have w27 : G[27]? = some (a 27, .inl (cI, 40, .inl (gMPr (ru 1) zn ((tr - 1)) (0) (gFi ke (ru 0) (zn) (0) (ink))))) := w27
  refine lv_iconst (v := nI (0)) (pc := 148) hx hb dX8_sheet_148 (by decide) ?_
  refine lv_istore_n (lv' := [(1, .int (nI (0))), (0, .ref (a 22))]) (pc := 149) hx hb dX8_sheet_149 rfl hl (by decide) rfl (fun ls hl => ?_)
  have LD : ∀ (k : Nat) (r : Nat) (ink : Nat → Int32) (asd : Nat → Int32), r + k = tr → ∀ (G : va_W) (H : Heap) (locs : List Loc) (ls : Array Slot), va_P D vwCl G H → va_D A G → va_S A s.heap H locs → (∀ j, j ∉ [22, 24, 27, 28, 29, 30] → G[j]? = G0[j]?) → G[22]? = some (a 22, .inr (8, [.int (nI (zn)), .int (nI (tr)), .ref (a 23), .ref (a 24), .ref (a 25), .ref (a 26), .ref (a 27), .ref (a 28), .ref (a 29), .int (nI (sc)), .int (sg), .int (sr), .int (ss), .int (gFf ke (ru 0) (zn) (0) (fed)), .int (pap), .int (bar), .int (gB (st)), .ref (a 30), .ref (a 31), .ref (a 32), .int (nI (pn)), .ref (a 33), .ref (a 34), .ref (a 35), .ref (a 36), .int (nI (mn)), .long (q1), .long (q2), .long (q3), .long (q4), .long (q5), .ref (a 37), .ref (a 38), .ref (a 39), .int (nI (jn)), .ref (a 40), .ref (a 41)])) → G[23]? = some (a 23, .inl (cI, 9, .inl (ru))) → G[24]? = some (a 24, .inl (cI, 8, .inl (ke))) → G[25]? = some (a 25, .inl (cI, 8, .inl (cv))) → G[26]? = some (a 26, .inl (cI, 8, .inl (tg))) → G[27]? = some (a 27, .inl (cI, 40, .inl (ink))) → G[28]? = some (a 28, .inl (cI, 8000, .inl (den))) → G[29]? = some (a 29, .inl (cZ, 1000, .inl (fun j => gB ((go) j)))) → G[30]? = some (a 30, .inl (cI, 8, .inl (asd))) → lv_has ls 8 [(0, .ref (a 22)), (1, .int (nI (r)))] → (∀ (G : va_W) (H : Heap) (locs : List Loc) (ls : Array Slot), va_P D vwCl G H → va_D A G → va_S A s.heap H locs → (∀ j, j ∉ [22, 24, 27, 28, 29, 30] → G[j]? = G0[j]?) → G[22]? = some (a 22, .inr (8, [.int (nI (zn)), .int (nI (tr)), .ref (a 23), .ref (a 24), .ref (a 25), .ref (a 26), .ref (a 27), .ref (a 28), .ref (a 29), .int (nI (sc)), .int (sg), .int (sr), .int (ss), .int (gFf ke (ru 0) (zn) (0) (fed)), .int (pap), .int (bar), .int (gB (st)), .ref (a 30), .ref (a 31), .ref (a 32), .int (nI (pn)), .ref (a 33), .ref (a 34), .ref (a 35), .ref (a 36), .int (nI (mn)), .long (q1), .long (q2), .long (q3), .long (q4), .long (q5), .ref (a 37), .ref (a 38), .ref (a 39), .int (nI (jn)), .ref (a 40), .ref (a 41)])) → G[23]? = some (a 23, .inl (cI, 9, .inl (ru))) → G[24]? = some (a 24, .inl (cI, 8, .inl (ke))) → G[25]? = some (a 25, .inl (cI, 8, .inl (cv))) → G[26]? = some (a 26, .inl (cI, 8, .inl (tg))) → G[27]? = some (a 27, .inl (cI, 40, .inl (gMdI (ru 2) zn k r ink asd))) → G[28]? = some (a 28, .inl (cI, 8000, .inl (den))) → G[29]? = some (a 29, .inl (cZ, 1000, .inl (fun j => gB ((go) j)))) → G[30]? = some (a 30, .inl (cI, 8, .inl (gMdA (ru 2) zn k r ink asd))) → lv_has ls 8 [(0, .ref (a 22))] → W p l e ({ frames := 2, cells := 0, slots := 0, locals := 44 } : Room) s m args below meth c H locs 0 0 Q (F0 m 169 ls [])) → W p l e ({ frames := 2, cells := 0, slots := 0, locals := 44 } : Room) s m args below meth c H locs 0 0 Q (F0 m 150 ls []) := by
    intro k
    induction k with
    | zero =>
      intro r ink asd hr G H locs ls hP hD hS hk w22 w23 w24 w25 w26 w27 w28 w29 w30 hl hcont
      refine lv_iload_n (pc := 150) hx hb dX8_sheet_150 rfl (lv_at hl 1 rfl) ?_
      refine lv_aload_n (pc := 151) hx hb dX8_sheet_151 rfl (lv_at hl 0 rfl) ?_
      refine va_get (ci := 8) (C := RX8) (T := TX8) (N := 37) (pc := 152) hx hb hts hiX8 hown hK hP 22 w22 rfl 1 (by decide) (hts (.fieldLink RX8 13 "InkPressModel" "rollers" "I") (by decide +kernel)) (fun _ h9 => h9) rfl dX8_sheet_152 ?_
      refine mx_cge (tgt := 169) (pc := 155) hx hb (by omega) (by omega) dX8_sheet_155 (by decide) (fun c155 => ?_) (fun c155 => absurd c155 (by omega))
      exact hcont G H locs ls hP hD hS hk w22 w23 w24 w25 w26 w27 w28 w29 w30 (lv_sub hl [0] rfl)
    | succ k ih =>
      intro r ink asd hr G H locs ls hP hD hS hk w22 w23 w24 w25 w26 w27 w28 w29 w30 hl hcont
      refine lv_iload_n (pc := 150) hx hb dX8_sheet_150 rfl (lv_at hl 1 rfl) ?_
      refine lv_aload_n (pc := 151) hx hb dX8_sheet_151 rfl (lv_at hl 0 rfl) ?_
      refine va_get (ci := 8) (C := RX8) (T := TX8) (N := 37) (pc := 152) hx hb hts hiX8 hown hK hP 22 w22 rfl 1 (by decide) (hts (.fieldLink RX8 13 "InkPressModel" "rollers" "I") (by decide +kernel)) (fun _ h9 => h9) rfl dX8_sheet_152 ?_
      refine mx_cge (tgt := 169) (pc := 155) hx hb (by omega) (by omega) dX8_sheet_155 (by decide) (fun c155 => absurd c155 (by omega)) (fun c155 => ?_)
      refine lv_aload_n (pc := 158) hx hb dX8_sheet_158 rfl (lv_at hl 0 rfl) ?_
      refine lv_iload_n (pc := 159) hx hb dX8_sheet_159 rfl (lv_at hl 1 rfl) ?_
      refine mx_cVv (As := [.int (nI (r))]) (rest := []) (pc := 160) ⟨hx, hb, hml, hown, hts⟩ (k_X8_drift (a := a) (zn := zn) (tr := tr) (sc := sc) (pn := pn) (mn := mn) (jn := jn) (sg := sg) (sr := sr) (ss := ss) (fed := gFf ke (ru 0) (zn) (0) (fed)) (pap := pap) (bar := bar) (st := st) (q1 := q1) (q2 := q2) (q3 := q3) (q4 := q4) (q5 := q5) (ru := ru) (ink := ink) (asd := asd) (r := r) hD w22 w23 w27 w30 (by omega) (by omega) (by omega)) (cwV 1 hts gX8_sheet_X8_drift rfl rfl rfl (by decide +kernel) ⟨Nat.le_of_ble_eq_true rfl, Nat.le_of_ble_eq_true rfl⟩) 22 rfl rfl w22 hK hN hZ hP hS rfl hl.1 rfl (Nat.le_of_ble_eq_true rfl) dX8_sheet_160 ⟨Nat.zero_le _, Nat.zero_le _⟩ (fun G H locs hP hD hS hB => ?_)
      obtain ⟨w27, w30, ho⟩ := hB
      have w22 := (ho 22 (by decide)).trans w22
      have w23 := (ho 23 (by decide)).trans w23
      have w24 := (ho 24 (by decide)).trans w24
      have w25 := (ho 25 (by decide)).trans w25
      have w26 := (ho 26 (by decide)).trans w26
      have w27 : G[27]? = some (a 27, .inl (cI, 40, .inl (gMdz (gAs ((ru) 2) (8 * (r)) (ink) (zn) 0 (asd)) (8 * (r)) ((zn) - 1) 0 (ink)))) := w27
      have w28 := (ho 28 (by decide)).trans w28
      have w29 := (ho 29 (by decide)).trans w29
      have w30 : G[30]? = some (a 30, .inl (cI, 8, .inl (gAs ((ru) 2) (8 * (r)) (ink) (zn) 0 (asd)))) := w30
      have hk := gk_call hk ho (by decide)
      clear ho
      refine lv_iinc (v := nI (r + 1)) (lv' := [(1, .int (nI (r + 1))), (0, .ref (a 22))]) (pc := 163) hx hb dX8_sheet_163 hl (k := 1) rfl (mx_inc1 _) (by decide) rfl (fun ls hl => ?_)
      refine lv_goto (tgt := 150) (pc := 166) hx hb dX8_sheet_166 (by decide) ?_
      exact ih (r + 1) (gMdz (gAs ((ru) 2) (8 * (r)) (ink) (zn) 0 (asd)) (8 * (r)) ((zn) - 1) 0 (ink)) (gAs ((ru) 2) (8 * (r)) (ink) (zn) 0 (asd)) (by omega) G H locs ls hP hD hS hk w22 w23 w24 w25 w26 w27 w28 w29 w30 (lv_sub hl [1, 0] rfl) hcont
  refine LD tr (0) (gMPr (ru 1) zn ((tr - 1)) (0) (gFi ke (ru 0) (zn) (0) (ink))) (asd) (by omega) G H locs ls hP hD hS hk w22 w23 w24 w25 w26 w27 w28 w29 w30 (lv_sub hl [1, 0] rfl) (fun G H locs ls hP hD hS hk w22 w23 w24 w25 w26 w27 w28 w29 w30 hl => ?_)
  have w27 : G[27]? = some (a 27, .inl (cI, 40, .inl (gMdI (ru 2) zn (tr) (0) (gMPr (ru 1) zn ((tr - 1)) (0) (gFi ke (ru 0) (zn) (0) (ink))) (asd)))) := w27
  have w30 : G[30]? = some (a 30, .inl (cI, 8, .inl (gMdA (ru 2) zn (tr) (0) (gMPr (ru 1) zn ((tr - 1)) (0) (gFi ke (ru 0) (zn) (0) (ink))) (asd)))) := w30
  have w27 : G[27]? = some (a 27, .inl (cI, 40, .inl ((gMi3 ru ke zn tr ink asd)))) := w27
  have w30 : G[30]? = some (a 30, .inl (cI, 8, .inl ((gMa3 ru ke zn tr ink asd)))) := w30
  refine lv_iconst (v := nI (1)) (pc := 169) hx hb dX8_sheet_169 (by decide) ?_
  refine lv_istore_n (lv' := [(1, .int (nI (1))), (0, .ref (a 22))]) (pc := 170) hx hb dX8_sheet_170 rfl hl (by decide) rfl (fun ls hl => ?_)
  refine lv_iconst (v := nI (0)) (pc := 171) hx hb dX8_sheet_171 (by decide) ?_
  refine lv_istore_n (lv' := [(2, .int (nI (0))), (1, .int (nI (1))), (0, .ref (a 22))]) (pc := 172) hx hb dX8_sheet_172 rfl hl (by decide) rfl (fun ls hl => ?_)
  have LT : ∀ (k : Nat) (z : Nat) (ik : Nat → Int32) (pap : Int32) (bar : Int32) (den : Nat → Int32) (gd : Bool), z + k = zn → ∀ (G : va_W) (H : Heap) (locs : List Loc) (ls : Array Slot), va_P D vwCl G H → va_D A G → va_S A s.heap H locs → (∀ j, j ∉ [22, 24, 27, 28, 29, 30] → G[j]? = G0[j]?) → G[22]? = some (a 22, .inr (8, [.int (nI (zn)), .int (nI (tr)), .ref (a 23), .ref (a 24), .ref (a 25), .ref (a 26), .ref (a 27), .ref (a 28), .ref (a 29), .int (nI (sc)), .int (sg), .int (sr), .int (ss), .int (gFf ke (ru 0) (zn) (0) (fed)), .int (pap), .int (bar), .int (gB (st)), .ref (a 30), .ref (a 31), .ref (a 32), .int (nI (pn)), .ref (a 33), .ref (a 34), .ref (a 35), .ref (a 36), .int (nI (mn)), .long (q1), .long (q2), .long (q3), .long (q4), .long (q5), .ref (a 37), .ref (a 38), .ref (a 39), .int (nI (jn)), .ref (a 40), .ref (a 41)])) → G[23]? = some (a 23, .inl (cI, 9, .inl (ru))) → G[24]? = some (a 24, .inl (cI, 8, .inl (ke))) → G[25]? = some (a 25, .inl (cI, 8, .inl (cv))) → G[26]? = some (a 26, .inl (cI, 8, .inl (tg))) → G[27]? = some (a 27, .inl (cI, 40, .inl (ik))) → G[28]? = some (a 28, .inl (cI, 8000, .inl (den))) → G[29]? = some (a 29, .inl (cZ, 1000, .inl (fun j => gB ((go) j)))) → G[30]? = some (a 30, .inl (cI, 8, .inl ((gMa3 ru ke zn tr ink asd)))) → lv_has ls 8 [(0, .ref (a 22)), (1, .int (gB (gd))), (2, .int (nI (z)))] → (∀ (G : va_W) (H : Heap) (locs : List Loc) (ls : Array Slot), va_P D vwCl G H → va_D A G → va_S A s.heap H locs → (∀ j, j ∉ [22, 24, 27, 28, 29, 30] → G[j]? = G0[j]?) → G[22]? = some (a 22, .inr (8, [.int (nI (zn)), .int (nI (tr)), .ref (a 23), .ref (a 24), .ref (a 25), .ref (a 26), .ref (a 27), .ref (a 28), .ref (a 29), .int (nI (sc)), .int (sg), .int (sr), .int (ss), .int (gFf ke (ru 0) (zn) (0) (fed)), .int (gMTp tr (ru 3) cv k z ik pap), .int (gMTb tr (ru 3) cv k z ik bar), .int (gB (st)), .ref (a 30), .ref (a 31), .ref (a 32), .int (nI (pn)), .ref (a 33), .ref (a 34), .ref (a 35), .ref (a 36), .int (nI (mn)), .long (q1), .long (q2), .long (q3), .long (q4), .long (q5), .ref (a 37), .ref (a 38), .ref (a 39), .int (nI (jn)), .ref (a 40), .ref (a 41)])) → G[23]? = some (a 23, .inl (cI, 9, .inl (ru))) → G[24]? = some (a 24, .inl (cI, 8, .inl (ke))) → G[25]? = some (a 25, .inl (cI, 8, .inl (cv))) → G[26]? = some (a 26, .inl (cI, 8, .inl (tg))) → G[27]? = some (a 27, .inl (cI, 40, .inl (gMTi tr (ru 3) cv k z ik))) → G[28]? = some (a 28, .inl (cI, 8000, .inl (gMTd tr (ru 3) cv (8 * sc) k z ik den))) → G[29]? = some (a 29, .inl (cZ, 1000, .inl (fun j => gB ((go) j)))) → G[30]? = some (a 30, .inl (cI, 8, .inl ((gMa3 ru ke zn tr ink asd)))) → lv_has ls 8 [(0, .ref (a 22)), (1, .int (gB (gMTg tr (ru 3) cv tg (ru 6) k z ik gd)))] → W p l e ({ frames := 2, cells := 0, slots := 0, locals := 44 } : Room) s m args below meth c H locs 0 0 Q (F0 m 343 ls [])) → W p l e ({ frames := 2, cells := 0, slots := 0, locals := 44 } : Room) s m args below meth c H locs 0 0 Q (F0 m 173 ls []) := by
    intro k
    induction k with
    | zero =>
      intro z ik pap bar den gd hz G H locs ls hP hD hS hk w22 w23 w24 w25 w26 w27 w28 w29 w30 hl hcont
      refine lv_iload_n (pc := 173) hx hb dX8_sheet_173 rfl (lv_at hl 2 rfl) ?_
      refine lv_aload_n (pc := 174) hx hb dX8_sheet_174 rfl (lv_at hl 0 rfl) ?_
      refine va_get (ci := 8) (C := RX8) (T := TX8) (N := 37) (pc := 175) hx hb hts hiX8 hown hK hP 22 w22 rfl 0 (by decide) (hts (.fieldLink RX8 7 "InkPressModel" "zones" "I") (by decide +kernel)) (fun _ h9 => h9) rfl dX8_sheet_175 ?_
      refine mx_cge (tgt := 343) (pc := 178) hx hb (by omega) (by omega) dX8_sheet_178 (by decide) (fun c178 => ?_) (fun c178 => absurd c178 (by omega))
      exact hcont G H locs ls hP hD hS hk w22 w23 w24 w25 w26 w27 w28 w29 w30 (lv_sub hl [0, 1] rfl)
    | succ k ih =>
      intro z ik pap bar den gd hz G H locs ls hP hD hS hk w22 w23 w24 w25 w26 w27 w28 w29 w30 hl hcont
      refine lv_iload_n (pc := 173) hx hb dX8_sheet_173 rfl (lv_at hl 2 rfl) ?_
      refine lv_aload_n (pc := 174) hx hb dX8_sheet_174 rfl (lv_at hl 0 rfl) ?_
      refine va_get (ci := 8) (C := RX8) (T := TX8) (N := 37) (pc := 175) hx hb hts hiX8 hown hK hP 22 w22 rfl 0 (by decide) (hts (.fieldLink RX8 7 "InkPressModel" "zones" "I") (by decide +kernel)) (fun _ h9 => h9) rfl dX8_sheet_175 ?_
      refine mx_cge (tgt := 343) (pc := 178) hx hb (by omega) (by omega) dX8_sheet_178 (by decide) (fun c178 => absurd c178 (by omega)) (fun c178 => ?_)
      refine lv_bipush (v := nI (8)) (pc := 181) hx hb dX8_sheet_181 (by decide) ?_
      refine lv_aload_n (pc := 183) hx hb dX8_sheet_183 rfl (lv_at hl 0 rfl) ?_
      refine va_get (ci := 8) (C := RX8) (T := TX8) (N := 37) (pc := 184) hx hb hts hiX8 hown hK hP 22 w22 rfl 1 (by decide) (hts (.fieldLink RX8 13 "InkPressModel" "rollers" "I") (by decide +kernel)) (fun _ h9 => h9) rfl dX8_sheet_184 ?_
      refine lv_iconst (v := nI (1)) (pc := 187) hx hb dX8_sheet_187 (by decide) ?_
      refine mx_isub (pc := 188) hx hb (by omega) dX8_sheet_188 ?_
      refine mx_imul (pc := 189) hx hb dX8_sheet_189 ?_
      refine lv_iload_n (pc := 190) hx hb dX8_sheet_190 rfl (lv_at hl 2 rfl) ?_
      refine mx_iadd (pc := 191) hx hb dX8_sheet_191 ?_
      refine lv_istore_n (lv' := [(3, .int (nI ((8) * ((tr) - (1)) + z))), (0, .ref (a 22)), (1, .int (gB (gd))), (2, .int (nI (z)))]) (pc := 192) hx hb dX8_sheet_192 rfl hl (by decide) rfl (fun ls hl => ?_)
      refine lv_aload_n (pc := 193) hx hb dX8_sheet_193 rfl (lv_at hl 1 rfl) ?_
      refine va_get (ci := 8) (C := RX8) (T := TX8) (N := 37) (pc := 194) hx hb hts hiX8 hown hK hP 22 w22 rfl 6 (by decide) (hts (.fieldLink RX8 29 "InkPressModel" "ink" "[I") (by decide +kernel)) (fun _ h9 => h9) rfl dX8_sheet_194 ?_
      refine lv_iload_n (pc := 197) hx hb dX8_sheet_197 rfl (lv_at hl 0 rfl) ?_
      refine mx_iald (pc := 198) hx hb hK hP 27 w27 ((8) * ((tr) - (1)) + z) (by omega) (by decide) dX8_sheet_198 ?_
      refine lv_i2l (v := ((ik) ((8) * ((tr) - (1)) + z)).toInt64) (pc := 199) hx hb dX8_sheet_199 rfl ?_
      refine lv_aload_n (pc := 200) hx hb dX8_sheet_200 rfl (lv_at hl 1 rfl) ?_
      refine va_get (ci := 8) (C := RX8) (T := TX8) (N := 37) (pc := 201) hx hb hts hiX8 hown hK hP 22 w22 rfl 2 (by decide) (hts (.fieldLink RX8 16 "InkPressModel" "rules" "[I") (by decide +kernel)) (fun _ h9 => h9) rfl dX8_sheet_201 ?_
      refine lv_iconst (v := nI (3)) (pc := 204) hx hb dX8_sheet_204 (by decide) ?_
      refine mx_iald (pc := 205) hx hb hK hP 23 w23 (3) (by omega) (by decide) dX8_sheet_205 ?_
      refine lv_i2l (v := ((ru) (3)).toInt64) (pc := 206) hx hb dX8_sheet_206 rfl ?_
      refine lv_lmul (pc := 207) hx hb dX8_sheet_207 ?_
      refine lv_aload_n (pc := 208) hx hb dX8_sheet_208 rfl (lv_at hl 1 rfl) ?_
      refine va_get (ci := 8) (C := RX8) (T := TX8) (N := 37) (pc := 209) hx hb hts hiX8 hown hK hP 22 w22 rfl 4 (by decide) (hts (.fieldLink RX8 23 "InkPressModel" "cover" "[I") (by decide +kernel)) (fun _ h9 => h9) rfl dX8_sheet_209 ?_
      refine lv_iload_n (pc := 212) hx hb dX8_sheet_212 rfl (lv_at hl 3 rfl) ?_
      refine mx_iald (pc := 213) hx hb hK hP 25 w25 (z) (by omega) (by decide) dX8_sheet_213 ?_
      refine lv_i2l (v := ((cv) (z)).toInt64) (pc := 214) hx hb dX8_sheet_214 rfl ?_
      refine lv_lmul (pc := 215) hx hb dX8_sheet_215 ?_
      refine lv_ldc2 (own := RX8) (v := (10000)) (pc := 216) hx hb hown (hts (.constantLong RX8 135 (10000)) (by decide +kernel)) dX8_sheet_216 ?_
      refine lv_ldiv (pc := 219) hx hb dX8_sheet_219 (by decide) ?_
      refine lv_l2i (v := ((((((ik) ((8) * ((tr) - (1)) + z)).toInt64 * ((ru) (3)).toInt64) * ((cv) (z)).toInt64) / (10000))).toInt32) (pc := 220) hx hb dX8_sheet_220 rfl ?_
      refine lv_istore (lv' := [(4, .int (((((((ik) ((8) * ((tr) - (1)) + z)).toInt64 * ((ru) (3)).toInt64) * ((cv) (z)).toInt64) / (10000))).toInt32)), (3, .int (nI ((8) * ((tr) - (1)) + z))), (0, .ref (a 22)), (1, .int (gB (gd))), (2, .int (nI (z)))]) (pc := 221) hx hb dX8_sheet_221 hl (by decide) rfl (fun ls hl => ?_)
      refine lv_aload_n (pc := 223) hx hb dX8_sheet_223 rfl (lv_at hl 2 rfl) ?_
      refine va_get (ci := 8) (C := RX8) (T := TX8) (N := 37) (pc := 224) hx hb hts hiX8 hown hK hP 22 w22 rfl 6 (by decide) (hts (.fieldLink RX8 29 "InkPressModel" "ink" "[I") (by decide +kernel)) (fun _ h9 => h9) rfl dX8_sheet_224 ?_
      refine lv_iload_n (pc := 227) hx hb dX8_sheet_227 rfl (lv_at hl 1 rfl) ?_
      refine mx_iald (pc := 228) hx hb hK hP 27 w27 ((8) * ((tr) - (1)) + z) (by omega) (by decide) dX8_sheet_228 ?_
      refine lv_bipush (v := nI (100)) (pc := 229) hx hb dX8_sheet_229 (by decide) ?_
      refine lv_idiv (pc := 231) hx hb dX8_sheet_231 (by decide) ?_
      refine lv_istore (lv' := [(5, .int ((((ik) ((8) * ((tr) - (1)) + z)) / (nI (100))))), (4, .int (((((((ik) ((8) * ((tr) - (1)) + z)).toInt64 * ((ru) (3)).toInt64) * ((cv) (z)).toInt64) / (10000))).toInt32)), (3, .int (nI ((8) * ((tr) - (1)) + z))), (0, .ref (a 22)), (1, .int (gB (gd))), (2, .int (nI (z)))]) (pc := 232) hx hb dX8_sheet_232 hl (by decide) rfl (fun ls hl => ?_)
      refine lv_aload_n (pc := 234) hx hb dX8_sheet_234 rfl (lv_at hl 3 rfl) ?_
      refine va_get (ci := 8) (C := RX8) (T := TX8) (N := 37) (pc := 235) hx hb hts hiX8 hown hK hP 22 w22 rfl 6 (by decide) (hts (.fieldLink RX8 29 "InkPressModel" "ink" "[I") (by decide +kernel)) (fun _ h9 => h9) rfl dX8_sheet_235 ?_
      refine lv_iload_n (pc := 238) hx hb dX8_sheet_238 rfl (lv_at hl 2 rfl) ?_
      refine lv_dup2_11 (pc := 239) hx hb dX8_sheet_239 rfl rfl ?_
      refine mx_iald (pc := 240) hx hb hK hP 27 w27 ((8) * ((tr) - (1)) + z) (by omega) (by decide) dX8_sheet_240 ?_
      refine lv_iload (pc := 241) hx hb dX8_sheet_241 (lv_at hl 1 rfl) ?_
      refine lv_iload (pc := 243) hx hb dX8_sheet_243 (lv_at hl 0 rfl) ?_
      refine lv_iadd (pc := 245) hx hb dX8_sheet_245 ?_
      refine lv_isub (pc := 246) hx hb dX8_sheet_246 ?_
      refine mx_iast (x := ((ik) ((8) * ((tr) - (1)) + z) - (((((((ik) ((8) * ((tr) - (1)) + z)).toInt64 * ((ru) (3)).toInt64) * ((cv) (z)).toInt64) / (10000))).toInt32 + (((ik) ((8) * ((tr) - (1)) + z)) / (nI (100)))))) (pc := 247) hx hb hK hP hD hS 27 w27 ((8) * ((tr) - (1)) + z) (by omega) (by decide) dX8_sheet_247 (fun H locs G hP hD hS w27 ho => ?_)
      have w22 := (ho 22 (by decide)).trans w22
      have w23 := (ho 23 (by decide)).trans w23
      have w24 := (ho 24 (by decide)).trans w24
      have w25 := (ho 25 (by decide)).trans w25
      have w26 := (ho 26 (by decide)).trans w26
      have w28 := (ho 28 (by decide)).trans w28
      have w29 := (ho 29 (by decide)).trans w29
      have w30 := (ho 30 (by decide)).trans w30
      have w27 : G[27]? = some (a 27, .inl (cI, 40, .inl (upd (ik) ((8) * ((tr) - (1)) + z) (((ik) ((8) * ((tr) - (1)) + z) - (((((((ik) ((8) * ((tr) - (1)) + z)).toInt64 * ((ru) (3)).toInt64) * ((cv) (z)).toInt64) / (10000))).toInt32 + (((ik) ((8) * ((tr) - (1)) + z)) / (nI (100))))))))) := w27
      have hk := gk_step hk ho (by decide)
      clear ho
      refine lv_aload_n (pc := 248) hx hb dX8_sheet_248 rfl (lv_at hl 3 rfl) ?_
      refine lv_dup (pc := 249) hx hb dX8_sheet_249 rfl ?_
      refine va_get (ci := 8) (C := RX8) (T := TX8) (N := 37) (pc := 250) hx hb hts hiX8 hown hK hP 22 w22 rfl 14 (by decide) (hts (.fieldLink RX8 93 "InkPressModel" "paper" "I") (by decide +kernel)) (fun _ h9 => h9) rfl dX8_sheet_250 ?_
      refine lv_iload (pc := 253) hx hb dX8_sheet_253 (lv_at hl 1 rfl) ?_
      refine lv_iadd (pc := 255) hx hb dX8_sheet_255 ?_
      refine mx_put (ci := 8) (v := .int ((pap + ((((((ik) ((8) * ((tr) - (1)) + z)).toInt64 * ((ru) (3)).toInt64) * ((cv) (z)).toInt64) / (10000))).toInt32))) (ty := .int) (C := RX8) (T := TX8) (N := 37) (pc := 256) hx hb hts hiX8 tyX8 tyX8_ok nmX8 hown hK hP hD hS 22 w22 rfl 14 (by decide) (hts (.fieldLink RX8 93 "InkPressModel" "paper" "I") (by decide +kernel)) (fun _ h9 => h9) rfl (by decide +kernel) rfl rfl (Nat.le_of_ble_eq_true rfl) dX8_sheet_256 (fun H locs G hP hD hS w22 ho => ?_)
      have w23 := (ho 23 (by decide)).trans w23
      have w24 := (ho 24 (by decide)).trans w24
      have w25 := (ho 25 (by decide)).trans w25
      have w26 := (ho 26 (by decide)).trans w26
      have w27 := (ho 27 (by decide)).trans w27
      have w28 := (ho 28 (by decide)).trans w28
      have w29 := (ho 29 (by decide)).trans w29
      have w30 := (ho 30 (by decide)).trans w30
      have w22 : G[22]? = some (a 22, .inr (8, [.int (nI (zn)), .int (nI (tr)), .ref (a 23), .ref (a 24), .ref (a 25), .ref (a 26), .ref (a 27), .ref (a 28), .ref (a 29), .int (nI (sc)), .int (sg), .int (sr), .int (ss), .int (gFf ke (ru 0) (zn) (0) (fed)), .int ((pap + ((((((ik) ((8) * ((tr) - (1)) + z)).toInt64 * ((ru) (3)).toInt64) * ((cv) (z)).toInt64) / (10000))).toInt32)), .int (bar), .int (gB (st)), .ref (a 30), .ref (a 31), .ref (a 32), .int (nI (pn)), .ref (a 33), .ref (a 34), .ref (a 35), .ref (a 36), .int (nI (mn)), .long (q1), .long (q2), .long (q3), .long (q4), .long (q5), .ref (a 37), .ref (a 38), .ref (a 39), .int (nI (jn)), .ref (a 40), .ref (a 41)])) := w22
      have hk := gk_step hk ho (by decide)
      clear ho
      refine lv_aload_n (pc := 259) hx hb dX8_sheet_259 rfl (lv_at hl 3 rfl) ?_
      refine lv_dup (pc := 260) hx hb dX8_sheet_260 rfl ?_
      refine va_get (ci := 8) (C := RX8) (T := TX8) (N := 37) (pc := 261) hx hb hts hiX8 hown hK hP 22 w22 rfl 15 (by decide) (hts (.fieldLink RX8 96 "InkPressModel" "bars" "I") (by decide +kernel)) (fun _ h9 => h9) rfl dX8_sheet_261 ?_
      refine lv_iload (pc := 264) hx hb dX8_sheet_264 (lv_at hl 0 rfl) ?_
      refine lv_iadd (pc := 266) hx hb dX8_sheet_266 ?_
      refine mx_put (ci := 8) (v := .int ((bar + (((ik) ((8) * ((tr) - (1)) + z)) / (nI (100)))))) (ty := .int) (C := RX8) (T := TX8) (N := 37) (pc := 267) hx hb hts hiX8 tyX8 tyX8_ok nmX8 hown hK hP hD hS 22 w22 rfl 15 (by decide) (hts (.fieldLink RX8 96 "InkPressModel" "bars" "I") (by decide +kernel)) (fun _ h9 => h9) rfl (by decide +kernel) rfl rfl (Nat.le_of_ble_eq_true rfl) dX8_sheet_267 (fun H locs G hP hD hS w22 ho => ?_)
      have w23 := (ho 23 (by decide)).trans w23
      have w24 := (ho 24 (by decide)).trans w24
      have w25 := (ho 25 (by decide)).trans w25
      have w26 := (ho 26 (by decide)).trans w26
      have w27 := (ho 27 (by decide)).trans w27
      have w28 := (ho 28 (by decide)).trans w28
      have w29 := (ho 29 (by decide)).trans w29
      have w30 := (ho 30 (by decide)).trans w30
      have w22 : G[22]? = some (a 22, .inr (8, [.int (nI (zn)), .int (nI (tr)), .ref (a 23), .ref (a 24), .ref (a 25), .ref (a 26), .ref (a 27), .ref (a 28), .ref (a 29), .int (nI (sc)), .int (sg), .int (sr), .int (ss), .int (gFf ke (ru 0) (zn) (0) (fed)), .int ((pap + ((((((ik) ((8) * ((tr) - (1)) + z)).toInt64 * ((ru) (3)).toInt64) * ((cv) (z)).toInt64) / (10000))).toInt32)), .int ((bar + (((ik) ((8) * ((tr) - (1)) + z)) / (nI (100))))), .int (gB (st)), .ref (a 30), .ref (a 31), .ref (a 32), .int (nI (pn)), .ref (a 33), .ref (a 34), .ref (a 35), .ref (a 36), .int (nI (mn)), .long (q1), .long (q2), .long (q3), .long (q4), .long (q5), .ref (a 37), .ref (a 38), .ref (a 39), .int (nI (jn)), .ref (a 40), .ref (a 41)])) := w22
      have hk := gk_step hk ho (by decide)
      clear ho
      refine lv_bipush (v := nI (10)) (pc := 270) hx hb dX8_sheet_270 (by decide) ?_
      refine lv_iload (pc := 272) hx hb dX8_sheet_272 (lv_at hl 0 rfl) ?_
      refine lv_imul (pc := 274) hx hb dX8_sheet_274 ?_
      refine lv_istore (lv' := [(6, .int ((nI (10) * (((ik) ((8) * ((tr) - (1)) + z)) / (nI (100)))))), (5, .int ((((ik) ((8) * ((tr) - (1)) + z)) / (nI (100))))), (4, .int (((((((ik) ((8) * ((tr) - (1)) + z)).toInt64 * ((ru) (3)).toInt64) * ((cv) (z)).toInt64) / (10000))).toInt32)), (3, .int (nI ((8) * ((tr) - (1)) + z))), (0, .ref (a 22)), (1, .int (gB (gd))), (2, .int (nI (z)))]) (pc := 275) hx hb dX8_sheet_275 hl (by decide) rfl (fun ls hl => ?_)
      refine lv_aload_n (pc := 277) hx hb dX8_sheet_277 rfl (lv_at hl 4 rfl) ?_
      refine va_get (ci := 8) (C := RX8) (T := TX8) (N := 37) (pc := 278) hx hb hts hiX8 hown hK hP 22 w22 rfl 7 (by decide) (hts (.fieldLink RX8 32 "InkPressModel" "density" "[I") (by decide +kernel)) (fun _ h9 => h9) rfl dX8_sheet_278 ?_
      refine lv_bipush (v := nI (8)) (pc := 281) hx hb dX8_sheet_281 (by decide) ?_
      refine lv_aload_n (pc := 283) hx hb dX8_sheet_283 rfl (lv_at hl 4 rfl) ?_
      refine va_get (ci := 8) (C := RX8) (T := TX8) (N := 37) (pc := 284) hx hb hts hiX8 hown hK hP 22 w22 rfl 9 (by decide) (hts (.fieldLink RX8 81 "InkPressModel" "sheets" "I") (by decide +kernel)) (fun _ h9 => h9) rfl dX8_sheet_284 ?_
      refine mx_imul (pc := 287) hx hb dX8_sheet_287 ?_
      refine lv_iload_n (pc := 288) hx hb dX8_sheet_288 rfl (lv_at hl 6 rfl) ?_
      refine mx_iadd (pc := 289) hx hb dX8_sheet_289 ?_
      refine lv_iload (pc := 290) hx hb dX8_sheet_290 (lv_at hl 0 rfl) ?_
      refine mx_iast (x := (nI (10) * (((ik) ((8) * ((tr) - (1)) + z)) / (nI (100))))) (pc := 292) hx hb hK hP hD hS 28 w28 ((8) * (sc) + z) (by omega) (by decide) dX8_sheet_292 (fun H locs G hP hD hS w28 ho => ?_)
      have w22 := (ho 22 (by decide)).trans w22
      have w23 := (ho 23 (by decide)).trans w23
      have w24 := (ho 24 (by decide)).trans w24
      have w25 := (ho 25 (by decide)).trans w25
      have w26 := (ho 26 (by decide)).trans w26
      have w27 := (ho 27 (by decide)).trans w27
      have w29 := (ho 29 (by decide)).trans w29
      have w30 := (ho 30 (by decide)).trans w30
      have w28 : G[28]? = some (a 28, .inl (cI, 8000, .inl (upd (den) ((8) * (sc) + z) ((nI (10) * (((ik) ((8) * ((tr) - (1)) + z)) / (nI (100)))))))) := w28
      have hk := gk_step hk ho (by decide)
      clear ho
      refine lv_iload (pc := 293) hx hb dX8_sheet_293 (lv_at hl 0 rfl) ?_
      refine lv_aload_n (pc := 295) hx hb dX8_sheet_295 rfl (lv_at hl 4 rfl) ?_
      refine va_get (ci := 8) (C := RX8) (T := TX8) (N := 37) (pc := 296) hx hb hts hiX8 hown hK hP 22 w22 rfl 5 (by decide) (hts (.fieldLink RX8 26 "InkPressModel" "target" "[I") (by decide +kernel)) (fun _ h9 => h9) rfl dX8_sheet_296 ?_
      refine lv_iload_n (pc := 299) hx hb dX8_sheet_299 rfl (lv_at hl 6 rfl) ?_
      refine mx_iald (pc := 300) hx hb hK hP 26 w26 (z) (by omega) (by decide) dX8_sheet_300 ?_
      refine lv_isub (pc := 301) hx hb dX8_sheet_301 ?_
      refine lv_istore (lv' := [(7, .int (((nI (10) * (((ik) ((8) * ((tr) - (1)) + z)) / (nI (100)))) - (tg) (z)))), (6, .int ((nI (10) * (((ik) ((8) * ((tr) - (1)) + z)) / (nI (100)))))), (5, .int ((((ik) ((8) * ((tr) - (1)) + z)) / (nI (100))))), (4, .int (((((((ik) ((8) * ((tr) - (1)) + z)).toInt64 * ((ru) (3)).toInt64) * ((cv) (z)).toInt64) / (10000))).toInt32)), (3, .int (nI ((8) * ((tr) - (1)) + z))), (0, .ref (a 22)), (1, .int (gB (gd))), (2, .int (nI (z)))]) (pc := 302) hx hb dX8_sheet_302 hl (by decide) rfl (fun ls hl => ?_)
      refine lv_iload_n (pc := 304) hx hb dX8_sheet_304 rfl (lv_at hl 6 rfl) ?_
      refine mx_beq (tgt := 335) (pc := 305) hx hb dX8_sheet_305 (by decide) (fun c305 => ?_) (fun c305 => ?_)
      · skip
        refine lv_iconst (v := nI (0)) (pc := 335) hx hb dX8_sheet_335 (by decide) ?_
        refine lv_istore_n (lv' := [(1, .int (nI (0))), (7, .int (((nI (10) * (((ik) ((8) * ((tr) - (1)) + z)) / (nI (100)))) - (tg) (z)))), (6, .int ((nI (10) * (((ik) ((8) * ((tr) - (1)) + z)) / (nI (100)))))), (5, .int ((((ik) ((8) * ((tr) - (1)) + z)) / (nI (100))))), (4, .int (((((((ik) ((8) * ((tr) - (1)) + z)).toInt64 * ((ru) (3)).toInt64) * ((cv) (z)).toInt64) / (10000))).toInt32)), (3, .int (nI ((8) * ((tr) - (1)) + z))), (0, .ref (a 22)), (2, .int (nI (z)))]) (pc := 336) hx hb dX8_sheet_336 rfl hl (by decide) rfl (fun ls hl => ?_)
        refine lv_iinc (v := nI (z + 1)) (lv' := [(2, .int (nI (z + 1))), (1, .int (nI (0))), (7, .int (((nI (10) * (((ik) ((8) * ((tr) - (1)) + z)) / (nI (100)))) - (tg) (z)))), (6, .int ((nI (10) * (((ik) ((8) * ((tr) - (1)) + z)) / (nI (100)))))), (5, .int ((((ik) ((8) * ((tr) - (1)) + z)) / (nI (100))))), (4, .int (((((((ik) ((8) * ((tr) - (1)) + z)).toInt64 * ((ru) (3)).toInt64) * ((cv) (z)).toInt64) / (10000))).toInt32)), (3, .int (nI ((8) * ((tr) - (1)) + z))), (0, .ref (a 22))]) (pc := 337) hx hb dX8_sheet_337 hl (k := 7) rfl (mx_inc1 _) (by decide) rfl (fun ls hl => ?_)
        refine lv_goto (tgt := 173) (pc := 340) hx hb dX8_sheet_340 (by decide) ?_
        have e9 : gMG1 gd (nI 10 * gMBar tr z ik) (tg z) (ru 6) = false := gMG_0 c305
        exact ih (z + 1) (gMTk tr z (ru 3) (cv z) ik) (pap + gMPap tr z (ru 3) (cv z) ik) (bar + gMBar tr z ik) (upd den (8 * sc + z) (nI 10 * gMBar tr z ik)) (gMG1 gd (nI 10 * gMBar tr z ik) (tg z) (ru 6)) (by omega) G H locs ls hP hD hS hk w22 w23 w24 w25 w26 w27 w28 w29 w30 (lv_sub hl [7, 1, 0] (by rw [e9]; rfl)) hcont
      · skip
        refine lv_iload (pc := 308) hx hb dX8_sheet_308 (lv_at hl 0 rfl) ?_
        refine lv_if_ge (tgt := 319) (pc := 310) hx hb dX8_sheet_310 (by decide) (fun c310 => ?_) (fun c310 => ?_)
        · skip
          refine lv_iload (pc := 319) hx hb dX8_sheet_319 (lv_at hl 0 rfl) ?_
          refine lv_aload_n (pc := 321) hx hb dX8_sheet_321 rfl (lv_at hl 5 rfl) ?_
          refine va_get (ci := 8) (C := RX8) (T := TX8) (N := 37) (pc := 322) hx hb hts hiX8 hown hK hP 22 w22 rfl 2 (by decide) (hts (.fieldLink RX8 16 "InkPressModel" "rules" "[I") (by decide +kernel)) (fun _ h9 => h9) rfl dX8_sheet_322 ?_
          refine lv_bipush (v := nI (6)) (pc := 325) hx hb dX8_sheet_325 (by decide) ?_
          refine mx_iald (pc := 327) hx hb hK hP 23 w23 (6) (by omega) (by decide) dX8_sheet_327 ?_
          refine lv_icmp_gt (tgt := 335) (pc := 328) hx hb dX8_sheet_328 (by decide) (fun c328 => ?_) (fun c328 => ?_)
          · skip
            refine lv_iconst (v := nI (0)) (pc := 335) hx hb dX8_sheet_335 (by decide) ?_
            refine lv_istore_n (lv' := [(1, .int (nI (0))), (7, .int (((nI (10) * (((ik) ((8) * ((tr) - (1)) + z)) / (nI (100)))) - (tg) (z)))), (6, .int ((nI (10) * (((ik) ((8) * ((tr) - (1)) + z)) / (nI (100)))))), (5, .int ((((ik) ((8) * ((tr) - (1)) + z)) / (nI (100))))), (4, .int (((((((ik) ((8) * ((tr) - (1)) + z)).toInt64 * ((ru) (3)).toInt64) * ((cv) (z)).toInt64) / (10000))).toInt32)), (3, .int (nI ((8) * ((tr) - (1)) + z))), (0, .ref (a 22)), (2, .int (nI (z)))]) (pc := 336) hx hb dX8_sheet_336 rfl hl (by decide) rfl (fun ls hl => ?_)
            refine lv_iinc (v := nI (z + 1)) (lv' := [(2, .int (nI (z + 1))), (1, .int (nI (0))), (7, .int (((nI (10) * (((ik) ((8) * ((tr) - (1)) + z)) / (nI (100)))) - (tg) (z)))), (6, .int ((nI (10) * (((ik) ((8) * ((tr) - (1)) + z)) / (nI (100)))))), (5, .int ((((ik) ((8) * ((tr) - (1)) + z)) / (nI (100))))), (4, .int (((((((ik) ((8) * ((tr) - (1)) + z)).toInt64 * ((ru) (3)).toInt64) * ((cv) (z)).toInt64) / (10000))).toInt32)), (3, .int (nI ((8) * ((tr) - (1)) + z))), (0, .ref (a 22))]) (pc := 337) hx hb dX8_sheet_337 hl (k := 7) rfl (mx_inc1 _) (by decide) rfl (fun ls hl => ?_)
            refine lv_goto (tgt := 173) (pc := 340) hx hb dX8_sheet_340 (by decide) ?_
            have e9 : gMG1 gd (nI 10 * gMBar tr z ik) (tg z) (ru 6) = false := gMG_1 c310 c328
            exact ih (z + 1) (gMTk tr z (ru 3) (cv z) ik) (pap + gMPap tr z (ru 3) (cv z) ik) (bar + gMBar tr z ik) (upd den (8 * sc + z) (nI 10 * gMBar tr z ik)) (gMG1 gd (nI 10 * gMBar tr z ik) (tg z) (ru 6)) (by omega) G H locs ls hP hD hS hk w22 w23 w24 w25 w26 w27 w28 w29 w30 (lv_sub hl [7, 1, 0] (by rw [e9]; rfl)) hcont
          · skip
            refine lv_iconst (v := nI (1)) (pc := 331) hx hb dX8_sheet_331 (by decide) ?_
            refine lv_goto (tgt := 336) (pc := 332) hx hb dX8_sheet_332 (by decide) ?_
            refine lv_istore_n (lv' := [(1, .int (nI (1))), (7, .int (((nI (10) * (((ik) ((8) * ((tr) - (1)) + z)) / (nI (100)))) - (tg) (z)))), (6, .int ((nI (10) * (((ik) ((8) * ((tr) - (1)) + z)) / (nI (100)))))), (5, .int ((((ik) ((8) * ((tr) - (1)) + z)) / (nI (100))))), (4, .int (((((((ik) ((8) * ((tr) - (1)) + z)).toInt64 * ((ru) (3)).toInt64) * ((cv) (z)).toInt64) / (10000))).toInt32)), (3, .int (nI ((8) * ((tr) - (1)) + z))), (0, .ref (a 22)), (2, .int (nI (z)))]) (pc := 336) hx hb dX8_sheet_336 rfl hl (by decide) rfl (fun ls hl => ?_)
            refine lv_iinc (v := nI (z + 1)) (lv' := [(2, .int (nI (z + 1))), (1, .int (nI (1))), (7, .int (((nI (10) * (((ik) ((8) * ((tr) - (1)) + z)) / (nI (100)))) - (tg) (z)))), (6, .int ((nI (10) * (((ik) ((8) * ((tr) - (1)) + z)) / (nI (100)))))), (5, .int ((((ik) ((8) * ((tr) - (1)) + z)) / (nI (100))))), (4, .int (((((((ik) ((8) * ((tr) - (1)) + z)).toInt64 * ((ru) (3)).toInt64) * ((cv) (z)).toInt64) / (10000))).toInt32)), (3, .int (nI ((8) * ((tr) - (1)) + z))), (0, .ref (a 22))]) (pc := 337) hx hb dX8_sheet_337 hl (k := 7) rfl (mx_inc1 _) (by decide) rfl (fun ls hl => ?_)
            refine lv_goto (tgt := 173) (pc := 340) hx hb dX8_sheet_340 (by decide) ?_
            have e9 : gMG1 gd (nI 10 * gMBar tr z ik) (tg z) (ru 6) = true := gMG_3 c305 c310 c328
            exact ih (z + 1) (gMTk tr z (ru 3) (cv z) ik) (pap + gMPap tr z (ru 3) (cv z) ik) (bar + gMBar tr z ik) (upd den (8 * sc + z) (nI 10 * gMBar tr z ik)) (gMG1 gd (nI 10 * gMBar tr z ik) (tg z) (ru 6)) (by omega) G H locs ls hP hD hS hk w22 w23 w24 w25 w26 w27 w28 w29 w30 (lv_sub hl [7, 1, 0] (by rw [e9]; rfl)) hcont
        · skip
          refine lv_iload (pc := 313) hx hb dX8_sheet_313 (lv_at hl 0 rfl) ?_
          refine lv_ineg (pc := 315) hx hb dX8_sheet_315 ?_
          refine lv_goto (tgt := 321) (pc := 316) hx hb dX8_sheet_316 (by decide) ?_
          refine lv_aload_n (pc := 321) hx hb dX8_sheet_321 rfl (lv_at hl 5 rfl) ?_
          refine va_get (ci := 8) (C := RX8) (T := TX8) (N := 37) (pc := 322) hx hb hts hiX8 hown hK hP 22 w22 rfl 2 (by decide) (hts (.fieldLink RX8 16 "InkPressModel" "rules" "[I") (by decide +kernel)) (fun _ h9 => h9) rfl dX8_sheet_322 ?_
          refine lv_bipush (v := nI (6)) (pc := 325) hx hb dX8_sheet_325 (by decide) ?_
          refine mx_iald (pc := 327) hx hb hK hP 23 w23 (6) (by omega) (by decide) dX8_sheet_327 ?_
          refine lv_icmp_gt (tgt := 335) (pc := 328) hx hb dX8_sheet_328 (by decide) (fun c328 => ?_) (fun c328 => ?_)
          · skip
            refine lv_iconst (v := nI (0)) (pc := 335) hx hb dX8_sheet_335 (by decide) ?_
            refine lv_istore_n (lv' := [(1, .int (nI (0))), (7, .int (((nI (10) * (((ik) ((8) * ((tr) - (1)) + z)) / (nI (100)))) - (tg) (z)))), (6, .int ((nI (10) * (((ik) ((8) * ((tr) - (1)) + z)) / (nI (100)))))), (5, .int ((((ik) ((8) * ((tr) - (1)) + z)) / (nI (100))))), (4, .int (((((((ik) ((8) * ((tr) - (1)) + z)).toInt64 * ((ru) (3)).toInt64) * ((cv) (z)).toInt64) / (10000))).toInt32)), (3, .int (nI ((8) * ((tr) - (1)) + z))), (0, .ref (a 22)), (2, .int (nI (z)))]) (pc := 336) hx hb dX8_sheet_336 rfl hl (by decide) rfl (fun ls hl => ?_)
            refine lv_iinc (v := nI (z + 1)) (lv' := [(2, .int (nI (z + 1))), (1, .int (nI (0))), (7, .int (((nI (10) * (((ik) ((8) * ((tr) - (1)) + z)) / (nI (100)))) - (tg) (z)))), (6, .int ((nI (10) * (((ik) ((8) * ((tr) - (1)) + z)) / (nI (100)))))), (5, .int ((((ik) ((8) * ((tr) - (1)) + z)) / (nI (100))))), (4, .int (((((((ik) ((8) * ((tr) - (1)) + z)).toInt64 * ((ru) (3)).toInt64) * ((cv) (z)).toInt64) / (10000))).toInt32)), (3, .int (nI ((8) * ((tr) - (1)) + z))), (0, .ref (a 22))]) (pc := 337) hx hb dX8_sheet_337 hl (k := 7) rfl (mx_inc1 _) (by decide) rfl (fun ls hl => ?_)
            refine lv_goto (tgt := 173) (pc := 340) hx hb dX8_sheet_340 (by decide) ?_
            have e9 : gMG1 gd (nI 10 * gMBar tr z ik) (tg z) (ru 6) = false := gMG_2 c310 c328
            exact ih (z + 1) (gMTk tr z (ru 3) (cv z) ik) (pap + gMPap tr z (ru 3) (cv z) ik) (bar + gMBar tr z ik) (upd den (8 * sc + z) (nI 10 * gMBar tr z ik)) (gMG1 gd (nI 10 * gMBar tr z ik) (tg z) (ru 6)) (by omega) G H locs ls hP hD hS hk w22 w23 w24 w25 w26 w27 w28 w29 w30 (lv_sub hl [7, 1, 0] (by rw [e9]; rfl)) hcont
          · skip
            refine lv_iconst (v := nI (1)) (pc := 331) hx hb dX8_sheet_331 (by decide) ?_
            refine lv_goto (tgt := 336) (pc := 332) hx hb dX8_sheet_332 (by decide) ?_
            refine lv_istore_n (lv' := [(1, .int (nI (1))), (7, .int (((nI (10) * (((ik) ((8) * ((tr) - (1)) + z)) / (nI (100)))) - (tg) (z)))), (6, .int ((nI (10) * (((ik) ((8) * ((tr) - (1)) + z)) / (nI (100)))))), (5, .int ((((ik) ((8) * ((tr) - (1)) + z)) / (nI (100))))), (4, .int (((((((ik) ((8) * ((tr) - (1)) + z)).toInt64 * ((ru) (3)).toInt64) * ((cv) (z)).toInt64) / (10000))).toInt32)), (3, .int (nI ((8) * ((tr) - (1)) + z))), (0, .ref (a 22)), (2, .int (nI (z)))]) (pc := 336) hx hb dX8_sheet_336 rfl hl (by decide) rfl (fun ls hl => ?_)
            refine lv_iinc (v := nI (z + 1)) (lv' := [(2, .int (nI (z + 1))), (1, .int (nI (1))), (7, .int (((nI (10) * (((ik) ((8) * ((tr) - (1)) + z)) / (nI (100)))) - (tg) (z)))), (6, .int ((nI (10) * (((ik) ((8) * ((tr) - (1)) + z)) / (nI (100)))))), (5, .int ((((ik) ((8) * ((tr) - (1)) + z)) / (nI (100))))), (4, .int (((((((ik) ((8) * ((tr) - (1)) + z)).toInt64 * ((ru) (3)).toInt64) * ((cv) (z)).toInt64) / (10000))).toInt32)), (3, .int (nI ((8) * ((tr) - (1)) + z))), (0, .ref (a 22))]) (pc := 337) hx hb dX8_sheet_337 hl (k := 7) rfl (mx_inc1 _) (by decide) rfl (fun ls hl => ?_)
            refine lv_goto (tgt := 173) (pc := 340) hx hb dX8_sheet_340 (by decide) ?_
            have e9 : gMG1 gd (nI 10 * gMBar tr z ik) (tg z) (ru 6) = true := gMG_4 c305 c310 c328
            exact ih (z + 1) (gMTk tr z (ru 3) (cv z) ik) (pap + gMPap tr z (ru 3) (cv z) ik) (bar + gMBar tr z ik) (upd den (8 * sc + z) (nI 10 * gMBar tr z ik)) (gMG1 gd (nI 10 * gMBar tr z ik) (tg z) (ru 6)) (by omega) G H locs ls hP hD hS hk w22 w23 w24 w25 w26 w27 w28 w29 w30 (lv_sub hl [7, 1, 0] (by rw [e9]; rfl)) hcont
  refine LT zn (0) ((gMi3 ru ke zn tr ink asd)) (pap) (bar) (den) (true) (by omega) G H locs ls hP hD hS hk w22 w23 w24 w25 w26 w27 w28 w29 w30 (lv_sub hl [2, 1, 0] rfl) (fun G H locs ls hP hD hS hk w22 w23 w24 w25 w26 w27 w28 w29 w30 hl => ?_)
  have w22 : G[22]? = some (a 22, .inr (8, [.int (nI (zn)), .int (nI (tr)), .ref (a 23), .ref (a 24), .ref (a 25), .ref (a 26), .ref (a 27), .ref (a 28), .ref (a 29), .int (nI (sc)), .int (sg), .int (sr), .int (ss), .int (gFf ke (ru 0) (zn) (0) (fed)), .int (gMTp tr (ru 3) cv (zn) (0) ((gMi3 ru ke zn tr ink asd)) (pap)), .int (gMTb tr (ru 3) cv (zn) (0) ((gMi3 ru ke zn tr ink asd)) (bar)), .int (gB (st)), .ref (a 30), .ref (a 31), .ref (a 32), .int (nI (pn)), .ref (a 33), .ref (a 34), .ref (a 35), .ref (a 36), .int (nI (mn)), .long (q1), .long (q2), .long (q3), .long (q4), .long (q5), .ref (a 37), .ref (a 38), .ref (a 39), .int (nI (jn)), .ref (a 40), .ref (a 41)])) := w22
  have w27 : G[27]? = some (a 27, .inl (cI, 40, .inl (gMTi tr (ru 3) cv (zn) (0) ((gMi3 ru ke zn tr ink asd))))) := w27
  have w28 : G[28]? = some (a 28, .inl (cI, 8000, .inl (gMTd tr (ru 3) cv (8 * sc) (zn) (0) ((gMi3 ru ke zn tr ink asd)) (den)))) := w28
  obtain ⟨gd, egd⟩ : ∃ q : Bool, q = (gMTg tr (ru 3) cv tg (ru 6) zn 0 (gMi3 ru ke zn tr ink asd) true) := ⟨_, rfl⟩
  rw [← egd] at hl
  cases gd
  · skip
    refine lv_aload_n (pc := 343) hx hb dX8_sheet_343 rfl (lv_at hl 0 rfl) ?_
    refine va_get (ci := 8) (C := RX8) (T := TX8) (N := 37) (pc := 344) hx hb hts hiX8 hown hK hP 22 w22 rfl 8 (by decide) (hts (.fieldLink RX8 35 "InkPressModel" "isGood" "[Z") (by decide +kernel)) (fun _ h9 => h9) rfl dX8_sheet_344 ?_
    refine lv_aload_n (pc := 347) hx hb dX8_sheet_347 rfl (lv_at hl 0 rfl) ?_
    refine va_get (ci := 8) (C := RX8) (T := TX8) (N := 37) (pc := 348) hx hb hts hiX8 hown hK hP 22 w22 rfl 9 (by decide) (hts (.fieldLink RX8 81 "InkPressModel" "sheets" "I") (by decide +kernel)) (fun _ h9 => h9) rfl dX8_sheet_348 ?_
    refine lv_iload_n (pc := 351) hx hb dX8_sheet_351 rfl (lv_at hl 1 rfl) ?_
    refine mx_zast (x := gB (false)) (pc := 352) hx hb hK hP hD hS 29 w29 (sc) (by omega) (by decide) (gB_vnar _) dX8_sheet_352 (fun H locs G hP hD hS w29 ho => ?_)
    rw [gUpdB] at w29
    have w22 := (ho 22 (by decide)).trans w22
    have w23 := (ho 23 (by decide)).trans w23
    have w24 := (ho 24 (by decide)).trans w24
    have w25 := (ho 25 (by decide)).trans w25
    have w26 := (ho 26 (by decide)).trans w26
    have w27 := (ho 27 (by decide)).trans w27
    have w28 := (ho 28 (by decide)).trans w28
    have w30 := (ho 30 (by decide)).trans w30
    have w29 : G[29]? = some (a 29, .inl (cZ, 1000, .inl (fun j => gB ((vf_upd (go) (sc) (false)) j)))) := w29
    have hk := gk_step hk ho (by decide)
    clear ho
    refine lv_aload_n (pc := 353) hx hb dX8_sheet_353 rfl (lv_at hl 0 rfl) ?_
    refine lv_dup (pc := 354) hx hb dX8_sheet_354 rfl ?_
    refine va_get (ci := 8) (C := RX8) (T := TX8) (N := 37) (pc := 355) hx hb hts hiX8 hown hK hP 22 w22 rfl 9 (by decide) (hts (.fieldLink RX8 81 "InkPressModel" "sheets" "I") (by decide +kernel)) (fun _ h9 => h9) rfl dX8_sheet_355 ?_
    refine lv_iconst (v := nI (1)) (pc := 358) hx hb dX8_sheet_358 (by decide) ?_
    refine mx_iadd (pc := 359) hx hb dX8_sheet_359 ?_
    refine mx_put (ci := 8) (v := .int (nI (sc + 1))) (ty := .int) (C := RX8) (T := TX8) (N := 37) (pc := 360) hx hb hts hiX8 tyX8 tyX8_ok nmX8 hown hK hP hD hS 22 w22 rfl 9 (by decide) (hts (.fieldLink RX8 81 "InkPressModel" "sheets" "I") (by decide +kernel)) (fun _ h9 => h9) rfl (by decide +kernel) rfl rfl (Nat.le_of_ble_eq_true rfl) dX8_sheet_360 (fun H locs G hP hD hS w22 ho => ?_)
    have w23 := (ho 23 (by decide)).trans w23
    have w24 := (ho 24 (by decide)).trans w24
    have w25 := (ho 25 (by decide)).trans w25
    have w26 := (ho 26 (by decide)).trans w26
    have w27 := (ho 27 (by decide)).trans w27
    have w28 := (ho 28 (by decide)).trans w28
    have w29 := (ho 29 (by decide)).trans w29
    have w30 := (ho 30 (by decide)).trans w30
    have w22 : G[22]? = some (a 22, .inr (8, [.int (nI (zn)), .int (nI (tr)), .ref (a 23), .ref (a 24), .ref (a 25), .ref (a 26), .ref (a 27), .ref (a 28), .ref (a 29), .int (nI (sc + 1)), .int (sg), .int (sr), .int (ss), .int (gFf ke (ru 0) (zn) (0) (fed)), .int (gMTp tr (ru 3) cv (zn) (0) ((gMi3 ru ke zn tr ink asd)) (pap)), .int (gMTb tr (ru 3) cv (zn) (0) ((gMi3 ru ke zn tr ink asd)) (bar)), .int (gB (st)), .ref (a 30), .ref (a 31), .ref (a 32), .int (nI (pn)), .ref (a 33), .ref (a 34), .ref (a 35), .ref (a 36), .int (nI (mn)), .long (q1), .long (q2), .long (q3), .long (q4), .long (q5), .ref (a 37), .ref (a 38), .ref (a 39), .int (nI (jn)), .ref (a 40), .ref (a 41)])) := w22
    have hk := gk_step hk ho (by decide)
    clear ho
    refine lv_aload_n (pc := 363) hx hb dX8_sheet_363 rfl (lv_at hl 0 rfl) ?_
    refine lv_dup (pc := 364) hx hb dX8_sheet_364 rfl ?_
    refine va_get (ci := 8) (C := RX8) (T := TX8) (N := 37) (pc := 365) hx hb hts hiX8 hown hK hP 22 w22 rfl 10 (by decide) (hts (.fieldLink RX8 84 "InkPressModel" "goodMany" "I") (by decide +kernel)) (fun _ h9 => h9) rfl dX8_sheet_365 ?_
    refine lv_iload_n (pc := 368) hx hb dX8_sheet_368 rfl (lv_at hl 1 rfl) ?_
    refine mx_beq (tgt := 376) (pc := 369) hx hb dX8_sheet_369 (by decide) (fun c369 => ?_) (fun c369 => absurd c369 (by decide))
    refine lv_iconst (v := nI (0)) (pc := 376) hx hb dX8_sheet_376 (by decide) ?_
    refine lv_iadd (pc := 377) hx hb dX8_sheet_377 ?_
    refine mx_put (ci := 8) (v := .int ((sg + nI (0)))) (ty := .int) (C := RX8) (T := TX8) (N := 37) (pc := 378) hx hb hts hiX8 tyX8 tyX8_ok nmX8 hown hK hP hD hS 22 w22 rfl 10 (by decide) (hts (.fieldLink RX8 84 "InkPressModel" "goodMany" "I") (by decide +kernel)) (fun _ h9 => h9) rfl (by decide +kernel) rfl rfl (Nat.le_of_ble_eq_true rfl) dX8_sheet_378 (fun H locs G hP hD hS w22 ho => ?_)
    have w23 := (ho 23 (by decide)).trans w23
    have w24 := (ho 24 (by decide)).trans w24
    have w25 := (ho 25 (by decide)).trans w25
    have w26 := (ho 26 (by decide)).trans w26
    have w27 := (ho 27 (by decide)).trans w27
    have w28 := (ho 28 (by decide)).trans w28
    have w29 := (ho 29 (by decide)).trans w29
    have w30 := (ho 30 (by decide)).trans w30
    have w22 : G[22]? = some (a 22, .inr (8, [.int (nI (zn)), .int (nI (tr)), .ref (a 23), .ref (a 24), .ref (a 25), .ref (a 26), .ref (a 27), .ref (a 28), .ref (a 29), .int (nI (sc + 1)), .int ((sg + nI (0))), .int (sr), .int (ss), .int (gFf ke (ru 0) (zn) (0) (fed)), .int (gMTp tr (ru 3) cv (zn) (0) ((gMi3 ru ke zn tr ink asd)) (pap)), .int (gMTb tr (ru 3) cv (zn) (0) ((gMi3 ru ke zn tr ink asd)) (bar)), .int (gB (st)), .ref (a 30), .ref (a 31), .ref (a 32), .int (nI (pn)), .ref (a 33), .ref (a 34), .ref (a 35), .ref (a 36), .int (nI (mn)), .long (q1), .long (q2), .long (q3), .long (q4), .long (q5), .ref (a 37), .ref (a 38), .ref (a 39), .int (nI (jn)), .ref (a 40), .ref (a 41)])) := w22
    have hk := gk_step hk ho (by decide)
    clear ho
    refine lv_aload_n (pc := 381) hx hb dX8_sheet_381 rfl (lv_at hl 0 rfl) ?_
    refine lv_iload_n (pc := 382) hx hb dX8_sheet_382 rfl (lv_at hl 1 rfl) ?_
    refine mx_beq (tgt := 395) (pc := 383) hx hb dX8_sheet_383 (by decide) (fun c383 => ?_) (fun c383 => absurd c383 (by decide))
    refine lv_iconst (v := nI (0)) (pc := 395) hx hb dX8_sheet_395 (by decide) ?_
    refine mx_put (ci := 8) (v := .int (nI (0))) (ty := .int) (C := RX8) (T := TX8) (N := 37) (pc := 396) hx hb hts hiX8 tyX8 tyX8_ok nmX8 hown hK hP hD hS 22 w22 rfl 11 (by decide) (hts (.fieldLink RX8 87 "InkPressModel" "together" "I") (by decide +kernel)) (fun _ h9 => h9) rfl (by decide +kernel) rfl rfl (Nat.le_of_ble_eq_true rfl) dX8_sheet_396 (fun H locs G hP hD hS w22 ho => ?_)
    have w23 := (ho 23 (by decide)).trans w23
    have w24 := (ho 24 (by decide)).trans w24
    have w25 := (ho 25 (by decide)).trans w25
    have w26 := (ho 26 (by decide)).trans w26
    have w27 := (ho 27 (by decide)).trans w27
    have w28 := (ho 28 (by decide)).trans w28
    have w29 := (ho 29 (by decide)).trans w29
    have w30 := (ho 30 (by decide)).trans w30
    have w22 : G[22]? = some (a 22, .inr (8, [.int (nI (zn)), .int (nI (tr)), .ref (a 23), .ref (a 24), .ref (a 25), .ref (a 26), .ref (a 27), .ref (a 28), .ref (a 29), .int (nI (sc + 1)), .int ((sg + nI (0))), .int (nI (0)), .int (ss), .int (gFf ke (ru 0) (zn) (0) (fed)), .int (gMTp tr (ru 3) cv (zn) (0) ((gMi3 ru ke zn tr ink asd)) (pap)), .int (gMTb tr (ru 3) cv (zn) (0) ((gMi3 ru ke zn tr ink asd)) (bar)), .int (gB (st)), .ref (a 30), .ref (a 31), .ref (a 32), .int (nI (pn)), .ref (a 33), .ref (a 34), .ref (a 35), .ref (a 36), .int (nI (mn)), .long (q1), .long (q2), .long (q3), .long (q4), .long (q5), .ref (a 37), .ref (a 38), .ref (a 39), .int (nI (jn)), .ref (a 40), .ref (a 41)])) := w22
    have hk := gk_step hk ho (by decide)
    clear ho
    refine lv_aload_n (pc := 399) hx hb dX8_sheet_399 rfl (lv_at hl 0 rfl) ?_
    refine lv_aload_n (pc := 400) hx hb dX8_sheet_400 rfl (lv_at hl 0 rfl) ?_
    refine va_get (ci := 8) (C := RX8) (T := TX8) (N := 37) (pc := 401) hx hb hts hiX8 hown hK hP 22 w22 rfl 12 (by decide) (hts (.fieldLink RX8 39 "InkPressModel" "start" "I") (by decide +kernel)) (fun _ h9 => h9) rfl dX8_sheet_401 ?_
    refine lv_if_ge (tgt := 428) (pc := 404) hx hb dX8_sheet_404 (by decide) (fun c404 => ?_) (fun c404 => ?_)
    · skip
      refine lv_aload_n (pc := 428) hx hb dX8_sheet_428 rfl (lv_at hl 0 rfl) ?_
      refine va_get (ci := 8) (C := RX8) (T := TX8) (N := 37) (pc := 429) hx hb hts hiX8 hown hK hP 22 w22 rfl 12 (by decide) (hts (.fieldLink RX8 39 "InkPressModel" "start" "I") (by decide +kernel)) (fun _ h9 => h9) rfl dX8_sheet_429 ?_
      refine mx_put (ci := 8) (v := .int (ss)) (ty := .int) (C := RX8) (T := TX8) (N := 37) (pc := 432) hx hb hts hiX8 tyX8 tyX8_ok nmX8 hown hK hP hD hS 22 w22 rfl 12 (by decide) (hts (.fieldLink RX8 39 "InkPressModel" "start" "I") (by decide +kernel)) (fun _ h9 => h9) rfl (by decide +kernel) rfl rfl (Nat.le_of_ble_eq_true rfl) dX8_sheet_432 (fun H locs G hP hD hS w22 ho => ?_)
      have w23 := (ho 23 (by decide)).trans w23
      have w24 := (ho 24 (by decide)).trans w24
      have w25 := (ho 25 (by decide)).trans w25
      have w26 := (ho 26 (by decide)).trans w26
      have w27 := (ho 27 (by decide)).trans w27
      have w28 := (ho 28 (by decide)).trans w28
      have w29 := (ho 29 (by decide)).trans w29
      have w30 := (ho 30 (by decide)).trans w30
      have w22 : G[22]? = some (a 22, .inr (8, [.int (nI (zn)), .int (nI (tr)), .ref (a 23), .ref (a 24), .ref (a 25), .ref (a 26), .ref (a 27), .ref (a 28), .ref (a 29), .int (nI (sc + 1)), .int ((sg + nI (0))), .int (nI (0)), .int (ss), .int (gFf ke (ru 0) (zn) (0) (fed)), .int (gMTp tr (ru 3) cv (zn) (0) ((gMi3 ru ke zn tr ink asd)) (pap)), .int (gMTb tr (ru 3) cv (zn) (0) ((gMi3 ru ke zn tr ink asd)) (bar)), .int (gB (st)), .ref (a 30), .ref (a 31), .ref (a 32), .int (nI (pn)), .ref (a 33), .ref (a 34), .ref (a 35), .ref (a 36), .int (nI (mn)), .long (q1), .long (q2), .long (q3), .long (q4), .long (q5), .ref (a 37), .ref (a 38), .ref (a 39), .int (nI (jn)), .ref (a 40), .ref (a 41)])) := w22
      have hk := gk_step hk ho (by decide)
      clear ho
      refine lv_aload_n (pc := 435) hx hb dX8_sheet_435 rfl (lv_at hl 0 rfl) ?_
      refine va_get (ci := 8) (C := RX8) (T := TX8) (N := 37) (pc := 436) hx hb hts hiX8 hown hK hP 22 w22 rfl 16 (by decide) (hts (.fieldLink RX8 99 "InkPressModel" "steers" "Z") (by decide +kernel)) (fun _ h9 => h9) rfl dX8_sheet_436 ?_
      refine mx_beq (tgt := 461) (pc := 439) hx hb dX8_sheet_439 (by decide) (fun c439 => ?_) (fun c439 => ?_)
      · skip
        exact hret _ _ _ _ _ hP hD hS ⟨(by rw [← egd]; have q9 : gMJs (gJr false sr) (ru 8) (nI (sc + 1)) ss = ss := gMJs_1 c404; rw [q9]; exact w22), (by rw [gMst_0 c439]; exact w24), w27, w28, (by rw [← egd]; exact w29), w30, hk⟩ dX8_sheet_461
      · skip
        refine lv_aload_n (pc := 442) hx hb dX8_sheet_442 rfl (lv_at hl 0 rfl) ?_
        refine va_get (ci := 8) (C := RX8) (T := TX8) (N := 37) (pc := 443) hx hb hts hiX8 hown hK hP 22 w22 rfl 9 (by decide) (hts (.fieldLink RX8 81 "InkPressModel" "sheets" "I") (by decide +kernel)) (fun _ h9 => h9) rfl dX8_sheet_443 ?_
        refine lv_aload_n (pc := 446) hx hb dX8_sheet_446 rfl (lv_at hl 0 rfl) ?_
        refine va_get (ci := 8) (C := RX8) (T := TX8) (N := 37) (pc := 447) hx hb hts hiX8 hown hK hP 22 w22 rfl 2 (by decide) (hts (.fieldLink RX8 16 "InkPressModel" "rules" "[I") (by decide +kernel)) (fun _ h9 => h9) rfl dX8_sheet_447 ?_
        refine lv_bipush (v := nI (7)) (pc := 450) hx hb dX8_sheet_450 (by decide) ?_
        refine mx_iald (pc := 452) hx hb hK hP 23 w23 (7) (by omega) (by decide) dX8_sheet_452 ?_
        refine lv_irem (pc := 453) hx hb dX8_sheet_453 hev ?_
        refine lv_if_ne (tgt := 461) (pc := 454) hx hb dX8_sheet_454 (by decide) (fun c454 => ?_) (fun c454 => ?_)
        · skip
          exact hret _ _ _ _ _ hP hD hS ⟨(by rw [← egd]; have q9 : gMJs (gJr false sr) (ru 8) (nI (sc + 1)) ss = ss := gMJs_1 c404; rw [q9]; exact w22), (by rw [gMst_1 c454]; exact w24), w27, w28, (by rw [← egd]; exact w29), w30, hk⟩ dX8_sheet_461
        · skip
          refine lv_aload_n (pc := 457) hx hb dX8_sheet_457 rfl (lv_at hl 0 rfl) ?_
          refine mx_cVv (As := []) (rest := []) (pc := 458) ⟨hx, hb, hml, hown, hts⟩ (k_X8_steerKeys (a := a) (zn := zn) (tr := tr) (sc := sc + 1) (pn := pn) (mn := mn) (jn := jn) (sg := (sg + nI (0))) (sr := nI (0)) (ss := ss) (fed := gFf ke (ru 0) (zn) (0) (fed)) (pap := gMTp tr (ru 3) cv (zn) (0) ((gMi3 ru ke zn tr ink asd)) (pap)) (bar := gMTb tr (ru 3) cv (zn) (0) ((gMi3 ru ke zn tr ink asd)) (bar)) (st := st) (q1 := q1) (q2 := q2) (q3 := q3) (q4 := q4) (q5 := q5) (ru := ru) (ke := ke) (tg := tg) (den := gMTd tr (ru 3) cv (8 * sc) (zn) (0) ((gMi3 ru ke zn tr ink asd)) (den)) hD w22 w23 w24 w26 w28 (by omega) (by omega)) (cwV 0 hts gX8_sheet_X8_steerKeys rfl rfl rfl (by decide +kernel) ⟨Nat.le_of_ble_eq_true rfl, Nat.le_of_ble_eq_true rfl⟩) 22 rfl rfl w22 hK hN hZ hP hS rfl hl.1 rfl (Nat.le_of_ble_eq_true rfl) dX8_sheet_458 ⟨Nat.zero_le _, Nat.zero_le _⟩ (fun G H locs hP hD hS hB => ?_)
          obtain ⟨w24, ho⟩ := hB
          have w22 := (ho 22 (by decide)).trans w22
          have w23 := (ho 23 (by decide)).trans w23
          have w24 : G[24]? = some (a 24, .inl (cI, 8, .inl (gMSk (ru) (sc + 1) (gMTd tr (ru 3) cv (8 * sc) (zn) (0) ((gMi3 ru ke zn tr ink asd)) (den)) (tg) (zn) 0 (ke)))) := w24
          have w25 := (ho 25 (by decide)).trans w25
          have w26 := (ho 26 (by decide)).trans w26
          have w27 := (ho 27 (by decide)).trans w27
          have w28 := (ho 28 (by decide)).trans w28
          have w29 := (ho 29 (by decide)).trans w29
          have w30 := (ho 30 (by decide)).trans w30
          have hk := gk_call hk ho (by decide)
          clear ho
          exact hret _ _ _ _ _ hP hD hS ⟨(by rw [← egd]; have q9 : gMJs (gJr false sr) (ru 8) (nI (sc + 1)) ss = ss := gMJs_1 c404; rw [q9]; exact w22), (by rw [gMst_2 c439 c454]; exact w24), w27, w28, (by rw [← egd]; exact w29), w30, hk⟩ dX8_sheet_461
    · skip
      refine lv_aload_n (pc := 407) hx hb dX8_sheet_407 rfl (lv_at hl 0 rfl) ?_
      refine va_get (ci := 8) (C := RX8) (T := TX8) (N := 37) (pc := 408) hx hb hts hiX8 hown hK hP 22 w22 rfl 11 (by decide) (hts (.fieldLink RX8 87 "InkPressModel" "together" "I") (by decide +kernel)) (fun _ h9 => h9) rfl dX8_sheet_408 ?_
      refine lv_aload_n (pc := 411) hx hb dX8_sheet_411 rfl (lv_at hl 0 rfl) ?_
      refine va_get (ci := 8) (C := RX8) (T := TX8) (N := 37) (pc := 412) hx hb hts hiX8 hown hK hP 22 w22 rfl 2 (by decide) (hts (.fieldLink RX8 16 "InkPressModel" "rules" "[I") (by decide +kernel)) (fun _ h9 => h9) rfl dX8_sheet_412 ?_
      refine lv_bipush (v := nI (8)) (pc := 415) hx hb dX8_sheet_415 (by decide) ?_
      refine mx_iald (pc := 417) hx hb hK hP 23 w23 (8) (by omega) (by decide) dX8_sheet_417 ?_
      refine lv_icmp_lt (tgt := 428) (pc := 418) hx hb dX8_sheet_418 (by decide) (fun c418 => ?_) (fun c418 => ?_)
      · skip
        refine lv_aload_n (pc := 428) hx hb dX8_sheet_428 rfl (lv_at hl 0 rfl) ?_
        refine va_get (ci := 8) (C := RX8) (T := TX8) (N := 37) (pc := 429) hx hb hts hiX8 hown hK hP 22 w22 rfl 12 (by decide) (hts (.fieldLink RX8 39 "InkPressModel" "start" "I") (by decide +kernel)) (fun _ h9 => h9) rfl dX8_sheet_429 ?_
        refine mx_put (ci := 8) (v := .int (ss)) (ty := .int) (C := RX8) (T := TX8) (N := 37) (pc := 432) hx hb hts hiX8 tyX8 tyX8_ok nmX8 hown hK hP hD hS 22 w22 rfl 12 (by decide) (hts (.fieldLink RX8 39 "InkPressModel" "start" "I") (by decide +kernel)) (fun _ h9 => h9) rfl (by decide +kernel) rfl rfl (Nat.le_of_ble_eq_true rfl) dX8_sheet_432 (fun H locs G hP hD hS w22 ho => ?_)
        have w23 := (ho 23 (by decide)).trans w23
        have w24 := (ho 24 (by decide)).trans w24
        have w25 := (ho 25 (by decide)).trans w25
        have w26 := (ho 26 (by decide)).trans w26
        have w27 := (ho 27 (by decide)).trans w27
        have w28 := (ho 28 (by decide)).trans w28
        have w29 := (ho 29 (by decide)).trans w29
        have w30 := (ho 30 (by decide)).trans w30
        have w22 : G[22]? = some (a 22, .inr (8, [.int (nI (zn)), .int (nI (tr)), .ref (a 23), .ref (a 24), .ref (a 25), .ref (a 26), .ref (a 27), .ref (a 28), .ref (a 29), .int (nI (sc + 1)), .int ((sg + nI (0))), .int (nI (0)), .int (ss), .int (gFf ke (ru 0) (zn) (0) (fed)), .int (gMTp tr (ru 3) cv (zn) (0) ((gMi3 ru ke zn tr ink asd)) (pap)), .int (gMTb tr (ru 3) cv (zn) (0) ((gMi3 ru ke zn tr ink asd)) (bar)), .int (gB (st)), .ref (a 30), .ref (a 31), .ref (a 32), .int (nI (pn)), .ref (a 33), .ref (a 34), .ref (a 35), .ref (a 36), .int (nI (mn)), .long (q1), .long (q2), .long (q3), .long (q4), .long (q5), .ref (a 37), .ref (a 38), .ref (a 39), .int (nI (jn)), .ref (a 40), .ref (a 41)])) := w22
        have hk := gk_step hk ho (by decide)
        clear ho
        refine lv_aload_n (pc := 435) hx hb dX8_sheet_435 rfl (lv_at hl 0 rfl) ?_
        refine va_get (ci := 8) (C := RX8) (T := TX8) (N := 37) (pc := 436) hx hb hts hiX8 hown hK hP 22 w22 rfl 16 (by decide) (hts (.fieldLink RX8 99 "InkPressModel" "steers" "Z") (by decide +kernel)) (fun _ h9 => h9) rfl dX8_sheet_436 ?_
        refine mx_beq (tgt := 461) (pc := 439) hx hb dX8_sheet_439 (by decide) (fun c439 => ?_) (fun c439 => ?_)
        · skip
          exact hret _ _ _ _ _ hP hD hS ⟨(by rw [← egd]; have q9 : gMJs (gJr false sr) (ru 8) (nI (sc + 1)) ss = ss := gMJs_2 c418; rw [q9]; exact w22), (by rw [gMst_0 c439]; exact w24), w27, w28, (by rw [← egd]; exact w29), w30, hk⟩ dX8_sheet_461
        · skip
          refine lv_aload_n (pc := 442) hx hb dX8_sheet_442 rfl (lv_at hl 0 rfl) ?_
          refine va_get (ci := 8) (C := RX8) (T := TX8) (N := 37) (pc := 443) hx hb hts hiX8 hown hK hP 22 w22 rfl 9 (by decide) (hts (.fieldLink RX8 81 "InkPressModel" "sheets" "I") (by decide +kernel)) (fun _ h9 => h9) rfl dX8_sheet_443 ?_
          refine lv_aload_n (pc := 446) hx hb dX8_sheet_446 rfl (lv_at hl 0 rfl) ?_
          refine va_get (ci := 8) (C := RX8) (T := TX8) (N := 37) (pc := 447) hx hb hts hiX8 hown hK hP 22 w22 rfl 2 (by decide) (hts (.fieldLink RX8 16 "InkPressModel" "rules" "[I") (by decide +kernel)) (fun _ h9 => h9) rfl dX8_sheet_447 ?_
          refine lv_bipush (v := nI (7)) (pc := 450) hx hb dX8_sheet_450 (by decide) ?_
          refine mx_iald (pc := 452) hx hb hK hP 23 w23 (7) (by omega) (by decide) dX8_sheet_452 ?_
          refine lv_irem (pc := 453) hx hb dX8_sheet_453 hev ?_
          refine lv_if_ne (tgt := 461) (pc := 454) hx hb dX8_sheet_454 (by decide) (fun c454 => ?_) (fun c454 => ?_)
          · skip
            exact hret _ _ _ _ _ hP hD hS ⟨(by rw [← egd]; have q9 : gMJs (gJr false sr) (ru 8) (nI (sc + 1)) ss = ss := gMJs_2 c418; rw [q9]; exact w22), (by rw [gMst_1 c454]; exact w24), w27, w28, (by rw [← egd]; exact w29), w30, hk⟩ dX8_sheet_461
          · skip
            refine lv_aload_n (pc := 457) hx hb dX8_sheet_457 rfl (lv_at hl 0 rfl) ?_
            refine mx_cVv (As := []) (rest := []) (pc := 458) ⟨hx, hb, hml, hown, hts⟩ (k_X8_steerKeys (a := a) (zn := zn) (tr := tr) (sc := sc + 1) (pn := pn) (mn := mn) (jn := jn) (sg := (sg + nI (0))) (sr := nI (0)) (ss := ss) (fed := gFf ke (ru 0) (zn) (0) (fed)) (pap := gMTp tr (ru 3) cv (zn) (0) ((gMi3 ru ke zn tr ink asd)) (pap)) (bar := gMTb tr (ru 3) cv (zn) (0) ((gMi3 ru ke zn tr ink asd)) (bar)) (st := st) (q1 := q1) (q2 := q2) (q3 := q3) (q4 := q4) (q5 := q5) (ru := ru) (ke := ke) (tg := tg) (den := gMTd tr (ru 3) cv (8 * sc) (zn) (0) ((gMi3 ru ke zn tr ink asd)) (den)) hD w22 w23 w24 w26 w28 (by omega) (by omega)) (cwV 0 hts gX8_sheet_X8_steerKeys rfl rfl rfl (by decide +kernel) ⟨Nat.le_of_ble_eq_true rfl, Nat.le_of_ble_eq_true rfl⟩) 22 rfl rfl w22 hK hN hZ hP hS rfl hl.1 rfl (Nat.le_of_ble_eq_true rfl) dX8_sheet_458 ⟨Nat.zero_le _, Nat.zero_le _⟩ (fun G H locs hP hD hS hB => ?_)
            obtain ⟨w24, ho⟩ := hB
            have w22 := (ho 22 (by decide)).trans w22
            have w23 := (ho 23 (by decide)).trans w23
            have w24 : G[24]? = some (a 24, .inl (cI, 8, .inl (gMSk (ru) (sc + 1) (gMTd tr (ru 3) cv (8 * sc) (zn) (0) ((gMi3 ru ke zn tr ink asd)) (den)) (tg) (zn) 0 (ke)))) := w24
            have w25 := (ho 25 (by decide)).trans w25
            have w26 := (ho 26 (by decide)).trans w26
            have w27 := (ho 27 (by decide)).trans w27
            have w28 := (ho 28 (by decide)).trans w28
            have w29 := (ho 29 (by decide)).trans w29
            have w30 := (ho 30 (by decide)).trans w30
            have hk := gk_call hk ho (by decide)
            clear ho
            exact hret _ _ _ _ _ hP hD hS ⟨(by rw [← egd]; have q9 : gMJs (gJr false sr) (ru 8) (nI (sc + 1)) ss = ss := gMJs_2 c418; rw [q9]; exact w22), (by rw [gMst_2 c439 c454]; exact w24), w27, w28, (by rw [← egd]; exact w29), w30, hk⟩ dX8_sheet_461
      · skip
        refine lv_aload_n (pc := 421) hx hb dX8_sheet_421 rfl (lv_at hl 0 rfl) ?_
        refine va_get (ci := 8) (C := RX8) (T := TX8) (N := 37) (pc := 422) hx hb hts hiX8 hown hK hP 22 w22 rfl 9 (by decide) (hts (.fieldLink RX8 81 "InkPressModel" "sheets" "I") (by decide +kernel)) (fun _ h9 => h9) rfl dX8_sheet_422 ?_
        refine lv_goto (tgt := 432) (pc := 425) hx hb dX8_sheet_425 (by decide) ?_
        refine mx_put (ci := 8) (v := .int (nI (sc + 1))) (ty := .int) (C := RX8) (T := TX8) (N := 37) (pc := 432) hx hb hts hiX8 tyX8 tyX8_ok nmX8 hown hK hP hD hS 22 w22 rfl 12 (by decide) (hts (.fieldLink RX8 39 "InkPressModel" "start" "I") (by decide +kernel)) (fun _ h9 => h9) rfl (by decide +kernel) rfl rfl (Nat.le_of_ble_eq_true rfl) dX8_sheet_432 (fun H locs G hP hD hS w22 ho => ?_)
        have w23 := (ho 23 (by decide)).trans w23
        have w24 := (ho 24 (by decide)).trans w24
        have w25 := (ho 25 (by decide)).trans w25
        have w26 := (ho 26 (by decide)).trans w26
        have w27 := (ho 27 (by decide)).trans w27
        have w28 := (ho 28 (by decide)).trans w28
        have w29 := (ho 29 (by decide)).trans w29
        have w30 := (ho 30 (by decide)).trans w30
        have w22 : G[22]? = some (a 22, .inr (8, [.int (nI (zn)), .int (nI (tr)), .ref (a 23), .ref (a 24), .ref (a 25), .ref (a 26), .ref (a 27), .ref (a 28), .ref (a 29), .int (nI (sc + 1)), .int ((sg + nI (0))), .int (nI (0)), .int (nI (sc + 1)), .int (gFf ke (ru 0) (zn) (0) (fed)), .int (gMTp tr (ru 3) cv (zn) (0) ((gMi3 ru ke zn tr ink asd)) (pap)), .int (gMTb tr (ru 3) cv (zn) (0) ((gMi3 ru ke zn tr ink asd)) (bar)), .int (gB (st)), .ref (a 30), .ref (a 31), .ref (a 32), .int (nI (pn)), .ref (a 33), .ref (a 34), .ref (a 35), .ref (a 36), .int (nI (mn)), .long (q1), .long (q2), .long (q3), .long (q4), .long (q5), .ref (a 37), .ref (a 38), .ref (a 39), .int (nI (jn)), .ref (a 40), .ref (a 41)])) := w22
        have hk := gk_step hk ho (by decide)
        clear ho
        refine lv_aload_n (pc := 435) hx hb dX8_sheet_435 rfl (lv_at hl 0 rfl) ?_
        refine va_get (ci := 8) (C := RX8) (T := TX8) (N := 37) (pc := 436) hx hb hts hiX8 hown hK hP 22 w22 rfl 16 (by decide) (hts (.fieldLink RX8 99 "InkPressModel" "steers" "Z") (by decide +kernel)) (fun _ h9 => h9) rfl dX8_sheet_436 ?_
        refine mx_beq (tgt := 461) (pc := 439) hx hb dX8_sheet_439 (by decide) (fun c439 => ?_) (fun c439 => ?_)
        · skip
          exact hret _ _ _ _ _ hP hD hS ⟨(by rw [← egd]; have q9 : gMJs (gJr false sr) (ru 8) (nI (sc + 1)) ss = nI (sc + 1) := gMJs_3 c404 c418; rw [q9]; exact w22), (by rw [gMst_0 c439]; exact w24), w27, w28, (by rw [← egd]; exact w29), w30, hk⟩ dX8_sheet_461
        · skip
          refine lv_aload_n (pc := 442) hx hb dX8_sheet_442 rfl (lv_at hl 0 rfl) ?_
          refine va_get (ci := 8) (C := RX8) (T := TX8) (N := 37) (pc := 443) hx hb hts hiX8 hown hK hP 22 w22 rfl 9 (by decide) (hts (.fieldLink RX8 81 "InkPressModel" "sheets" "I") (by decide +kernel)) (fun _ h9 => h9) rfl dX8_sheet_443 ?_
          refine lv_aload_n (pc := 446) hx hb dX8_sheet_446 rfl (lv_at hl 0 rfl) ?_
          refine va_get (ci := 8) (C := RX8) (T := TX8) (N := 37) (pc := 447) hx hb hts hiX8 hown hK hP 22 w22 rfl 2 (by decide) (hts (.fieldLink RX8 16 "InkPressModel" "rules" "[I") (by decide +kernel)) (fun _ h9 => h9) rfl dX8_sheet_447 ?_
          refine lv_bipush (v := nI (7)) (pc := 450) hx hb dX8_sheet_450 (by decide) ?_
          refine mx_iald (pc := 452) hx hb hK hP 23 w23 (7) (by omega) (by decide) dX8_sheet_452 ?_
          refine lv_irem (pc := 453) hx hb dX8_sheet_453 hev ?_
          refine lv_if_ne (tgt := 461) (pc := 454) hx hb dX8_sheet_454 (by decide) (fun c454 => ?_) (fun c454 => ?_)
          · skip
            exact hret _ _ _ _ _ hP hD hS ⟨(by rw [← egd]; have q9 : gMJs (gJr false sr) (ru 8) (nI (sc + 1)) ss = nI (sc + 1) := gMJs_3 c404 c418; rw [q9]; exact w22), (by rw [gMst_1 c454]; exact w24), w27, w28, (by rw [← egd]; exact w29), w30, hk⟩ dX8_sheet_461
          · skip
            refine lv_aload_n (pc := 457) hx hb dX8_sheet_457 rfl (lv_at hl 0 rfl) ?_
            refine mx_cVv (As := []) (rest := []) (pc := 458) ⟨hx, hb, hml, hown, hts⟩ (k_X8_steerKeys (a := a) (zn := zn) (tr := tr) (sc := sc + 1) (pn := pn) (mn := mn) (jn := jn) (sg := (sg + nI (0))) (sr := nI (0)) (ss := nI (sc + 1)) (fed := gFf ke (ru 0) (zn) (0) (fed)) (pap := gMTp tr (ru 3) cv (zn) (0) ((gMi3 ru ke zn tr ink asd)) (pap)) (bar := gMTb tr (ru 3) cv (zn) (0) ((gMi3 ru ke zn tr ink asd)) (bar)) (st := st) (q1 := q1) (q2 := q2) (q3 := q3) (q4 := q4) (q5 := q5) (ru := ru) (ke := ke) (tg := tg) (den := gMTd tr (ru 3) cv (8 * sc) (zn) (0) ((gMi3 ru ke zn tr ink asd)) (den)) hD w22 w23 w24 w26 w28 (by omega) (by omega)) (cwV 0 hts gX8_sheet_X8_steerKeys rfl rfl rfl (by decide +kernel) ⟨Nat.le_of_ble_eq_true rfl, Nat.le_of_ble_eq_true rfl⟩) 22 rfl rfl w22 hK hN hZ hP hS rfl hl.1 rfl (Nat.le_of_ble_eq_true rfl) dX8_sheet_458 ⟨Nat.zero_le _, Nat.zero_le _⟩ (fun G H locs hP hD hS hB => ?_)
            obtain ⟨w24, ho⟩ := hB
            have w22 := (ho 22 (by decide)).trans w22
            have w23 := (ho 23 (by decide)).trans w23
            have w24 : G[24]? = some (a 24, .inl (cI, 8, .inl (gMSk (ru) (sc + 1) (gMTd tr (ru 3) cv (8 * sc) (zn) (0) ((gMi3 ru ke zn tr ink asd)) (den)) (tg) (zn) 0 (ke)))) := w24
            have w25 := (ho 25 (by decide)).trans w25
            have w26 := (ho 26 (by decide)).trans w26
            have w27 := (ho 27 (by decide)).trans w27
            have w28 := (ho 28 (by decide)).trans w28
            have w29 := (ho 29 (by decide)).trans w29
            have w30 := (ho 30 (by decide)).trans w30
            have hk := gk_call hk ho (by decide)
            clear ho
            exact hret _ _ _ _ _ hP hD hS ⟨(by rw [← egd]; have q9 : gMJs (gJr false sr) (ru 8) (nI (sc + 1)) ss = nI (sc + 1) := gMJs_3 c404 c418; rw [q9]; exact w22), (by rw [gMst_2 c439 c454]; exact w24), w27, w28, (by rw [← egd]; exact w29), w30, hk⟩ dX8_sheet_461
  · skip
    refine lv_aload_n (pc := 343) hx hb dX8_sheet_343 rfl (lv_at hl 0 rfl) ?_
    refine va_get (ci := 8) (C := RX8) (T := TX8) (N := 37) (pc := 344) hx hb hts hiX8 hown hK hP 22 w22 rfl 8 (by decide) (hts (.fieldLink RX8 35 "InkPressModel" "isGood" "[Z") (by decide +kernel)) (fun _ h9 => h9) rfl dX8_sheet_344 ?_
    refine lv_aload_n (pc := 347) hx hb dX8_sheet_347 rfl (lv_at hl 0 rfl) ?_
    refine va_get (ci := 8) (C := RX8) (T := TX8) (N := 37) (pc := 348) hx hb hts hiX8 hown hK hP 22 w22 rfl 9 (by decide) (hts (.fieldLink RX8 81 "InkPressModel" "sheets" "I") (by decide +kernel)) (fun _ h9 => h9) rfl dX8_sheet_348 ?_
    refine lv_iload_n (pc := 351) hx hb dX8_sheet_351 rfl (lv_at hl 1 rfl) ?_
    refine mx_zast (x := gB (true)) (pc := 352) hx hb hK hP hD hS 29 w29 (sc) (by omega) (by decide) (gB_vnar _) dX8_sheet_352 (fun H locs G hP hD hS w29 ho => ?_)
    rw [gUpdB] at w29
    have w22 := (ho 22 (by decide)).trans w22
    have w23 := (ho 23 (by decide)).trans w23
    have w24 := (ho 24 (by decide)).trans w24
    have w25 := (ho 25 (by decide)).trans w25
    have w26 := (ho 26 (by decide)).trans w26
    have w27 := (ho 27 (by decide)).trans w27
    have w28 := (ho 28 (by decide)).trans w28
    have w30 := (ho 30 (by decide)).trans w30
    have w29 : G[29]? = some (a 29, .inl (cZ, 1000, .inl (fun j => gB ((vf_upd (go) (sc) (true)) j)))) := w29
    have hk := gk_step hk ho (by decide)
    clear ho
    refine lv_aload_n (pc := 353) hx hb dX8_sheet_353 rfl (lv_at hl 0 rfl) ?_
    refine lv_dup (pc := 354) hx hb dX8_sheet_354 rfl ?_
    refine va_get (ci := 8) (C := RX8) (T := TX8) (N := 37) (pc := 355) hx hb hts hiX8 hown hK hP 22 w22 rfl 9 (by decide) (hts (.fieldLink RX8 81 "InkPressModel" "sheets" "I") (by decide +kernel)) (fun _ h9 => h9) rfl dX8_sheet_355 ?_
    refine lv_iconst (v := nI (1)) (pc := 358) hx hb dX8_sheet_358 (by decide) ?_
    refine mx_iadd (pc := 359) hx hb dX8_sheet_359 ?_
    refine mx_put (ci := 8) (v := .int (nI (sc + 1))) (ty := .int) (C := RX8) (T := TX8) (N := 37) (pc := 360) hx hb hts hiX8 tyX8 tyX8_ok nmX8 hown hK hP hD hS 22 w22 rfl 9 (by decide) (hts (.fieldLink RX8 81 "InkPressModel" "sheets" "I") (by decide +kernel)) (fun _ h9 => h9) rfl (by decide +kernel) rfl rfl (Nat.le_of_ble_eq_true rfl) dX8_sheet_360 (fun H locs G hP hD hS w22 ho => ?_)
    have w23 := (ho 23 (by decide)).trans w23
    have w24 := (ho 24 (by decide)).trans w24
    have w25 := (ho 25 (by decide)).trans w25
    have w26 := (ho 26 (by decide)).trans w26
    have w27 := (ho 27 (by decide)).trans w27
    have w28 := (ho 28 (by decide)).trans w28
    have w29 := (ho 29 (by decide)).trans w29
    have w30 := (ho 30 (by decide)).trans w30
    have w22 : G[22]? = some (a 22, .inr (8, [.int (nI (zn)), .int (nI (tr)), .ref (a 23), .ref (a 24), .ref (a 25), .ref (a 26), .ref (a 27), .ref (a 28), .ref (a 29), .int (nI (sc + 1)), .int (sg), .int (sr), .int (ss), .int (gFf ke (ru 0) (zn) (0) (fed)), .int (gMTp tr (ru 3) cv (zn) (0) ((gMi3 ru ke zn tr ink asd)) (pap)), .int (gMTb tr (ru 3) cv (zn) (0) ((gMi3 ru ke zn tr ink asd)) (bar)), .int (gB (st)), .ref (a 30), .ref (a 31), .ref (a 32), .int (nI (pn)), .ref (a 33), .ref (a 34), .ref (a 35), .ref (a 36), .int (nI (mn)), .long (q1), .long (q2), .long (q3), .long (q4), .long (q5), .ref (a 37), .ref (a 38), .ref (a 39), .int (nI (jn)), .ref (a 40), .ref (a 41)])) := w22
    have hk := gk_step hk ho (by decide)
    clear ho
    refine lv_aload_n (pc := 363) hx hb dX8_sheet_363 rfl (lv_at hl 0 rfl) ?_
    refine lv_dup (pc := 364) hx hb dX8_sheet_364 rfl ?_
    refine va_get (ci := 8) (C := RX8) (T := TX8) (N := 37) (pc := 365) hx hb hts hiX8 hown hK hP 22 w22 rfl 10 (by decide) (hts (.fieldLink RX8 84 "InkPressModel" "goodMany" "I") (by decide +kernel)) (fun _ h9 => h9) rfl dX8_sheet_365 ?_
    refine lv_iload_n (pc := 368) hx hb dX8_sheet_368 rfl (lv_at hl 1 rfl) ?_
    refine mx_beq (tgt := 376) (pc := 369) hx hb dX8_sheet_369 (by decide) (fun c369 => absurd c369 (by decide)) (fun c369 => ?_)
    refine lv_iconst (v := nI (1)) (pc := 372) hx hb dX8_sheet_372 (by decide) ?_
    refine lv_goto (tgt := 377) (pc := 373) hx hb dX8_sheet_373 (by decide) ?_
    refine lv_iadd (pc := 377) hx hb dX8_sheet_377 ?_
    refine mx_put (ci := 8) (v := .int ((sg + nI (1)))) (ty := .int) (C := RX8) (T := TX8) (N := 37) (pc := 378) hx hb hts hiX8 tyX8 tyX8_ok nmX8 hown hK hP hD hS 22 w22 rfl 10 (by decide) (hts (.fieldLink RX8 84 "InkPressModel" "goodMany" "I") (by decide +kernel)) (fun _ h9 => h9) rfl (by decide +kernel) rfl rfl (Nat.le_of_ble_eq_true rfl) dX8_sheet_378 (fun H locs G hP hD hS w22 ho => ?_)
    have w23 := (ho 23 (by decide)).trans w23
    have w24 := (ho 24 (by decide)).trans w24
    have w25 := (ho 25 (by decide)).trans w25
    have w26 := (ho 26 (by decide)).trans w26
    have w27 := (ho 27 (by decide)).trans w27
    have w28 := (ho 28 (by decide)).trans w28
    have w29 := (ho 29 (by decide)).trans w29
    have w30 := (ho 30 (by decide)).trans w30
    have w22 : G[22]? = some (a 22, .inr (8, [.int (nI (zn)), .int (nI (tr)), .ref (a 23), .ref (a 24), .ref (a 25), .ref (a 26), .ref (a 27), .ref (a 28), .ref (a 29), .int (nI (sc + 1)), .int ((sg + nI (1))), .int (sr), .int (ss), .int (gFf ke (ru 0) (zn) (0) (fed)), .int (gMTp tr (ru 3) cv (zn) (0) ((gMi3 ru ke zn tr ink asd)) (pap)), .int (gMTb tr (ru 3) cv (zn) (0) ((gMi3 ru ke zn tr ink asd)) (bar)), .int (gB (st)), .ref (a 30), .ref (a 31), .ref (a 32), .int (nI (pn)), .ref (a 33), .ref (a 34), .ref (a 35), .ref (a 36), .int (nI (mn)), .long (q1), .long (q2), .long (q3), .long (q4), .long (q5), .ref (a 37), .ref (a 38), .ref (a 39), .int (nI (jn)), .ref (a 40), .ref (a 41)])) := w22
    have hk := gk_step hk ho (by decide)
    clear ho
    refine lv_aload_n (pc := 381) hx hb dX8_sheet_381 rfl (lv_at hl 0 rfl) ?_
    refine lv_iload_n (pc := 382) hx hb dX8_sheet_382 rfl (lv_at hl 1 rfl) ?_
    refine mx_beq (tgt := 395) (pc := 383) hx hb dX8_sheet_383 (by decide) (fun c383 => absurd c383 (by decide)) (fun c383 => ?_)
    refine lv_aload_n (pc := 386) hx hb dX8_sheet_386 rfl (lv_at hl 0 rfl) ?_
    refine va_get (ci := 8) (C := RX8) (T := TX8) (N := 37) (pc := 387) hx hb hts hiX8 hown hK hP 22 w22 rfl 11 (by decide) (hts (.fieldLink RX8 87 "InkPressModel" "together" "I") (by decide +kernel)) (fun _ h9 => h9) rfl dX8_sheet_387 ?_
    refine lv_iconst (v := nI (1)) (pc := 390) hx hb dX8_sheet_390 (by decide) ?_
    refine lv_iadd (pc := 391) hx hb dX8_sheet_391 ?_
    refine lv_goto (tgt := 396) (pc := 392) hx hb dX8_sheet_392 (by decide) ?_
    refine mx_put (ci := 8) (v := .int ((sr + nI (1)))) (ty := .int) (C := RX8) (T := TX8) (N := 37) (pc := 396) hx hb hts hiX8 tyX8 tyX8_ok nmX8 hown hK hP hD hS 22 w22 rfl 11 (by decide) (hts (.fieldLink RX8 87 "InkPressModel" "together" "I") (by decide +kernel)) (fun _ h9 => h9) rfl (by decide +kernel) rfl rfl (Nat.le_of_ble_eq_true rfl) dX8_sheet_396 (fun H locs G hP hD hS w22 ho => ?_)
    have w23 := (ho 23 (by decide)).trans w23
    have w24 := (ho 24 (by decide)).trans w24
    have w25 := (ho 25 (by decide)).trans w25
    have w26 := (ho 26 (by decide)).trans w26
    have w27 := (ho 27 (by decide)).trans w27
    have w28 := (ho 28 (by decide)).trans w28
    have w29 := (ho 29 (by decide)).trans w29
    have w30 := (ho 30 (by decide)).trans w30
    have w22 : G[22]? = some (a 22, .inr (8, [.int (nI (zn)), .int (nI (tr)), .ref (a 23), .ref (a 24), .ref (a 25), .ref (a 26), .ref (a 27), .ref (a 28), .ref (a 29), .int (nI (sc + 1)), .int ((sg + nI (1))), .int ((sr + nI (1))), .int (ss), .int (gFf ke (ru 0) (zn) (0) (fed)), .int (gMTp tr (ru 3) cv (zn) (0) ((gMi3 ru ke zn tr ink asd)) (pap)), .int (gMTb tr (ru 3) cv (zn) (0) ((gMi3 ru ke zn tr ink asd)) (bar)), .int (gB (st)), .ref (a 30), .ref (a 31), .ref (a 32), .int (nI (pn)), .ref (a 33), .ref (a 34), .ref (a 35), .ref (a 36), .int (nI (mn)), .long (q1), .long (q2), .long (q3), .long (q4), .long (q5), .ref (a 37), .ref (a 38), .ref (a 39), .int (nI (jn)), .ref (a 40), .ref (a 41)])) := w22
    have hk := gk_step hk ho (by decide)
    clear ho
    refine lv_aload_n (pc := 399) hx hb dX8_sheet_399 rfl (lv_at hl 0 rfl) ?_
    refine lv_aload_n (pc := 400) hx hb dX8_sheet_400 rfl (lv_at hl 0 rfl) ?_
    refine va_get (ci := 8) (C := RX8) (T := TX8) (N := 37) (pc := 401) hx hb hts hiX8 hown hK hP 22 w22 rfl 12 (by decide) (hts (.fieldLink RX8 39 "InkPressModel" "start" "I") (by decide +kernel)) (fun _ h9 => h9) rfl dX8_sheet_401 ?_
    refine lv_if_ge (tgt := 428) (pc := 404) hx hb dX8_sheet_404 (by decide) (fun c404 => ?_) (fun c404 => ?_)
    · skip
      refine lv_aload_n (pc := 428) hx hb dX8_sheet_428 rfl (lv_at hl 0 rfl) ?_
      refine va_get (ci := 8) (C := RX8) (T := TX8) (N := 37) (pc := 429) hx hb hts hiX8 hown hK hP 22 w22 rfl 12 (by decide) (hts (.fieldLink RX8 39 "InkPressModel" "start" "I") (by decide +kernel)) (fun _ h9 => h9) rfl dX8_sheet_429 ?_
      refine mx_put (ci := 8) (v := .int (ss)) (ty := .int) (C := RX8) (T := TX8) (N := 37) (pc := 432) hx hb hts hiX8 tyX8 tyX8_ok nmX8 hown hK hP hD hS 22 w22 rfl 12 (by decide) (hts (.fieldLink RX8 39 "InkPressModel" "start" "I") (by decide +kernel)) (fun _ h9 => h9) rfl (by decide +kernel) rfl rfl (Nat.le_of_ble_eq_true rfl) dX8_sheet_432 (fun H locs G hP hD hS w22 ho => ?_)
      have w23 := (ho 23 (by decide)).trans w23
      have w24 := (ho 24 (by decide)).trans w24
      have w25 := (ho 25 (by decide)).trans w25
      have w26 := (ho 26 (by decide)).trans w26
      have w27 := (ho 27 (by decide)).trans w27
      have w28 := (ho 28 (by decide)).trans w28
      have w29 := (ho 29 (by decide)).trans w29
      have w30 := (ho 30 (by decide)).trans w30
      have w22 : G[22]? = some (a 22, .inr (8, [.int (nI (zn)), .int (nI (tr)), .ref (a 23), .ref (a 24), .ref (a 25), .ref (a 26), .ref (a 27), .ref (a 28), .ref (a 29), .int (nI (sc + 1)), .int ((sg + nI (1))), .int ((sr + nI (1))), .int (ss), .int (gFf ke (ru 0) (zn) (0) (fed)), .int (gMTp tr (ru 3) cv (zn) (0) ((gMi3 ru ke zn tr ink asd)) (pap)), .int (gMTb tr (ru 3) cv (zn) (0) ((gMi3 ru ke zn tr ink asd)) (bar)), .int (gB (st)), .ref (a 30), .ref (a 31), .ref (a 32), .int (nI (pn)), .ref (a 33), .ref (a 34), .ref (a 35), .ref (a 36), .int (nI (mn)), .long (q1), .long (q2), .long (q3), .long (q4), .long (q5), .ref (a 37), .ref (a 38), .ref (a 39), .int (nI (jn)), .ref (a 40), .ref (a 41)])) := w22
      have hk := gk_step hk ho (by decide)
      clear ho
      refine lv_aload_n (pc := 435) hx hb dX8_sheet_435 rfl (lv_at hl 0 rfl) ?_
      refine va_get (ci := 8) (C := RX8) (T := TX8) (N := 37) (pc := 436) hx hb hts hiX8 hown hK hP 22 w22 rfl 16 (by decide) (hts (.fieldLink RX8 99 "InkPressModel" "steers" "Z") (by decide +kernel)) (fun _ h9 => h9) rfl dX8_sheet_436 ?_
      refine mx_beq (tgt := 461) (pc := 439) hx hb dX8_sheet_439 (by decide) (fun c439 => ?_) (fun c439 => ?_)
      · skip
        exact hret _ _ _ _ _ hP hD hS ⟨(by rw [← egd]; have q9 : gMJs (gJr true sr) (ru 8) (nI (sc + 1)) ss = ss := gMJs_1 c404; rw [q9]; exact w22), (by rw [gMst_0 c439]; exact w24), w27, w28, (by rw [← egd]; exact w29), w30, hk⟩ dX8_sheet_461
      · skip
        refine lv_aload_n (pc := 442) hx hb dX8_sheet_442 rfl (lv_at hl 0 rfl) ?_
        refine va_get (ci := 8) (C := RX8) (T := TX8) (N := 37) (pc := 443) hx hb hts hiX8 hown hK hP 22 w22 rfl 9 (by decide) (hts (.fieldLink RX8 81 "InkPressModel" "sheets" "I") (by decide +kernel)) (fun _ h9 => h9) rfl dX8_sheet_443 ?_
        refine lv_aload_n (pc := 446) hx hb dX8_sheet_446 rfl (lv_at hl 0 rfl) ?_
        refine va_get (ci := 8) (C := RX8) (T := TX8) (N := 37) (pc := 447) hx hb hts hiX8 hown hK hP 22 w22 rfl 2 (by decide) (hts (.fieldLink RX8 16 "InkPressModel" "rules" "[I") (by decide +kernel)) (fun _ h9 => h9) rfl dX8_sheet_447 ?_
        refine lv_bipush (v := nI (7)) (pc := 450) hx hb dX8_sheet_450 (by decide) ?_
        refine mx_iald (pc := 452) hx hb hK hP 23 w23 (7) (by omega) (by decide) dX8_sheet_452 ?_
        refine lv_irem (pc := 453) hx hb dX8_sheet_453 hev ?_
        refine lv_if_ne (tgt := 461) (pc := 454) hx hb dX8_sheet_454 (by decide) (fun c454 => ?_) (fun c454 => ?_)
        · skip
          exact hret _ _ _ _ _ hP hD hS ⟨(by rw [← egd]; have q9 : gMJs (gJr true sr) (ru 8) (nI (sc + 1)) ss = ss := gMJs_1 c404; rw [q9]; exact w22), (by rw [gMst_1 c454]; exact w24), w27, w28, (by rw [← egd]; exact w29), w30, hk⟩ dX8_sheet_461
        · skip
          refine lv_aload_n (pc := 457) hx hb dX8_sheet_457 rfl (lv_at hl 0 rfl) ?_
          refine mx_cVv (As := []) (rest := []) (pc := 458) ⟨hx, hb, hml, hown, hts⟩ (k_X8_steerKeys (a := a) (zn := zn) (tr := tr) (sc := sc + 1) (pn := pn) (mn := mn) (jn := jn) (sg := (sg + nI (1))) (sr := (sr + nI (1))) (ss := ss) (fed := gFf ke (ru 0) (zn) (0) (fed)) (pap := gMTp tr (ru 3) cv (zn) (0) ((gMi3 ru ke zn tr ink asd)) (pap)) (bar := gMTb tr (ru 3) cv (zn) (0) ((gMi3 ru ke zn tr ink asd)) (bar)) (st := st) (q1 := q1) (q2 := q2) (q3 := q3) (q4 := q4) (q5 := q5) (ru := ru) (ke := ke) (tg := tg) (den := gMTd tr (ru 3) cv (8 * sc) (zn) (0) ((gMi3 ru ke zn tr ink asd)) (den)) hD w22 w23 w24 w26 w28 (by omega) (by omega)) (cwV 0 hts gX8_sheet_X8_steerKeys rfl rfl rfl (by decide +kernel) ⟨Nat.le_of_ble_eq_true rfl, Nat.le_of_ble_eq_true rfl⟩) 22 rfl rfl w22 hK hN hZ hP hS rfl hl.1 rfl (Nat.le_of_ble_eq_true rfl) dX8_sheet_458 ⟨Nat.zero_le _, Nat.zero_le _⟩ (fun G H locs hP hD hS hB => ?_)
          obtain ⟨w24, ho⟩ := hB
          have w22 := (ho 22 (by decide)).trans w22
          have w23 := (ho 23 (by decide)).trans w23
          have w24 : G[24]? = some (a 24, .inl (cI, 8, .inl (gMSk (ru) (sc + 1) (gMTd tr (ru 3) cv (8 * sc) (zn) (0) ((gMi3 ru ke zn tr ink asd)) (den)) (tg) (zn) 0 (ke)))) := w24
          have w25 := (ho 25 (by decide)).trans w25
          have w26 := (ho 26 (by decide)).trans w26
          have w27 := (ho 27 (by decide)).trans w27
          have w28 := (ho 28 (by decide)).trans w28
          have w29 := (ho 29 (by decide)).trans w29
          have w30 := (ho 30 (by decide)).trans w30
          have hk := gk_call hk ho (by decide)
          clear ho
          exact hret _ _ _ _ _ hP hD hS ⟨(by rw [← egd]; have q9 : gMJs (gJr true sr) (ru 8) (nI (sc + 1)) ss = ss := gMJs_1 c404; rw [q9]; exact w22), (by rw [gMst_2 c439 c454]; exact w24), w27, w28, (by rw [← egd]; exact w29), w30, hk⟩ dX8_sheet_461
    · skip
      refine lv_aload_n (pc := 407) hx hb dX8_sheet_407 rfl (lv_at hl 0 rfl) ?_
      refine va_get (ci := 8) (C := RX8) (T := TX8) (N := 37) (pc := 408) hx hb hts hiX8 hown hK hP 22 w22 rfl 11 (by decide) (hts (.fieldLink RX8 87 "InkPressModel" "together" "I") (by decide +kernel)) (fun _ h9 => h9) rfl dX8_sheet_408 ?_
      refine lv_aload_n (pc := 411) hx hb dX8_sheet_411 rfl (lv_at hl 0 rfl) ?_
      refine va_get (ci := 8) (C := RX8) (T := TX8) (N := 37) (pc := 412) hx hb hts hiX8 hown hK hP 22 w22 rfl 2 (by decide) (hts (.fieldLink RX8 16 "InkPressModel" "rules" "[I") (by decide +kernel)) (fun _ h9 => h9) rfl dX8_sheet_412 ?_
      refine lv_bipush (v := nI (8)) (pc := 415) hx hb dX8_sheet_415 (by decide) ?_
      refine mx_iald (pc := 417) hx hb hK hP 23 w23 (8) (by omega) (by decide) dX8_sheet_417 ?_
      refine lv_icmp_lt (tgt := 428) (pc := 418) hx hb dX8_sheet_418 (by decide) (fun c418 => ?_) (fun c418 => ?_)
      · skip
        refine lv_aload_n (pc := 428) hx hb dX8_sheet_428 rfl (lv_at hl 0 rfl) ?_
        refine va_get (ci := 8) (C := RX8) (T := TX8) (N := 37) (pc := 429) hx hb hts hiX8 hown hK hP 22 w22 rfl 12 (by decide) (hts (.fieldLink RX8 39 "InkPressModel" "start" "I") (by decide +kernel)) (fun _ h9 => h9) rfl dX8_sheet_429 ?_
        refine mx_put (ci := 8) (v := .int (ss)) (ty := .int) (C := RX8) (T := TX8) (N := 37) (pc := 432) hx hb hts hiX8 tyX8 tyX8_ok nmX8 hown hK hP hD hS 22 w22 rfl 12 (by decide) (hts (.fieldLink RX8 39 "InkPressModel" "start" "I") (by decide +kernel)) (fun _ h9 => h9) rfl (by decide +kernel) rfl rfl (Nat.le_of_ble_eq_true rfl) dX8_sheet_432 (fun H locs G hP hD hS w22 ho => ?_)
        have w23 := (ho 23 (by decide)).trans w23
        have w24 := (ho 24 (by decide)).trans w24
        have w25 := (ho 25 (by decide)).trans w25
        have w26 := (ho 26 (by decide)).trans w26
        have w27 := (ho 27 (by decide)).trans w27
        have w28 := (ho 28 (by decide)).trans w28
        have w29 := (ho 29 (by decide)).trans w29
        have w30 := (ho 30 (by decide)).trans w30
        have w22 : G[22]? = some (a 22, .inr (8, [.int (nI (zn)), .int (nI (tr)), .ref (a 23), .ref (a 24), .ref (a 25), .ref (a 26), .ref (a 27), .ref (a 28), .ref (a 29), .int (nI (sc + 1)), .int ((sg + nI (1))), .int ((sr + nI (1))), .int (ss), .int (gFf ke (ru 0) (zn) (0) (fed)), .int (gMTp tr (ru 3) cv (zn) (0) ((gMi3 ru ke zn tr ink asd)) (pap)), .int (gMTb tr (ru 3) cv (zn) (0) ((gMi3 ru ke zn tr ink asd)) (bar)), .int (gB (st)), .ref (a 30), .ref (a 31), .ref (a 32), .int (nI (pn)), .ref (a 33), .ref (a 34), .ref (a 35), .ref (a 36), .int (nI (mn)), .long (q1), .long (q2), .long (q3), .long (q4), .long (q5), .ref (a 37), .ref (a 38), .ref (a 39), .int (nI (jn)), .ref (a 40), .ref (a 41)])) := w22
        have hk := gk_step hk ho (by decide)
        clear ho
        refine lv_aload_n (pc := 435) hx hb dX8_sheet_435 rfl (lv_at hl 0 rfl) ?_
        refine va_get (ci := 8) (C := RX8) (T := TX8) (N := 37) (pc := 436) hx hb hts hiX8 hown hK hP 22 w22 rfl 16 (by decide) (hts (.fieldLink RX8 99 "InkPressModel" "steers" "Z") (by decide +kernel)) (fun _ h9 => h9) rfl dX8_sheet_436 ?_
        refine mx_beq (tgt := 461) (pc := 439) hx hb dX8_sheet_439 (by decide) (fun c439 => ?_) (fun c439 => ?_)
        · skip
          exact hret _ _ _ _ _ hP hD hS ⟨(by rw [← egd]; have q9 : gMJs (gJr true sr) (ru 8) (nI (sc + 1)) ss = ss := gMJs_2 c418; rw [q9]; exact w22), (by rw [gMst_0 c439]; exact w24), w27, w28, (by rw [← egd]; exact w29), w30, hk⟩ dX8_sheet_461
        · skip
          refine lv_aload_n (pc := 442) hx hb dX8_sheet_442 rfl (lv_at hl 0 rfl) ?_
          refine va_get (ci := 8) (C := RX8) (T := TX8) (N := 37) (pc := 443) hx hb hts hiX8 hown hK hP 22 w22 rfl 9 (by decide) (hts (.fieldLink RX8 81 "InkPressModel" "sheets" "I") (by decide +kernel)) (fun _ h9 => h9) rfl dX8_sheet_443 ?_
          refine lv_aload_n (pc := 446) hx hb dX8_sheet_446 rfl (lv_at hl 0 rfl) ?_
          refine va_get (ci := 8) (C := RX8) (T := TX8) (N := 37) (pc := 447) hx hb hts hiX8 hown hK hP 22 w22 rfl 2 (by decide) (hts (.fieldLink RX8 16 "InkPressModel" "rules" "[I") (by decide +kernel)) (fun _ h9 => h9) rfl dX8_sheet_447 ?_
          refine lv_bipush (v := nI (7)) (pc := 450) hx hb dX8_sheet_450 (by decide) ?_
          refine mx_iald (pc := 452) hx hb hK hP 23 w23 (7) (by omega) (by decide) dX8_sheet_452 ?_
          refine lv_irem (pc := 453) hx hb dX8_sheet_453 hev ?_
          refine lv_if_ne (tgt := 461) (pc := 454) hx hb dX8_sheet_454 (by decide) (fun c454 => ?_) (fun c454 => ?_)
          · skip
            exact hret _ _ _ _ _ hP hD hS ⟨(by rw [← egd]; have q9 : gMJs (gJr true sr) (ru 8) (nI (sc + 1)) ss = ss := gMJs_2 c418; rw [q9]; exact w22), (by rw [gMst_1 c454]; exact w24), w27, w28, (by rw [← egd]; exact w29), w30, hk⟩ dX8_sheet_461
          · skip
            refine lv_aload_n (pc := 457) hx hb dX8_sheet_457 rfl (lv_at hl 0 rfl) ?_
            refine mx_cVv (As := []) (rest := []) (pc := 458) ⟨hx, hb, hml, hown, hts⟩ (k_X8_steerKeys (a := a) (zn := zn) (tr := tr) (sc := sc + 1) (pn := pn) (mn := mn) (jn := jn) (sg := (sg + nI (1))) (sr := (sr + nI (1))) (ss := ss) (fed := gFf ke (ru 0) (zn) (0) (fed)) (pap := gMTp tr (ru 3) cv (zn) (0) ((gMi3 ru ke zn tr ink asd)) (pap)) (bar := gMTb tr (ru 3) cv (zn) (0) ((gMi3 ru ke zn tr ink asd)) (bar)) (st := st) (q1 := q1) (q2 := q2) (q3 := q3) (q4 := q4) (q5 := q5) (ru := ru) (ke := ke) (tg := tg) (den := gMTd tr (ru 3) cv (8 * sc) (zn) (0) ((gMi3 ru ke zn tr ink asd)) (den)) hD w22 w23 w24 w26 w28 (by omega) (by omega)) (cwV 0 hts gX8_sheet_X8_steerKeys rfl rfl rfl (by decide +kernel) ⟨Nat.le_of_ble_eq_true rfl, Nat.le_of_ble_eq_true rfl⟩) 22 rfl rfl w22 hK hN hZ hP hS rfl hl.1 rfl (Nat.le_of_ble_eq_true rfl) dX8_sheet_458 ⟨Nat.zero_le _, Nat.zero_le _⟩ (fun G H locs hP hD hS hB => ?_)
            obtain ⟨w24, ho⟩ := hB
            have w22 := (ho 22 (by decide)).trans w22
            have w23 := (ho 23 (by decide)).trans w23
            have w24 : G[24]? = some (a 24, .inl (cI, 8, .inl (gMSk (ru) (sc + 1) (gMTd tr (ru 3) cv (8 * sc) (zn) (0) ((gMi3 ru ke zn tr ink asd)) (den)) (tg) (zn) 0 (ke)))) := w24
            have w25 := (ho 25 (by decide)).trans w25
            have w26 := (ho 26 (by decide)).trans w26
            have w27 := (ho 27 (by decide)).trans w27
            have w28 := (ho 28 (by decide)).trans w28
            have w29 := (ho 29 (by decide)).trans w29
            have w30 := (ho 30 (by decide)).trans w30
            have hk := gk_call hk ho (by decide)
            clear ho
            exact hret _ _ _ _ _ hP hD hS ⟨(by rw [← egd]; have q9 : gMJs (gJr true sr) (ru 8) (nI (sc + 1)) ss = ss := gMJs_2 c418; rw [q9]; exact w22), (by rw [gMst_2 c439 c454]; exact w24), w27, w28, (by rw [← egd]; exact w29), w30, hk⟩ dX8_sheet_461
      · skip
        refine lv_aload_n (pc := 421) hx hb dX8_sheet_421 rfl (lv_at hl 0 rfl) ?_
        refine va_get (ci := 8) (C := RX8) (T := TX8) (N := 37) (pc := 422) hx hb hts hiX8 hown hK hP 22 w22 rfl 9 (by decide) (hts (.fieldLink RX8 81 "InkPressModel" "sheets" "I") (by decide +kernel)) (fun _ h9 => h9) rfl dX8_sheet_422 ?_
        refine lv_goto (tgt := 432) (pc := 425) hx hb dX8_sheet_425 (by decide) ?_
        refine mx_put (ci := 8) (v := .int (nI (sc + 1))) (ty := .int) (C := RX8) (T := TX8) (N := 37) (pc := 432) hx hb hts hiX8 tyX8 tyX8_ok nmX8 hown hK hP hD hS 22 w22 rfl 12 (by decide) (hts (.fieldLink RX8 39 "InkPressModel" "start" "I") (by decide +kernel)) (fun _ h9 => h9) rfl (by decide +kernel) rfl rfl (Nat.le_of_ble_eq_true rfl) dX8_sheet_432 (fun H locs G hP hD hS w22 ho => ?_)
        have w23 := (ho 23 (by decide)).trans w23
        have w24 := (ho 24 (by decide)).trans w24
        have w25 := (ho 25 (by decide)).trans w25
        have w26 := (ho 26 (by decide)).trans w26
        have w27 := (ho 27 (by decide)).trans w27
        have w28 := (ho 28 (by decide)).trans w28
        have w29 := (ho 29 (by decide)).trans w29
        have w30 := (ho 30 (by decide)).trans w30
        have w22 : G[22]? = some (a 22, .inr (8, [.int (nI (zn)), .int (nI (tr)), .ref (a 23), .ref (a 24), .ref (a 25), .ref (a 26), .ref (a 27), .ref (a 28), .ref (a 29), .int (nI (sc + 1)), .int ((sg + nI (1))), .int ((sr + nI (1))), .int (nI (sc + 1)), .int (gFf ke (ru 0) (zn) (0) (fed)), .int (gMTp tr (ru 3) cv (zn) (0) ((gMi3 ru ke zn tr ink asd)) (pap)), .int (gMTb tr (ru 3) cv (zn) (0) ((gMi3 ru ke zn tr ink asd)) (bar)), .int (gB (st)), .ref (a 30), .ref (a 31), .ref (a 32), .int (nI (pn)), .ref (a 33), .ref (a 34), .ref (a 35), .ref (a 36), .int (nI (mn)), .long (q1), .long (q2), .long (q3), .long (q4), .long (q5), .ref (a 37), .ref (a 38), .ref (a 39), .int (nI (jn)), .ref (a 40), .ref (a 41)])) := w22
        have hk := gk_step hk ho (by decide)
        clear ho
        refine lv_aload_n (pc := 435) hx hb dX8_sheet_435 rfl (lv_at hl 0 rfl) ?_
        refine va_get (ci := 8) (C := RX8) (T := TX8) (N := 37) (pc := 436) hx hb hts hiX8 hown hK hP 22 w22 rfl 16 (by decide) (hts (.fieldLink RX8 99 "InkPressModel" "steers" "Z") (by decide +kernel)) (fun _ h9 => h9) rfl dX8_sheet_436 ?_
        refine mx_beq (tgt := 461) (pc := 439) hx hb dX8_sheet_439 (by decide) (fun c439 => ?_) (fun c439 => ?_)
        · skip
          exact hret _ _ _ _ _ hP hD hS ⟨(by rw [← egd]; have q9 : gMJs (gJr true sr) (ru 8) (nI (sc + 1)) ss = nI (sc + 1) := gMJs_3 c404 c418; rw [q9]; exact w22), (by rw [gMst_0 c439]; exact w24), w27, w28, (by rw [← egd]; exact w29), w30, hk⟩ dX8_sheet_461
        · skip
          refine lv_aload_n (pc := 442) hx hb dX8_sheet_442 rfl (lv_at hl 0 rfl) ?_
          refine va_get (ci := 8) (C := RX8) (T := TX8) (N := 37) (pc := 443) hx hb hts hiX8 hown hK hP 22 w22 rfl 9 (by decide) (hts (.fieldLink RX8 81 "InkPressModel" "sheets" "I") (by decide +kernel)) (fun _ h9 => h9) rfl dX8_sheet_443 ?_
          refine lv_aload_n (pc := 446) hx hb dX8_sheet_446 rfl (lv_at hl 0 rfl) ?_
          refine va_get (ci := 8) (C := RX8) (T := TX8) (N := 37) (pc := 447) hx hb hts hiX8 hown hK hP 22 w22 rfl 2 (by decide) (hts (.fieldLink RX8 16 "InkPressModel" "rules" "[I") (by decide +kernel)) (fun _ h9 => h9) rfl dX8_sheet_447 ?_
          refine lv_bipush (v := nI (7)) (pc := 450) hx hb dX8_sheet_450 (by decide) ?_
          refine mx_iald (pc := 452) hx hb hK hP 23 w23 (7) (by omega) (by decide) dX8_sheet_452 ?_
          refine lv_irem (pc := 453) hx hb dX8_sheet_453 hev ?_
          refine lv_if_ne (tgt := 461) (pc := 454) hx hb dX8_sheet_454 (by decide) (fun c454 => ?_) (fun c454 => ?_)
          · skip
            exact hret _ _ _ _ _ hP hD hS ⟨(by rw [← egd]; have q9 : gMJs (gJr true sr) (ru 8) (nI (sc + 1)) ss = nI (sc + 1) := gMJs_3 c404 c418; rw [q9]; exact w22), (by rw [gMst_1 c454]; exact w24), w27, w28, (by rw [← egd]; exact w29), w30, hk⟩ dX8_sheet_461
          · skip
            refine lv_aload_n (pc := 457) hx hb dX8_sheet_457 rfl (lv_at hl 0 rfl) ?_
            refine mx_cVv (As := []) (rest := []) (pc := 458) ⟨hx, hb, hml, hown, hts⟩ (k_X8_steerKeys (a := a) (zn := zn) (tr := tr) (sc := sc + 1) (pn := pn) (mn := mn) (jn := jn) (sg := (sg + nI (1))) (sr := (sr + nI (1))) (ss := nI (sc + 1)) (fed := gFf ke (ru 0) (zn) (0) (fed)) (pap := gMTp tr (ru 3) cv (zn) (0) ((gMi3 ru ke zn tr ink asd)) (pap)) (bar := gMTb tr (ru 3) cv (zn) (0) ((gMi3 ru ke zn tr ink asd)) (bar)) (st := st) (q1 := q1) (q2 := q2) (q3 := q3) (q4 := q4) (q5 := q5) (ru := ru) (ke := ke) (tg := tg) (den := gMTd tr (ru 3) cv (8 * sc) (zn) (0) ((gMi3 ru ke zn tr ink asd)) (den)) hD w22 w23 w24 w26 w28 (by omega) (by omega)) (cwV 0 hts gX8_sheet_X8_steerKeys rfl rfl rfl (by decide +kernel) ⟨Nat.le_of_ble_eq_true rfl, Nat.le_of_ble_eq_true rfl⟩) 22 rfl rfl w22 hK hN hZ hP hS rfl hl.1 rfl (Nat.le_of_ble_eq_true rfl) dX8_sheet_458 ⟨Nat.zero_le _, Nat.zero_le _⟩ (fun G H locs hP hD hS hB => ?_)
            obtain ⟨w24, ho⟩ := hB
            have w22 := (ho 22 (by decide)).trans w22
            have w23 := (ho 23 (by decide)).trans w23
            have w24 : G[24]? = some (a 24, .inl (cI, 8, .inl (gMSk (ru) (sc + 1) (gMTd tr (ru 3) cv (8 * sc) (zn) (0) ((gMi3 ru ke zn tr ink asd)) (den)) (tg) (zn) 0 (ke)))) := w24
            have w25 := (ho 25 (by decide)).trans w25
            have w26 := (ho 26 (by decide)).trans w26
            have w27 := (ho 27 (by decide)).trans w27
            have w28 := (ho 28 (by decide)).trans w28
            have w29 := (ho 29 (by decide)).trans w29
            have w30 := (ho 30 (by decide)).trans w30
            have hk := gk_call hk ho (by decide)
            clear ho
            exact hret _ _ _ _ _ hP hD hS ⟨(by rw [← egd]; have q9 : gMJs (gJr true sr) (ru 8) (nI (sc + 1)) ss = nI (sc + 1) := gMJs_3 c404 c418; rw [q9]; exact w22), (by rw [gMst_2 c439 c454]; exact w24), w27, w28, (by rw [← egd]; exact w29), w30, hk⟩ dX8_sheet_461
