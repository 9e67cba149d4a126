/-! pairs: press, rule, set, zone, ink -/
theorem jR_upd {ru : Nat → Int32} {k : Nat} {v : Int32} (h : jR ru) (hv : gWi v ((gTab 0).getD k 0) ((gTab 1).getD k 0) = true) : jR (upd ru k v) := by
  intro i hi
  by_cases e : i = k
  · subst e
    rw [pk_us]
    exact hv
  · rw [pk_un e]
    exact h i hi
set_option maxHeartbeats 4000000 in
set_option maxRecDepth 100000 in
theorem pr_press {l : Launch} {D : va_G} {cI cZ : ClassId} {A : Nat → Prop} {g a : Nat → Nat} {G : va_W} {st : Bool} {ru : Nat → Int32} {zv : Nat → Int32} {zn : Nat} {ink : Nat → Int32} {tr : Nat} {fed : Int32} {pap : Int32} {bar : Int32} {den : Nat → Int32} {go : Nat → Bool} {sc : Nat} {sg : Int32} {sr : Int32} {ss : Int32} {pn : Nat} {pX : Int64} {pY : Int64} {pXX : Int64} {pXY : Int64} {mx : Nat → Int32} {my : Nat → Int32} {mdx : Nat → Int32} {mdy : Nat → Int32} {mn : Nat} {m1 : Int64} {m2 : Int64} {m3 : Int64} {m4 : Int64} {m5 : Int64} {m6 : Int64} {m7 : Int64} {co : Nat → Nat} {pa : Nat → Int32} {wa : Nat → Int32} {ct : Nat → Int32} {be : Nat → Nat} {jn : Nat} {jp : Bool} {ke : Nat → Int32} {cv : Nat → Int32} {tg : Nat → Int32} {asd : Nat → Int32} {pc_ : Nat → Int32} {pk_ : Nat → Int32} {ro : Nat → Nat} {bm : Nat → Nat} {q1 : Int64} {q2 : Int64} {q3 : Int64} {q4 : Int64} {q5 : Int64} (hC : gC cI cZ a G st ru zv zn ink tr fed pap bar den go sc sg sr ss pn pX pY pXX pXY mx my mdx mdy mn m1 m2 m3 m4 m5 m6 m7 co pa wa ct be jn jp ke cv tg asd pc_ pk_ ro bm q1 q2 q3 q4 q5) (hF : gF st ru zv zn ink tr fed pap bar den go sc sg sr ss pn pX pY pXX pXY mx my mdx mdy mn m1 m2 m3 m4 m5 m6 m7 co pa wa ct be jn jp ke cv tg asd pc_ pk_ ro bm q1 q2 q3 q4 q5) (z : Int32) (r : Int32) : gPI l D cI cZ A g a yX7_press wsX7_press yX8_press wsX8_press [.int z, .int r] G := by
  have hF0 := hF
  obtain ⟨hru, hz2, hz8, hr2, hr5, hsc, hZ, hS, hI, hP, hM, hj7, hco, hc7, hp7, hwa, hpl⟩ := hF
  cases h1 : gWi z (nI 2) (nI 8) with
  | false =>
    exact gPI_pp (fun hD => k_X7_press_b (a := a) hD (gC_w0 hC) (Or.inl h1)) ⟨_, gC_w22 hC⟩ (fun hD => k_X8_press_b (a := a) hD (gC_w22 hC) (Or.inl h1)) (gInv_mk hC hF0) ⟨⟨by decide, by decide, rfl, rfl⟩, ⟨by decide, by decide, rfl, rfl⟩⟩
  | true =>
    cases h2 : gWi r (nI 2) (nI 5) with
    | false =>
      exact gPI_pp (fun hD => k_X7_press_b (a := a) hD (gC_w0 hC) (Or.inr h2)) ⟨_, gC_w22 hC⟩ (fun hD => k_X8_press_b (a := a) hD (gC_w22 hC) (Or.inr h2)) (gInv_mk hC hF0) ⟨⟨by decide, by decide, rfl, rfl⟩, ⟨by decide, by decide, rfl, rfl⟩⟩
    | true =>
      obtain ⟨z, hz2, hz8, rfl⟩ := gWi_of (by decide) (by decide) h1
      obtain ⟨r, hr2, hr5, rfl⟩ := gWi_of (by decide) (by decide) h2
      apply gPI_mk (fun hD => k_X7_press_k (a := a) hD (gC_w0 hC) (gC_w3 hC) (gC_w4 hC) (gC_w5 hC) (gC_w6 hC) (gC_w7 hC) (gC_w8 hC) (gC_w9 hC) h1 h2)
      · intro G1 hB hD
        obtain ⟨v0, v3, v4, v5, v6, v7, ho⟩ := hB
        have w22 := (ho 22 (by decide)).trans (gC_w22 hC)
        have w24 := (ho 24 (by decide)).trans (gC_w24 hC)
        have w25 := (ho 25 (by decide)).trans (gC_w25 hC)
        have w26 := (ho 26 (by decide)).trans (gC_w26 hC)
        have w27 := (ho 27 (by decide)).trans (gC_w27 hC)
        exact ⟨⟨_, w22⟩, k_X8_press_k (a := a) hD w22 w24 w25 w26 w27 h1 h2⟩
      · intro G1 G2 hB hK
        obtain ⟨v0, v3, v4, v5, v6, v7, ho⟩ := hB
        obtain ⟨v22, v24, v25, v26, v27, ho8⟩ := hK
        exact gInv_mk (st := false) (ru := ru) (zv := gZr 24 0 zv) (zn := z) (ink := gClr 40 0 ink) (tr := r) (fed := nI 0) (pap := nI 0) (bar := nI 0) (den := den) (go := go) (sc := 0) (sg := nI 0) (sr := nI 0) (ss := -6) (pn := pn) (pX := pX) (pY := pY) (pXX := pXX) (pXY := pXY) (mx := mx) (my := my) (mdx := mdx) (mdy := mdy) (mn := mn) (m1 := m1) (m2 := m2) (m3 := m3) (m4 := m4) (m5 := m5) (m6 := m6) (m7 := m7) (co := co) (pa := pa) (wa := wa) (ct := ct) (be := be) (jn := jn) (jp := jp) (ke := gFil (nI 0) 8 0 ke) (cv := gFil (nI 20) 8 0 cv) (tg := gFil (nI 100) 8 0 tg) (asd := asd) (pc_ := pc_) (pk_ := pk_) (ro := ro) (bm := bm) (q1 := q1) (q2 := q2) (q3 := q3) (q4 := q4) (q5 := q5) (gC_mk ((ho8 0 (by decide)).trans (v0)) ((ho8 1 (by decide)).trans ((ho 1 (by decide)).trans (gC_w1 hC))) ((ho8 2 (by decide)).trans ((ho 2 (by decide)).trans (gC_w2 hC))) ((ho8 3 (by decide)).trans (v3)) ((ho8 4 (by decide)).trans (v4)) ((ho8 5 (by decide)).trans (v5)) ((ho8 6 (by decide)).trans (v6)) ((ho8 7 (by decide)).trans (v7)) ((ho8 8 (by decide)).trans ((ho 8 (by decide)).trans (gC_w8 hC))) ((ho8 9 (by decide)).trans ((ho 9 (by decide)).trans (gC_w9 hC))) ((ho8 10 (by decide)).trans ((ho 10 (by decide)).trans (gC_w10 hC))) ((ho8 11 (by decide)).trans ((ho 11 (by decide)).trans (gC_w11 hC))) ((ho8 12 (by decide)).trans ((ho 12 (by decide)).trans (gC_w12 hC))) ((ho8 13 (by decide)).trans ((ho 13 (by decide)).trans (gC_w13 hC))) ((ho8 14 (by decide)).trans ((ho 14 (by decide)).trans (gC_w14 hC))) ((ho8 15 (by decide)).trans ((ho 15 (by decide)).trans (gC_w15 hC))) ((ho8 16 (by decide)).trans ((ho 16 (by decide)).trans (gC_w16 hC))) ((ho8 17 (by decide)).trans ((ho 17 (by decide)).trans (gC_w17 hC))) ((ho8 18 (by decide)).trans ((ho 18 (by decide)).trans (gC_w18 hC))) ((ho8 19 (by decide)).trans ((ho 19 (by decide)).trans (gC_w19 hC))) ((ho8 20 (by decide)).trans ((ho 20 (by decide)).trans (gC_w20 hC))) ((ho8 21 (by decide)).trans ((ho 21 (by decide)).trans (gC_w21 hC))) (v22) ((ho8 23 (by decide)).trans ((ho 23 (by decide)).trans (gC_w23 hC))) (v24) (v25) (v26) (v27) ((ho8 28 (by decide)).trans ((ho 28 (by decide)).trans (gC_w28 hC))) ((ho8 29 (by decide)).trans ((ho 29 (by decide)).trans (gC_w29 hC))) ((ho8 30 (by decide)).trans ((ho 30 (by decide)).trans (gC_w30 hC))) ((ho8 31 (by decide)).trans ((ho 31 (by decide)).trans (gC_w31 hC))) ((ho8 32 (by decide)).trans ((ho 32 (by decide)).trans (gC_w32 hC))) ((ho8 33 (by decide)).trans ((ho 33 (by decide)).trans (gC_w33 hC))) ((ho8 34 (by decide)).trans ((ho 34 (by decide)).trans (gC_w34 hC))) ((ho8 35 (by decide)).trans ((ho 35 (by decide)).trans (gC_w35 hC))) ((ho8 36 (by decide)).trans ((ho 36 (by decide)).trans (gC_w36 hC))) ((ho8 37 (by decide)).trans ((ho 37 (by decide)).trans (gC_w37 hC))) ((ho8 38 (by decide)).trans ((ho 38 (by decide)).trans (gC_w38 hC))) ((ho8 39 (by decide)).trans ((ho 39 (by decide)).trans (gC_w39 hC))) ((ho8 40 (by decide)).trans ((ho 40 (by decide)).trans (gC_w40 hC))) ((ho8 41 (by decide)).trans ((ho 41 (by decide)).trans (gC_w41 hC)))) ⟨hru, hz2, hz8, hr2, hr5, (by decide), ms_press zv ke cv tg, Or.inl rfl, ms_ink0 (fun j hj => (ms_clr 40 0 ink j).2 (Nat.zero_le _) (by omega)), hP, hM, hj7, hco, hc7, hp7, hwa, hpl⟩
      · exact ⟨⟨by decide, by decide, rfl, rfl⟩, ⟨by decide, by decide, rfl, rfl⟩⟩
set_option maxHeartbeats 4000000 in
set_option maxRecDepth 100000 in
theorem pr_rule {l : Launch} {D : va_G} {cI cZ : ClassId} {A : Nat → Prop} {g a : Nat → Nat} {G : va_W} {st : Bool} {ru : Nat → Int32} {zv : Nat → Int32} {zn : Nat} {ink : Nat → Int32} {tr : Nat} {fed : Int32} {pap : Int32} {bar : Int32} {den : Nat → Int32} {go : Nat → Bool} {sc : Nat} {sg : Int32} {sr : Int32} {ss : Int32} {pn : Nat} {pX : Int64} {pY : Int64} {pXX : Int64} {pXY : Int64} {mx : Nat → Int32} {my : Nat → Int32} {mdx : Nat → Int32} {mdy : Nat → Int32} {mn : Nat} {m1 : Int64} {m2 : Int64} {m3 : Int64} {m4 : Int64} {m5 : Int64} {m6 : Int64} {m7 : Int64} {co : Nat → Nat} {pa : Nat → Int32} {wa : Nat → Int32} {ct : Nat → Int32} {be : Nat → Nat} {jn : Nat} {jp : Bool} {ke : Nat → Int32} {cv : Nat → Int32} {tg : Nat → Int32} {asd : Nat → Int32} {pc_ : Nat → Int32} {pk_ : Nat → Int32} {ro : Nat → Nat} {bm : Nat → Nat} {q1 : Int64} {q2 : Int64} {q3 : Int64} {q4 : Int64} {q5 : Int64} (hC : gC cI cZ a G st ru zv zn ink tr fed pap bar den go sc sg sr ss pn pX pY pXX pXY mx my mdx mdy mn m1 m2 m3 m4 m5 m6 m7 co pa wa ct be jn jp ke cv tg asd pc_ pk_ ro bm q1 q2 q3 q4 q5) (hF : gF st ru zv zn ink tr fed pap bar den go sc sg sr ss pn pX pY pXX pXY mx my mdx mdy mn m1 m2 m3 m4 m5 m6 m7 co pa wa ct be jn jp ke cv tg asd pc_ pk_ ro bm q1 q2 q3 q4 q5) (x : Int32) (v : Int32) : gPI l D cI cZ A g a yX7_rule wsX7_rule yX8_rule wsX8_rule [.int x, .int v] G := by
  have hF0 := hF
  obtain ⟨hru, hz2, hz8, hr2, hr5, hsc, hZ, hS, hI, hP, hM, hj7, hco, hc7, hp7, hwa, hpl⟩ := hF
  cases h1 : gHas x (nI 9) with
  | false =>
    exact gPI_pp (fun hD => k_X7_rule_b (a := a) hD (gC_w0 hC) (gC_w1 hC) (gC_w2 hC) h1) ⟨_, gC_w22 hC⟩ (fun hD => k_X8_rule_b (a := a) hD (gC_w22 hC) h1) (gInv_mk hC hF0) ⟨⟨by decide, by decide, rfl, rfl⟩, ⟨by decide, by decide, rfl, rfl⟩⟩
  | true =>
    obtain ⟨k, hk9, rfl⟩ := gHas_of (by decide) h1
    cases h2 : gWi v ((gTab 0).getD k 0) ((gTab 1).getD k 0) with
    | false =>
      exact gPI_pp (fun hD => k_X7_rule_c (a := a) hD (gC_w0 hC) (gC_w1 hC) (gC_w2 hC) hk9 h1 h2) ⟨_, gC_w22 hC⟩ (fun hD => k_X8_rule_c (a := a) hD (gC_w22 hC) (gC_w23 hC) hk9 h1 h2) (gInv_mk hC hF0) ⟨⟨by decide, by decide, rfl, rfl⟩, ⟨by decide, by decide, rfl, rfl⟩⟩
    | true =>
      apply gPI_mk (fun hD => k_X7_rule_k (a := a) hD (gC_w0 hC) (gC_w1 hC) (gC_w2 hC) hk9 h1 h2)
      · intro G1 hB hD
        obtain ⟨v2, ho⟩ := hB
        have w22 := (ho 22 (by decide)).trans (gC_w22 hC)
        have w23 := (ho 23 (by decide)).trans (gC_w23 hC)
        exact ⟨⟨_, w22⟩, k_X8_rule_k (a := a) hD w22 w23 hk9 h1 h2⟩
      · intro G1 G2 hB hK
        obtain ⟨v2, ho⟩ := hB
        obtain ⟨v23, ho8⟩ := hK
        exact gInv_mk (st := st) (ru := upd ru k v) (zv := zv) (zn := zn) (ink := ink) (tr := tr) (fed := fed) (pap := pap) (bar := bar) (den := den) (go := go) (sc := sc) (sg := sg) (sr := sr) (ss := ss) (pn := pn) (pX := pX) (pY := pY) (pXX := pXX) (pXY := pXY) (mx := mx) (my := my) (mdx := mdx) (mdy := mdy) (mn := mn) (m1 := m1) (m2 := m2) (m3 := m3) (m4 := m4) (m5 := m5) (m6 := m6) (m7 := m7) (co := co) (pa := pa) (wa := wa) (ct := ct) (be := be) (jn := jn) (jp := jp) (ke := ke) (cv := cv) (tg := tg) (asd := asd) (pc_ := pc_) (pk_ := pk_) (ro := ro) (bm := bm) (q1 := q1) (q2 := q2) (q3 := q3) (q4 := q4) (q5 := q5) (gC_mk ((ho8 0 (by decide)).trans ((ho 0 (by decide)).trans (gC_w0 hC))) ((ho8 1 (by decide)).trans ((ho 1 (by decide)).trans (gC_w1 hC))) ((ho8 2 (by decide)).trans (v2)) ((ho8 3 (by decide)).trans ((ho 3 (by decide)).trans (gC_w3 hC))) ((ho8 4 (by decide)).trans ((ho 4 (by decide)).trans (gC_w4 hC))) ((ho8 5 (by decide)).trans ((ho 5 (by decide)).trans (gC_w5 hC))) ((ho8 6 (by decide)).trans ((ho 6 (by decide)).trans (gC_w6 hC))) ((ho8 7 (by decide)).trans ((ho 7 (by decide)).trans (gC_w7 hC))) ((ho8 8 (by decide)).trans ((ho 8 (by decide)).trans (gC_w8 hC))) ((ho8 9 (by decide)).trans ((ho 9 (by decide)).trans (gC_w9 hC))) ((ho8 10 (by decide)).trans ((ho 10 (by decide)).trans (gC_w10 hC))) ((ho8 11 (by decide)).trans ((ho 11 (by decide)).trans (gC_w11 hC))) ((ho8 12 (by decide)).trans ((ho 12 (by decide)).trans (gC_w12 hC))) ((ho8 13 (by decide)).trans ((ho 13 (by decide)).trans (gC_w13 hC))) ((ho8 14 (by decide)).trans ((ho 14 (by decide)).trans (gC_w14 hC))) ((ho8 15 (by decide)).trans ((ho 15 (by decide)).trans (gC_w15 hC))) ((ho8 16 (by decide)).trans ((ho 16 (by decide)).trans (gC_w16 hC))) ((ho8 17 (by decide)).trans ((ho 17 (by decide)).trans (gC_w17 hC))) ((ho8 18 (by decide)).trans ((ho 18 (by decide)).trans (gC_w18 hC))) ((ho8 19 (by decide)).trans ((ho 19 (by decide)).trans (gC_w19 hC))) ((ho8 20 (by decide)).trans ((ho 20 (by decide)).trans (gC_w20 hC))) ((ho8 21 (by decide)).trans ((ho 21 (by decide)).trans (gC_w21 hC))) ((ho8 22 (by decide)).trans ((ho 22 (by decide)).trans (gC_w22 hC))) (v23) ((ho8 24 (by decide)).trans ((ho 24 (by decide)).trans (gC_w24 hC))) ((ho8 25 (by decide)).trans ((ho 25 (by decide)).trans (gC_w25 hC))) ((ho8 26 (by decide)).trans ((ho 26 (by decide)).trans (gC_w26 hC))) ((ho8 27 (by decide)).trans ((ho 27 (by decide)).trans (gC_w27 hC))) ((ho8 28 (by decide)).trans ((ho 28 (by decide)).trans (gC_w28 hC))) ((ho8 29 (by decide)).trans ((ho 29 (by decide)).trans (gC_w29 hC))) ((ho8 30 (by decide)).trans ((ho 30 (by decide)).trans (gC_w30 hC))) ((ho8 31 (by decide)).trans ((ho 31 (by decide)).trans (gC_w31 hC))) ((ho8 32 (by decide)).trans ((ho 32 (by decide)).trans (gC_w32 hC))) ((ho8 33 (by decide)).trans ((ho 33 (by decide)).trans (gC_w33 hC))) ((ho8 34 (by decide)).trans ((ho 34 (by decide)).trans (gC_w34 hC))) ((ho8 35 (by decide)).trans ((ho 35 (by decide)).trans (gC_w35 hC))) ((ho8 36 (by decide)).trans ((ho 36 (by decide)).trans (gC_w36 hC))) ((ho8 37 (by decide)).trans ((ho 37 (by decide)).trans (gC_w37 hC))) ((ho8 38 (by decide)).trans ((ho 38 (by decide)).trans (gC_w38 hC))) ((ho8 39 (by decide)).trans ((ho 39 (by decide)).trans (gC_w39 hC))) ((ho8 40 (by decide)).trans ((ho 40 (by decide)).trans (gC_w40 hC))) ((ho8 41 (by decide)).trans ((ho 41 (by decide)).trans (gC_w41 hC)))) ⟨jR_upd hru h2, hz2, hz8, hr2, hr5, hsc, hZ, hS, hI, hP, hM, hj7, hco, hc7, hp7, hwa, hpl⟩
      · exact ⟨⟨by decide, by decide, rfl, rfl⟩, ⟨by decide, by decide, rfl, rfl⟩⟩
set_option maxHeartbeats 4000000 in
set_option maxRecDepth 100000 in
theorem pr_set {l : Launch} {D : va_G} {cI cZ : ClassId} {A : Nat → Prop} {g a : Nat → Nat} {G : va_W} {st : Bool} {ru : Nat → Int32} {zv : Nat → Int32} {zn : Nat} {ink : Nat → Int32} {tr : Nat} {fed : Int32} {pap : Int32} {bar : Int32} {den : Nat → Int32} {go : Nat → Bool} {sc : Nat} {sg : Int32} {sr : Int32} {ss : Int32} {pn : Nat} {pX : Int64} {pY : Int64} {pXX : Int64} {pXY : Int64} {mx : Nat → Int32} {my : Nat → Int32} {mdx : Nat → Int32} {mdy : Nat → Int32} {mn : Nat} {m1 : Int64} {m2 : Int64} {m3 : Int64} {m4 : Int64} {m5 : Int64} {m6 : Int64} {m7 : Int64} {co : Nat → Nat} {pa : Nat → Int32} {wa : Nat → Int32} {ct : Nat → Int32} {be : Nat → Nat} {jn : Nat} {jp : Bool} {ke : Nat → Int32} {cv : Nat → Int32} {tg : Nat → Int32} {asd : Nat → Int32} {pc_ : Nat → Int32} {pk_ : Nat → Int32} {ro : Nat → Nat} {bm : Nat → Nat} {q1 : Int64} {q2 : Int64} {q3 : Int64} {q4 : Int64} {q5 : Int64} (hC : gC cI cZ a G st ru zv zn ink tr fed pap bar den go sc sg sr ss pn pX pY pXX pXY mx my mdx mdy mn m1 m2 m3 m4 m5 m6 m7 co pa wa ct be jn jp ke cv tg asd pc_ pk_ ro bm q1 q2 q3 q4 q5) (hF : gF st ru zv zn ink tr fed pap bar den go sc sg sr ss pn pX pY pXX pXY mx my mdx mdy mn m1 m2 m3 m4 m5 m6 m7 co pa wa ct be jn jp ke cv tg asd pc_ pk_ ro bm q1 q2 q3 q4 q5) (x : Int32) (y : Int32) (v : Int32) : gPI l D cI cZ A g a yX7_set wsX7_set yX8_set wsX8_set [.int x, .int y, .int v] G := by
  have hF0 := hF
  obtain ⟨hru, hz2, hz8, hr2, hr5, hsc, hZ, hS, hI, hP, hM, hj7, hco, hc7, hp7, hwa, hpl⟩ := hF
  cases h1 : gHas x (nI zn) with
  | false =>
    exact gPI_pp (fun hD => k_X7_set_b (a := a) hD (gC_w0 hC) (gC_w3 hC) (gC_w4 hC) h1) ⟨_, gC_w22 hC⟩ (fun hD => k_X8_set_b (a := a) hD (gC_w22 hC) (by omega) hz8 h1) (gInv_mk hC hF0) ⟨⟨by decide, by decide, rfl, rfl⟩, ⟨by decide, by decide, rfl, rfl⟩⟩
  | true =>
    cases h2 : gWi y (nI 0) (nI 2) with
    | false =>
      exact gPI_pp (fun hD => k_X7_set_c (a := a) hD (gC_w0 hC) (gC_w3 hC) (gC_w4 hC) h1 h2) ⟨_, gC_w22 hC⟩ (fun hD => k_X8_set_c (a := a) hD (gC_w22 hC) (by omega) hz8 h1 h2) (gInv_mk hC hF0) ⟨⟨by decide, by decide, rfl, rfl⟩, ⟨by decide, by decide, rfl, rfl⟩⟩
    | true =>
      obtain ⟨k, -, hk2, rfl⟩ := gWi_of (by decide) (by decide) h2
      cases h3 : gWi v (nI 0) ((gTab 3).getD k 0) with
      | false =>
        exact gPI_pp (fun hD => k_X7_set_d (a := a) hD (gC_w0 hC) (gC_w3 hC) (gC_w4 hC) (by omega) h1 h2 h3) ⟨_, gC_w22 hC⟩ (fun hD => k_X8_set_d (a := a) hD (gC_w22 hC) (gC_w24 hC) (gC_w25 hC) (gC_w26 hC) (by omega) hz8 (by omega) h1 h2 h3) (gInv_mk hC hF0) ⟨⟨by decide, by decide, rfl, rfl⟩, ⟨by decide, by decide, rfl, rfl⟩⟩
      | true =>
        obtain ⟨z, hzz, rfl⟩ := gHas_of (by omega) h1
        apply gPI_mk (fun hD => k_X7_set_k (a := a) hD (gC_w0 hC) (gC_w3 hC) (gC_w4 hC) (by omega) (by omega) h1 h2 h3)
        · intro G1 hB hD
          obtain ⟨v4, ho⟩ := hB
          have w22 := (ho 22 (by decide)).trans (gC_w22 hC)
          have w24 := (ho 24 (by decide)).trans (gC_w24 hC)
          have w25 := (ho 25 (by decide)).trans (gC_w25 hC)
          have w26 := (ho 26 (by decide)).trans (gC_w26 hC)
          exact ⟨⟨_, w22⟩, gMi_e (ms_sel hZ (by omega) (by omega)) (k_X8_set_k (a := a) hD w22 w24 w25 w26 (by omega) hz8 (by omega) (by omega) h1 h2 h3)⟩
        · intro G1 G2 hB hK
          obtain ⟨v4, ho⟩ := hB
          obtain ⟨v24, v25, v26, ho8⟩ := hK
          exact gInv_mk (st := st) (ru := ru) (zv := upd zv (k * 8 + z) v) (zn := zn) (ink := ink) (tr := tr) (fed := fed) (pap := pap) (bar := bar) (den := den) (go := go) (sc := sc) (sg := sg) (sr := sr) (ss := ss) (pn := pn) (pX := pX) (pY := pY) (pXX := pXX) (pXY := pXY) (mx := mx) (my := my) (mdx := mdx) (mdy := mdy) (mn := mn) (m1 := m1) (m2 := m2) (m3 := m3) (m4 := m4) (m5 := m5) (m6 := m6) (m7 := m7) (co := co) (pa := pa) (wa := wa) (ct := ct) (be := be) (jn := jn) (jp := jp) (ke := gSet k 0 z v ke) (cv := gSet k 1 z v cv) (tg := gSet k 2 z v tg) (asd := asd) (pc_ := pc_) (pk_ := pk_) (ro := ro) (bm := bm) (q1 := q1) (q2 := q2) (q3 := q3) (q4 := q4) (q5 := q5) (gC_mk ((ho8 0 (by decide)).trans ((ho 0 (by decide)).trans (gC_w0 hC))) ((ho8 1 (by decide)).trans ((ho 1 (by decide)).trans (gC_w1 hC))) ((ho8 2 (by decide)).trans ((ho 2 (by decide)).trans (gC_w2 hC))) ((ho8 3 (by decide)).trans ((ho 3 (by decide)).trans (gC_w3 hC))) ((ho8 4 (by decide)).trans (v4)) ((ho8 5 (by decide)).trans ((ho 5 (by decide)).trans (gC_w5 hC))) ((ho8 6 (by decide)).trans ((ho 6 (by decide)).trans (gC_w6 hC))) ((ho8 7 (by decide)).trans ((ho 7 (by decide)).trans (gC_w7 hC))) ((ho8 8 (by decide)).trans ((ho 8 (by decide)).trans (gC_w8 hC))) ((ho8 9 (by decide)).trans ((ho 9 (by decide)).trans (gC_w9 hC))) ((ho8 10 (by decide)).trans ((ho 10 (by decide)).trans (gC_w10 hC))) ((ho8 11 (by decide)).trans ((ho 11 (by decide)).trans (gC_w11 hC))) ((ho8 12 (by decide)).trans ((ho 12 (by decide)).trans (gC_w12 hC))) ((ho8 13 (by decide)).trans ((ho 13 (by decide)).trans (gC_w13 hC))) ((ho8 14 (by decide)).trans ((ho 14 (by decide)).trans (gC_w14 hC))) ((ho8 15 (by decide)).trans ((ho 15 (by decide)).trans (gC_w15 hC))) ((ho8 16 (by decide)).trans ((ho 16 (by decide)).trans (gC_w16 hC))) ((ho8 17 (by decide)).trans ((ho 17 (by decide)).trans (gC_w17 hC))) ((ho8 18 (by decide)).trans ((ho 18 (by decide)).trans (gC_w18 hC))) ((ho8 19 (by decide)).trans ((ho 19 (by decide)).trans (gC_w19 hC))) ((ho8 20 (by decide)).trans ((ho 20 (by decide)).trans (gC_w20 hC))) ((ho8 21 (by decide)).trans ((ho 21 (by decide)).trans (gC_w21 hC))) ((ho8 22 (by decide)).trans ((ho 22 (by decide)).trans (gC_w22 hC))) ((ho8 23 (by decide)).trans ((ho 23 (by decide)).trans (gC_w23 hC))) (v24) (v25) (v26) ((ho8 27 (by decide)).trans ((ho 27 (by decide)).trans (gC_w27 hC))) ((ho8 28 (by decide)).trans ((ho 28 (by decide)).trans (gC_w28 hC))) ((ho8 29 (by decide)).trans ((ho 29 (by decide)).trans (gC_w29 hC))) ((ho8 30 (by decide)).trans ((ho 30 (by decide)).trans (gC_w30 hC))) ((ho8 31 (by decide)).trans ((ho 31 (by decide)).trans (gC_w31 hC))) ((ho8 32 (by decide)).trans ((ho 32 (by decide)).trans (gC_w32 hC))) ((ho8 33 (by decide)).trans ((ho 33 (by decide)).trans (gC_w33 hC))) ((ho8 34 (by decide)).trans ((ho 34 (by decide)).trans (gC_w34 hC))) ((ho8 35 (by decide)).trans ((ho 35 (by decide)).trans (gC_w35 hC))) ((ho8 36 (by decide)).trans ((ho 36 (by decide)).trans (gC_w36 hC))) ((ho8 37 (by decide)).trans ((ho 37 (by decide)).trans (gC_w37 hC))) ((ho8 38 (by decide)).trans ((ho 38 (by decide)).trans (gC_w38 hC))) ((ho8 39 (by decide)).trans ((ho 39 (by decide)).trans (gC_w39 hC))) ((ho8 40 (by decide)).trans ((ho 40 (by decide)).trans (gC_w40 hC))) ((ho8 41 (by decide)).trans ((ho 41 (by decide)).trans (gC_w41 hC)))) ⟨hru, hz2, hz8, hr2, hr5, hsc, ms_set hZ (by omega) (by omega) h3, hS, hI, hP, hM, hj7, hco, hc7, hp7, hwa, hpl⟩
        · exact ⟨⟨by decide, by decide, rfl, rfl⟩, ⟨by decide, by decide, rfl, rfl⟩⟩
set_option maxHeartbeats 4000000 in
set_option maxRecDepth 100000 in
theorem pr_zone {l : Launch} {D : va_G} {cI cZ : ClassId} {A : Nat → Prop} {g a : Nat → Nat} {G : va_W} {st : Bool} {ru : Nat → Int32} {zv : Nat → Int32} {zn : Nat} {ink : Nat → Int32} {tr : Nat} {fed : Int32} {pap : Int32} {bar : Int32} {den : Nat → Int32} {go : Nat → Bool} {sc : Nat} {sg : Int32} {sr : Int32} {ss : Int32} {pn : Nat} {pX : Int64} {pY : Int64} {pXX : Int64} {pXY : Int64} {mx : Nat → Int32} {my : Nat → Int32} {mdx : Nat → Int32} {mdy : Nat → Int32} {mn : Nat} {m1 : Int64} {m2 : Int64} {m3 : Int64} {m4 : Int64} {m5 : Int64} {m6 : Int64} {m7 : Int64} {co : Nat → Nat} {pa : Nat → Int32} {wa : Nat → Int32} {ct : Nat → Int32} {be : Nat → Nat} {jn : Nat} {jp : Bool} {ke : Nat → Int32} {cv : Nat → Int32} {tg : Nat → Int32} {asd : Nat → Int32} {pc_ : Nat → Int32} {pk_ : Nat → Int32} {ro : Nat → Nat} {bm : Nat → Nat} {q1 : Int64} {q2 : Int64} {q3 : Int64} {q4 : Int64} {q5 : Int64} (hC : gC cI cZ a G st ru zv zn ink tr fed pap bar den go sc sg sr ss pn pX pY pXX pXY mx my mdx mdy mn m1 m2 m3 m4 m5 m6 m7 co pa wa ct be jn jp ke cv tg asd pc_ pk_ ro bm q1 q2 q3 q4 q5) (hF : gF st ru zv zn ink tr fed pap bar den go sc sg sr ss pn pX pY pXX pXY mx my mdx mdy mn m1 m2 m3 m4 m5 m6 m7 co pa wa ct be jn jp ke cv tg asd pc_ pk_ ro bm q1 q2 q3 q4 q5) (x : Int32) (y : Int32) : gPI l D cI cZ A g a yX7_zone wsX7_zone yX8_zone wsX8_zone [.int x, .int y] G := by
  have hF0 := hF
  obtain ⟨hru, hz2, hz8, hr2, hr5, hsc, hZ, hS, hI, hP, hM, hj7, hco, hc7, hp7, hwa, hpl⟩ := hF
  cases h1 : gHas x (nI zn) with
  | false =>
    exact gPI_pp (fun hD => k_X7_zone_b (a := a) hD (gC_w0 hC) (gC_w3 hC) (gC_w4 hC) h1) ⟨_, gC_w22 hC⟩ (fun hD => k_X8_zone_b (a := a) hD (gC_w22 hC) (by omega) hz8 h1) (gInv_mk hC hF0) ⟨⟨by decide, by decide, rfl, rfl⟩, ⟨by decide, by decide, rfl, rfl⟩⟩
  | true =>
    cases h2 : gWi y (nI 0) (nI 3) with
    | false =>
      exact gPI_pp (fun hD => k_X7_zone_c (a := a) hD (gC_w0 hC) (gC_w3 hC) (gC_w4 hC) h1 h2) ⟨_, gC_w22 hC⟩ (fun hD => k_X8_zone_c (a := a) hD (gC_w22 hC) (by omega) hz8 h1 h2) (gInv_mk hC hF0) ⟨⟨by decide, by decide, rfl, rfl⟩, ⟨by decide, by decide, rfl, rfl⟩⟩
    | true =>
      obtain ⟨k, -, hk3, rfl⟩ := gWi_of (by decide) (by decide) h2
      obtain ⟨z, hzz, rfl⟩ := gHas_of (by omega) h1
      rcases Nat.lt_or_ge k 3 with q | q
      · skip
        exact gPI_pp (fun hD => k_X7_zone_k (a := a) hD (gC_w0 hC) (gC_w3 hC) (gC_w4 hC) (by omega) q h1 h2) ⟨_, gC_w22 hC⟩ (fun hD => gMi_e (ms_sel hZ (by omega) q) (k_X8_zone_k (a := a) hD (gC_w22 hC) (gC_w24 hC) (gC_w25 hC) (gC_w26 hC) (by omega) hz8 (by omega) q h1)) (gInv_mk hC hF0) ⟨⟨by decide, by decide, rfl, rfl⟩, ⟨by decide, by decide, rfl, rfl⟩⟩
      · skip
        obtain rfl : k = 3 := by omega
        exact gPI_pp (fun hD => k_X7_zone_3 (a := a) hD (gC_w0 hC) (gC_w3 hC) (gC_w4 hC) (gC_w7 hC) (gC_w8 hC) (gC_w9 hC) (by omega) hsc h1) ⟨_, gC_w22 hC⟩ (fun hD => gMi_e (sh_Ld sc z den) (k_X8_zone_3 (a := a) hD (gC_w22 hC) (gC_w28 hC) (by omega) hz8 (by omega) hsc h1)) (gInv_mk hC hF0) ⟨⟨by decide, by decide, rfl, rfl⟩, ⟨by decide, by decide, rfl, rfl⟩⟩
set_option maxHeartbeats 4000000 in
set_option maxRecDepth 100000 in
theorem pr_ink {l : Launch} {D : va_G} {cI cZ : ClassId} {A : Nat → Prop} {g a : Nat → Nat} {G : va_W} {st : Bool} {ru : Nat → Int32} {zv : Nat → Int32} {zn : Nat} {ink : Nat → Int32} {tr : Nat} {fed : Int32} {pap : Int32} {bar : Int32} {den : Nat → Int32} {go : Nat → Bool} {sc : Nat} {sg : Int32} {sr : Int32} {ss : Int32} {pn : Nat} {pX : Int64} {pY : Int64} {pXX : Int64} {pXY : Int64} {mx : Nat → Int32} {my : Nat → Int32} {mdx : Nat → Int32} {mdy : Nat → Int32} {mn : Nat} {m1 : Int64} {m2 : Int64} {m3 : Int64} {m4 : Int64} {m5 : Int64} {m6 : Int64} {m7 : Int64} {co : Nat → Nat} {pa : Nat → Int32} {wa : Nat → Int32} {ct : Nat → Int32} {be : Nat → Nat} {jn : Nat} {jp : Bool} {ke : Nat → Int32} {cv : Nat → Int32} {tg : Nat → Int32} {asd : Nat → Int32} {pc_ : Nat → Int32} {pk_ : Nat → Int32} {ro : Nat → Nat} {bm : Nat → Nat} {q1 : Int64} {q2 : Int64} {q3 : Int64} {q4 : Int64} {q5 : Int64} (hC : gC cI cZ a G st ru zv zn ink tr fed pap bar den go sc sg sr ss pn pX pY pXX pXY mx my mdx mdy mn m1 m2 m3 m4 m5 m6 m7 co pa wa ct be jn jp ke cv tg asd pc_ pk_ ro bm q1 q2 q3 q4 q5) (hF : gF st ru zv zn ink tr fed pap bar den go sc sg sr ss pn pX pY pXX pXY mx my mdx mdy mn m1 m2 m3 m4 m5 m6 m7 co pa wa ct be jn jp ke cv tg asd pc_ pk_ ro bm q1 q2 q3 q4 q5) (x : Int32) (y : Int32) : gPI l D cI cZ A g a yX7_ink wsX7_ink yX8_ink wsX8_ink [.int x, .int y] G := by
  have hF0 := hF
  obtain ⟨hru, hz2, hz8, hr2, hr5, hsc, hZ, hS, hI, hP, hM, hj7, hco, hc7, hp7, hwa, hpl⟩ := hF
  cases h1 : gHas x (nI tr) with
  | false =>
    exact gPI_pp (fun hD => k_X7_ink_b (a := a) hD (gC_w0 hC) (gC_w3 hC) (gC_w4 hC) (gC_w5 hC) (gC_w6 hC) (Or.inl h1)) ⟨_, gC_w22 hC⟩ (fun hD => k_X8_ink_b (a := a) hD (gC_w22 hC) (by omega) hz8 (by omega) hr5 (Or.inl h1)) (gInv_mk hC hF0) ⟨⟨by decide, by decide, rfl, rfl⟩, ⟨by decide, by decide, rfl, rfl⟩⟩
  | true =>
    cases h2 : gHas y (nI zn) with
    | false =>
      exact gPI_pp (fun hD => k_X7_ink_b (a := a) hD (gC_w0 hC) (gC_w3 hC) (gC_w4 hC) (gC_w5 hC) (gC_w6 hC) (Or.inr h2)) ⟨_, gC_w22 hC⟩ (fun hD => k_X8_ink_b (a := a) hD (gC_w22 hC) (by omega) hz8 (by omega) hr5 (Or.inr h2)) (gInv_mk hC hF0) ⟨⟨by decide, by decide, rfl, rfl⟩, ⟨by decide, by decide, rfl, rfl⟩⟩
    | true =>
      obtain ⟨r, hr, rfl⟩ := gHas_of (by omega) h1
      obtain ⟨z, hz, rfl⟩ := gHas_of (by omega) h2
      exact gPI_pp (fun hD => k_X7_ink_k (a := a) hD (gC_w0 hC) (gC_w3 hC) (gC_w4 hC) (gC_w5 hC) (gC_w6 hC) (by omega) (by omega) h1 h2) ⟨_, gC_w22 hC⟩ (fun hD => gMi_e (by rw [Nat.mul_comm 8 r]) (k_X8_ink_k (a := a) hD (gC_w22 hC) (gC_w27 hC) (by omega) hz8 (by omega) hr5 (by omega) (by omega) h1 h2)) (gInv_mk hC hF0) ⟨⟨by decide, by decide, rfl, rfl⟩, ⟨by decide, by decide, rfl, rfl⟩⟩
