/-! printing -/
def gDue (ev n : Int32) : Bool := if ev ≤ 0 then false else decide (n - n / ev * ev = 0)
theorem gDue_0 {ev n : Int32} (h : ev ≤ 0) : gB (gDue ev n) = nI 0 := by
  unfold gDue
  rw [if_pos h]
  rfl
theorem gDue_1 {ev n : Int32} (h : ¬ ev ≤ 0) (h2 : ¬ n - n / ev * ev = 0) : gB (gDue ev n) = nI 0 := by
  unfold gDue
  rw [if_neg h, decide_eq_false h2]
  rfl
theorem gDue_2 {ev n : Int32} (h : ¬ ev ≤ 0) (h2 : n - n / ev * ev = 0) : gB (gDue ev n) = nI 1 := by
  unfold gDue
  rw [if_neg h, decide_eq_true h2]
  rfl
def gSk1 (ru : Nat → Int32) (sc : Nat) (den : Nat → Int32) (z : Nat) (zv : Nat → Int32) : Nat → Int32 :=
  upd zv (0 * 8 + z) (gHeld (zv (0 * 8 + z) + gHeld ((zv (2 * 8 + z) - gLd sc z den) * ru 4 / nI 1000).toInt64 (-(ru 5)) (ru 5)).toInt64 (nI 0) (nI 100))
def gSk (ru : Nat → Int32) (sc : Nat) (den : Nat → Int32) : Nat → Nat → (Nat → Int32) → Nat → Int32
  | 0, _, zv => zv
  | k + 1, z, zv => gSk ru sc den k (z + 1) (gSk1 ru sc den z zv)
def gKe (zv : Nat → Int32) (z : Nat) : Int32 := zv (0 * 8 + z)
def gCo (zv : Nat → Int32) (z : Nat) : Int32 := zv (1 * 8 + z)
def gTt (zv : Nat → Int32) (z : Nat) : Int32 := zv (2 * 8 + z)
def gFi (ke : Nat → Int32) (fe : Int32) : Nat → Nat → (Nat → Int32) → Nat → Int32
  | 0, _, ink => ink
  | k + 1, z, ink => gFi ke fe k (z + 1) (upd ink z (ink z + ke z * fe))
def gFf (ke : Nat → Int32) (fe : Int32) : Nat → Nat → Int32 → Int32
  | 0, _, fed => fed
  | k + 1, z, fed => gFf ke fe k (z + 1) (fed + ke z * fe)
def gTi (tr : Nat) (q : Int32) (co : Nat → Int32) : Nat → Nat → (Nat → Int32) → Nat → Int32
  | 0, _, ink => ink
  | k + 1, z, ink => gTi tr q co k (z + 1) (gTk tr z q (co z) ink)
def gTp (tr : Nat) (q : Int32) (co : Nat → Int32) : Nat → Nat → (Nat → Int32) → Int32 → Int32
  | 0, _, _, pap => pap
  | k + 1, z, ink, pap => gTp tr q co k (z + 1) (gTk tr z q (co z) ink) (pap + gPap tr z q (co z) ink)
def gTb (tr : Nat) (q : Int32) (co : Nat → Int32) : Nat → Nat → (Nat → Int32) → Int32 → Int32
  | 0, _, _, bar => bar
  | k + 1, z, ink, bar => gTb tr q co k (z + 1) (gTk tr z q (co z) ink) (bar + gBar tr z ink)
def gTd (tr : Nat) (q : Int32) (co : Nat → Int32) (bs : Nat) : Nat → Nat → (Nat → Int32) → (Nat → Int32) → Nat → Int32
  | 0, _, _, den => den
  | k + 1, z, ink, den => gTd tr q co bs k (z + 1) (gTk tr z q (co z) ink) (upd den (bs + z) (nI 10 * gBar tr z ink))
def gAbs (x : Int32) : Int32 := if 0 ≤ x then x else 0 - x
def gG1 (gd : Bool) (x tg tol : Int32) : Bool := gd && decide (¬ tol < gAbs (x - tg))
theorem gG1_0 {gd : Bool} {x tg tol : Int32} (h : gd = false) : gG1 gd x tg tol = false := by
  unfold gG1
  rw [h]
  rfl
theorem gG1_1 {gd : Bool} {x tg tol : Int32} (h : tol < gAbs (x - tg)) : gG1 gd x tg tol = false := by
  unfold gG1
  simp [h]
theorem gG1_2 {gd : Bool} {x tg tol : Int32} (h : gd = true) (h2 : ¬ tol < gAbs (x - tg)) : gG1 gd x tg tol = true := by
  unfold gG1
  rw [h, decide_eq_true h2]
  rfl
def gTg (tr : Nat) (q : Int32) (co tg : Nat → Int32) (tol : Int32) : Nat → Nat → (Nat → Int32) → Bool → Bool
  | 0, _, _, gd => gd
  | k + 1, z, ink, gd => gTg tr q co tg tol k (z + 1) (gTk tr z q (co z) ink) (gG1 gd (nI 10 * gBar tr z ink) (tg z) tol)
def gInk3 (ru zv : Nat → Int32) (zn tr : Nat) (ink : Nat → Int32) : Nat → Int32 := gDr (ru 2) zn tr 0 (gPr (ru 1) zn (tr - 1) 0 (gFi (gKe zv) (ru 0) zn 0 ink))
abbrev gU : Type := (Nat → Int32) × (Nat → Int32) × (Nat → Int32) × (Nat → Bool) × Nat × Int32 × Int32 × Int32 × Int32 × Int32 × Int32
/-- one sheet -/
def gSh (ru : Nat → Int32) (zn tr : Nat) (u : gU) : gU :=
  (u.1, gTi tr (ru 3) (gCo (u.1)) zn 0 (gInk3 ru (u.1) zn tr (u.2.1)), gTd tr (ru 3) (gCo (u.1)) (((u.2.2.2.2.1) + 1 - 1) * 8) zn 0 (gInk3 ru (u.1) zn tr (u.2.1)) (u.2.2.1), vf_upd (u.2.2.2.1) ((u.2.2.2.2.1) + 1 - 1) (gTg tr (ru 3) (gCo (u.1)) (gTt (u.1)) (ru 6) zn 0 (gInk3 ru (u.1) zn tr (u.2.1)) true), u.2.2.2.2.1 + 1, gFf (gKe (u.1)) (ru 0) zn 0 (u.2.2.2.2.2.1), gTp tr (ru 3) (gCo (u.1)) zn 0 (gInk3 ru (u.1) zn tr (u.2.1)) (u.2.2.2.2.2.2.1), gTb tr (ru 3) (gCo (u.1)) zn 0 (gInk3 ru (u.1) zn tr (u.2.1)) (u.2.2.2.2.2.2.2.1), gJg (gTg tr (ru 3) (gCo (u.1)) (gTt (u.1)) (ru 6) zn 0 (gInk3 ru (u.1) zn tr (u.2.1)) true) (u.2.2.2.2.2.2.2.2.1), gJr (gTg tr (ru 3) (gCo (u.1)) (gTt (u.1)) (ru 6) zn 0 (gInk3 ru (u.1) zn tr (u.2.1)) true) (u.2.2.2.2.2.2.2.2.2.1), gJs (gJr (gTg tr (ru 3) (gCo (u.1)) (gTt (u.1)) (ru 6) zn 0 (gInk3 ru (u.1) zn tr (u.2.1)) true) (u.2.2.2.2.2.2.2.2.2.1)) (ru 8) (nI ((u.2.2.2.2.1) + 1)) (u.2.2.2.2.2.2.2.2.2.2))
def gSt (ru : Nat → Int32) (zn : Nat) (u : gU) : gU := (gSk ru u.2.2.2.2.1 u.2.2.1 zn 0 u.1, u.2)
def gRun (ru : Nat → Int32) (zn tr : Nat) (st : Bool) : Nat → gU → gU
  | 0, u => u
  | k + 1, u => if st = true ∧ gDue (ru 7) (nI (u.2.2.2.2.1 + 1)) = true then gRun ru zn tr st k (gSt ru zn (gSh ru zn tr u)) else gRun ru zn tr st k (gSh ru zn tr u)
theorem gRun_0 {ru : Nat → Int32} {zn tr k : Nat} {st : Bool} {u : gU} (h : st = false) : gRun ru zn tr st (k + 1) u = gRun ru zn tr st k (gSh ru zn tr u) := if_neg (fun q => by rw [h] at q; exact absurd q.1 (by decide))
theorem gRun_1 {ru : Nat → Int32} {zn tr k : Nat} {st : Bool} {u : gU} (_h : st = true) (h2 : gDue (ru 7) (nI (u.2.2.2.2.1 + 1)) = false) : gRun ru zn tr st (k + 1) u = gRun ru zn tr st k (gSh ru zn tr u) := if_neg (fun q => by rw [h2] at q; exact absurd q.2 (by decide))
theorem gRun_2 {ru : Nat → Int32} {zn tr k : Nat} {st : Bool} {u : gU} (h : st = true) (h2 : gDue (ru 7) (nI (u.2.2.2.2.1 + 1)) = true) : gRun ru zn tr st (k + 1) u = gRun ru zn tr st k (gSt ru zn (gSh ru zn tr u)) := if_pos ⟨h, h2⟩
set_option maxHeartbeats 4000000 in
set_option maxRecDepth 100000 in
theorem k_X7_isSteeringDue {l : Launch} {D : va_G} {cI cZ : ClassId} {A : Nat → Prop} {g a : Nat → Nat} {G0 : va_W} {st : Bool} {ru : Nat → Int32} {den : Nat → Int32} {go : Nat → Bool} {sc : Nat} {sg : Int32} {sr : Int32} {ss : Int32} (hD : va_D A G0) (w0 : G0[0]? = some (a 0, .inr (7, [.ref (a 1), .ref (a 3), .ref (a 5), .ref (a 7), .ref (a 10), .ref (a 11), .ref (a 16), .int (gB (st))]))) (w1 : G0[1]? = some (a 1, .inr (3, [.ref (a 2)]))) (w2 : G0[2]? = some (a 2, .inl (cI, 9, .inl (ru)))) (w7 : G0[7]? = some (a 7, .inr (4, [.ref (a 8), .ref (a 9), .int (nI (sc)), .int (sg), .int (sr), .int (ss)]))) (w8 : G0[8]? = some (a 8, .inl (cI, 8000, .inl (den)))) (w9 : G0[9]? = some (a 9, .inl (cZ, 1000, .inl (fun j => gB ((go) j))))) : gMi l D cI cZ A g yX7_isSteeringDue wsX7_isSteeringDue ({ frames := 1, cells := 0, slots := 0, locals := 21 }) [.ref (a 0)] G0 (gB (gDue (ru 7) (nI sc))) (fun G1 => G1 = G0) := by
  refine gof_z (cc := cX7_isSteeringDue) (maxL := 2) (by decide) rfl (Nat.le_of_ble_eq_true rfl) hD ?_
  intro p e s m args below meth c Q hx hb hml hts hown hK hN hZ hP hS hret ls hl
  have hown : s.vm.findClass RX7 = some m.cls := hown
  have hl : lv_has ls 2 [(0, .ref (a 0))] := hl
  obtain ⟨locs, elocs⟩ : ∃ q : List Loc, q = [] := ⟨_, rfl⟩
  rw [← elocs] at hS ⊢
  obtain ⟨H, eH⟩ : ∃ q : Heap, q = s.heap := ⟨_, rfl⟩
  have hP : va_P D vwCl G0 H := eH ▸ hP
  have hS : va_S A s.heap H locs := by rw [eH]; exact hS
  rw [← eH]
  clear elocs eH
  have hiX4 : ∀ w ∈ u_ws RX4 TX4 6, w ∈ wsX7_isSteeringDue := by decide +kernel
  have hiX7 : ∀ w ∈ u_ws RX7 TX7 8, w ∈ wsX7_isSteeringDue := by decide +kernel
  have hk : ∀ k, k ∉ ([] : List Nat) → G0[k]? = G0[k]? := fun _ _ => rfl
  refine lv_aload_n (pc := 0) hx hb dX7_isSteeringDue_0 rfl (lv_at hl 0 rfl) ?_
  refine va_get (ci := 7) (C := RX7) (T := TX7) (N := 8) (pc := 1) hx hb hts hiX7 hown hK hP 0 w0 rfl 0 (by decide) (hts (.fieldLink RX7 10 "InkPress" "rules" "LInkPress$Rules;") (by decide +kernel)) (fun _ h9 => h9) rfl dX7_isSteeringDue_1 ?_
  refine lv_bipush (v := nI (7)) (pc := 4) hx hb dX7_isSteeringDue_4 (by decide) ?_
  refine mx_cVi (As := [.int (nI (7))]) (rest := []) (pc := 6) ⟨hx, hb, hml, hown, hts⟩ (k_X3_valueOf (a := a) (ru := ru) (k := 7) hD w1 w2 (by omega)) (cwV 1 hts gX7_isSteeringDue_X3_valueOf rfl rfl rfl (by decide +kernel) ⟨Nat.le_of_ble_eq_true rfl, Nat.le_of_ble_eq_true rfl⟩) 1 rfl rfl w1 hK hN hZ hP hS rfl hl.1 rfl (Nat.le_of_ble_eq_true rfl) dX7_isSteeringDue_6 ⟨Nat.zero_le _, Nat.zero_le _⟩ (fun G' H locs hP hD hS hB => ?_)
  rw [hB] at hP hD
  clear hB G'
  refine lv_istore_n (lv' := [(1, .int ((ru) (7))), (0, .ref (a 0))]) (pc := 9) hx hb dX7_isSteeringDue_9 rfl hl (by decide) rfl (fun ls hl => ?_)
  refine lv_iload_n (pc := 10) hx hb dX7_isSteeringDue_10 rfl (lv_at hl 0 rfl) ?_
  refine lv_if_le (tgt := 30) (pc := 11) hx hb dX7_isSteeringDue_11 (by decide) (fun c11 => ?_) (fun c11 => ?_)
  · skip
    refine lv_iconst (v := nI (0)) (pc := 30) hx hb dX7_isSteeringDue_30 (by decide) ?_
    exact hret _ _ _ _ _ _ hP hD hS rfl (gDue_0 c11).symm rfl dX7_isSteeringDue_31
  · skip
    refine lv_aload_n (pc := 14) hx hb dX7_isSteeringDue_14 rfl (lv_at hl 1 rfl) ?_
    refine va_get (ci := 7) (C := RX7) (T := TX7) (N := 8) (pc := 15) hx hb hts hiX7 hown hK hP 0 w0 rfl 3 (by decide) (hts (.fieldLink RX7 33 "InkPress" "sheets" "LInkPress$SheetLog;") (by decide +kernel)) (fun _ h9 => h9) rfl dX7_isSteeringDue_15 ?_
    refine va_getN (own := RX7) (host := "InkPress") (ci := 4) (C := RX4) (T := TX4) (N := 6) (pc := 18) hx hb hts hiX4 hown hK hP 7 w7 rfl 2 (by decide) (va_Nw.use rfl (hN (.fieldLinkNest "InkPress" 105 "InkPress$SheetLog" "count" "I" "InkPress") (by decide +kernel))) (fun _ h9 => h9) rfl dX7_isSteeringDue_18 ?_
    refine lv_iload_n (pc := 21) hx hb dX7_isSteeringDue_21 rfl (lv_at hl 0 rfl) ?_
    refine lv_irem (pc := 22) hx hb dX7_isSteeringDue_22 (fun q9 => c11 (by rw [q9]; decide)) ?_
    refine lv_if_ne (tgt := 30) (pc := 23) hx hb dX7_isSteeringDue_23 (by decide) (fun c23 => ?_) (fun c23 => ?_)
    · skip
      refine lv_iconst (v := nI (0)) (pc := 30) hx hb dX7_isSteeringDue_30 (by decide) ?_
      exact hret _ _ _ _ _ _ hP hD hS rfl (gDue_1 c11 c23).symm rfl dX7_isSteeringDue_31
    · skip
      refine lv_iconst (v := nI (1)) (pc := 26) hx hb dX7_isSteeringDue_26 (by decide) ?_
      refine lv_goto (tgt := 31) (pc := 27) hx hb dX7_isSteeringDue_27 (by decide) ?_
      exact hret _ _ _ _ _ _ hP hD hS rfl (gDue_2 c11 c23).symm rfl dX7_isSteeringDue_31
set_option maxHeartbeats 4000000 in
set_option maxRecDepth 100000 in
theorem k_X7_steerKeys {l : Launch} {D : va_G} {cI cZ : ClassId} {A : Nat → Prop} {g a : Nat → Nat} {G0 : va_W} {st : Bool} {ru : Nat → Int32} {zv : Nat → Int32} {zn : Nat} {den : Nat → Int32} {go : Nat → Bool} {sc : Nat} {sg : Int32} {sr : Int32} {ss : Int32} (hD : va_D A G0) (w0 : G0[0]? = some (a 0, .inr (7, [.ref (a 1), .ref (a 3), .ref (a 5), .ref (a 7), .ref (a 10), .ref (a 11), .ref (a 16), .int (gB (st))]))) (w1 : G0[1]? = some (a 1, .inr (3, [.ref (a 2)]))) (w2 : G0[2]? = some (a 2, .inl (cI, 9, .inl (ru)))) (w3 : G0[3]? = some (a 3, .inr (6, [.ref (a 4), .int (nI (zn))]))) (w4 : G0[4]? = some (a 4, .inl (cI, 24, .inl (zv)))) (w7 : G0[7]? = some (a 7, .inr (4, [.ref (a 8), .ref (a 9), .int (nI (sc)), .int (sg), .int (sr), .int (ss)]))) (w8 : G0[8]? = some (a 8, .inl (cI, 8000, .inl (den)))) (w9 : G0[9]? = some (a 9, .inl (cZ, 1000, .inl (fun j => gB ((go) j))))) (hz8 : zn ≤ 8) (hs : sc ≤ 1000) : gMv l D cI cZ A g yX7_steerKeys wsX7_steerKeys ({ frames := 2, cells := 0, slots := 0, locals := 43 }) [.ref (a 0)] G0 (fun G1 => G1[4]? = some (a 4, .inl (cI, 24, .inl (gSk ru sc den zn 0 zv))) ∧ ∀ k, k ∉ [4] → G1[k]? = G0[k]?) := by
  refine gof_v (cc := cX7_steerKeys) (maxL := 5) (by decide) rfl (Nat.le_of_ble_eq_true rfl) hD ?_
  intro p e s m args below meth c Q hx hb hml hts hown hK hN hZ hP hS hret ls hl
  have hown : s.vm.findClass RX7 = some m.cls := hown
  have hl : lv_has ls 5 [(0, .ref (a 0))] := hl
  obtain ⟨locs, elocs⟩ : ∃ q : List Loc, q = [] := ⟨_, rfl⟩
  rw [← elocs] at hS ⊢
  obtain ⟨H, eH⟩ : ∃ q : Heap, q = s.heap := ⟨_, rfl⟩
  have hP : va_P D vwCl G0 H := eH ▸ hP
  have hS : va_S A s.heap H locs := by rw [eH]; exact hS
  rw [← eH]
  clear elocs eH
  have hiX6 : ∀ w ∈ u_ws RX6 TX6 2, w ∈ wsX7_steerKeys := by decide +kernel
  have hiX7 : ∀ w ∈ u_ws RX7 TX7 8, w ∈ wsX7_steerKeys := by decide +kernel
  have hk : ∀ k, k ∉ [4] → G0[k]? = G0[k]? := fun _ _ => rfl
  refine lv_aload_n (pc := 0) hx hb dX7_steerKeys_0 rfl (lv_at hl 0 rfl) ?_
  refine va_get (ci := 7) (C := RX7) (T := TX7) (N := 8) (pc := 1) hx hb hts hiX7 hown hK hP 0 w0 rfl 0 (by decide) (hts (.fieldLink RX7 10 "InkPress" "rules" "LInkPress$Rules;") (by decide +kernel)) (fun _ h9 => h9) rfl dX7_steerKeys_1 ?_
  refine lv_iconst (v := nI (5)) (pc := 4) hx hb dX7_steerKeys_4 (by decide) ?_
  refine mx_cVi (As := [.int (nI (5))]) (rest := []) (pc := 5) ⟨hx, hb, hml, hown, hts⟩ (k_X3_valueOf (a := a) (ru := ru) (k := 5) hD w1 w2 (by omega)) (cwV 1 hts gX7_steerKeys_X3_valueOf rfl rfl rfl (by decide +kernel) ⟨Nat.le_of_ble_eq_true rfl, Nat.le_of_ble_eq_true rfl⟩) 1 rfl rfl w1 hK hN hZ hP hS rfl hl.1 rfl (Nat.le_of_ble_eq_true rfl) dX7_steerKeys_5 ⟨Nat.zero_le _, Nat.zero_le _⟩ (fun G' H locs hP hD hS hB => ?_)
  rw [hB] at hP hD
  clear hB G'
  refine lv_istore_n (lv' := [(1, .int ((ru) (5))), (0, .ref (a 0))]) (pc := 8) hx hb dX7_steerKeys_8 rfl hl (by decide) rfl (fun ls hl => ?_)
  refine lv_iconst (v := nI (0)) (pc := 9) hx hb dX7_steerKeys_9 (by decide) ?_
  refine lv_istore_n (lv' := [(2, .int (nI (0))), (1, .int ((ru) (5))), (0, .ref (a 0))]) (pc := 10) hx hb dX7_steerKeys_10 rfl hl (by decide) rfl (fun ls hl => ?_)
  have LP : ∀ (k : Nat) (z : Nat) (zv : Nat → Int32), z + k = zn → ∀ (G : va_W) (H : Heap) (locs : List Loc) (ls : Array Slot), va_P D vwCl G H → va_D A G → va_S A s.heap H locs → (∀ j, j ∉ [4] → G[j]? = G0[j]?) → G[0]? = some (a 0, .inr (7, [.ref (a 1), .ref (a 3), .ref (a 5), .ref (a 7), .ref (a 10), .ref (a 11), .ref (a 16), .int (gB (st))])) → G[1]? = some (a 1, .inr (3, [.ref (a 2)])) → G[2]? = some (a 2, .inl (cI, 9, .inl (ru))) → G[3]? = some (a 3, .inr (6, [.ref (a 4), .int (nI (zn))])) → G[4]? = some (a 4, .inl (cI, 24, .inl (zv))) → G[7]? = some (a 7, .inr (4, [.ref (a 8), .ref (a 9), .int (nI (sc)), .int (sg), .int (sr), .int (ss)])) → G[8]? = some (a 8, .inl (cI, 8000, .inl (den))) → G[9]? = some (a 9, .inl (cZ, 1000, .inl (fun j => gB ((go) j)))) → lv_has ls 5 [(0, .ref (a 0)), (1, .int (ru 5)), (2, .int (nI (z)))] → (∀ (G : va_W) (H : Heap) (locs : List Loc) (ls : Array Slot), va_P D vwCl G H → va_D A G → va_S A s.heap H locs → (∀ j, j ∉ [4] → G[j]? = G0[j]?) → G[0]? = some (a 0, .inr (7, [.ref (a 1), .ref (a 3), .ref (a 5), .ref (a 7), .ref (a 10), .ref (a 11), .ref (a 16), .int (gB (st))])) → G[1]? = some (a 1, .inr (3, [.ref (a 2)])) → G[2]? = some (a 2, .inl (cI, 9, .inl (ru))) → G[3]? = some (a 3, .inr (6, [.ref (a 4), .int (nI (zn))])) → G[4]? = some (a 4, .inl (cI, 24, .inl (gSk ru sc den k z zv))) → G[7]? = some (a 7, .inr (4, [.ref (a 8), .ref (a 9), .int (nI (sc)), .int (sg), .int (sr), .int (ss)])) → G[8]? = some (a 8, .inl (cI, 8000, .inl (den))) → G[9]? = some (a 9, .inl (cZ, 1000, .inl (fun j => gB ((go) j)))) → lv_has ls 5 [(0, .ref (a 0))] → W p l e ({ frames := 2, cells := 0, slots := 0, locals := 43 } : Room) s m args below meth c H locs 0 0 Q (F0 m 99 ls [])) → W p l e ({ frames := 2, cells := 0, slots := 0, locals := 43 } : Room) s m args below meth c H locs 0 0 Q (F0 m 11 ls []) := by
    intro k
    induction k with
    | zero =>
      intro z zv hz G H locs ls hP hD hS hk w0 w1 w2 w3 w4 w7 w8 w9 hl hcont
      refine lv_iload_n (pc := 11) hx hb dX7_steerKeys_11 rfl (lv_at hl 2 rfl) ?_
      refine lv_aload_n (pc := 12) hx hb dX7_steerKeys_12 rfl (lv_at hl 0 rfl) ?_
      refine va_get (ci := 7) (C := RX7) (T := TX7) (N := 8) (pc := 13) hx hb hts hiX7 hown hK hP 0 w0 rfl 1 (by decide) (hts (.fieldLink RX7 19 "InkPress" "zones" "LInkPress$Zones;") (by decide +kernel)) (fun _ h9 => h9) rfl dX7_steerKeys_13 ?_
      refine va_getN (own := RX7) (host := "InkPress") (ci := 6) (C := RX6) (T := TX6) (N := 2) (pc := 16) hx hb hts hiX6 hown hK hP 3 w3 rfl 1 (by decide) (va_Nw.use rfl (hN (.fieldLinkNest "InkPress" 138 "InkPress$Zones" "count" "I" "InkPress") (by decide +kernel))) (fun _ h9 => h9) rfl dX7_steerKeys_16 ?_
      refine mx_cge (tgt := 99) (pc := 19) hx hb (by omega) (by omega) dX7_steerKeys_19 (by decide) (fun c19 => ?_) (fun c19 => absurd c19 (by omega))
      exact hcont G H locs ls hP hD hS hk w0 w1 w2 w3 w4 w7 w8 w9 (lv_sub hl [0] rfl)
    | succ k ih =>
      intro z zv hz G H locs ls hP hD hS hk w0 w1 w2 w3 w4 w7 w8 w9 hl hcont
      refine lv_iload_n (pc := 11) hx hb dX7_steerKeys_11 rfl (lv_at hl 2 rfl) ?_
      refine lv_aload_n (pc := 12) hx hb dX7_steerKeys_12 rfl (lv_at hl 0 rfl) ?_
      refine va_get (ci := 7) (C := RX7) (T := TX7) (N := 8) (pc := 13) hx hb hts hiX7 hown hK hP 0 w0 rfl 1 (by decide) (hts (.fieldLink RX7 19 "InkPress" "zones" "LInkPress$Zones;") (by decide +kernel)) (fun _ h9 => h9) rfl dX7_steerKeys_13 ?_
      refine va_getN (own := RX7) (host := "InkPress") (ci := 6) (C := RX6) (T := TX6) (N := 2) (pc := 16) hx hb hts hiX6 hown hK hP 3 w3 rfl 1 (by decide) (va_Nw.use rfl (hN (.fieldLinkNest "InkPress" 138 "InkPress$Zones" "count" "I" "InkPress") (by decide +kernel))) (fun _ h9 => h9) rfl dX7_steerKeys_16 ?_
      refine mx_cge (tgt := 99) (pc := 19) hx hb (by omega) (by omega) dX7_steerKeys_19 (by decide) (fun c19 => absurd c19 (by omega)) (fun c19 => ?_)
      refine lv_aload_n (pc := 22) hx hb dX7_steerKeys_22 rfl (lv_at hl 0 rfl) ?_
      refine va_get (ci := 7) (C := RX7) (T := TX7) (N := 8) (pc := 23) hx hb hts hiX7 hown hK hP 0 w0 rfl 1 (by decide) (hts (.fieldLink RX7 19 "InkPress" "zones" "LInkPress$Zones;") (by decide +kernel)) (fun _ h9 => h9) rfl dX7_steerKeys_23 ?_
      refine lv_iload_n (pc := 26) hx hb dX7_steerKeys_26 rfl (lv_at hl 2 rfl) ?_
      refine lv_iconst (v := nI (2)) (pc := 27) hx hb dX7_steerKeys_27 (by decide) ?_
      refine mx_cVi (As := [.int (nI (z)), .int (nI (2))]) (rest := []) (pc := 28) ⟨hx, hb, hml, hown, hts⟩ (k_X6_valueOf (a := a) (zv := zv) (zn := zn) (z := z) (k := 2) hD w3 w4 (by omega) (by omega)) (cwV 2 hts gX7_steerKeys_X6_valueOf rfl rfl rfl (by decide +kernel) ⟨Nat.le_of_ble_eq_true rfl, Nat.le_of_ble_eq_true rfl⟩) 3 rfl rfl w3 hK hN hZ hP hS rfl hl.1 rfl (Nat.le_of_ble_eq_true rfl) dX7_steerKeys_28 ⟨Nat.zero_le _, Nat.zero_le _⟩ (fun G' H locs hP hD hS hB => ?_)
      rw [hB] at hP hD
      clear hB G'
      refine lv_aload_n (pc := 31) hx hb dX7_steerKeys_31 rfl (lv_at hl 0 rfl) ?_
      refine va_get (ci := 7) (C := RX7) (T := TX7) (N := 8) (pc := 32) hx hb hts hiX7 hown hK hP 0 w0 rfl 3 (by decide) (hts (.fieldLink RX7 33 "InkPress" "sheets" "LInkPress$SheetLog;") (by decide +kernel)) (fun _ h9 => h9) rfl dX7_steerKeys_32 ?_
      refine lv_iload_n (pc := 35) hx hb dX7_steerKeys_35 rfl (lv_at hl 2 rfl) ?_
      refine mx_cVi (As := [.int (nI (z))]) (rest := [.int ((zv) ((2) * 8 + (z)))]) (pc := 36) ⟨hx, hb, hml, hown, hts⟩ (k_X4_latestDensity (a := a) (den := den) (go := go) (sc := sc) (sg := sg) (sr := sr) (ss := ss) (z := z) hD w7 w8 w9 (by omega) (by omega)) (cwV 1 hts gX7_steerKeys_X4_latestDensity rfl rfl rfl (by decide +kernel) ⟨Nat.le_of_ble_eq_true rfl, Nat.le_of_ble_eq_true rfl⟩) 7 rfl rfl w7 hK hN hZ hP hS rfl hl.1 rfl (Nat.le_of_ble_eq_true rfl) dX7_steerKeys_36 ⟨Nat.zero_le _, Nat.zero_le _⟩ (fun G' H locs hP hD hS hB => ?_)
      rw [hB] at hP hD
      clear hB G'
      refine lv_isub (pc := 39) hx hb dX7_steerKeys_39 ?_
      refine lv_istore_n (lv' := [(3, .int (((zv) ((2) * 8 + (z)) - gLd (sc) (z) (den)))), (0, .ref (a 0)), (1, .int (ru 5)), (2, .int (nI (z)))]) (pc := 40) hx hb dX7_steerKeys_40 rfl hl (by decide) rfl (fun ls hl => ?_)
      refine lv_iload_n (pc := 41) hx hb dX7_steerKeys_41 rfl (lv_at hl 0 rfl) ?_
      refine lv_aload_n (pc := 42) hx hb dX7_steerKeys_42 rfl (lv_at hl 1 rfl) ?_
      refine va_get (ci := 7) (C := RX7) (T := TX7) (N := 8) (pc := 43) hx hb hts hiX7 hown hK hP 0 w0 rfl 0 (by decide) (hts (.fieldLink RX7 10 "InkPress" "rules" "LInkPress$Rules;") (by decide +kernel)) (fun _ h9 => h9) rfl dX7_steerKeys_43 ?_
      refine lv_iconst (v := nI (4)) (pc := 46) hx hb dX7_steerKeys_46 (by decide) ?_
      refine mx_cVi (As := [.int (nI (4))]) (rest := [.int (((zv) ((2) * 8 + (z)) - gLd (sc) (z) (den)))]) (pc := 47) ⟨hx, hb, hml, hown, hts⟩ (k_X3_valueOf (a := a) (ru := ru) (k := 4) hD w1 w2 (by omega)) (cwV 1 hts gX7_steerKeys_X3_valueOf rfl rfl rfl (by decide +kernel) ⟨Nat.le_of_ble_eq_true rfl, Nat.le_of_ble_eq_true rfl⟩) 1 rfl rfl w1 hK hN hZ hP hS rfl hl.1 rfl (Nat.le_of_ble_eq_true rfl) dX7_steerKeys_47 ⟨Nat.zero_le _, Nat.zero_le _⟩ (fun G' H locs hP hD hS hB => ?_)
      rw [hB] at hP hD
      clear hB G'
      refine lv_imul (pc := 50) hx hb dX7_steerKeys_50 ?_
      refine lv_sipush (v := nI (1000)) (pc := 51) hx hb dX7_steerKeys_51 (by decide) ?_
      refine lv_idiv (pc := 54) hx hb dX7_steerKeys_54 (by decide) ?_
      refine lv_i2l (v := ((((((zv) ((2) * 8 + (z)) - gLd (sc) (z) (den)) * (ru) (4))) / (nI (1000)))).toInt64) (pc := 55) hx hb dX7_steerKeys_55 rfl ?_
      refine lv_iload_n (pc := 56) hx hb dX7_steerKeys_56 rfl (lv_at hl 2 rfl) ?_
      refine lv_ineg (pc := 57) hx hb dX7_steerKeys_57 ?_
      refine lv_iload_n (pc := 58) hx hb dX7_steerKeys_58 rfl (lv_at hl 2 rfl) ?_
      refine mx_cSi (As := [.long (((((((zv) ((2) * 8 + (z)) - gLd (sc) (z) (den)) * (ru) (4))) / (nI (1000)))).toInt64), .int ((-(ru 5))), .int (ru 5)]) (rest := []) (pc := 59) ⟨hx, hb, hml, hown, hts⟩ (k_X7_held (a := a) (v := ((((((zv) ((2) * 8 + (z)) - gLd (sc) (z) (den)) * (ru) (4))) / (nI (1000)))).toInt64) (lo := (-(ru 5))) (hi := ru 5) hD  ) (va_cwS 3 hts gX7_steerKeys_X7_held rfl rfl rfl (by decide +kernel) ⟨Nat.le_of_ble_eq_true rfl, Nat.le_of_ble_eq_true rfl⟩) hK hN hZ hP hS rfl hl.1 rfl (Nat.le_of_ble_eq_true rfl) dX7_steerKeys_59 ⟨Nat.zero_le _, Nat.zero_le _⟩ (fun G' H locs hP hD hS hB => ?_)
      rw [hB] at hP hD
      clear hB G'
      refine lv_istore (lv' := [(4, .int (gHeld (((((((zv) ((2) * 8 + (z)) - gLd (sc) (z) (den)) * (ru) (4))) / (nI (1000)))).toInt64) ((-(ru 5))) (ru 5))), (3, .int (((zv) ((2) * 8 + (z)) - gLd (sc) (z) (den)))), (0, .ref (a 0)), (1, .int (ru 5)), (2, .int (nI (z)))]) (pc := 62) hx hb dX7_steerKeys_62 hl (by decide) rfl (fun ls hl => ?_)
      refine lv_aload_n (pc := 64) hx hb dX7_steerKeys_64 rfl (lv_at hl 2 rfl) ?_
      refine va_get (ci := 7) (C := RX7) (T := TX7) (N := 8) (pc := 65) hx hb hts hiX7 hown hK hP 0 w0 rfl 1 (by decide) (hts (.fieldLink RX7 19 "InkPress" "zones" "LInkPress$Zones;") (by decide +kernel)) (fun _ h9 => h9) rfl dX7_steerKeys_65 ?_
      refine lv_iload_n (pc := 68) hx hb dX7_steerKeys_68 rfl (lv_at hl 4 rfl) ?_
      refine lv_iconst (v := nI (0)) (pc := 69) hx hb dX7_steerKeys_69 (by decide) ?_
      refine lv_aload_n (pc := 70) hx hb dX7_steerKeys_70 rfl (lv_at hl 2 rfl) ?_
      refine va_get (ci := 7) (C := RX7) (T := TX7) (N := 8) (pc := 71) hx hb hts hiX7 hown hK hP 0 w0 rfl 1 (by decide) (hts (.fieldLink RX7 19 "InkPress" "zones" "LInkPress$Zones;") (by decide +kernel)) (fun _ h9 => h9) rfl dX7_steerKeys_71 ?_
      refine lv_iload_n (pc := 74) hx hb dX7_steerKeys_74 rfl (lv_at hl 4 rfl) ?_
      refine lv_iconst (v := nI (0)) (pc := 75) hx hb dX7_steerKeys_75 (by decide) ?_
      refine mx_cVi (As := [.int (nI (z)), .int (nI (0))]) (rest := [.int (nI (0)), .int (nI (z)), .ref (a 3)]) (pc := 76) ⟨hx, hb, hml, hown, hts⟩ (k_X6_valueOf (a := a) (zv := zv) (zn := zn) (z := z) (k := 0) hD w3 w4 (by omega) (by omega)) (cwV 2 hts gX7_steerKeys_X6_valueOf rfl rfl rfl (by decide +kernel) ⟨Nat.le_of_ble_eq_true rfl, Nat.le_of_ble_eq_true rfl⟩) 3 rfl rfl w3 hK hN hZ hP hS rfl hl.1 rfl (Nat.le_of_ble_eq_true rfl) dX7_steerKeys_76 ⟨Nat.zero_le _, Nat.zero_le _⟩ (fun G' H locs hP hD hS hB => ?_)
      rw [hB] at hP hD
      clear hB G'
      refine lv_iload (pc := 79) hx hb dX7_steerKeys_79 (lv_at hl 0 rfl) ?_
      refine lv_iadd (pc := 81) hx hb dX7_steerKeys_81 ?_
      refine lv_i2l (v := (((zv) ((0) * 8 + (z)) + gHeld (((((((zv) ((2) * 8 + (z)) - gLd (sc) (z) (den)) * (ru) (4))) / (nI (1000)))).toInt64) ((-(ru 5))) (ru 5))).toInt64) (pc := 82) hx hb dX7_steerKeys_82 rfl ?_
      refine lv_iconst (v := nI (0)) (pc := 83) hx hb dX7_steerKeys_83 (by decide) ?_
      refine lv_bipush (v := nI (100)) (pc := 84) hx hb dX7_steerKeys_84 (by decide) ?_
      refine mx_cSi (As := [.long ((((zv) ((0) * 8 + (z)) + gHeld (((((((zv) ((2) * 8 + (z)) - gLd (sc) (z) (den)) * (ru) (4))) / (nI (1000)))).toInt64) ((-(ru 5))) (ru 5))).toInt64), .int (nI (0)), .int (nI (100))]) (rest := [.int (nI (0)), .int (nI (z)), .ref (a 3)]) (pc := 86) ⟨hx, hb, hml, hown, hts⟩ (k_X7_held (a := a) (v := (((zv) ((0) * 8 + (z)) + gHeld (((((((zv) ((2) * 8 + (z)) - gLd (sc) (z) (den)) * (ru) (4))) / (nI (1000)))).toInt64) ((-(ru 5))) (ru 5))).toInt64) (lo := nI (0)) (hi := nI (100)) hD  ) (va_cwS 3 hts gX7_steerKeys_X7_held rfl rfl rfl (by decide +kernel) ⟨Nat.le_of_ble_eq_true rfl, Nat.le_of_ble_eq_true rfl⟩) hK hN hZ hP hS rfl hl.1 rfl (Nat.le_of_ble_eq_true rfl) dX7_steerKeys_86 ⟨Nat.zero_le _, Nat.zero_le _⟩ (fun G' H locs hP hD hS hB => ?_)
      rw [hB] at hP hD
      clear hB G'
      refine mx_cVi (As := [.int (nI (z)), .int (nI (0)), .int (gHeld ((((zv) ((0) * 8 + (z)) + gHeld (((((((zv) ((2) * 8 + (z)) - gLd (sc) (z) (den)) * (ru) (4))) / (nI (1000)))).toInt64) ((-(ru 5))) (ru 5))).toInt64) (nI (0)) (nI (100)))]) (rest := []) (pc := 89) ⟨hx, hb, hml, hown, hts⟩ (k_X6_change (a := a) (zv := zv) (zn := zn) (z := z) (k := 0) (v := gHeld ((((zv) ((0) * 8 + (z)) + gHeld (((((((zv) ((2) * 8 + (z)) - gLd (sc) (z) (den)) * (ru) (4))) / (nI (1000)))).toInt64) ((-(ru 5))) (ru 5))).toInt64) (nI (0)) (nI (100))) hD w3 w4 (by omega) (by omega)) (cwV 3 hts gX7_steerKeys_X6_change rfl rfl rfl (by decide +kernel) ⟨Nat.le_of_ble_eq_true rfl, Nat.le_of_ble_eq_true rfl⟩) 3 rfl rfl w3 hK hN hZ hP hS rfl hl.1 rfl (Nat.le_of_ble_eq_true rfl) dX7_steerKeys_89 ⟨Nat.zero_le _, Nat.zero_le _⟩ (fun G H locs hP hD hS hB => ?_)
      obtain ⟨w4, ho⟩ := hB
      have w0 := (ho 0 (by decide)).trans w0
      have w1 := (ho 1 (by decide)).trans w1
      have w2 := (ho 2 (by decide)).trans w2
      have w3 := (ho 3 (by decide)).trans w3
      have w4 : G[4]? = some (a 4, .inl (cI, 24, .inl (upd (zv) ((0) * 8 + (z)) (gHeld ((((zv) ((0) * 8 + (z)) + gHeld (((((((zv) ((2) * 8 + (z)) - gLd (sc) (z) (den)) * (ru) (4))) / (nI (1000)))).toInt64) ((-(ru 5))) (ru 5))).toInt64) (nI (0)) (nI (100)))))) := w4
      have w7 := (ho 7 (by decide)).trans w7
      have w8 := (ho 8 (by decide)).trans w8
      have w9 := (ho 9 (by decide)).trans w9
      have hk := gk_call hk ho (by decide)
      clear ho
      refine lv_pop (pc := 92) hx hb dX7_steerKeys_92 rfl ?_
      refine lv_iinc (v := nI (z + 1)) (lv' := [(2, .int (nI (z + 1))), (4, .int (gHeld (((((((zv) ((2) * 8 + (z)) - gLd (sc) (z) (den)) * (ru) (4))) / (nI (1000)))).toInt64) ((-(ru 5))) (ru 5))), (3, .int (((zv) ((2) * 8 + (z)) - gLd (sc) (z) (den)))), (0, .ref (a 0)), (1, .int (ru 5))]) (pc := 93) hx hb dX7_steerKeys_93 hl (k := 4) rfl (mx_inc1 _) (by decide) rfl (fun ls hl => ?_)
      refine lv_goto (tgt := 11) (pc := 96) hx hb dX7_steerKeys_96 (by decide) ?_
      exact ih (z + 1) (gSk1 ru sc den z zv) (by omega) G H locs ls hP hD hS hk w0 w1 w2 w3 w4 w7 w8 w9 (lv_sub hl [3, 4, 0] rfl) hcont
  refine LP zn (0) (zv) (by omega) G0 H locs ls hP hD hS hk w0 w1 w2 w3 w4 w7 w8 w9 (lv_sub hl [2, 1, 0] rfl) (fun G H locs ls hP hD hS hk w0 w1 w2 w3 w4 w7 w8 w9 hl => ?_)
  have w4 : G[4]? = some (a 4, .inl (cI, 24, .inl (gSk ru sc den (zn) (0) (zv)))) := w4
  exact hret _ _ _ _ _ hP hD hS ⟨w4, hk⟩ dX7_steerKeys_99
set_option maxHeartbeats 4000000 in
set_option maxRecDepth 100000 in
theorem k_X7_printSheet {l : Launch} {D : va_G} {cI cZ : ClassId} {A : Nat → Prop} {g a : Nat → Nat} {G0 : va_W} {st : Bool} {ru : Nat → Int32} {zv : Nat → Int32} {zn : Nat} {ink : Nat → Int32} {tr : Nat} {fed : Int32} {pap : Int32} {bar : Int32} {den : Nat → Int32} {go : Nat → Bool} {sc : Nat} {sg : Int32} {sr : Int32} {ss : Int32} (hD : va_D A G0) (w0 : G0[0]? = some (a 0, .inr (7, [.ref (a 1), .ref (a 3), .ref (a 5), .ref (a 7), .ref (a 10), .ref (a 11), .ref (a 16), .int (gB (st))]))) (w1 : G0[1]? = some (a 1, .inr (3, [.ref (a 2)]))) (w2 : G0[2]? = some (a 2, .inl (cI, 9, .inl (ru)))) (w3 : G0[3]? = some (a 3, .inr (6, [.ref (a 4), .int (nI (zn))]))) (w4 : G0[4]? = some (a 4, .inl (cI, 24, .inl (zv)))) (w5 : G0[5]? = some (a 5, .inr (5, [.ref (a 6), .int (nI (zn)), .int (nI (tr)), .int (fed), .int (pap), .int (bar)]))) (w6 : G0[6]? = some (a 6, .inl (cI, 40, .inl (ink)))) (w7 : G0[7]? = some (a 7, .inr (4, [.ref (a 8), .ref (a 9), .int (nI (sc)), .int (sg), .int (sr), .int (ss)]))) (w8 : G0[8]? = some (a 8, .inl (cI, 8000, .inl (den)))) (w9 : G0[9]? = some (a 9, .inl (cZ, 1000, .inl (fun j => gB ((go) j))))) (hz2 : 2 ≤ zn) (hz8 : zn ≤ 8) (hr2 : 2 ≤ tr) (hr5 : tr ≤ 5) (hs : sc < 1000) : gMv l D cI cZ A g yX7_printSheet wsX7_printSheet ({ frames := 2, cells := 0, slots := 0, locals := 48 }) [.ref (a 0)] G0 (fun G1 => G1[5]? = some (a 5, .inr (5, [.ref (a 6), .int (nI (zn)), .int (nI (tr)), .int (gFf (gKe zv) (ru 0) zn 0 fed), .int (gTp tr (ru 3) (gCo zv) zn 0 (gInk3 ru zv zn tr ink) pap), .int (gTb tr (ru 3) (gCo zv) zn 0 (gInk3 ru zv zn tr ink) bar)])) ∧ G1[6]? = some (a 6, .inl (cI, 40, .inl (gTi tr (ru 3) (gCo zv) zn 0 (gInk3 ru zv zn tr ink)))) ∧ G1[7]? = some (a 7, .inr (4, [.ref (a 8), .ref (a 9), .int (nI (sc + 1)), .int (gJg (gTg tr (ru 3) (gCo zv) (gTt zv) (ru 6) zn 0 (gInk3 ru zv zn tr ink) true) sg), .int (gJr (gTg tr (ru 3) (gCo zv) (gTt zv) (ru 6) zn 0 (gInk3 ru zv zn tr ink) true) sr), .int (gJs (gJr (gTg tr (ru 3) (gCo zv) (gTt zv) (ru 6) zn 0 (gInk3 ru zv zn tr ink) true) sr) (ru 8) (nI (sc + 1)) ss)])) ∧ G1[8]? = some (a 8, .inl (cI, 8000, .inl (gTd tr (ru 3) (gCo zv) ((sc + 1 - 1) * 8) zn 0 (gInk3 ru zv zn tr ink) den))) ∧ G1[9]? = some (a 9, .inl (cZ, 1000, .inl (fun j => gB ((vf_upd go (sc + 1 - 1) (gTg tr (ru 3) (gCo zv) (gTt zv) (ru 6) zn 0 (gInk3 ru zv zn tr ink) true)) j)))) ∧ ∀ k, k ∉ [5, 6, 7, 8, 9] → G1[k]? = G0[k]?) := by
  refine gof_v (cc := cX7_printSheet) (maxL := 5) (by decide) rfl (Nat.le_of_ble_eq_true rfl) hD ?_
  intro p e s m args below meth c Q hx hb hml hts hown hK hN hZ hP hS hret ls hl
  have hown : s.vm.findClass RX7 = some m.cls := hown
  have hl : lv_has ls 5 [(0, .ref (a 0))] := hl
  obtain ⟨locs, elocs⟩ : ∃ q : List Loc, q = [] := ⟨_, rfl⟩
  rw [← elocs] at hS ⊢
  obtain ⟨H, eH⟩ : ∃ q : Heap, q = s.heap := ⟨_, rfl⟩
  have hP : va_P D vwCl G0 H := eH ▸ hP
  have hS : va_S A s.heap H locs := by rw [eH]; exact hS
  rw [← eH]
  clear elocs eH
  have hiX6 : ∀ w ∈ u_ws RX6 TX6 2, w ∈ wsX7_printSheet := by decide +kernel
  have hiX7 : ∀ w ∈ u_ws RX7 TX7 8, w ∈ wsX7_printSheet := by decide +kernel
  have hmemM146_1 : Cond.methodLink RX7 240 Lib.Math.abs.name ∈ wsX7_printSheet := by decide +kernel
  have hmemM146_2 : Cond.static Lib.Math.abs.name ∈ wsX7_printSheet := by decide +kernel
  have hmemM146_3 : Cond.code Lib.Math.abs.name Lib.Math.abs.code 1 (some .int) ∈ wsX7_printSheet := by decide +kernel
  have hk : ∀ k, k ∉ [5, 6, 7, 8, 9] → G0[k]? = G0[k]? := fun _ _ => rfl
  refine lv_iconst (v := nI (0)) (pc := 0) hx hb dX7_printSheet_0 (by decide) ?_
  refine lv_istore_n (lv' := [(1, .int (nI (0))), (0, .ref (a 0))]) (pc := 1) hx hb dX7_printSheet_1 rfl hl (by decide) rfl (fun ls hl => ?_)
  have LF : ∀ (k : Nat) (z : Nat) (ink : Nat → Int32) (fed : Int32), z + k = zn → ∀ (G : va_W) (H : Heap) (locs : List Loc) (ls : Array Slot), va_P D vwCl G H → va_D A G → va_S A s.heap H locs → (∀ j, j ∉ [5, 6, 7, 8, 9] → G[j]? = G0[j]?) → G[0]? = some (a 0, .inr (7, [.ref (a 1), .ref (a 3), .ref (a 5), .ref (a 7), .ref (a 10), .ref (a 11), .ref (a 16), .int (gB (st))])) → G[1]? = some (a 1, .inr (3, [.ref (a 2)])) → G[2]? = some (a 2, .inl (cI, 9, .inl (ru))) → G[3]? = some (a 3, .inr (6, [.ref (a 4), .int (nI (zn))])) → G[4]? = some (a 4, .inl (cI, 24, .inl (zv))) → G[5]? = some (a 5, .inr (5, [.ref (a 6), .int (nI (zn)), .int (nI (tr)), .int (fed), .int (pap), .int (bar)])) → G[6]? = some (a 6, .inl (cI, 40, .inl (ink))) → G[7]? = some (a 7, .inr (4, [.ref (a 8), .ref (a 9), .int (nI (sc)), .int (sg), .int (sr), .int (ss)])) → G[8]? = some (a 8, .inl (cI, 8000, .inl (den))) → G[9]? = some (a 9, .inl (cZ, 1000, .inl (fun j => gB ((go) j)))) → lv_has ls 5 [(0, .ref (a 0)), (1, .int (nI (z)))] → (∀ (G : va_W) (H : Heap) (locs : List Loc) (ls : Array Slot), va_P D vwCl G H → va_D A G → va_S A s.heap H locs → (∀ j, j ∉ [5, 6, 7, 8, 9] → G[j]? = G0[j]?) → G[0]? = some (a 0, .inr (7, [.ref (a 1), .ref (a 3), .ref (a 5), .ref (a 7), .ref (a 10), .ref (a 11), .ref (a 16), .int (gB (st))])) → G[1]? = some (a 1, .inr (3, [.ref (a 2)])) → G[2]? = some (a 2, .inl (cI, 9, .inl (ru))) → G[3]? = some (a 3, .inr (6, [.ref (a 4), .int (nI (zn))])) → G[4]? = some (a 4, .inl (cI, 24, .inl (zv))) → G[5]? = some (a 5, .inr (5, [.ref (a 6), .int (nI (zn)), .int (nI (tr)), .int (gFf (gKe zv) (ru 0) k z fed), .int (pap), .int (bar)])) → G[6]? = some (a 6, .inl (cI, 40, .inl (gFi (gKe zv) (ru 0) k z ink))) → G[7]? = some (a 7, .inr (4, [.ref (a 8), .ref (a 9), .int (nI (sc)), .int (sg), .int (sr), .int (ss)])) → G[8]? = some (a 8, .inl (cI, 8000, .inl (den))) → G[9]? = some (a 9, .inl (cZ, 1000, .inl (fun j => gB ((go) j)))) → lv_has ls 5 [(0, .ref (a 0))] → W p l e ({ frames := 2, cells := 0, slots := 0, locals := 48 } : Room) s m args below meth c H locs 0 0 Q (F0 m 45 ls [])) → W p l e ({ frames := 2, cells := 0, slots := 0, locals := 48 } : Room) s m args below meth c H locs 0 0 Q (F0 m 2 ls []) := by
    intro k
    induction k with
    | zero =>
      intro z ink fed hz G H locs ls hP hD hS hk w0 w1 w2 w3 w4 w5 w6 w7 w8 w9 hl hcont
      refine lv_iload_n (pc := 2) hx hb dX7_printSheet_2 rfl (lv_at hl 1 rfl) ?_
      refine lv_aload_n (pc := 3) hx hb dX7_printSheet_3 rfl (lv_at hl 0 rfl) ?_
      refine va_get (ci := 7) (C := RX7) (T := TX7) (N := 8) (pc := 4) hx hb hts hiX7 hown hK hP 0 w0 rfl 1 (by decide) (hts (.fieldLink RX7 19 "InkPress" "zones" "LInkPress$Zones;") (by decide +kernel)) (fun _ h9 => h9) rfl dX7_printSheet_4 ?_
      refine va_getN (own := RX7) (host := "InkPress") (ci := 6) (C := RX6) (T := TX6) (N := 2) (pc := 7) hx hb hts hiX6 hown hK hP 3 w3 rfl 1 (by decide) (va_Nw.use rfl (hN (.fieldLinkNest "InkPress" 138 "InkPress$Zones" "count" "I" "InkPress") (by decide +kernel))) (fun _ h9 => h9) rfl dX7_printSheet_7 ?_
      refine mx_cge (tgt := 45) (pc := 10) hx hb (by omega) (by omega) dX7_printSheet_10 (by decide) (fun c10 => ?_) (fun c10 => absurd c10 (by omega))
      exact hcont G H locs ls hP hD hS hk w0 w1 w2 w3 w4 w5 w6 w7 w8 w9 (lv_sub hl [0] rfl)
    | succ k ih =>
      intro z ink fed hz G H locs ls hP hD hS hk w0 w1 w2 w3 w4 w5 w6 w7 w8 w9 hl hcont
      refine lv_iload_n (pc := 2) hx hb dX7_printSheet_2 rfl (lv_at hl 1 rfl) ?_
      refine lv_aload_n (pc := 3) hx hb dX7_printSheet_3 rfl (lv_at hl 0 rfl) ?_
      refine va_get (ci := 7) (C := RX7) (T := TX7) (N := 8) (pc := 4) hx hb hts hiX7 hown hK hP 0 w0 rfl 1 (by decide) (hts (.fieldLink RX7 19 "InkPress" "zones" "LInkPress$Zones;") (by decide +kernel)) (fun _ h9 => h9) rfl dX7_printSheet_4 ?_
      refine va_getN (own := RX7) (host := "InkPress") (ci := 6) (C := RX6) (T := TX6) (N := 2) (pc := 7) hx hb hts hiX6 hown hK hP 3 w3 rfl 1 (by decide) (va_Nw.use rfl (hN (.fieldLinkNest "InkPress" 138 "InkPress$Zones" "count" "I" "InkPress") (by decide +kernel))) (fun _ h9 => h9) rfl dX7_printSheet_7 ?_
      refine mx_cge (tgt := 45) (pc := 10) hx hb (by omega) (by omega) dX7_printSheet_10 (by decide) (fun c10 => absurd c10 (by omega)) (fun c10 => ?_)
      refine lv_aload_n (pc := 13) hx hb dX7_printSheet_13 rfl (lv_at hl 0 rfl) ?_
      refine va_get (ci := 7) (C := RX7) (T := TX7) (N := 8) (pc := 14) hx hb hts hiX7 hown hK hP 0 w0 rfl 2 (by decide) (hts (.fieldLink RX7 26 "InkPress" "train" "LInkPress$Train;") (by decide +kernel)) (fun _ h9 => h9) rfl dX7_printSheet_14 ?_
      refine lv_iload_n (pc := 17) hx hb dX7_printSheet_17 rfl (lv_at hl 1 rfl) ?_
      refine lv_aload_n (pc := 18) hx hb dX7_printSheet_18 rfl (lv_at hl 0 rfl) ?_
      refine va_get (ci := 7) (C := RX7) (T := TX7) (N := 8) (pc := 19) hx hb hts hiX7 hown hK hP 0 w0 rfl 1 (by decide) (hts (.fieldLink RX7 19 "InkPress" "zones" "LInkPress$Zones;") (by decide +kernel)) (fun _ h9 => h9) rfl dX7_printSheet_19 ?_
      refine lv_iload_n (pc := 22) hx hb dX7_printSheet_22 rfl (lv_at hl 1 rfl) ?_
      refine lv_iconst (v := nI (0)) (pc := 23) hx hb dX7_printSheet_23 (by decide) ?_
      refine mx_cVi (As := [.int (nI (z)), .int (nI (0))]) (rest := [.int (nI (z)), .ref (a 5)]) (pc := 24) ⟨hx, hb, hml, hown, hts⟩ (k_X6_valueOf (a := a) (zv := zv) (zn := zn) (z := z) (k := 0) hD w3 w4 (by omega) (by omega)) (cwV 2 hts gX7_printSheet_X6_valueOf rfl rfl rfl (by decide +kernel) ⟨Nat.le_of_ble_eq_true rfl, Nat.le_of_ble_eq_true rfl⟩) 3 rfl rfl w3 hK hN hZ hP hS rfl hl.1 rfl (Nat.le_of_ble_eq_true rfl) dX7_printSheet_24 ⟨Nat.zero_le _, Nat.zero_le _⟩ (fun G' H locs hP hD hS hB => ?_)
      rw [hB] at hP hD
      clear hB G'
      refine lv_aload_n (pc := 27) hx hb dX7_printSheet_27 rfl (lv_at hl 0 rfl) ?_
      refine va_get (ci := 7) (C := RX7) (T := TX7) (N := 8) (pc := 28) hx hb hts hiX7 hown hK hP 0 w0 rfl 0 (by decide) (hts (.fieldLink RX7 10 "InkPress" "rules" "LInkPress$Rules;") (by decide +kernel)) (fun _ h9 => h9) rfl dX7_printSheet_28 ?_
      refine lv_iconst (v := nI (0)) (pc := 31) hx hb dX7_printSheet_31 (by decide) ?_
      refine mx_cVi (As := [.int (nI (0))]) (rest := [.int ((zv) ((0) * 8 + (z))), .int (nI (z)), .ref (a 5)]) (pc := 32) ⟨hx, hb, hml, hown, hts⟩ (k_X3_valueOf (a := a) (ru := ru) (k := 0) hD w1 w2 (by omega)) (cwV 1 hts gX7_printSheet_X3_valueOf rfl rfl rfl (by decide +kernel) ⟨Nat.le_of_ble_eq_true rfl, Nat.le_of_ble_eq_true rfl⟩) 1 rfl rfl w1 hK hN hZ hP hS rfl hl.1 rfl (Nat.le_of_ble_eq_true rfl) dX7_printSheet_32 ⟨Nat.zero_le _, Nat.zero_le _⟩ (fun G' H locs hP hD hS hB => ?_)
      rw [hB] at hP hD
      clear hB G'
      refine lv_imul (pc := 35) hx hb dX7_printSheet_35 ?_
      refine mx_cVv (As := [.int (nI (z)), .int (((zv) ((0) * 8 + (z)) * (ru) (0)))]) (rest := []) (pc := 36) ⟨hx, hb, hml, hown, hts⟩ (k_X5_feedZone (a := a) (ink := ink) (tz := zn) (tr := tr) (fed := fed) (pap := pap) (bar := bar) (z := z) (x := ((zv) ((0) * 8 + (z)) * (ru) (0))) hD w5 w6 (by omega)) (cwV 2 hts gX7_printSheet_X5_feedZone rfl rfl rfl (by decide +kernel) ⟨Nat.le_of_ble_eq_true rfl, Nat.le_of_ble_eq_true rfl⟩) 5 rfl rfl w5 hK hN hZ hP hS rfl hl.1 rfl (Nat.le_of_ble_eq_true rfl) dX7_printSheet_36 ⟨Nat.zero_le _, Nat.zero_le _⟩ (fun G H locs hP hD hS hB => ?_)
      obtain ⟨w5, w6, ho⟩ := hB
      have w0 := (ho 0 (by decide)).trans w0
      have w1 := (ho 1 (by decide)).trans w1
      have w2 := (ho 2 (by decide)).trans w2
      have w3 := (ho 3 (by decide)).trans w3
      have w4 := (ho 4 (by decide)).trans w4
      have w5 : G[5]? = some (a 5, .inr (5, [.ref (a 6), .int (nI ((zn))), .int (nI ((tr))), .int ((fed) + (((zv) ((0) * 8 + (z)) * (ru) (0)))), .int ((pap)), .int ((bar))])) := w5
      have w6 : G[6]? = some (a 6, .inl (cI, 40, .inl (upd (ink) (z) ((ink) (z) + (((zv) ((0) * 8 + (z)) * (ru) (0))))))) := w6
      have w7 := (ho 7 (by decide)).trans w7
      have w8 := (ho 8 (by decide)).trans w8
      have w9 := (ho 9 (by decide)).trans w9
      have hk := gk_call hk ho (by decide)
      clear ho
      refine lv_iinc (v := nI (z + 1)) (lv' := [(1, .int (nI (z + 1))), (0, .ref (a 0))]) (pc := 39) hx hb dX7_printSheet_39 hl (k := 1) rfl (mx_inc1 _) (by decide) rfl (fun ls hl => ?_)
      refine lv_goto (tgt := 2) (pc := 42) hx hb dX7_printSheet_42 (by decide) ?_
      exact ih (z + 1) (upd ink z (ink z + gKe zv z * ru 0)) (fed + gKe zv z * ru 0) (by omega) G H locs ls hP hD hS hk w0 w1 w2 w3 w4 w5 w6 w7 w8 w9 (lv_sub hl [1, 0] rfl) hcont
  refine LF zn (0) (ink) (fed) (by omega) G0 H locs ls hP hD hS hk w0 w1 w2 w3 w4 w5 w6 w7 w8 w9 (lv_sub hl [1, 0] rfl) (fun G H locs ls hP hD hS hk w0 w1 w2 w3 w4 w5 w6 w7 w8 w9 hl => ?_)
  have w5 : G[5]? = some (a 5, .inr (5, [.ref (a 6), .int (nI (zn)), .int (nI (tr)), .int (gFf (gKe zv) (ru 0) (zn) (0) (fed)), .int (pap), .int (bar)])) := w5
  have w6 : G[6]? = some (a 6, .inl (cI, 40, .inl (gFi (gKe zv) (ru 0) (zn) (0) (ink)))) := w6
  refine lv_aload_n (pc := 45) hx hb dX7_printSheet_45 rfl (lv_at hl 0 rfl) ?_
  refine va_get (ci := 7) (C := RX7) (T := TX7) (N := 8) (pc := 46) hx hb hts hiX7 hown hK hP 0 w0 rfl 2 (by decide) (hts (.fieldLink RX7 26 "InkPress" "train" "LInkPress$Train;") (by decide +kernel)) (fun _ h9 => h9) rfl dX7_printSheet_46 ?_
  refine lv_aload_n (pc := 49) hx hb dX7_printSheet_49 rfl (lv_at hl 0 rfl) ?_
  refine va_get (ci := 7) (C := RX7) (T := TX7) (N := 8) (pc := 50) hx hb hts hiX7 hown hK hP 0 w0 rfl 0 (by decide) (hts (.fieldLink RX7 10 "InkPress" "rules" "LInkPress$Rules;") (by decide +kernel)) (fun _ h9 => h9) rfl dX7_printSheet_50 ?_
  refine lv_iconst (v := nI (1)) (pc := 53) hx hb dX7_printSheet_53 (by decide) ?_
  refine mx_cVi (As := [.int (nI (1))]) (rest := [.ref (a 5)]) (pc := 54) ⟨hx, hb, hml, hown, hts⟩ (k_X3_valueOf (a := a) (ru := ru) (k := 1) hD w1 w2 (by omega)) (cwV 1 hts gX7_printSheet_X3_valueOf rfl rfl rfl (by decide +kernel) ⟨Nat.le_of_ble_eq_true rfl, Nat.le_of_ble_eq_true rfl⟩) 1 rfl rfl w1 hK hN hZ hP hS rfl hl.1 rfl (Nat.le_of_ble_eq_true rfl) dX7_printSheet_54 ⟨Nat.zero_le _, Nat.zero_le _⟩ (fun G' H locs hP hD hS hB => ?_)
  rw [hB] at hP hD
  clear hB G'
  refine mx_cVv (As := [.int ((ru) (1))]) (rest := []) (pc := 57) ⟨hx, hb, hml, hown, hts⟩ (k_X5_passOn (a := a) (ink := gFi (gKe zv) (ru 0) (zn) (0) (ink)) (tz := zn) (tr := tr) (fed := gFf (gKe zv) (ru 0) (zn) (0) (fed)) (pap := pap) (bar := bar) (q := (ru) (1)) hD w5 w6 (by omega) (by omega) (by omega)) (cwV 1 hts gX7_printSheet_X5_passOn rfl rfl rfl (by decide +kernel) ⟨Nat.le_of_ble_eq_true rfl, Nat.le_of_ble_eq_true rfl⟩) 5 rfl rfl w5 hK hN hZ hP hS rfl hl.1 rfl (Nat.le_of_ble_eq_true rfl) dX7_printSheet_57 ⟨Nat.zero_le _, Nat.zero_le _⟩ (fun G H locs hP hD hS hB => ?_)
  obtain ⟨w6, ho⟩ := hB
  have w0 := (ho 0 (by decide)).trans w0
  have w1 := (ho 1 (by decide)).trans w1
  have w2 := (ho 2 (by decide)).trans w2
  have w3 := (ho 3 (by decide)).trans w3
  have w4 := (ho 4 (by decide)).trans w4
  have w5 := (ho 5 (by decide)).trans w5
  have w6 : G[6]? = some (a 6, .inl (cI, 40, .inl (gPr ((ru) (1)) (zn) ((tr) - 1) 0 (gFi (gKe zv) (ru 0) (zn) (0) (ink))))) := w6
  have w7 := (ho 7 (by decide)).trans w7
  have w8 := (ho 8 (by decide)).trans w8
  have w9 := (ho 9 (by decide)).trans w9
  have hk := gk_call hk ho (by decide)
  clear ho
  refine lv_aload_n (pc := 60) hx hb dX7_printSheet_60 rfl (lv_at hl 0 rfl) ?_
  refine va_get (ci := 7) (C := RX7) (T := TX7) (N := 8) (pc := 61) hx hb hts hiX7 hown hK hP 0 w0 rfl 2 (by decide) (hts (.fieldLink RX7 26 "InkPress" "train" "LInkPress$Train;") (by decide +kernel)) (fun _ h9 => h9) rfl dX7_printSheet_61 ?_
  refine lv_aload_n (pc := 64) hx hb dX7_printSheet_64 rfl (lv_at hl 0 rfl) ?_
  refine va_get (ci := 7) (C := RX7) (T := TX7) (N := 8) (pc := 65) hx hb hts hiX7 hown hK hP 0 w0 rfl 0 (by decide) (hts (.fieldLink RX7 10 "InkPress" "rules" "LInkPress$Rules;") (by decide +kernel)) (fun _ h9 => h9) rfl dX7_printSheet_65 ?_
  refine lv_iconst (v := nI (2)) (pc := 68) hx hb dX7_printSheet_68 (by decide) ?_
  refine mx_cVi (As := [.int (nI (2))]) (rest := [.ref (a 5)]) (pc := 69) ⟨hx, hb, hml, hown, hts⟩ (k_X3_valueOf (a := a) (ru := ru) (k := 2) hD w1 w2 (by omega)) (cwV 1 hts gX7_printSheet_X3_valueOf rfl rfl rfl (by decide +kernel) ⟨Nat.le_of_ble_eq_true rfl, Nat.le_of_ble_eq_true rfl⟩) 1 rfl rfl w1 hK hN hZ hP hS rfl hl.1 rfl (Nat.le_of_ble_eq_true rfl) dX7_printSheet_69 ⟨Nat.zero_le _, Nat.zero_le _⟩ (fun G' H locs hP hD hS hB => ?_)
  rw [hB] at hP hD
  clear hB G'
  refine mx_cVv (As := [.int ((ru) (2))]) (rest := []) (pc := 72) ⟨hx, hb, hml, hown, hts⟩ (k_X5_driftAside (a := a) (ink := gPr ((ru) (1)) (zn) ((tr) - 1) 0 (gFi (gKe zv) (ru 0) (zn) (0) (ink))) (tz := zn) (tr := tr) (fed := gFf (gKe zv) (ru 0) (zn) (0) (fed)) (pap := pap) (bar := bar) (q := (ru) (2)) hD w5 w6 (by omega) (by omega) (by omega)) (cwV 1 hts gX7_printSheet_X5_driftAside rfl rfl rfl (by decide +kernel) ⟨Nat.le_of_ble_eq_true rfl, Nat.le_of_ble_eq_true rfl⟩) 5 rfl rfl w5 hK hN hZ hP hS rfl hl.1 rfl (Nat.le_of_ble_eq_true rfl) dX7_printSheet_72 ⟨Nat.zero_le _, Nat.zero_le _⟩ (fun G H locs hP hD hS hB => ?_)
  obtain ⟨w6, ho⟩ := hB
  have w0 := (ho 0 (by decide)).trans w0
  have w1 := (ho 1 (by decide)).trans w1
  have w2 := (ho 2 (by decide)).trans w2
  have w3 := (ho 3 (by decide)).trans w3
  have w4 := (ho 4 (by decide)).trans w4
  have w5 := (ho 5 (by decide)).trans w5
  have w6 : G[6]? = some (a 6, .inl (cI, 40, .inl (gDr ((ru) (2)) (zn) (tr) 0 (gPr ((ru) (1)) (zn) ((tr) - 1) 0 (gFi (gKe zv) (ru 0) (zn) (0) (ink)))))) := w6
  have w7 := (ho 7 (by decide)).trans w7
  have w8 := (ho 8 (by decide)).trans w8
  have w9 := (ho 9 (by decide)).trans w9
  have hk := gk_call hk ho (by decide)
  clear ho
  refine lv_aload_n (pc := 75) hx hb dX7_printSheet_75 rfl (lv_at hl 0 rfl) ?_
  refine va_get (ci := 7) (C := RX7) (T := TX7) (N := 8) (pc := 76) hx hb hts hiX7 hown hK hP 0 w0 rfl 3 (by decide) (hts (.fieldLink RX7 33 "InkPress" "sheets" "LInkPress$SheetLog;") (by decide +kernel)) (fun _ h9 => h9) rfl dX7_printSheet_76 ?_
  refine mx_cVv (As := []) (rest := []) (pc := 79) ⟨hx, hb, hml, hown, hts⟩ (k_X4_begin (a := a) (den := den) (go := go) (sc := sc) (sg := sg) (sr := sr) (ss := ss) hD w7 w8 w9 ) (cwV 0 hts gX7_printSheet_X4_begin rfl rfl rfl (by decide +kernel) ⟨Nat.le_of_ble_eq_true rfl, Nat.le_of_ble_eq_true rfl⟩) 7 rfl rfl w7 hK hN hZ hP hS rfl hl.1 rfl (Nat.le_of_ble_eq_true rfl) dX7_printSheet_79 ⟨Nat.zero_le _, Nat.zero_le _⟩ (fun G H locs hP hD hS hB => ?_)
  obtain ⟨w7, ho⟩ := hB
  have w0 := (ho 0 (by decide)).trans w0
  have w1 := (ho 1 (by decide)).trans w1
  have w2 := (ho 2 (by decide)).trans w2
  have w3 := (ho 3 (by decide)).trans w3
  have w4 := (ho 4 (by decide)).trans w4
  have w5 := (ho 5 (by decide)).trans w5
  have w6 := (ho 6 (by decide)).trans w6
  have w7 : G[7]? = some (a 7, .inr (4, [.ref (a 8), .ref (a 9), .int (nI ((sc) + 1)), .int ((sg)), .int ((sr)), .int ((ss))])) := w7
  have w8 := (ho 8 (by decide)).trans w8
  have w9 := (ho 9 (by decide)).trans w9
  have hk := gk_call hk ho (by decide)
  clear ho
  refine lv_iconst (v := nI (1)) (pc := 82) hx hb dX7_printSheet_82 (by decide) ?_
  refine lv_istore_n (lv' := [(1, .int (nI (1))), (0, .ref (a 0))]) (pc := 83) hx hb dX7_printSheet_83 rfl hl (by decide) rfl (fun ls hl => ?_)
  refine lv_iconst (v := nI (0)) (pc := 84) hx hb dX7_printSheet_84 (by decide) ?_
  refine lv_istore_n (lv' := [(2, .int (nI (0))), (1, .int (nI (1))), (0, .ref (a 0))]) (pc := 85) hx hb dX7_printSheet_85 rfl hl (by decide) rfl (fun ls hl => ?_)
  have w6 : G[6]? = some (a 6, .inl (cI, 40, .inl ((gInk3 ru zv zn tr ink)))) := w6
  have LT : ∀ (k : Nat) (z : Nat) (ink : Nat → Int32) (pap : Int32) (bar : Int32) (den : Nat → Int32) (gd : Bool), z + k = zn → ∀ (G : va_W) (H : Heap) (locs : List Loc) (ls : Array Slot), va_P D vwCl G H → va_D A G → va_S A s.heap H locs → (∀ j, j ∉ [5, 6, 7, 8, 9] → G[j]? = G0[j]?) → G[0]? = some (a 0, .inr (7, [.ref (a 1), .ref (a 3), .ref (a 5), .ref (a 7), .ref (a 10), .ref (a 11), .ref (a 16), .int (gB (st))])) → G[1]? = some (a 1, .inr (3, [.ref (a 2)])) → G[2]? = some (a 2, .inl (cI, 9, .inl (ru))) → G[3]? = some (a 3, .inr (6, [.ref (a 4), .int (nI (zn))])) → G[4]? = some (a 4, .inl (cI, 24, .inl (zv))) → G[5]? = some (a 5, .inr (5, [.ref (a 6), .int (nI (zn)), .int (nI (tr)), .int (gFf (gKe zv) (ru 0) (zn) (0) (fed)), .int (pap), .int (bar)])) → G[6]? = some (a 6, .inl (cI, 40, .inl (ink))) → G[7]? = some (a 7, .inr (4, [.ref (a 8), .ref (a 9), .int (nI ((sc) + 1)), .int ((sg)), .int ((sr)), .int ((ss))])) → G[8]? = some (a 8, .inl (cI, 8000, .inl (den))) → G[9]? = some (a 9, .inl (cZ, 1000, .inl (fun j => gB ((go) j)))) → lv_has ls 5 [(0, .ref (a 0)), (1, .int (gB (gd))), (2, .int (nI (z)))] → (∀ (G : va_W) (H : Heap) (locs : List Loc) (ls : Array Slot), va_P D vwCl G H → va_D A G → va_S A s.heap H locs → (∀ j, j ∉ [5, 6, 7, 8, 9] → G[j]? = G0[j]?) → G[0]? = some (a 0, .inr (7, [.ref (a 1), .ref (a 3), .ref (a 5), .ref (a 7), .ref (a 10), .ref (a 11), .ref (a 16), .int (gB (st))])) → G[1]? = some (a 1, .inr (3, [.ref (a 2)])) → G[2]? = some (a 2, .inl (cI, 9, .inl (ru))) → G[3]? = some (a 3, .inr (6, [.ref (a 4), .int (nI (zn))])) → G[4]? = some (a 4, .inl (cI, 24, .inl (zv))) → G[5]? = some (a 5, .inr (5, [.ref (a 6), .int (nI (zn)), .int (nI (tr)), .int (gFf (gKe zv) (ru 0) (zn) (0) (fed)), .int (gTp tr (ru 3) (gCo zv) k z ink pap), .int (gTb tr (ru 3) (gCo zv) k z ink bar)])) → G[6]? = some (a 6, .inl (cI, 40, .inl (gTi tr (ru 3) (gCo zv) k z ink))) → G[7]? = some (a 7, .inr (4, [.ref (a 8), .ref (a 9), .int (nI ((sc) + 1)), .int ((sg)), .int ((sr)), .int ((ss))])) → G[8]? = some (a 8, .inl (cI, 8000, .inl (gTd tr (ru 3) (gCo zv) ((sc + 1 - 1) * 8) k z ink den))) → G[9]? = some (a 9, .inl (cZ, 1000, .inl (fun j => gB ((go) j)))) → lv_has ls 5 [(0, .ref (a 0)), (1, .int (gB (gTg tr (ru 3) (gCo zv) (gTt zv) (ru 6) k z ink gd)))] → W p l e ({ frames := 2, cells := 0, slots := 0, locals := 48 } : Room) s m args below meth c H locs 0 0 Q (F0 m 181 ls [])) → W p l e ({ frames := 2, cells := 0, slots := 0, locals := 48 } : Room) s m args below meth c H locs 0 0 Q (F0 m 86 ls []) := by
    intro k
    induction k with
    | zero =>
      intro z ink pap bar den gd hz G H locs ls hP hD hS hk w0 w1 w2 w3 w4 w5 w6 w7 w8 w9 hl hcont
      refine lv_iload_n (pc := 86) hx hb dX7_printSheet_86 rfl (lv_at hl 2 rfl) ?_
      refine lv_aload_n (pc := 87) hx hb dX7_printSheet_87 rfl (lv_at hl 0 rfl) ?_
      refine va_get (ci := 7) (C := RX7) (T := TX7) (N := 8) (pc := 88) hx hb hts hiX7 hown hK hP 0 w0 rfl 1 (by decide) (hts (.fieldLink RX7 19 "InkPress" "zones" "LInkPress$Zones;") (by decide +kernel)) (fun _ h9 => h9) rfl dX7_printSheet_88 ?_
      refine va_getN (own := RX7) (host := "InkPress") (ci := 6) (C := RX6) (T := TX6) (N := 2) (pc := 91) hx hb hts hiX6 hown hK hP 3 w3 rfl 1 (by decide) (va_Nw.use rfl (hN (.fieldLinkNest "InkPress" 138 "InkPress$Zones" "count" "I" "InkPress") (by decide +kernel))) (fun _ h9 => h9) rfl dX7_printSheet_91 ?_
      refine mx_cge (tgt := 181) (pc := 94) hx hb (by omega) (by omega) dX7_printSheet_94 (by decide) (fun c94 => ?_) (fun c94 => absurd c94 (by omega))
      exact hcont G H locs ls hP hD hS hk w0 w1 w2 w3 w4 w5 w6 w7 w8 w9 (lv_sub hl [0, 1] rfl)
    | succ k ih =>
      intro z ink pap bar den gd hz G H locs ls hP hD hS hk w0 w1 w2 w3 w4 w5 w6 w7 w8 w9 hl hcont
      refine lv_iload_n (pc := 86) hx hb dX7_printSheet_86 rfl (lv_at hl 2 rfl) ?_
      refine lv_aload_n (pc := 87) hx hb dX7_printSheet_87 rfl (lv_at hl 0 rfl) ?_
      refine va_get (ci := 7) (C := RX7) (T := TX7) (N := 8) (pc := 88) hx hb hts hiX7 hown hK hP 0 w0 rfl 1 (by decide) (hts (.fieldLink RX7 19 "InkPress" "zones" "LInkPress$Zones;") (by decide +kernel)) (fun _ h9 => h9) rfl dX7_printSheet_88 ?_
      refine va_getN (own := RX7) (host := "InkPress") (ci := 6) (C := RX6) (T := TX6) (N := 2) (pc := 91) hx hb hts hiX6 hown hK hP 3 w3 rfl 1 (by decide) (va_Nw.use rfl (hN (.fieldLinkNest "InkPress" 138 "InkPress$Zones" "count" "I" "InkPress") (by decide +kernel))) (fun _ h9 => h9) rfl dX7_printSheet_91 ?_
      refine mx_cge (tgt := 181) (pc := 94) hx hb (by omega) (by omega) dX7_printSheet_94 (by decide) (fun c94 => absurd c94 (by omega)) (fun c94 => ?_)
      refine lv_bipush (v := nI (10)) (pc := 97) hx hb dX7_printSheet_97 (by decide) ?_
      refine lv_aload_n (pc := 99) hx hb dX7_printSheet_99 rfl (lv_at hl 0 rfl) ?_
      refine va_get (ci := 7) (C := RX7) (T := TX7) (N := 8) (pc := 100) hx hb hts hiX7 hown hK hP 0 w0 rfl 2 (by decide) (hts (.fieldLink RX7 26 "InkPress" "train" "LInkPress$Train;") (by decide +kernel)) (fun _ h9 => h9) rfl dX7_printSheet_100 ?_
      refine lv_iload_n (pc := 103) hx hb dX7_printSheet_103 rfl (lv_at hl 2 rfl) ?_
      refine lv_aload_n (pc := 104) hx hb dX7_printSheet_104 rfl (lv_at hl 0 rfl) ?_
      refine va_get (ci := 7) (C := RX7) (T := TX7) (N := 8) (pc := 105) hx hb hts hiX7 hown hK hP 0 w0 rfl 0 (by decide) (hts (.fieldLink RX7 10 "InkPress" "rules" "LInkPress$Rules;") (by decide +kernel)) (fun _ h9 => h9) rfl dX7_printSheet_105 ?_
      refine lv_iconst (v := nI (3)) (pc := 108) hx hb dX7_printSheet_108 (by decide) ?_
      refine mx_cVi (As := [.int (nI (3))]) (rest := [.int (nI (z)), .ref (a 5), .int (nI (10))]) (pc := 109) ⟨hx, hb, hml, hown, hts⟩ (k_X3_valueOf (a := a) (ru := ru) (k := 3) hD w1 w2 (by omega)) (cwV 1 hts gX7_printSheet_X3_valueOf rfl rfl rfl (by decide +kernel) ⟨Nat.le_of_ble_eq_true rfl, Nat.le_of_ble_eq_true rfl⟩) 1 rfl rfl w1 hK hN hZ hP hS rfl hl.1 rfl (Nat.le_of_ble_eq_true rfl) dX7_printSheet_109 ⟨Nat.zero_le _, Nat.zero_le _⟩ (fun G' H locs hP hD hS hB => ?_)
      rw [hB] at hP hD
      clear hB G'
      refine lv_aload_n (pc := 112) hx hb dX7_printSheet_112 rfl (lv_at hl 0 rfl) ?_
      refine va_get (ci := 7) (C := RX7) (T := TX7) (N := 8) (pc := 113) hx hb hts hiX7 hown hK hP 0 w0 rfl 1 (by decide) (hts (.fieldLink RX7 19 "InkPress" "zones" "LInkPress$Zones;") (by decide +kernel)) (fun _ h9 => h9) rfl dX7_printSheet_113 ?_
      refine lv_iload_n (pc := 116) hx hb dX7_printSheet_116 rfl (lv_at hl 2 rfl) ?_
      refine lv_iconst (v := nI (1)) (pc := 117) hx hb dX7_printSheet_117 (by decide) ?_
      refine mx_cVi (As := [.int (nI (z)), .int (nI (1))]) (rest := [.int ((ru) (3)), .int (nI (z)), .ref (a 5), .int (nI (10))]) (pc := 118) ⟨hx, hb, hml, hown, hts⟩ (k_X6_valueOf (a := a) (zv := zv) (zn := zn) (z := z) (k := 1) hD w3 w4 (by omega) (by omega)) (cwV 2 hts gX7_printSheet_X6_valueOf rfl rfl rfl (by decide +kernel) ⟨Nat.le_of_ble_eq_true rfl, Nat.le_of_ble_eq_true rfl⟩) 3 rfl rfl w3 hK hN hZ hP hS rfl hl.1 rfl (Nat.le_of_ble_eq_true rfl) dX7_printSheet_118 ⟨Nat.zero_le _, Nat.zero_le _⟩ (fun G' H locs hP hD hS hB => ?_)
      rw [hB] at hP hD
      clear hB G'
      refine mx_cVi (As := [.int (nI (z)), .int ((ru) (3)), .int ((zv) ((1) * 8 + (z)))]) (rest := [.int (nI (10))]) (pc := 121) ⟨hx, hb, hml, hown, hts⟩ (k_X5_takeOff (a := a) (ink := ink) (tz := zn) (tr := tr) (fed := gFf (gKe zv) (ru 0) (zn) (0) (fed)) (pap := pap) (bar := bar) (z := z) (q := (ru) (3)) (cv := (zv) ((1) * 8 + (z))) hD w5 w6 (by omega) (by omega) (by omega)) (cwV 3 hts gX7_printSheet_X5_takeOff rfl rfl rfl (by decide +kernel) ⟨Nat.le_of_ble_eq_true rfl, Nat.le_of_ble_eq_true rfl⟩) 5 rfl rfl w5 hK hN hZ hP hS rfl hl.1 rfl (Nat.le_of_ble_eq_true rfl) dX7_printSheet_121 ⟨Nat.zero_le _, Nat.zero_le _⟩ (fun G H locs hP hD hS hB => ?_)
      obtain ⟨w5, w6, ho⟩ := hB
      have w0 := (ho 0 (by decide)).trans w0
      have w1 := (ho 1 (by decide)).trans w1
      have w2 := (ho 2 (by decide)).trans w2
      have w3 := (ho 3 (by decide)).trans w3
      have w4 := (ho 4 (by decide)).trans w4
      have w5 : G[5]? = some (a 5, .inr (5, [.ref (a 6), .int (nI ((zn))), .int (nI ((tr))), .int ((gFf (gKe zv) (ru 0) (zn) (0) (fed))), .int ((pap) + gPap (tr) (z) ((ru) (3)) ((zv) ((1) * 8 + (z))) (ink)), .int ((bar) + gBar (tr) (z) (ink))])) := w5
      have w6 : G[6]? = some (a 6, .inl (cI, 40, .inl (gTk (tr) (z) ((ru) (3)) ((zv) ((1) * 8 + (z))) (ink)))) := w6
      have w7 := (ho 7 (by decide)).trans w7
      have w8 := (ho 8 (by decide)).trans w8
      have w9 := (ho 9 (by decide)).trans w9
      have hk := gk_call hk ho (by decide)
      clear ho
      refine lv_imul (pc := 124) hx hb dX7_printSheet_124 ?_
      refine lv_istore_n (lv' := [(3, .int ((nI (10) * gBar (tr) (z) (ink)))), (0, .ref (a 0)), (1, .int (gB (gd))), (2, .int (nI (z)))]) (pc := 125) hx hb dX7_printSheet_125 rfl hl (by decide) rfl (fun ls hl => ?_)
      refine lv_aload_n (pc := 126) hx hb dX7_printSheet_126 rfl (lv_at hl 1 rfl) ?_
      refine va_get (ci := 7) (C := RX7) (T := TX7) (N := 8) (pc := 127) hx hb hts hiX7 hown hK hP 0 w0 rfl 3 (by decide) (hts (.fieldLink RX7 33 "InkPress" "sheets" "LInkPress$SheetLog;") (by decide +kernel)) (fun _ h9 => h9) rfl dX7_printSheet_127 ?_
      refine lv_iload_n (pc := 130) hx hb dX7_printSheet_130 rfl (lv_at hl 3 rfl) ?_
      refine lv_iload_n (pc := 131) hx hb dX7_printSheet_131 rfl (lv_at hl 0 rfl) ?_
      refine mx_cVv (As := [.int (nI (z)), .int ((nI (10) * gBar (tr) (z) (ink)))]) (rest := []) (pc := 132) ⟨hx, hb, hml, hown, hts⟩ (k_X4_note (a := a) (den := den) (go := go) (sc := (sc) + 1) (sg := (sg)) (sr := (sr)) (ss := (ss)) (z := z) (x := (nI (10) * gBar (tr) (z) (ink))) hD w7 w8 w9 (by omega) (by omega) (by omega)) (cwV 2 hts gX7_printSheet_X4_note rfl rfl rfl (by decide +kernel) ⟨Nat.le_of_ble_eq_true rfl, Nat.le_of_ble_eq_true rfl⟩) 7 rfl rfl w7 hK hN hZ hP hS rfl hl.1 rfl (Nat.le_of_ble_eq_true rfl) dX7_printSheet_132 ⟨Nat.zero_le _, Nat.zero_le _⟩ (fun G H locs hP hD hS hB => ?_)
      obtain ⟨w8, ho⟩ := hB
      have w0 := (ho 0 (by decide)).trans w0
      have w1 := (ho 1 (by decide)).trans w1
      have w2 := (ho 2 (by decide)).trans w2
      have w3 := (ho 3 (by decide)).trans w3
      have w4 := (ho 4 (by decide)).trans w4
      have w5 := (ho 5 (by decide)).trans w5
      have w6 := (ho 6 (by decide)).trans w6
      have w7 := (ho 7 (by decide)).trans w7
      have w8 : G[8]? = some (a 8, .inl (cI, 8000, .inl (upd (den) ((((sc) + 1) - 1) * 8 + (z)) ((nI (10) * gBar (tr) (z) (ink)))))) := w8
      have w9 := (ho 9 (by decide)).trans w9
      have hk := gk_call hk ho (by decide)
      clear ho
      refine lv_iload_n (pc := 135) hx hb dX7_printSheet_135 rfl (lv_at hl 0 rfl) ?_
      refine lv_aload_n (pc := 136) hx hb dX7_printSheet_136 rfl (lv_at hl 1 rfl) ?_
      refine va_get (ci := 7) (C := RX7) (T := TX7) (N := 8) (pc := 137) hx hb hts hiX7 hown hK hP 0 w0 rfl 1 (by decide) (hts (.fieldLink RX7 19 "InkPress" "zones" "LInkPress$Zones;") (by decide +kernel)) (fun _ h9 => h9) rfl dX7_printSheet_137 ?_
      refine lv_iload_n (pc := 140) hx hb dX7_printSheet_140 rfl (lv_at hl 3 rfl) ?_
      refine lv_iconst (v := nI (2)) (pc := 141) hx hb dX7_printSheet_141 (by decide) ?_
      refine mx_cVi (As := [.int (nI (z)), .int (nI (2))]) (rest := [.int ((nI (10) * gBar (tr) (z) (ink)))]) (pc := 142) ⟨hx, hb, hml, hown, hts⟩ (k_X6_valueOf (a := a) (zv := zv) (zn := zn) (z := z) (k := 2) hD w3 w4 (by omega) (by omega)) (cwV 2 hts gX7_printSheet_X6_valueOf rfl rfl rfl (by decide +kernel) ⟨Nat.le_of_ble_eq_true rfl, Nat.le_of_ble_eq_true rfl⟩) 3 rfl rfl w3 hK hN hZ hP hS rfl hl.1 rfl (Nat.le_of_ble_eq_true rfl) dX7_printSheet_142 ⟨Nat.zero_le _, Nat.zero_le _⟩ (fun G' H locs hP hD hS hB => ?_)
      rw [hB] at hP hD
      clear hB G'
      refine lv_isub (pc := 145) hx hb dX7_printSheet_145 ?_
      refine va_mabs (own := RX7) (index := 240) (pc := 146) hx hb (hml.trans hl.1.symm) hown (hts (.methodLink RX7 240 Lib.Math.abs.name) (hmemM146_1)) (hts (.static Lib.Math.abs.name) (hmemM146_2)) (hts (.initialized "java/lang/Math") (by decide +kernel)) (hts (.code Lib.Math.abs.name Lib.Math.abs.code 1 (some .int)) (hmemM146_3)) (Nat.le_of_ble_eq_true rfl) (Nat.le_of_ble_eq_true rfl) (Nat.zero_le _) (Nat.zero_le _) dX7_printSheet_146 ?_
      show W _ _ _ _ _ _ _ _ _ _ _ _ _ _ _ (F0 _ _ _ (.int ((if 0 ≤ ((nI (10) * gBar (tr) (z) (ink)) - (zv) ((2) * 8 + (z))) then ((nI (10) * gBar (tr) (z) (ink)) - (zv) ((2) * 8 + (z))) else 0 - ((nI (10) * gBar (tr) (z) (ink)) - (zv) ((2) * 8 + (z))))) :: _))
      refine lv_istore (lv' := [(4, .int ((if 0 ≤ ((nI (10) * gBar (tr) (z) (ink)) - (zv) ((2) * 8 + (z))) then ((nI (10) * gBar (tr) (z) (ink)) - (zv) ((2) * 8 + (z))) else 0 - ((nI (10) * gBar (tr) (z) (ink)) - (zv) ((2) * 8 + (z)))))), (3, .int ((nI (10) * gBar (tr) (z) (ink)))), (0, .ref (a 0)), (1, .int (gB (gd))), (2, .int (nI (z)))]) (pc := 149) hx hb dX7_printSheet_149 hl (by decide) rfl (fun ls hl => ?_)
      refine lv_iload_n (pc := 151) hx hb dX7_printSheet_151 rfl (lv_at hl 3 rfl) ?_
      refine mx_beq (tgt := 173) (pc := 152) hx hb dX7_printSheet_152 (by decide) (fun c152 => ?_) (fun c152 => ?_)
      · skip
        refine lv_iconst (v := nI (0)) (pc := 173) hx hb dX7_printSheet_173 (by decide) ?_
        refine lv_istore_n (lv' := [(1, .int (nI (0))), (4, .int ((if 0 ≤ ((nI (10) * gBar (tr) (z) (ink)) - (zv) ((2) * 8 + (z))) then ((nI (10) * gBar (tr) (z) (ink)) - (zv) ((2) * 8 + (z))) else 0 - ((nI (10) * gBar (tr) (z) (ink)) - (zv) ((2) * 8 + (z)))))), (3, .int ((nI (10) * gBar (tr) (z) (ink)))), (0, .ref (a 0)), (2, .int (nI (z)))]) (pc := 174) hx hb dX7_printSheet_174 rfl hl (by decide) rfl (fun ls hl => ?_)
        refine lv_iinc (v := nI (z + 1)) (lv' := [(2, .int (nI (z + 1))), (1, .int (nI (0))), (4, .int ((if 0 ≤ ((nI (10) * gBar (tr) (z) (ink)) - (zv) ((2) * 8 + (z))) then ((nI (10) * gBar (tr) (z) (ink)) - (zv) ((2) * 8 + (z))) else 0 - ((nI (10) * gBar (tr) (z) (ink)) - (zv) ((2) * 8 + (z)))))), (3, .int ((nI (10) * gBar (tr) (z) (ink)))), (0, .ref (a 0))]) (pc := 175) hx hb dX7_printSheet_175 hl (k := 4) rfl (mx_inc1 _) (by decide) rfl (fun ls hl => ?_)
        refine lv_goto (tgt := 86) (pc := 178) hx hb dX7_printSheet_178 (by decide) ?_
        have e9 : gG1 gd (nI 10 * gBar tr z ink) (gTt zv z) (ru 6) = false := gG1_0 c152
        exact ih (z + 1) (gTk tr z (ru 3) (gCo zv z) ink) (pap + gPap tr z (ru 3) (gCo zv z) ink) (bar + gBar tr z ink) (upd den ((sc + 1 - 1) * 8 + z) (nI 10 * gBar tr z ink)) (gG1 gd (nI 10 * gBar tr z ink) (gTt zv z) (ru 6)) (by omega) G H locs ls hP hD hS hk w0 w1 w2 w3 w4 w5 w6 w7 w8 w9 (lv_sub hl [4, 1, 0] (by rw [e9]; rfl)) hcont
      · skip
        refine lv_iload (pc := 155) hx hb dX7_printSheet_155 (lv_at hl 0 rfl) ?_
        refine lv_aload_n (pc := 157) hx hb dX7_printSheet_157 rfl (lv_at hl 2 rfl) ?_
        refine va_get (ci := 7) (C := RX7) (T := TX7) (N := 8) (pc := 158) hx hb hts hiX7 hown hK hP 0 w0 rfl 0 (by decide) (hts (.fieldLink RX7 10 "InkPress" "rules" "LInkPress$Rules;") (by decide +kernel)) (fun _ h9 => h9) rfl dX7_printSheet_158 ?_
        refine lv_bipush (v := nI (6)) (pc := 161) hx hb dX7_printSheet_161 (by decide) ?_
        refine mx_cVi (As := [.int (nI (6))]) (rest := [.int ((if 0 ≤ ((nI (10) * gBar (tr) (z) (ink)) - (zv) ((2) * 8 + (z))) then ((nI (10) * gBar (tr) (z) (ink)) - (zv) ((2) * 8 + (z))) else 0 - ((nI (10) * gBar (tr) (z) (ink)) - (zv) ((2) * 8 + (z)))))]) (pc := 163) ⟨hx, hb, hml, hown, hts⟩ (k_X3_valueOf (a := a) (ru := ru) (k := 6) hD w1 w2 (by omega)) (cwV 1 hts gX7_printSheet_X3_valueOf rfl rfl rfl (by decide +kernel) ⟨Nat.le_of_ble_eq_true rfl, Nat.le_of_ble_eq_true rfl⟩) 1 rfl rfl w1 hK hN hZ hP hS rfl hl.1 rfl (Nat.le_of_ble_eq_true rfl) dX7_printSheet_163 ⟨Nat.zero_le _, Nat.zero_le _⟩ (fun G' H locs hP hD hS hB => ?_)
        rw [hB] at hP hD
        clear hB G'
        refine lv_icmp_gt (tgt := 173) (pc := 166) hx hb dX7_printSheet_166 (by decide) (fun c166 => ?_) (fun c166 => ?_)
        · skip
          refine lv_iconst (v := nI (0)) (pc := 173) hx hb dX7_printSheet_173 (by decide) ?_
          refine lv_istore_n (lv' := [(1, .int (nI (0))), (4, .int ((if 0 ≤ ((nI (10) * gBar (tr) (z) (ink)) - (zv) ((2) * 8 + (z))) then ((nI (10) * gBar (tr) (z) (ink)) - (zv) ((2) * 8 + (z))) else 0 - ((nI (10) * gBar (tr) (z) (ink)) - (zv) ((2) * 8 + (z)))))), (3, .int ((nI (10) * gBar (tr) (z) (ink)))), (0, .ref (a 0)), (2, .int (nI (z)))]) (pc := 174) hx hb dX7_printSheet_174 rfl hl (by decide) rfl (fun ls hl => ?_)
          refine lv_iinc (v := nI (z + 1)) (lv' := [(2, .int (nI (z + 1))), (1, .int (nI (0))), (4, .int ((if 0 ≤ ((nI (10) * gBar (tr) (z) (ink)) - (zv) ((2) * 8 + (z))) then ((nI (10) * gBar (tr) (z) (ink)) - (zv) ((2) * 8 + (z))) else 0 - ((nI (10) * gBar (tr) (z) (ink)) - (zv) ((2) * 8 + (z)))))), (3, .int ((nI (10) * gBar (tr) (z) (ink)))), (0, .ref (a 0))]) (pc := 175) hx hb dX7_printSheet_175 hl (k := 4) rfl (mx_inc1 _) (by decide) rfl (fun ls hl => ?_)
          refine lv_goto (tgt := 86) (pc := 178) hx hb dX7_printSheet_178 (by decide) ?_
          have e9 : gG1 gd (nI 10 * gBar tr z ink) (gTt zv z) (ru 6) = false := gG1_1 c166
          exact ih (z + 1) (gTk tr z (ru 3) (gCo zv z) ink) (pap + gPap tr z (ru 3) (gCo zv z) ink) (bar + gBar tr z ink) (upd den ((sc + 1 - 1) * 8 + z) (nI 10 * gBar tr z ink)) (gG1 gd (nI 10 * gBar tr z ink) (gTt zv z) (ru 6)) (by omega) G H locs ls hP hD hS hk w0 w1 w2 w3 w4 w5 w6 w7 w8 w9 (lv_sub hl [4, 1, 0] (by rw [e9]; rfl)) hcont
        · skip
          refine lv_iconst (v := nI (1)) (pc := 169) hx hb dX7_printSheet_169 (by decide) ?_
          refine lv_goto (tgt := 174) (pc := 170) hx hb dX7_printSheet_170 (by decide) ?_
          refine lv_istore_n (lv' := [(1, .int (nI (1))), (4, .int ((if 0 ≤ ((nI (10) * gBar (tr) (z) (ink)) - (zv) ((2) * 8 + (z))) then ((nI (10) * gBar (tr) (z) (ink)) - (zv) ((2) * 8 + (z))) else 0 - ((nI (10) * gBar (tr) (z) (ink)) - (zv) ((2) * 8 + (z)))))), (3, .int ((nI (10) * gBar (tr) (z) (ink)))), (0, .ref (a 0)), (2, .int (nI (z)))]) (pc := 174) hx hb dX7_printSheet_174 rfl hl (by decide) rfl (fun ls hl => ?_)
          refine lv_iinc (v := nI (z + 1)) (lv' := [(2, .int (nI (z + 1))), (1, .int (nI (1))), (4, .int ((if 0 ≤ ((nI (10) * gBar (tr) (z) (ink)) - (zv) ((2) * 8 + (z))) then ((nI (10) * gBar (tr) (z) (ink)) - (zv) ((2) * 8 + (z))) else 0 - ((nI (10) * gBar (tr) (z) (ink)) - (zv) ((2) * 8 + (z)))))), (3, .int ((nI (10) * gBar (tr) (z) (ink)))), (0, .ref (a 0))]) (pc := 175) hx hb dX7_printSheet_175 hl (k := 4) rfl (mx_inc1 _) (by decide) rfl (fun ls hl => ?_)
          refine lv_goto (tgt := 86) (pc := 178) hx hb dX7_printSheet_178 (by decide) ?_
          have e9 : gG1 gd (nI 10 * gBar tr z ink) (gTt zv z) (ru 6) = true := gG1_2 c152 c166
          exact ih (z + 1) (gTk tr z (ru 3) (gCo zv z) ink) (pap + gPap tr z (ru 3) (gCo zv z) ink) (bar + gBar tr z ink) (upd den ((sc + 1 - 1) * 8 + z) (nI 10 * gBar tr z ink)) (gG1 gd (nI 10 * gBar tr z ink) (gTt zv z) (ru 6)) (by omega) G H locs ls hP hD hS hk w0 w1 w2 w3 w4 w5 w6 w7 w8 w9 (lv_sub hl [4, 1, 0] (by rw [e9]; rfl)) hcont
  refine LT zn (0) ((gInk3 ru zv zn tr ink)) (pap) (bar) (den) (true) (by omega) G H locs ls hP hD hS hk w0 w1 w2 w3 w4 w5 w6 w7 w8 w9 (lv_sub hl [2, 1, 0] rfl) (fun G H locs ls hP hD hS hk w0 w1 w2 w3 w4 w5 w6 w7 w8 w9 hl => ?_)
  have w5 : G[5]? = some (a 5, .inr (5, [.ref (a 6), .int (nI (zn)), .int (nI (tr)), .int (gFf (gKe zv) (ru 0) (zn) (0) (fed)), .int (gTp tr (ru 3) (gCo zv) (zn) (0) ((gInk3 ru zv zn tr ink)) (pap)), .int (gTb tr (ru 3) (gCo zv) (zn) (0) ((gInk3 ru zv zn tr ink)) (bar))])) := w5
  have w6 : G[6]? = some (a 6, .inl (cI, 40, .inl (gTi tr (ru 3) (gCo zv) (zn) (0) ((gInk3 ru zv zn tr ink))))) := w6
  have w8 : G[8]? = some (a 8, .inl (cI, 8000, .inl (gTd tr (ru 3) (gCo zv) ((sc + 1 - 1) * 8) (zn) (0) ((gInk3 ru zv zn tr ink)) (den)))) := w8
  refine lv_aload_n (pc := 181) hx hb dX7_printSheet_181 rfl (lv_at hl 0 rfl) ?_
  refine va_get (ci := 7) (C := RX7) (T := TX7) (N := 8) (pc := 182) hx hb hts hiX7 hown hK hP 0 w0 rfl 3 (by decide) (hts (.fieldLink RX7 33 "InkPress" "sheets" "LInkPress$SheetLog;") (by decide +kernel)) (fun _ h9 => h9) rfl dX7_printSheet_182 ?_
  refine lv_iload_n (pc := 185) hx hb dX7_printSheet_185 rfl (lv_at hl 1 rfl) ?_
  refine lv_aload_n (pc := 186) hx hb dX7_printSheet_186 rfl (lv_at hl 0 rfl) ?_
  refine va_get (ci := 7) (C := RX7) (T := TX7) (N := 8) (pc := 187) hx hb hts hiX7 hown hK hP 0 w0 rfl 0 (by decide) (hts (.fieldLink RX7 10 "InkPress" "rules" "LInkPress$Rules;") (by decide +kernel)) (fun _ h9 => h9) rfl dX7_printSheet_187 ?_
  refine lv_bipush (v := nI (8)) (pc := 190) hx hb dX7_printSheet_190 (by decide) ?_
  refine mx_cVi (As := [.int (nI (8))]) (rest := [.int (gB (gTg tr (ru 3) (gCo zv) (gTt zv) (ru 6) (zn) (0) ((gInk3 ru zv zn tr ink)) (true))), .ref (a 7)]) (pc := 192) ⟨hx, hb, hml, hown, hts⟩ (k_X3_valueOf (a := a) (ru := ru) (k := 8) hD w1 w2 (by omega)) (cwV 1 hts gX7_printSheet_X3_valueOf rfl rfl rfl (by decide +kernel) ⟨Nat.le_of_ble_eq_true rfl, Nat.le_of_ble_eq_true rfl⟩) 1 rfl rfl w1 hK hN hZ hP hS rfl hl.1 rfl (Nat.le_of_ble_eq_true rfl) dX7_printSheet_192 ⟨Nat.zero_le _, Nat.zero_le _⟩ (fun G' H locs hP hD hS hB => ?_)
  rw [hB] at hP hD
  clear hB G'
  refine mx_cVv (As := [.int (gB (gTg tr (ru 3) (gCo zv) (gTt zv) (ru 6) (zn) (0) ((gInk3 ru zv zn tr ink)) (true))), .int ((ru) (8))]) (rest := []) (pc := 195) ⟨hx, hb, hml, hown, hts⟩ (k_X4_judge (a := a) (den := gTd tr (ru 3) (gCo zv) ((sc + 1 - 1) * 8) (zn) (0) ((gInk3 ru zv zn tr ink)) (den)) (go := go) (sc := (sc) + 1) (sg := (sg)) (sr := (sr)) (ss := (ss)) (b := gTg tr (ru 3) (gCo zv) (gTt zv) (ru 6) (zn) (0) ((gInk3 ru zv zn tr ink)) (true)) (ho := (ru) (8)) hD w7 w8 w9 (by omega) (by omega)) (cwV 2 hts gX7_printSheet_X4_judge rfl rfl rfl (by decide +kernel) ⟨Nat.le_of_ble_eq_true rfl, Nat.le_of_ble_eq_true rfl⟩) 7 rfl rfl w7 hK hN hZ hP hS rfl hl.1 rfl (Nat.le_of_ble_eq_true rfl) dX7_printSheet_195 ⟨Nat.zero_le _, Nat.zero_le _⟩ (fun G H locs hP hD hS hB => ?_)
  obtain ⟨w7, w9, ho⟩ := hB
  have w0 := (ho 0 (by decide)).trans w0
  have w1 := (ho 1 (by decide)).trans w1
  have w2 := (ho 2 (by decide)).trans w2
  have w3 := (ho 3 (by decide)).trans w3
  have w4 := (ho 4 (by decide)).trans w4
  have w5 := (ho 5 (by decide)).trans w5
  have w6 := (ho 6 (by decide)).trans w6
  have w7 : G[7]? = some (a 7, .inr (4, [.ref (a 8), .ref (a 9), .int (nI (((sc) + 1))), .int (gJg (gTg tr (ru 3) (gCo zv) (gTt zv) (ru 6) (zn) (0) ((gInk3 ru zv zn tr ink)) (true)) ((sg))), .int (gJr (gTg tr (ru 3) (gCo zv) (gTt zv) (ru 6) (zn) (0) ((gInk3 ru zv zn tr ink)) (true)) ((sr))), .int (gJs (gJr (gTg tr (ru 3) (gCo zv) (gTt zv) (ru 6) (zn) (0) ((gInk3 ru zv zn tr ink)) (true)) ((sr))) ((ru) (8)) (nI ((sc) + 1)) ((ss)))])) := w7
  have w8 := (ho 8 (by decide)).trans w8
  have w9 : G[9]? = some (a 9, .inl (cZ, 1000, .inl (fun j => gB ((vf_upd (go) (((sc) + 1) - 1) (gTg tr (ru 3) (gCo zv) (gTt zv) (ru 6) (zn) (0) ((gInk3 ru zv zn tr ink)) (true))) j)))) := w9
  have hk := gk_call hk ho (by decide)
  clear ho
  exact hret _ _ _ _ _ hP hD hS ⟨w5, w6, w7, w8, w9, hk⟩ dX7_printSheet_198
set_option maxHeartbeats 4000000 in
set_option maxRecDepth 100000 in
theorem k_X7_print_b {l : Launch} {D : va_G} {cI cZ : ClassId} {A : Nat → Prop} {g a : Nat → Nat} {G0 : va_W} {st : Bool} {x : Int32} (hD : va_D A G0) (w0 : G0[0]? = some (a 0, .inr (7, [.ref (a 1), .ref (a 3), .ref (a 5), .ref (a 7), .ref (a 10), .ref (a 11), .ref (a 16), .int (gB (st))]))) (h1 : gWi x (nI 1) (nI 200) = false) : gMi l D cI cZ A g yX7_print wsX7_print ({ frames := 1, cells := 0, slots := 0, locals := 22 }) [.ref (a 0), .int (x)] G0 ((-2)) (fun G1 => G1 = G0) := by
  refine gof_i (cc := cX7_print) (maxL := 3) (by decide) rfl (Nat.le_of_ble_eq_true rfl) hD ?_
  intro p e s m args below meth c Q hx hb hml hts hown hK hN hZ hP hS hret ls hl
  have hown : s.vm.findClass RX7 = some m.cls := hown
  have hl : lv_has ls 3 [(0, .ref (a 0)), (1, .int (x))] := hl
  obtain ⟨locs, elocs⟩ : ∃ q : List Loc, q = [] := ⟨_, rfl⟩
  rw [← elocs] at hS ⊢
  obtain ⟨H, eH⟩ : ∃ q : Heap, q = s.heap := ⟨_, rfl⟩
  have hP : va_P D vwCl G0 H := eH ▸ hP
  have hS : va_S A s.heap H locs := by rw [eH]; exact hS
  rw [← eH]
  clear elocs eH
  have hk : ∀ k, k ∉ ([] : List Nat) → G0[k]? = G0[k]? := fun _ _ => rfl
  refine lv_iload_n (pc := 0) hx hb dX7_print_0 rfl (lv_at hl 1 rfl) ?_
  refine lv_iconst (v := nI (1)) (pc := 1) hx hb dX7_print_1 (by decide) ?_
  refine lv_sipush (v := nI (200)) (pc := 2) hx hb dX7_print_2 (by decide) ?_
  refine mx_cSi (As := [.int (x), .int (nI (1)), .int (nI (200))]) (rest := []) (pc := 5) ⟨hx, hb, hml, hown, hts⟩ (k_X7_within (a := a) (v := x) (lo := nI (1)) (hi := nI (200)) hD  ) (va_cwS 3 hts gX7_print_X7_within rfl rfl rfl (by decide +kernel) ⟨Nat.le_of_ble_eq_true rfl, Nat.le_of_ble_eq_true rfl⟩) hK hN hZ hP hS rfl hl.1 rfl (Nat.le_of_ble_eq_true rfl) dX7_print_5 ⟨Nat.zero_le _, Nat.zero_le _⟩ (fun G' H locs hP hD hS hB => ?_)
  rw [hB] at hP hD
  clear hB G'
  refine mx_bne (tgt := 14) (pc := 8) hx hb dX7_print_8 (by decide) (fun c8 => absurd (c8.symm.trans h1) (by decide)) (fun c8 => ?_)
  refine lv_bipush (v := (-2)) (pc := 11) hx hb dX7_print_11 (by decide) ?_
  exact hret _ _ _ _ _ _ hP hD hS rfl rfl dX7_print_13
set_option maxHeartbeats 4000000 in
set_option maxRecDepth 100000 in
theorem k_X7_print_c {l : Launch} {D : va_G} {cI cZ : ClassId} {A : Nat → Prop} {g a : Nat → Nat} {G0 : va_W} {st : Bool} {den : Nat → Int32} {go : Nat → Bool} {sc : Nat} {sg : Int32} {sr : Int32} {ss : Int32} {n : Nat} (hD : va_D A G0) (w0 : G0[0]? = some (a 0, .inr (7, [.ref (a 1), .ref (a 3), .ref (a 5), .ref (a 7), .ref (a 10), .ref (a 11), .ref (a 16), .int (gB (st))]))) (w7 : G0[7]? = some (a 7, .inr (4, [.ref (a 8), .ref (a 9), .int (nI (sc)), .int (sg), .int (sr), .int (ss)]))) (w8 : G0[8]? = some (a 8, .inl (cI, 8000, .inl (den)))) (w9 : G0[9]? = some (a 9, .inl (cZ, 1000, .inl (fun j => gB ((go) j))))) (h1 : gWi (nI n) (nI 1) (nI 200) = true) (hs : sc ≤ 1000) (hn : n ≤ 200) (h2 : 1000 < sc + n) : gMi l D cI cZ A g yX7_print wsX7_print ({ frames := 1, cells := 0, slots := 0, locals := 22 }) [.ref (a 0), .int (nI (n))] G0 ((-3)) (fun G1 => G1 = G0) := by
  refine gof_i (cc := cX7_print) (maxL := 3) (by decide) rfl (Nat.le_of_ble_eq_true rfl) hD ?_
  intro p e s m args below meth c Q hx hb hml hts hown hK hN hZ hP hS hret ls hl
  have hown : s.vm.findClass RX7 = some m.cls := hown
  have hl : lv_has ls 3 [(0, .ref (a 0)), (1, .int (nI (n)))] := hl
  obtain ⟨locs, elocs⟩ : ∃ q : List Loc, q = [] := ⟨_, rfl⟩
  rw [← elocs] at hS ⊢
  obtain ⟨H, eH⟩ : ∃ q : Heap, q = s.heap := ⟨_, rfl⟩
  have hP : va_P D vwCl G0 H := eH ▸ hP
  have hS : va_S A s.heap H locs := by rw [eH]; exact hS
  rw [← eH]
  clear elocs eH
  have hiX4 : ∀ w ∈ u_ws RX4 TX4 6, w ∈ wsX7_print := by decide +kernel
  have hiX7 : ∀ w ∈ u_ws RX7 TX7 8, w ∈ wsX7_print := by decide +kernel
  have hk : ∀ k, k ∉ ([] : List Nat) → G0[k]? = G0[k]? := fun _ _ => rfl
  refine lv_iload_n (pc := 0) hx hb dX7_print_0 rfl (lv_at hl 1 rfl) ?_
  refine lv_iconst (v := nI (1)) (pc := 1) hx hb dX7_print_1 (by decide) ?_
  refine lv_sipush (v := nI (200)) (pc := 2) hx hb dX7_print_2 (by decide) ?_
  refine mx_cSi (As := [.int (nI (n)), .int (nI (1)), .int (nI (200))]) (rest := []) (pc := 5) ⟨hx, hb, hml, hown, hts⟩ (k_X7_within (a := a) (v := nI (n)) (lo := nI (1)) (hi := nI (200)) hD  ) (va_cwS 3 hts gX7_print_X7_within rfl rfl rfl (by decide +kernel) ⟨Nat.le_of_ble_eq_true rfl, Nat.le_of_ble_eq_true rfl⟩) hK hN hZ hP hS rfl hl.1 rfl (Nat.le_of_ble_eq_true rfl) dX7_print_5 ⟨Nat.zero_le _, Nat.zero_le _⟩ (fun G' H locs hP hD hS hB => ?_)
  rw [hB] at hP hD
  clear hB G'
  refine mx_bne (tgt := 14) (pc := 8) hx hb dX7_print_8 (by decide) (fun c8 => ?_) (fun c8 => absurd (c8.symm.trans h1) (by decide))
  refine lv_aload_n (pc := 14) hx hb dX7_print_14 rfl (lv_at hl 0 rfl) ?_
  refine va_get (ci := 7) (C := RX7) (T := TX7) (N := 8) (pc := 15) hx hb hts hiX7 hown hK hP 0 w0 rfl 3 (by decide) (hts (.fieldLink RX7 33 "InkPress" "sheets" "LInkPress$SheetLog;") (by decide +kernel)) (fun _ h9 => h9) rfl dX7_print_15 ?_
  refine va_getN (own := RX7) (host := "InkPress") (ci := 4) (C := RX4) (T := TX4) (N := 6) (pc := 18) hx hb hts hiX4 hown hK hP 7 w7 rfl 2 (by decide) (va_Nw.use rfl (hN (.fieldLinkNest "InkPress" 105 "InkPress$SheetLog" "count" "I" "InkPress") (by decide +kernel))) (fun _ h9 => h9) rfl dX7_print_18 ?_
  refine lv_iload_n (pc := 21) hx hb dX7_print_21 rfl (lv_at hl 1 rfl) ?_
  refine mx_iadd (pc := 22) hx hb dX7_print_22 ?_
  refine lv_sipush (v := nI (1000)) (pc := 23) hx hb dX7_print_23 (by decide) ?_
  refine mx_cle (tgt := 32) (pc := 26) hx hb (by omega) (by omega) dX7_print_26 (by decide) (fun c26 => absurd c26 (by omega)) (fun c26 => ?_)
  refine lv_bipush (v := (-3)) (pc := 29) hx hb dX7_print_29 (by decide) ?_
  exact hret _ _ _ _ _ _ hP hD hS rfl rfl dX7_print_31
set_option maxHeartbeats 4000000 in
set_option maxRecDepth 100000 in
theorem k_X7_print_k {l : Launch} {D : va_G} {cI cZ : ClassId} {A : Nat → Prop} {g a : Nat → Nat} {G0 : va_W} {st : Bool} {ru : Nat → Int32} {zv : Nat → Int32} {zn : Nat} {ink : Nat → Int32} {tr : Nat} {fed : Int32} {pap : Int32} {bar : Int32} {den : Nat → Int32} {go : Nat → Bool} {sc : Nat} {sg : Int32} {sr : Int32} {ss : Int32} {n : Nat} (hD : va_D A G0) (w0 : G0[0]? = some (a 0, .inr (7, [.ref (a 1), .ref (a 3), .ref (a 5), .ref (a 7), .ref (a 10), .ref (a 11), .ref (a 16), .int (gB (st))]))) (w1 : G0[1]? = some (a 1, .inr (3, [.ref (a 2)]))) (w2 : G0[2]? = some (a 2, .inl (cI, 9, .inl (ru)))) (w3 : G0[3]? = some (a 3, .inr (6, [.ref (a 4), .int (nI (zn))]))) (w4 : G0[4]? = some (a 4, .inl (cI, 24, .inl (zv)))) (w5 : G0[5]? = some (a 5, .inr (5, [.ref (a 6), .int (nI (zn)), .int (nI (tr)), .int (fed), .int (pap), .int (bar)]))) (w6 : G0[6]? = some (a 6, .inl (cI, 40, .inl (ink)))) (w7 : G0[7]? = some (a 7, .inr (4, [.ref (a 8), .ref (a 9), .int (nI (sc)), .int (sg), .int (sr), .int (ss)]))) (w8 : G0[8]? = some (a 8, .inl (cI, 8000, .inl (den)))) (w9 : G0[9]? = some (a 9, .inl (cZ, 1000, .inl (fun j => gB ((go) j))))) (h1 : gWi (nI n) (nI 1) (nI 200) = true) (hz2 : 2 ≤ zn) (hz8 : zn ≤ 8) (hr2 : 2 ≤ tr) (hr5 : tr ≤ 5) (hs : sc + n ≤ 1000) : gMi l D cI cZ A g yX7_print wsX7_print ({ frames := 3, cells := 0, slots := 0, locals := 72 }) [.ref (a 0), .int (nI (n))] G0 (nI ((gRun ru zn tr st n (zv, ink, den, go, sc, fed, pap, bar, sg, sr, ss)).2.2.2.2.1)) (fun G1 => G1[4]? = some (a 4, .inl (cI, 24, .inl ((gRun ru zn tr st n (zv, ink, den, go, sc, fed, pap, bar, sg, sr, ss)).1))) ∧ G1[5]? = some (a 5, .inr (5, [.ref (a 6), .int (nI (zn)), .int (nI (tr)), .int ((gRun ru zn tr st n (zv, ink, den, go, sc, fed, pap, bar, sg, sr, ss)).2.2.2.2.2.1), .int ((gRun ru zn tr st n (zv, ink, den, go, sc, fed, pap, bar, sg, sr, ss)).2.2.2.2.2.2.1), .int ((gRun ru zn tr st n (zv, ink, den, go, sc, fed, pap, bar, sg, sr, ss)).2.2.2.2.2.2.2.1)])) ∧ G1[6]? = some (a 6, .inl (cI, 40, .inl ((gRun ru zn tr st n (zv, ink, den, go, sc, fed, pap, bar, sg, sr, ss)).2.1))) ∧ G1[7]? = some (a 7, .inr (4, [.ref (a 8), .ref (a 9), .int (nI ((gRun ru zn tr st n (zv, ink, den, go, sc, fed, pap, bar, sg, sr, ss)).2.2.2.2.1)), .int ((gRun ru zn tr st n (zv, ink, den, go, sc, fed, pap, bar, sg, sr, ss)).2.2.2.2.2.2.2.2.1), .int ((gRun ru zn tr st n (zv, ink, den, go, sc, fed, pap, bar, sg, sr, ss)).2.2.2.2.2.2.2.2.2.1), .int ((gRun ru zn tr st n (zv, ink, den, go, sc, fed, pap, bar, sg, sr, ss)).2.2.2.2.2.2.2.2.2.2)])) ∧ G1[8]? = some (a 8, .inl (cI, 8000, .inl ((gRun ru zn tr st n (zv, ink, den, go, sc, fed, pap, bar, sg, sr, ss)).2.2.1))) ∧ G1[9]? = some (a 9, .inl (cZ, 1000, .inl (fun j => gB (((gRun ru zn tr st n (zv, ink, den, go, sc, fed, pap, bar, sg, sr, ss)).2.2.2.1) j)))) ∧ ∀ k, k ∉ [4, 5, 6, 7, 8, 9] → G1[k]? = G0[k]?) := by
  refine gof_i (cc := cX7_print) (maxL := 3) (by decide) rfl (Nat.le_of_ble_eq_true rfl) hD ?_
  intro p e s m args below meth c Q hx hb hml hts hown hK hN hZ hP hS hret ls hl
  have hown : s.vm.findClass RX7 = some m.cls := hown
  have hl : lv_has ls 3 [(0, .ref (a 0)), (1, .int (nI (n)))] := hl
  obtain ⟨locs, elocs⟩ : ∃ q : List Loc, q = [] := ⟨_, rfl⟩
  rw [← elocs] at hS ⊢
  obtain ⟨H, eH⟩ : ∃ q : Heap, q = s.heap := ⟨_, rfl⟩
  have hP : va_P D vwCl G0 H := eH ▸ hP
  have hS : va_S A s.heap H locs := by rw [eH]; exact hS
  rw [← eH]
  clear elocs eH
  have hiX4 : ∀ w ∈ u_ws RX4 TX4 6, w ∈ wsX7_print := by decide +kernel
  have hiX7 : ∀ w ∈ u_ws RX7 TX7 8, w ∈ wsX7_print := by decide +kernel
  have hk : ∀ k, k ∉ [4, 5, 6, 7, 8, 9] → G0[k]? = G0[k]? := fun _ _ => rfl
  refine lv_iload_n (pc := 0) hx hb dX7_print_0 rfl (lv_at hl 1 rfl) ?_
  refine lv_iconst (v := nI (1)) (pc := 1) hx hb dX7_print_1 (by decide) ?_
  refine lv_sipush (v := nI (200)) (pc := 2) hx hb dX7_print_2 (by decide) ?_
  refine mx_cSi (As := [.int (nI (n)), .int (nI (1)), .int (nI (200))]) (rest := []) (pc := 5) ⟨hx, hb, hml, hown, hts⟩ (k_X7_within (a := a) (v := nI (n)) (lo := nI (1)) (hi := nI (200)) hD  ) (va_cwS 3 hts gX7_print_X7_within rfl rfl rfl (by decide +kernel) ⟨Nat.le_of_ble_eq_true rfl, Nat.le_of_ble_eq_true rfl⟩) hK hN hZ hP hS rfl hl.1 rfl (Nat.le_of_ble_eq_true rfl) dX7_print_5 ⟨Nat.zero_le _, Nat.zero_le _⟩ (fun G' H locs hP hD hS hB => ?_)
  rw [hB] at hP hD
  clear hB G'
  refine mx_bne (tgt := 14) (pc := 8) hx hb dX7_print_8 (by decide) (fun c8 => ?_) (fun c8 => absurd (c8.symm.trans h1) (by decide))
  refine lv_aload_n (pc := 14) hx hb dX7_print_14 rfl (lv_at hl 0 rfl) ?_
  refine va_get (ci := 7) (C := RX7) (T := TX7) (N := 8) (pc := 15) hx hb hts hiX7 hown hK hP 0 w0 rfl 3 (by decide) (hts (.fieldLink RX7 33 "InkPress" "sheets" "LInkPress$SheetLog;") (by decide +kernel)) (fun _ h9 => h9) rfl dX7_print_15 ?_
  refine va_getN (own := RX7) (host := "InkPress") (ci := 4) (C := RX4) (T := TX4) (N := 6) (pc := 18) hx hb hts hiX4 hown hK hP 7 w7 rfl 2 (by decide) (va_Nw.use rfl (hN (.fieldLinkNest "InkPress" 105 "InkPress$SheetLog" "count" "I" "InkPress") (by decide +kernel))) (fun _ h9 => h9) rfl dX7_print_18 ?_
  refine lv_iload_n (pc := 21) hx hb dX7_print_21 rfl (lv_at hl 1 rfl) ?_
  refine mx_iadd (pc := 22) hx hb dX7_print_22 ?_
  refine lv_sipush (v := nI (1000)) (pc := 23) hx hb dX7_print_23 (by decide) ?_
  refine mx_cle (tgt := 32) (pc := 26) hx hb (by omega) (by omega) dX7_print_26 (by decide) (fun c26 => ?_) (fun c26 => absurd c26 (by omega))
  refine lv_iconst (v := nI (0)) (pc := 32) hx hb dX7_print_32 (by decide) ?_
  refine lv_istore_n (lv' := [(2, .int (nI (0))), (0, .ref (a 0)), (1, .int (nI (n)))]) (pc := 33) hx hb dX7_print_33 rfl hl (by decide) rfl (fun ls hl => ?_)
  have LP : ∀ (k : Nat) (i : Nat) (u : (Nat → Int32) × (Nat → Int32) × (Nat → Int32) × (Nat → Bool) × Nat × Int32 × Int32 × Int32 × Int32 × Int32 × Int32), i + k = n → u.2.2.2.2.1 + k ≤ 1000 → ∀ (G : va_W) (H : Heap) (locs : List Loc) (ls : Array Slot), va_P D vwCl G H → va_D A G → va_S A s.heap H locs → (∀ j, j ∉ [4, 5, 6, 7, 8, 9] → G[j]? = G0[j]?) → G[0]? = some (a 0, .inr (7, [.ref (a 1), .ref (a 3), .ref (a 5), .ref (a 7), .ref (a 10), .ref (a 11), .ref (a 16), .int (gB (st))])) → G[1]? = some (a 1, .inr (3, [.ref (a 2)])) → G[2]? = some (a 2, .inl (cI, 9, .inl (ru))) → G[3]? = some (a 3, .inr (6, [.ref (a 4), .int (nI (zn))])) → G[4]? = some (a 4, .inl (cI, 24, .inl (u.1))) → G[5]? = some (a 5, .inr (5, [.ref (a 6), .int (nI (zn)), .int (nI (tr)), .int (u.2.2.2.2.2.1), .int (u.2.2.2.2.2.2.1), .int (u.2.2.2.2.2.2.2.1)])) → G[6]? = some (a 6, .inl (cI, 40, .inl (u.2.1))) → G[7]? = some (a 7, .inr (4, [.ref (a 8), .ref (a 9), .int (nI (u.2.2.2.2.1)), .int (u.2.2.2.2.2.2.2.2.1), .int (u.2.2.2.2.2.2.2.2.2.1), .int (u.2.2.2.2.2.2.2.2.2.2)])) → G[8]? = some (a 8, .inl (cI, 8000, .inl (u.2.2.1))) → G[9]? = some (a 9, .inl (cZ, 1000, .inl (fun j => gB ((u.2.2.2.1) j)))) → lv_has ls 3 [(0, .ref (a 0)), (1, .int (nI (n))), (2, .int (nI (i)))] → (∀ (G : va_W) (H : Heap) (locs : List Loc) (ls : Array Slot), va_P D vwCl G H → va_D A G → va_S A s.heap H locs → (∀ j, j ∉ [4, 5, 6, 7, 8, 9] → G[j]? = G0[j]?) → G[0]? = some (a 0, .inr (7, [.ref (a 1), .ref (a 3), .ref (a 5), .ref (a 7), .ref (a 10), .ref (a 11), .ref (a 16), .int (gB (st))])) → G[1]? = some (a 1, .inr (3, [.ref (a 2)])) → G[2]? = some (a 2, .inl (cI, 9, .inl (ru))) → G[3]? = some (a 3, .inr (6, [.ref (a 4), .int (nI (zn))])) → G[4]? = some (a 4, .inl (cI, 24, .inl ((gRun ru zn tr st k u).1))) → G[5]? = some (a 5, .inr (5, [.ref (a 6), .int (nI (zn)), .int (nI (tr)), .int ((gRun ru zn tr st k u).2.2.2.2.2.1), .int ((gRun ru zn tr st k u).2.2.2.2.2.2.1), .int ((gRun ru zn tr st k u).2.2.2.2.2.2.2.1)])) → G[6]? = some (a 6, .inl (cI, 40, .inl ((gRun ru zn tr st k u).2.1))) → G[7]? = some (a 7, .inr (4, [.ref (a 8), .ref (a 9), .int (nI ((gRun ru zn tr st k u).2.2.2.2.1)), .int ((gRun ru zn tr st k u).2.2.2.2.2.2.2.2.1), .int ((gRun ru zn tr st k u).2.2.2.2.2.2.2.2.2.1), .int ((gRun ru zn tr st k u).2.2.2.2.2.2.2.2.2.2)])) → G[8]? = some (a 8, .inl (cI, 8000, .inl ((gRun ru zn tr st k u).2.2.1))) → G[9]? = some (a 9, .inl (cZ, 1000, .inl (fun j => gB (((gRun ru zn tr st k u).2.2.2.1) j)))) → lv_has ls 3 [(0, .ref (a 0))] → W p l e ({ frames := 3, cells := 0, slots := 0, locals := 72 } : Room) s m args below meth c H locs 0 0 Q (F0 m 67 ls [])) → W p l e ({ frames := 3, cells := 0, slots := 0, locals := 72 } : Room) s m args below meth c H locs 0 0 Q (F0 m 34 ls []) := by
    intro k
    induction k with
    | zero =>
      intro i u hi hs G H locs ls hP hD hS hk w0 w1 w2 w3 w4 w5 w6 w7 w8 w9 hl hcont
      refine lv_iload_n (pc := 34) hx hb dX7_print_34 rfl (lv_at hl 2 rfl) ?_
      refine lv_iload_n (pc := 35) hx hb dX7_print_35 rfl (lv_at hl 1 rfl) ?_
      refine mx_cge (tgt := 67) (pc := 36) hx hb (by omega) (by omega) dX7_print_36 (by decide) (fun c36 => ?_) (fun c36 => absurd c36 (by omega))
      exact hcont G H locs ls hP hD hS hk w0 w1 w2 w3 w4 w5 w6 w7 w8 w9 (lv_sub hl [0] rfl)
    | succ k ih =>
      intro i u hi hs G H locs ls hP hD hS hk w0 w1 w2 w3 w4 w5 w6 w7 w8 w9 hl hcont
      refine lv_iload_n (pc := 34) hx hb dX7_print_34 rfl (lv_at hl 2 rfl) ?_
      refine lv_iload_n (pc := 35) hx hb dX7_print_35 rfl (lv_at hl 1 rfl) ?_
      refine mx_cge (tgt := 67) (pc := 36) hx hb (by omega) (by omega) dX7_print_36 (by decide) (fun c36 => absurd c36 (by omega)) (fun c36 => ?_)
      refine lv_aload_n (pc := 39) hx hb dX7_print_39 rfl (lv_at hl 0 rfl) ?_
      refine mx_cVv (As := []) (rest := []) (pc := 40) ⟨hx, hb, hml, hown, hts⟩ (k_X7_printSheet (a := a) (st := st) (ru := ru) (zv := u.1) (zn := zn) (ink := u.2.1) (tr := tr) (fed := u.2.2.2.2.2.1) (pap := u.2.2.2.2.2.2.1) (bar := u.2.2.2.2.2.2.2.1) (den := u.2.2.1) (go := u.2.2.2.1) (sc := u.2.2.2.2.1) (sg := u.2.2.2.2.2.2.2.2.1) (sr := u.2.2.2.2.2.2.2.2.2.1) (ss := u.2.2.2.2.2.2.2.2.2.2) hD w0 w1 w2 w3 w4 w5 w6 w7 w8 w9 (by omega) (by omega) (by omega) (by omega) (by omega)) (cwV 0 hts gX7_print_X7_printSheet rfl rfl rfl (by decide +kernel) ⟨Nat.le_of_ble_eq_true rfl, Nat.le_of_ble_eq_true rfl⟩) 0 rfl rfl w0 hK hN hZ hP hS rfl hl.1 rfl (Nat.le_of_ble_eq_true rfl) dX7_print_40 ⟨Nat.zero_le _, Nat.zero_le _⟩ (fun G H locs hP hD hS hB => ?_)
      obtain ⟨w5, w6, w7, w8, w9, ho⟩ := hB
      have w0 := (ho 0 (by decide)).trans w0
      have w1 := (ho 1 (by decide)).trans w1
      have w2 := (ho 2 (by decide)).trans w2
      have w3 := (ho 3 (by decide)).trans w3
      have w4 := (ho 4 (by decide)).trans w4
      have w5 : G[5]? = some (a 5, .inr (5, [.ref (a 6), .int (nI ((zn))), .int (nI ((tr))), .int (gFf (gKe (u.1)) ((ru) 0) (zn) 0 (u.2.2.2.2.2.1)), .int (gTp (tr) ((ru) 3) (gCo (u.1)) (zn) 0 (gInk3 (ru) (u.1) (zn) (tr) (u.2.1)) (u.2.2.2.2.2.2.1)), .int (gTb (tr) ((ru) 3) (gCo (u.1)) (zn) 0 (gInk3 (ru) (u.1) (zn) (tr) (u.2.1)) (u.2.2.2.2.2.2.2.1))])) := w5
      have w6 : G[6]? = some (a 6, .inl (cI, 40, .inl (gTi (tr) ((ru) 3) (gCo (u.1)) (zn) 0 (gInk3 (ru) (u.1) (zn) (tr) (u.2.1))))) := w6
      have w7 : G[7]? = some (a 7, .inr (4, [.ref (a 8), .ref (a 9), .int (nI ((u.2.2.2.2.1) + 1)), .int (gJg (gTg (tr) ((ru) 3) (gCo (u.1)) (gTt (u.1)) ((ru) 6) (zn) 0 (gInk3 (ru) (u.1) (zn) (tr) (u.2.1)) true) (u.2.2.2.2.2.2.2.2.1)), .int (gJr (gTg (tr) ((ru) 3) (gCo (u.1)) (gTt (u.1)) ((ru) 6) (zn) 0 (gInk3 (ru) (u.1) (zn) (tr) (u.2.1)) true) (u.2.2.2.2.2.2.2.2.2.1)), .int (gJs (gJr (gTg (tr) ((ru) 3) (gCo (u.1)) (gTt (u.1)) ((ru) 6) (zn) 0 (gInk3 (ru) (u.1) (zn) (tr) (u.2.1)) true) (u.2.2.2.2.2.2.2.2.2.1)) ((ru) 8) (nI ((u.2.2.2.2.1) + 1)) (u.2.2.2.2.2.2.2.2.2.2))])) := w7
      have w8 : G[8]? = some (a 8, .inl (cI, 8000, .inl (gTd (tr) ((ru) 3) (gCo (u.1)) (((u.2.2.2.2.1) + 1 - 1) * 8) (zn) 0 (gInk3 (ru) (u.1) (zn) (tr) (u.2.1)) (u.2.2.1)))) := w8
      have w9 : G[9]? = some (a 9, .inl (cZ, 1000, .inl (fun j => gB ((vf_upd (u.2.2.2.1) ((u.2.2.2.2.1) + 1 - 1) (gTg (tr) ((ru) 3) (gCo (u.1)) (gTt (u.1)) ((ru) 6) (zn) 0 (gInk3 (ru) (u.1) (zn) (tr) (u.2.1)) true)) j)))) := w9
      have hk := gk_call hk ho (by decide)
      clear ho
      refine lv_aload_n (pc := 43) hx hb dX7_print_43 rfl (lv_at hl 0 rfl) ?_
      refine va_get (ci := 7) (C := RX7) (T := TX7) (N := 8) (pc := 44) hx hb hts hiX7 hown hK hP 0 w0 rfl 7 (by decide) (hts (.fieldLink RX7 58 "InkPress" "steering" "Z") (by decide +kernel)) (fun _ h9 => h9) rfl dX7_print_44 ?_
      refine mx_beq (tgt := 61) (pc := 47) hx hb dX7_print_47 (by decide) (fun c47 => ?_) (fun c47 => ?_)
      · skip
        refine lv_iinc (v := nI (i + 1)) (lv' := [(2, .int (nI (i + 1))), (0, .ref (a 0)), (1, .int (nI (n)))]) (pc := 61) hx hb dX7_print_61 hl (k := 2) rfl (mx_inc1 _) (by decide) rfl (fun ls hl => ?_)
        refine lv_goto (tgt := 34) (pc := 64) hx hb dX7_print_64 (by decide) ?_
        rw [gRun_0 c47] at hcont
        exact ih (i + 1) (gSh ru zn tr u) (by omega) (show u.2.2.2.2.1 + 1 + k ≤ 1000 by omega) G H locs ls hP hD hS hk w0 w1 w2 w3 w4 w5 w6 w7 w8 w9 (lv_sub hl [1, 2, 0] rfl) hcont
      · skip
        refine lv_aload_n (pc := 50) hx hb dX7_print_50 rfl (lv_at hl 0 rfl) ?_
        refine mx_cVi (As := []) (rest := []) (pc := 51) ⟨hx, hb, hml, hown, hts⟩ (k_X7_isSteeringDue (a := a) (st := st) (ru := ru) (den := gTd (tr) ((ru) 3) (gCo (u.1)) (((u.2.2.2.2.1) + 1 - 1) * 8) (zn) 0 (gInk3 (ru) (u.1) (zn) (tr) (u.2.1)) (u.2.2.1)) (go := vf_upd (u.2.2.2.1) ((u.2.2.2.2.1) + 1 - 1) (gTg (tr) ((ru) 3) (gCo (u.1)) (gTt (u.1)) ((ru) 6) (zn) 0 (gInk3 (ru) (u.1) (zn) (tr) (u.2.1)) true)) (sc := (u.2.2.2.2.1) + 1) (sg := gJg (gTg (tr) ((ru) 3) (gCo (u.1)) (gTt (u.1)) ((ru) 6) (zn) 0 (gInk3 (ru) (u.1) (zn) (tr) (u.2.1)) true) (u.2.2.2.2.2.2.2.2.1)) (sr := gJr (gTg (tr) ((ru) 3) (gCo (u.1)) (gTt (u.1)) ((ru) 6) (zn) 0 (gInk3 (ru) (u.1) (zn) (tr) (u.2.1)) true) (u.2.2.2.2.2.2.2.2.2.1)) (ss := gJs (gJr (gTg (tr) ((ru) 3) (gCo (u.1)) (gTt (u.1)) ((ru) 6) (zn) 0 (gInk3 (ru) (u.1) (zn) (tr) (u.2.1)) true) (u.2.2.2.2.2.2.2.2.2.1)) ((ru) 8) (nI ((u.2.2.2.2.1) + 1)) (u.2.2.2.2.2.2.2.2.2.2)) hD w0 w1 w2 w7 w8 w9 ) (cwV 0 hts gX7_print_X7_isSteeringDue rfl rfl rfl (by decide +kernel) ⟨Nat.le_of_ble_eq_true rfl, Nat.le_of_ble_eq_true rfl⟩) 0 rfl rfl w0 hK hN hZ hP hS rfl hl.1 rfl (Nat.le_of_ble_eq_true rfl) dX7_print_51 ⟨Nat.zero_le _, Nat.zero_le _⟩ (fun G' H locs hP hD hS hB => ?_)
        rw [hB] at hP hD
        clear hB G'
        refine mx_beq (tgt := 61) (pc := 54) hx hb dX7_print_54 (by decide) (fun c54 => ?_) (fun c54 => ?_)
        · skip
          refine lv_iinc (v := nI (i + 1)) (lv' := [(2, .int (nI (i + 1))), (0, .ref (a 0)), (1, .int (nI (n)))]) (pc := 61) hx hb dX7_print_61 hl (k := 2) rfl (mx_inc1 _) (by decide) rfl (fun ls hl => ?_)
          refine lv_goto (tgt := 34) (pc := 64) hx hb dX7_print_64 (by decide) ?_
          rw [gRun_1 c47 c54] at hcont
          exact ih (i + 1) (gSh ru zn tr u) (by omega) (show u.2.2.2.2.1 + 1 + k ≤ 1000 by omega) G H locs ls hP hD hS hk w0 w1 w2 w3 w4 w5 w6 w7 w8 w9 (lv_sub hl [1, 2, 0] rfl) hcont
        · skip
          refine lv_aload_n (pc := 57) hx hb dX7_print_57 rfl (lv_at hl 0 rfl) ?_
          refine mx_cVv (As := []) (rest := []) (pc := 58) ⟨hx, hb, hml, hown, hts⟩ (k_X7_steerKeys (a := a) (st := st) (ru := ru) (zv := u.1) (zn := zn) (den := gTd (tr) ((ru) 3) (gCo (u.1)) (((u.2.2.2.2.1) + 1 - 1) * 8) (zn) 0 (gInk3 (ru) (u.1) (zn) (tr) (u.2.1)) (u.2.2.1)) (go := vf_upd (u.2.2.2.1) ((u.2.2.2.2.1) + 1 - 1) (gTg (tr) ((ru) 3) (gCo (u.1)) (gTt (u.1)) ((ru) 6) (zn) 0 (gInk3 (ru) (u.1) (zn) (tr) (u.2.1)) true)) (sc := (u.2.2.2.2.1) + 1) (sg := gJg (gTg (tr) ((ru) 3) (gCo (u.1)) (gTt (u.1)) ((ru) 6) (zn) 0 (gInk3 (ru) (u.1) (zn) (tr) (u.2.1)) true) (u.2.2.2.2.2.2.2.2.1)) (sr := gJr (gTg (tr) ((ru) 3) (gCo (u.1)) (gTt (u.1)) ((ru) 6) (zn) 0 (gInk3 (ru) (u.1) (zn) (tr) (u.2.1)) true) (u.2.2.2.2.2.2.2.2.2.1)) (ss := gJs (gJr (gTg (tr) ((ru) 3) (gCo (u.1)) (gTt (u.1)) ((ru) 6) (zn) 0 (gInk3 (ru) (u.1) (zn) (tr) (u.2.1)) true) (u.2.2.2.2.2.2.2.2.2.1)) ((ru) 8) (nI ((u.2.2.2.2.1) + 1)) (u.2.2.2.2.2.2.2.2.2.2)) hD w0 w1 w2 w3 w4 w7 w8 w9 (by omega) (by omega)) (cwV 0 hts gX7_print_X7_steerKeys rfl rfl rfl (by decide +kernel) ⟨Nat.le_of_ble_eq_true rfl, Nat.le_of_ble_eq_true rfl⟩) 0 rfl rfl w0 hK hN hZ hP hS rfl hl.1 rfl (Nat.le_of_ble_eq_true rfl) dX7_print_58 ⟨Nat.zero_le _, Nat.zero_le _⟩ (fun G H locs hP hD hS hB => ?_)
          obtain ⟨w4, ho⟩ := hB
          have w0 := (ho 0 (by decide)).trans w0
          have w1 := (ho 1 (by decide)).trans w1
          have w2 := (ho 2 (by decide)).trans w2
          have w3 := (ho 3 (by decide)).trans w3
          have w4 : G[4]? = some (a 4, .inl (cI, 24, .inl (gSk (ru) ((u.2.2.2.2.1) + 1) (gTd (tr) ((ru) 3) (gCo (u.1)) (((u.2.2.2.2.1) + 1 - 1) * 8) (zn) 0 (gInk3 (ru) (u.1) (zn) (tr) (u.2.1)) (u.2.2.1)) (zn) 0 (u.1)))) := w4
          have w5 := (ho 5 (by decide)).trans w5
          have w6 := (ho 6 (by decide)).trans w6
          have w7 := (ho 7 (by decide)).trans w7
          have w8 := (ho 8 (by decide)).trans w8
          have w9 := (ho 9 (by decide)).trans w9
          have hk := gk_call hk ho (by decide)
          clear ho
          refine lv_iinc (v := nI (i + 1)) (lv' := [(2, .int (nI (i + 1))), (0, .ref (a 0)), (1, .int (nI (n)))]) (pc := 61) hx hb dX7_print_61 hl (k := 2) rfl (mx_inc1 _) (by decide) rfl (fun ls hl => ?_)
          refine lv_goto (tgt := 34) (pc := 64) hx hb dX7_print_64 (by decide) ?_
          rw [gRun_2 c47 c54] at hcont
          exact ih (i + 1) (gSt ru zn (gSh ru zn tr u)) (by omega) (show u.2.2.2.2.1 + 1 + k ≤ 1000 by omega) G H locs ls hP hD hS hk w0 w1 w2 w3 w4 w5 w6 w7 w8 w9 (lv_sub hl [1, 2, 0] rfl) hcont
  refine LP n (0) ((zv, ink, den, go, sc, fed, pap, bar, sg, sr, ss)) (by omega) (by omega) G0 H locs ls hP hD hS hk w0 w1 w2 w3 w4 w5 w6 w7 w8 w9 (lv_sub hl [1, 2, 0] rfl) (fun G H locs ls hP hD hS hk w0 w1 w2 w3 w4 w5 w6 w7 w8 w9 hl => ?_)
  have w4 : G[4]? = some (a 4, .inl (cI, 24, .inl ((gRun ru zn tr st (n) ((zv, ink, den, go, sc, fed, pap, bar, sg, sr, ss))).1))) := w4
  have w5 : G[5]? = some (a 5, .inr (5, [.ref (a 6), .int (nI (zn)), .int (nI (tr)), .int ((gRun ru zn tr st (n) ((zv, ink, den, go, sc, fed, pap, bar, sg, sr, ss))).2.2.2.2.2.1), .int ((gRun ru zn tr st (n) ((zv, ink, den, go, sc, fed, pap, bar, sg, sr, ss))).2.2.2.2.2.2.1), .int ((gRun ru zn tr st (n) ((zv, ink, den, go, sc, fed, pap, bar, sg, sr, ss))).2.2.2.2.2.2.2.1)])) := w5
  have w6 : G[6]? = some (a 6, .inl (cI, 40, .inl ((gRun ru zn tr st (n) ((zv, ink, den, go, sc, fed, pap, bar, sg, sr, ss))).2.1))) := w6
  have w7 : G[7]? = some (a 7, .inr (4, [.ref (a 8), .ref (a 9), .int (nI ((gRun ru zn tr st (n) ((zv, ink, den, go, sc, fed, pap, bar, sg, sr, ss))).2.2.2.2.1)), .int ((gRun ru zn tr st (n) ((zv, ink, den, go, sc, fed, pap, bar, sg, sr, ss))).2.2.2.2.2.2.2.2.1), .int ((gRun ru zn tr st (n) ((zv, ink, den, go, sc, fed, pap, bar, sg, sr, ss))).2.2.2.2.2.2.2.2.2.1), .int ((gRun ru zn tr st (n) ((zv, ink, den, go, sc, fed, pap, bar, sg, sr, ss))).2.2.2.2.2.2.2.2.2.2)])) := w7
  have w8 : G[8]? = some (a 8, .inl (cI, 8000, .inl ((gRun ru zn tr st (n) ((zv, ink, den, go, sc, fed, pap, bar, sg, sr, ss))).2.2.1))) := w8
  have w9 : G[9]? = some (a 9, .inl (cZ, 1000, .inl (fun j => gB (((gRun ru zn tr st (n) ((zv, ink, den, go, sc, fed, pap, bar, sg, sr, ss))).2.2.2.1) j)))) := w9
  refine lv_aload_n (pc := 67) hx hb dX7_print_67 rfl (lv_at hl 0 rfl) ?_
  refine va_get (ci := 7) (C := RX7) (T := TX7) (N := 8) (pc := 68) hx hb hts hiX7 hown hK hP 0 w0 rfl 3 (by decide) (hts (.fieldLink RX7 33 "InkPress" "sheets" "LInkPress$SheetLog;") (by decide +kernel)) (fun _ h9 => h9) rfl dX7_print_68 ?_
  refine va_getN (own := RX7) (host := "InkPress") (ci := 4) (C := RX4) (T := TX4) (N := 6) (pc := 71) hx hb hts hiX4 hown hK hP 7 w7 rfl 2 (by decide) (va_Nw.use rfl (hN (.fieldLinkNest "InkPress" 105 "InkPress$SheetLog" "count" "I" "InkPress") (by decide +kernel))) (fun _ h9 => h9) rfl dX7_print_71 ?_
  exact hret _ _ _ _ _ _ hP hD hS rfl ⟨w4, w5, w6, w7, w8, w9, hk⟩ dX7_print_74
