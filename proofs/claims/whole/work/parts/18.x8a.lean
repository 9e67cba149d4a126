/-! the reference: its small methods -/
def gIn (v lo hi : Int64) : Bool := decide (lo ≤ v) && decide (v ≤ hi)
theorem gIn_lt {v lo hi : Int64} (h : v < lo) : nI 0 = gB (gIn v lo hi) := by
  have : ¬ lo ≤ v := Int64.not_le.mpr h
  simp [gIn, gB, this]; rfl
theorem gIn_gt {v lo hi : Int64} (h : hi < v) : nI 0 = gB (gIn v lo hi) := by
  have : ¬ v ≤ hi := Int64.not_le.mpr h
  simp [gIn, gB, this]; rfl
theorem gIn_in {v lo hi : Int64} (h1 : ¬ v < lo) (h2 : ¬ hi < v) : nI 1 = gB (gIn v lo hi) := by
  have h1 : lo ≤ v := Int64.not_lt.mp h1
  have h2 : v ≤ hi := Int64.not_lt.mp h2
  simp [gIn, gB, h1, h2]; rfl
theorem gLe64 (a b : Int32) : a.toInt64 ≤ b.toInt64 ↔ a ≤ b := by
  rw [Int64.le_iff_toInt_le, Int32.toInt_toInt64, Int32.toInt_toInt64, ← Int32.le_iff_toInt_le]
theorem gIn_w {x a b : Int32} {lo hi : Int64} (h1 : a.toInt64 = lo) (h2 : b.toInt64 = hi) : gIn x.toInt64 lo hi = gWi x a b := by
  subst h1
  subst h2
  unfold gIn gWi
  simp only [gLe64]
theorem gWi_has {x : Int32} (n : Nat) (hn : n + 1 < 2 ^ 31) : gWi x (nI 0) (nI n) = gHas x (nI (n + 1)) := by
  unfold gWi gHas
  have e : decide (x ≤ nI n) = decide (x < nI (n + 1)) := by
    apply decide_eq_decide.mpr
    rw [Int32.le_iff_toInt_le, Int32.lt_iff_toInt_lt, nI_toInt (by omega), nI_toInt hn]
    omega
  rw [e]
  rfl
theorem gIn_has {x : Int32} {n : Nat} (h1 : 1 ≤ n) (hn : n < 2 ^ 31) : gIn x.toInt64 0 (nI (n - 1)).toInt64 = gHas x (nI n) := by
  rw [gIn_w (a := nI 0) (b := nI (n - 1)) (by decide) rfl, gWi_has (n - 1) (by omega), show n - 1 + 1 = n by omega]
def gFil (v : Int32) : Nat → Nat → (Nat → Int32) → Nat → Int32
  | 0, _, f => f
  | k + 1, i, f => gFil v k (i + 1) (upd f i v)
def gSel (k z : Nat) (ke cv tg : Nat → Int32) : Int32 := match k with
  | 0 => ke z
  | 1 => cv z
  | _ => tg z
def gSet (k j z : Nat) (v : Int32) (f : Nat → Int32) : Nat → Int32 := if k = j then upd f z v else f
def gMLd (n z : Nat) (den : Nat → Int32) : Int32 := if n = 0 then nI 0 else den (8 * (n - 1) + z)
theorem gMLd_0 {n z : Nat} {den : Nat → Int32} (h : n = 0) : gMLd n z den = nI 0 := if_pos h
theorem gMLd_1 {n z : Nat} {den : Nat → Int32} (h : n ≠ 0) : gMLd n z den = den (8 * (n - 1) + z) := if_neg h
/-- the sum, as longs, of k of f from place i on -/
def gPs (f : Nat → Int32) : Nat → Nat → Int64 → Int64
  | 0, _, acc => acc
  | k + 1, i, acc => gPs f k (i + 1) (acc + (f i).toInt64)
def gMcl (v : Int64) : Int32 := if v < 0 then nI 0 else if 100 < v then nI 100 else v.toInt32
theorem gMcl_0 {v : Int64} (h : v < 0) : nI 0 = gMcl v := (if_pos h).symm
theorem gMcl_1 {v : Int64} (h : 0 ≤ v) (h2 : 100 < v) : nI 100 = gMcl v := ((if_neg (Int64.not_lt.mpr h)).trans (if_pos h2)).symm
theorem gMcl_2 {v : Int64} (h : 0 ≤ v) (h2 : v ≤ 100) : v.toInt32 = gMcl v := ((if_neg (Int64.not_lt.mpr h)).trans (if_neg (Int64.not_lt.mpr h2))).symm
def gMkey (pn : Nat) (X Y XX XY : Int64) (c : Int32) : Int32 :=
  gMcl (if (nI pn).toInt64 * XX - X * X = 0 then Y / (nI pn).toInt64 else (Y * XX - X * XY + c.toInt64 * ((nI pn).toInt64 * XY - X * Y)) / ((nI pn).toInt64 * XX - X * X))
theorem gMkey_n {pn : Nat} {X Y XX XY : Int64} {c : Int32} (h : ¬ (nI pn).toInt64 * XX - X * X = 0) : gMkey pn X Y XX XY c = gMcl ((Y * XX - X * XY + c.toInt64 * ((nI pn).toInt64 * XY - X * Y)) / ((nI pn).toInt64 * XX - X * X)) := congrArg gMcl (if_neg h)
theorem gMkey_z {pn : Nat} {X Y XX XY : Int64} {c : Int32} (h : (nI pn).toInt64 * XX - X * X = 0) : gMkey pn X Y XX XY c = gMcl (Y / (nI pn).toInt64) := congrArg gMcl (if_pos h)
def gMQz (ky : Int32 → Int32) (cv : Nat → Int32) : Nat → Nat → (Nat → Int32) → Nat → Int32
  | 0, _, ke => ke
  | k + 1, z, ke => gMQz ky cv k (z + 1) (upd ke z (ky (cv z)))
def gMQo (ky : Int32 → Int32) (cv : Nat → Int32) : Nat → Nat → (Nat → Int32) → Nat → Nat
  | 0, _, _, ot => ot
  | k + 1, z, ke, ot => gMQo ky cv k (z + 1) (upd ke z (ky (cv z))) (ot + (if ky (cv z) = ke z then 0 else 1))
theorem gMQo_e {ky : Int32 → Int32} {cv : Nat → Int32} {k z ot : Nat} {ke : Nat → Int32} (h : ky (cv z) = ke z) : gMQo ky cv (k + 1) z ke ot = gMQo ky cv k (z + 1) (upd ke z (ky (cv z))) (ot + 0) := by
  show gMQo ky cv k (z + 1) _ (ot + (if _ then 0 else 1)) = _
  rw [if_pos h]
theorem gMQo_n {ky : Int32 → Int32} {cv : Nat → Int32} {k z ot : Nat} {ke : Nat → Int32} (h : ¬ ky (cv z) = ke z) : gMQo ky cv (k + 1) z ke ot = gMQo ky cv k (z + 1) (upd ke z (ky (cv z))) (ot + 1) := by
  show gMQo ky cv k (z + 1) _ (ot + (if _ then 0 else 1)) = _
  rw [if_neg h]
set_option maxHeartbeats 4000000 in
set_option maxRecDepth 100000 in
theorem k_X8_in {l : Launch} {D : va_G} {cI cZ : ClassId} {A : Nat → Prop} {g a : Nat → Nat} {G0 : va_W} {v : Int64} {lo : Int64} {hi : Int64} (hD : va_D A G0) : gMi l D cI cZ A g yX8_in wsX8_in ({ frames := 0, cells := 0, slots := 0, locals := 0 }) [.long (v), .long (lo), .long (hi)] G0 (gB (gIn v lo hi)) (fun G1 => G1 = G0) := by
  refine gof_z (cc := cX8_in) (maxL := 6) (by decide) rfl (Nat.le_of_ble_eq_true rfl) hD ?_
  intro p e s m args below meth c Q hx hb hml hts hown hK hN hZ hP hS hret ls hl
  have hown : s.vm.findClass RX8 = some m.cls := hown
  have hl : lv_has ls 6 [(0, .long (v)), (2, .long (lo)), (4, .long (hi))] := hl
  obtain ⟨locs, elocs⟩ : ∃ q : List Loc, q = [] := ⟨_, rfl⟩
  rw [← elocs] at hS ⊢
  obtain ⟨H, eH⟩ : ∃ q : Heap, q = s.heap := ⟨_, rfl⟩
  have hP : va_P D vwCl G0 H := eH ▸ hP
  have hS : va_S A s.heap H locs := by rw [eH]; exact hS
  rw [← eH]
  clear elocs eH
  have hk : ∀ k, k ∉ ([] : List Nat) → G0[k]? = G0[k]? := fun _ _ => rfl
  refine lv_lload_n (pc := 0) hx hb dX8_in_0 rfl (lv_at hl 0 rfl) ?_
  refine lv_lload_n (pc := 1) hx hb dX8_in_1 rfl (lv_at hl 1 rfl) ?_
  refine W.lcmp (pc := 2) hx hb dX8_in_2 ?_
  refine lv_if_lt (tgt := 17) (pc := 3) hx hb dX8_in_3 (by decide) (fun c3 => ?_) (fun c3 => ?_)
  · skip
    have c3 := lg_lt.mp c3
    refine lv_iconst (v := nI (0)) (pc := 17) hx hb dX8_in_17 (by decide) ?_
    exact hret _ _ _ _ _ _ hP hD hS rfl (gIn_lt c3) rfl dX8_in_18
  · skip
    have c3 := fun z => c3 (lg_lt.mpr z)
    refine lv_lload_n (pc := 6) hx hb dX8_in_6 rfl (lv_at hl 0 rfl) ?_
    refine lv_lload (pc := 7) hx hb dX8_in_7 (lv_at hl 2 rfl) ?_
    refine W.lcmp (pc := 9) hx hb dX8_in_9 ?_
    refine lv_if_gt (tgt := 17) (pc := 10) hx hb dX8_in_10 (by decide) (fun c10 => ?_) (fun c10 => ?_)
    · skip
      have c10 := lg_gt.mp c10
      refine lv_iconst (v := nI (0)) (pc := 17) hx hb dX8_in_17 (by decide) ?_
      exact hret _ _ _ _ _ _ hP hD hS rfl (gIn_gt c10) rfl dX8_in_18
    · skip
      have c10 := fun z => c10 (lg_gt.mpr z)
      refine lv_iconst (v := nI (1)) (pc := 13) hx hb dX8_in_13 (by decide) ?_
      refine lv_goto (tgt := 18) (pc := 14) hx hb dX8_in_14 (by decide) ?_
      exact hret _ _ _ _ _ _ hP hD hS rfl (gIn_in c3 c10) rfl dX8_in_18
set_option maxHeartbeats 4000000 in
set_option maxRecDepth 100000 in
theorem k_X8_isZone {l : Launch} {D : va_G} {cI cZ : ClassId} {A : Nat → Prop} {g a : Nat → Nat} {G0 : va_W} {zn : Nat} {tr : Nat} {sc : Nat} {pn : Nat} {mn : Nat} {jn : Nat} {sg : Int32} {sr : Int32} {ss : Int32} {fed : Int32} {pap : Int32} {bar : Int32} {st : Bool} {q1 : Int64} {q2 : Int64} {q3 : Int64} {q4 : Int64} {q5 : Int64} {x : Int32} (hD : va_D A G0) (w22 : G0[22]? = some (a 22, .inr (8, [.int (nI (zn)), .int (nI (tr)), .ref (a 23), .ref (a 24), .ref (a 25), .ref (a 26), .ref (a 27), .ref (a 28), .ref (a 29), .int (nI (sc)), .int (sg), .int (sr), .int (ss), .int (fed), .int (pap), .int (bar), .int (gB (st)), .ref (a 30), .ref (a 31), .ref (a 32), .int (nI (pn)), .ref (a 33), .ref (a 34), .ref (a 35), .ref (a 36), .int (nI (mn)), .long (q1), .long (q2), .long (q3), .long (q4), .long (q5), .ref (a 37), .ref (a 38), .ref (a 39), .int (nI (jn)), .ref (a 40), .ref (a 41)]))) (hz1 : 1 ≤ zn) (hz8 : zn ≤ 8) : gMi l D cI cZ A g yX8_isZone wsX8_isZone ({ frames := 1, cells := 0, slots := 0, locals := 25 }) [.ref (a 22), .int (x)] G0 (gB (gHas x (nI zn))) (fun G1 => G1 = G0) := by
  refine gof_z (cc := cX8_isZone) (maxL := 2) (by decide) rfl (Nat.le_of_ble_eq_true rfl) hD ?_
  intro p e s m args below meth c Q hx hb hml hts hown hK hN hZ hP hS hret ls hl
  have hown : s.vm.findClass RX8 = some m.cls := hown
  have hl : lv_has ls 2 [(0, .ref (a 22)), (1, .int (x))] := hl
  obtain ⟨locs, elocs⟩ : ∃ q : List Loc, q = [] := ⟨_, rfl⟩
  rw [← elocs] at hS ⊢
  obtain ⟨H, eH⟩ : ∃ q : Heap, q = s.heap := ⟨_, rfl⟩
  have hP : va_P D vwCl G0 H := eH ▸ hP
  have hS : va_S A s.heap H locs := by rw [eH]; exact hS
  rw [← eH]
  clear elocs eH
  have hiX8 : ∀ w ∈ u_ws RX8 TX8 37, w ∈ wsX8_isZone := by decide +kernel
  have hk : ∀ k, k ∉ ([] : List Nat) → G0[k]? = G0[k]? := fun _ _ => rfl
  refine lv_iload_n (pc := 0) hx hb dX8_isZone_0 rfl (lv_at hl 1 rfl) ?_
  refine lv_i2l (v := (x).toInt64) (pc := 1) hx hb dX8_isZone_1 rfl ?_
  refine lv_lconst (v := 0) (pc := 2) hx hb dX8_isZone_2 (by decide) ?_
  refine lv_aload_n (pc := 3) hx hb dX8_isZone_3 rfl (lv_at hl 0 rfl) ?_
  refine va_get (ci := 8) (C := RX8) (T := TX8) (N := 37) (pc := 4) hx hb hts hiX8 hown hK hP 22 w22 rfl 0 (by decide) (hts (.fieldLink RX8 7 "InkPressModel" "zones" "I") (by decide +kernel)) (fun _ h9 => h9) rfl dX8_isZone_4 ?_
  refine lv_iconst (v := nI (1)) (pc := 7) hx hb dX8_isZone_7 (by decide) ?_
  refine mx_isub (pc := 8) hx hb hz1 dX8_isZone_8 ?_
  refine lv_i2l (v := (nI ((zn) - (1))).toInt64) (pc := 9) hx hb dX8_isZone_9 rfl ?_
  refine mx_cSi (As := [.long ((x).toInt64), .long (0), .long ((nI ((zn) - (1))).toInt64)]) (rest := []) (pc := 10) ⟨hx, hb, hml, hown, hts⟩ (k_X8_in (a := a) (v := (x).toInt64) (lo := 0) (hi := (nI ((zn) - (1))).toInt64) hD  ) (va_cwS 3 hts gX8_isZone_X8_in rfl rfl rfl (by decide +kernel) ⟨Nat.le_of_ble_eq_true rfl, Nat.le_of_ble_eq_true rfl⟩) hK hN hZ hP hS rfl hl.1 rfl (Nat.le_of_ble_eq_true rfl) dX8_isZone_10 ⟨Nat.zero_le _, Nat.zero_le _⟩ (fun G' H locs hP hD hS hB => ?_)
  rw [hB] at hP hD
  clear hB G'
  exact hret _ _ _ _ _ _ hP hD hS (gB_nar _) (congrArg gB (gIn_has hz1 (by omega))) rfl dX8_isZone_13
set_option maxHeartbeats 4000000 in
set_option maxRecDepth 100000 in
theorem k_X8_begin {l : Launch} {D : va_G} {cI cZ : ClassId} {A : Nat → Prop} {g a : Nat → Nat} {G0 : va_W} {zn : Nat} {tr : Nat} {sc : Nat} {pn : Nat} {mn : Nat} {jn : Nat} {sg : Int32} {sr : Int32} {ss : Int32} {fed : Int32} {pap : Int32} {bar : Int32} {st : Bool} {q1 : Int64} {q2 : Int64} {q3 : Int64} {q4 : Int64} {q5 : Int64} {ke : Nat → Int32} {cv : Nat → Int32} {tg : Nat → Int32} {ink : Nat → Int32} (hD : va_D A G0) (w22 : G0[22]? = some (a 22, .inr (8, [.int (nI (zn)), .int (nI (tr)), .ref (a 23), .ref (a 24), .ref (a 25), .ref (a 26), .ref (a 27), .ref (a 28), .ref (a 29), .int (nI (sc)), .int (sg), .int (sr), .int (ss), .int (fed), .int (pap), .int (bar), .int (gB (st)), .ref (a 30), .ref (a 31), .ref (a 32), .int (nI (pn)), .ref (a 33), .ref (a 34), .ref (a 35), .ref (a 36), .int (nI (mn)), .long (q1), .long (q2), .long (q3), .long (q4), .long (q5), .ref (a 37), .ref (a 38), .ref (a 39), .int (nI (jn)), .ref (a 40), .ref (a 41)]))) (w24 : G0[24]? = some (a 24, .inl (cI, 8, .inl (ke)))) (w25 : G0[25]? = some (a 25, .inl (cI, 8, .inl (cv)))) (w26 : G0[26]? = some (a 26, .inl (cI, 8, .inl (tg)))) (w27 : G0[27]? = some (a 27, .inl (cI, 40, .inl (ink)))) : gMv l D cI cZ A g yX8_begin wsX8_begin ({ frames := 0, cells := 0, slots := 0, locals := 0 }) [.ref (a 22)] G0 (fun G1 => G1[22]? = some (a 22, .inr (8, [.int (nI (zn)), .int (nI (tr)), .ref (a 23), .ref (a 24), .ref (a 25), .ref (a 26), .ref (a 27), .ref (a 28), .ref (a 29), .int (nI (0)), .int (nI (0)), .int (nI (0)), .int ((-6)), .int (nI (0)), .int (nI (0)), .int (nI (0)), .int (gB (false)), .ref (a 30), .ref (a 31), .ref (a 32), .int (nI (pn)), .ref (a 33), .ref (a 34), .ref (a 35), .ref (a 36), .int (nI (mn)), .long (q1), .long (q2), .long (q3), .long (q4), .long (q5), .ref (a 37), .ref (a 38), .ref (a 39), .int (nI (jn)), .ref (a 40), .ref (a 41)])) ∧ G1[24]? = some (a 24, .inl (cI, 8, .inl (gFil (nI 0) 8 0 ke))) ∧ G1[25]? = some (a 25, .inl (cI, 8, .inl (gFil (nI 20) 8 0 cv))) ∧ G1[26]? = some (a 26, .inl (cI, 8, .inl (gFil (nI 100) 8 0 tg))) ∧ G1[27]? = some (a 27, .inl (cI, 40, .inl (gClr 40 0 ink))) ∧ ∀ k, k ∉ [22, 24, 25, 26, 27] → G1[k]? = G0[k]?) := by
  refine gof_v (cc := cX8_begin) (maxL := 2) (by decide) rfl (Nat.le_of_ble_eq_true rfl) hD ?_
  intro p e s m args below meth c Q hx hb hml hts hown hK hN hZ hP hS hret ls hl
  have hown : s.vm.findClass RX8 = some m.cls := hown
  have hl : lv_has ls 2 [(0, .ref (a 22))] := hl
  obtain ⟨locs, elocs⟩ : ∃ q : List Loc, q = [] := ⟨_, rfl⟩
  rw [← elocs] at hS ⊢
  obtain ⟨H, eH⟩ : ∃ q : Heap, q = s.heap := ⟨_, rfl⟩
  have hP : va_P D vwCl G0 H := eH ▸ hP
  have hS : va_S A s.heap H locs := by rw [eH]; exact hS
  rw [← eH]
  clear elocs eH
  have hiX8 : ∀ w ∈ u_ws RX8 TX8 37, w ∈ wsX8_begin := by decide +kernel
  have hk : ∀ k, k ∉ [22, 24, 25, 26, 27] → G0[k]? = G0[k]? := fun _ _ => rfl
  refine lv_iconst (v := nI (0)) (pc := 0) hx hb dX8_begin_0 (by decide) ?_
  refine lv_istore_n (lv' := [(1, .int (nI (0))), (0, .ref (a 22))]) (pc := 1) hx hb dX8_begin_1 rfl hl (by decide) rfl (fun ls hl => ?_)
  have LA : ∀ (k : Nat) (i : Nat) (ke : Nat → Int32) (cv : Nat → Int32) (tg : Nat → Int32), i + k = 8 → ∀ (G : va_W) (H : Heap) (locs : List Loc) (ls : Array Slot), va_P D vwCl G H → va_D A G → va_S A s.heap H locs → (∀ j, j ∉ [22, 24, 25, 26, 27] → G[j]? = G0[j]?) → G[22]? = some (a 22, .inr (8, [.int (nI (zn)), .int (nI (tr)), .ref (a 23), .ref (a 24), .ref (a 25), .ref (a 26), .ref (a 27), .ref (a 28), .ref (a 29), .int (nI (sc)), .int (sg), .int (sr), .int (ss), .int (fed), .int (pap), .int (bar), .int (gB (st)), .ref (a 30), .ref (a 31), .ref (a 32), .int (nI (pn)), .ref (a 33), .ref (a 34), .ref (a 35), .ref (a 36), .int (nI (mn)), .long (q1), .long (q2), .long (q3), .long (q4), .long (q5), .ref (a 37), .ref (a 38), .ref (a 39), .int (nI (jn)), .ref (a 40), .ref (a 41)])) → G[24]? = some (a 24, .inl (cI, 8, .inl (ke))) → G[25]? = some (a 25, .inl (cI, 8, .inl (cv))) → G[26]? = some (a 26, .inl (cI, 8, .inl (tg))) → G[27]? = some (a 27, .inl (cI, 40, .inl (ink))) → lv_has ls 2 [(0, .ref (a 22)), (1, .int (nI (i)))] → (∀ (G : va_W) (H : Heap) (locs : List Loc) (ls : Array Slot), va_P D vwCl G H → va_D A G → va_S A s.heap H locs → (∀ j, j ∉ [22, 24, 25, 26, 27] → G[j]? = G0[j]?) → G[22]? = some (a 22, .inr (8, [.int (nI (zn)), .int (nI (tr)), .ref (a 23), .ref (a 24), .ref (a 25), .ref (a 26), .ref (a 27), .ref (a 28), .ref (a 29), .int (nI (sc)), .int (sg), .int (sr), .int (ss), .int (fed), .int (pap), .int (bar), .int (gB (st)), .ref (a 30), .ref (a 31), .ref (a 32), .int (nI (pn)), .ref (a 33), .ref (a 34), .ref (a 35), .ref (a 36), .int (nI (mn)), .long (q1), .long (q2), .long (q3), .long (q4), .long (q5), .ref (a 37), .ref (a 38), .ref (a 39), .int (nI (jn)), .ref (a 40), .ref (a 41)])) → G[24]? = some (a 24, .inl (cI, 8, .inl (gFil (nI 0) k i ke))) → G[25]? = some (a 25, .inl (cI, 8, .inl (gFil (nI 20) k i cv))) → G[26]? = some (a 26, .inl (cI, 8, .inl (gFil (nI 100) k i tg))) → G[27]? = some (a 27, .inl (cI, 40, .inl (ink))) → lv_has ls 2 [(0, .ref (a 22))] → W p l e ({ frames := 0, cells := 0, slots := 0, locals := 0 } : Room) s m args below meth c H locs 0 0 Q (F0 m 37 ls [])) → W p l e ({ frames := 0, cells := 0, slots := 0, locals := 0 } : Room) s m args below meth c H locs 0 0 Q (F0 m 2 ls []) := by
    intro k
    induction k with
    | zero =>
      intro i ke cv tg hi G H locs ls hP hD hS hk w22 w24 w25 w26 w27 hl hcont
      refine lv_iload_n (pc := 2) hx hb dX8_begin_2 rfl (lv_at hl 1 rfl) ?_
      refine lv_bipush (v := nI (8)) (pc := 3) hx hb dX8_begin_3 (by decide) ?_
      refine mx_cge (tgt := 37) (pc := 5) hx hb (by omega) (by omega) dX8_begin_5 (by decide) (fun c5 => ?_) (fun c5 => absurd c5 (by omega))
      exact hcont G H locs ls hP hD hS hk w22 w24 w25 w26 w27 (lv_sub hl [0] rfl)
    | succ k ih =>
      intro i ke cv tg hi G H locs ls hP hD hS hk w22 w24 w25 w26 w27 hl hcont
      refine lv_iload_n (pc := 2) hx hb dX8_begin_2 rfl (lv_at hl 1 rfl) ?_
      refine lv_bipush (v := nI (8)) (pc := 3) hx hb dX8_begin_3 (by decide) ?_
      refine mx_cge (tgt := 37) (pc := 5) hx hb (by omega) (by omega) dX8_begin_5 (by decide) (fun c5 => absurd c5 (by omega)) (fun c5 => ?_)
      refine lv_aload_n (pc := 8) hx hb dX8_begin_8 rfl (lv_at hl 0 rfl) ?_
      refine va_get (ci := 8) (C := RX8) (T := TX8) (N := 37) (pc := 9) hx hb hts hiX8 hown hK hP 22 w22 rfl 3 (by decide) (hts (.fieldLink RX8 20 "InkPressModel" "key" "[I") (by decide +kernel)) (fun _ h9 => h9) rfl dX8_begin_9 ?_
      refine lv_iload_n (pc := 12) hx hb dX8_begin_12 rfl (lv_at hl 1 rfl) ?_
      refine lv_iconst (v := nI (0)) (pc := 13) hx hb dX8_begin_13 (by decide) ?_
      refine mx_iast (x := nI (0)) (pc := 14) hx hb hK hP hD hS 24 w24 (i) (by omega) (by decide) dX8_begin_14 (fun H locs G hP hD hS w24 ho => ?_)
      have w22 := (ho 22 (by decide)).trans w22
      have w25 := (ho 25 (by decide)).trans w25
      have w26 := (ho 26 (by decide)).trans w26
      have w27 := (ho 27 (by decide)).trans w27
      have w24 : G[24]? = some (a 24, .inl (cI, 8, .inl (upd (ke) (i) (nI (0))))) := w24
      have hk := gk_step hk ho (by decide)
      clear ho
      refine lv_aload_n (pc := 15) hx hb dX8_begin_15 rfl (lv_at hl 0 rfl) ?_
      refine va_get (ci := 8) (C := RX8) (T := TX8) (N := 37) (pc := 16) hx hb hts hiX8 hown hK hP 22 w22 rfl 4 (by decide) (hts (.fieldLink RX8 23 "InkPressModel" "cover" "[I") (by decide +kernel)) (fun _ h9 => h9) rfl dX8_begin_16 ?_
      refine lv_iload_n (pc := 19) hx hb dX8_begin_19 rfl (lv_at hl 1 rfl) ?_
      refine lv_bipush (v := nI (20)) (pc := 20) hx hb dX8_begin_20 (by decide) ?_
      refine mx_iast (x := nI (20)) (pc := 22) hx hb hK hP hD hS 25 w25 (i) (by omega) (by decide) dX8_begin_22 (fun H locs G hP hD hS w25 ho => ?_)
      have w22 := (ho 22 (by decide)).trans w22
      have w24 := (ho 24 (by decide)).trans w24
      have w26 := (ho 26 (by decide)).trans w26
      have w27 := (ho 27 (by decide)).trans w27
      have w25 : G[25]? = some (a 25, .inl (cI, 8, .inl (upd (cv) (i) (nI (20))))) := w25
      have hk := gk_step hk ho (by decide)
      clear ho
      refine lv_aload_n (pc := 23) hx hb dX8_begin_23 rfl (lv_at hl 0 rfl) ?_
      refine va_get (ci := 8) (C := RX8) (T := TX8) (N := 37) (pc := 24) hx hb hts hiX8 hown hK hP 22 w22 rfl 5 (by decide) (hts (.fieldLink RX8 26 "InkPressModel" "target" "[I") (by decide +kernel)) (fun _ h9 => h9) rfl dX8_begin_24 ?_
      refine lv_iload_n (pc := 27) hx hb dX8_begin_27 rfl (lv_at hl 1 rfl) ?_
      refine lv_bipush (v := nI (100)) (pc := 28) hx hb dX8_begin_28 (by decide) ?_
      refine mx_iast (x := nI (100)) (pc := 30) hx hb hK hP hD hS 26 w26 (i) (by omega) (by decide) dX8_begin_30 (fun H locs G hP hD hS w26 ho => ?_)
      have w22 := (ho 22 (by decide)).trans w22
      have w24 := (ho 24 (by decide)).trans w24
      have w25 := (ho 25 (by decide)).trans w25
      have w27 := (ho 27 (by decide)).trans w27
      have w26 : G[26]? = some (a 26, .inl (cI, 8, .inl (upd (tg) (i) (nI (100))))) := w26
      have hk := gk_step hk ho (by decide)
      clear ho
      refine lv_iinc (v := nI (i + 1)) (lv' := [(1, .int (nI (i + 1))), (0, .ref (a 22))]) (pc := 31) hx hb dX8_begin_31 hl (k := 1) rfl (mx_inc1 _) (by decide) rfl (fun ls hl => ?_)
      refine lv_goto (tgt := 2) (pc := 34) hx hb dX8_begin_34 (by decide) ?_
      exact ih (i + 1) (upd (ke) (i) (nI (0))) (upd (cv) (i) (nI (20))) (upd (tg) (i) (nI (100))) (by omega) G H locs ls hP hD hS hk w22 w24 w25 w26 w27 (lv_sub hl [1, 0] rfl) hcont
  refine LA 8 (0) (ke) (cv) (tg) (by omega) G0 H locs ls hP hD hS hk w22 w24 w25 w26 w27 (lv_sub hl [1, 0] rfl) (fun G H locs ls hP hD hS hk w22 w24 w25 w26 w27 hl => ?_)
  have w24 : G[24]? = some (a 24, .inl (cI, 8, .inl (gFil (nI 0) (8) (0) (ke)))) := w24
  have w25 : G[25]? = some (a 25, .inl (cI, 8, .inl (gFil (nI 20) (8) (0) (cv)))) := w25
  have w26 : G[26]? = some (a 26, .inl (cI, 8, .inl (gFil (nI 100) (8) (0) (tg)))) := w26
  refine lv_iconst (v := nI (0)) (pc := 37) hx hb dX8_begin_37 (by decide) ?_
  refine lv_istore_n (lv' := [(1, .int (nI (0))), (0, .ref (a 22))]) (pc := 38) hx hb dX8_begin_38 rfl hl (by decide) rfl (fun ls hl => ?_)
  have LB : ∀ (k : Nat) (i : Nat) (ink : Nat → Int32), i + k = 40 → ∀ (G : va_W) (H : Heap) (locs : List Loc) (ls : Array Slot), va_P D vwCl G H → va_D A G → va_S A s.heap H locs → (∀ j, j ∉ [22, 24, 25, 26, 27] → G[j]? = G0[j]?) → G[22]? = some (a 22, .inr (8, [.int (nI (zn)), .int (nI (tr)), .ref (a 23), .ref (a 24), .ref (a 25), .ref (a 26), .ref (a 27), .ref (a 28), .ref (a 29), .int (nI (sc)), .int (sg), .int (sr), .int (ss), .int (fed), .int (pap), .int (bar), .int (gB (st)), .ref (a 30), .ref (a 31), .ref (a 32), .int (nI (pn)), .ref (a 33), .ref (a 34), .ref (a 35), .ref (a 36), .int (nI (mn)), .long (q1), .long (q2), .long (q3), .long (q4), .long (q5), .ref (a 37), .ref (a 38), .ref (a 39), .int (nI (jn)), .ref (a 40), .ref (a 41)])) → G[24]? = some (a 24, .inl (cI, 8, .inl (gFil (nI 0) (8) (0) (ke)))) → G[25]? = some (a 25, .inl (cI, 8, .inl (gFil (nI 20) (8) (0) (cv)))) → G[26]? = some (a 26, .inl (cI, 8, .inl (gFil (nI 100) (8) (0) (tg)))) → G[27]? = some (a 27, .inl (cI, 40, .inl (ink))) → lv_has ls 2 [(0, .ref (a 22)), (1, .int (nI (i)))] → (∀ (G : va_W) (H : Heap) (locs : List Loc) (ls : Array Slot), va_P D vwCl G H → va_D A G → va_S A s.heap H locs → (∀ j, j ∉ [22, 24, 25, 26, 27] → G[j]? = G0[j]?) → G[22]? = some (a 22, .inr (8, [.int (nI (zn)), .int (nI (tr)), .ref (a 23), .ref (a 24), .ref (a 25), .ref (a 26), .ref (a 27), .ref (a 28), .ref (a 29), .int (nI (sc)), .int (sg), .int (sr), .int (ss), .int (fed), .int (pap), .int (bar), .int (gB (st)), .ref (a 30), .ref (a 31), .ref (a 32), .int (nI (pn)), .ref (a 33), .ref (a 34), .ref (a 35), .ref (a 36), .int (nI (mn)), .long (q1), .long (q2), .long (q3), .long (q4), .long (q5), .ref (a 37), .ref (a 38), .ref (a 39), .int (nI (jn)), .ref (a 40), .ref (a 41)])) → G[24]? = some (a 24, .inl (cI, 8, .inl (gFil (nI 0) (8) (0) (ke)))) → G[25]? = some (a 25, .inl (cI, 8, .inl (gFil (nI 20) (8) (0) (cv)))) → G[26]? = some (a 26, .inl (cI, 8, .inl (gFil (nI 100) (8) (0) (tg)))) → G[27]? = some (a 27, .inl (cI, 40, .inl (gClr k i ink))) → lv_has ls 2 [(0, .ref (a 22))] → W p l e ({ frames := 0, cells := 0, slots := 0, locals := 0 } : Room) s m args below meth c H locs 0 0 Q (F0 m 58 ls [])) → W p l e ({ frames := 0, cells := 0, slots := 0, locals := 0 } : Room) s m args below meth c H locs 0 0 Q (F0 m 39 ls []) := by
    intro k
    induction k with
    | zero =>
      intro i ink hi G H locs ls hP hD hS hk w22 w24 w25 w26 w27 hl hcont
      refine lv_iload_n (pc := 39) hx hb dX8_begin_39 rfl (lv_at hl 1 rfl) ?_
      refine lv_bipush (v := nI (40)) (pc := 40) hx hb dX8_begin_40 (by decide) ?_
      refine mx_cge (tgt := 58) (pc := 42) hx hb (by omega) (by omega) dX8_begin_42 (by decide) (fun c42 => ?_) (fun c42 => absurd c42 (by omega))
      exact hcont G H locs ls hP hD hS hk w22 w24 w25 w26 w27 (lv_sub hl [0] rfl)
    | succ k ih =>
      intro i ink hi G H locs ls hP hD hS hk w22 w24 w25 w26 w27 hl hcont
      refine lv_iload_n (pc := 39) hx hb dX8_begin_39 rfl (lv_at hl 1 rfl) ?_
      refine lv_bipush (v := nI (40)) (pc := 40) hx hb dX8_begin_40 (by decide) ?_
      refine mx_cge (tgt := 58) (pc := 42) hx hb (by omega) (by omega) dX8_begin_42 (by decide) (fun c42 => absurd c42 (by omega)) (fun c42 => ?_)
      refine lv_aload_n (pc := 45) hx hb dX8_begin_45 rfl (lv_at hl 0 rfl) ?_
      refine va_get (ci := 8) (C := RX8) (T := TX8) (N := 37) (pc := 46) hx hb hts hiX8 hown hK hP 22 w22 rfl 6 (by decide) (hts (.fieldLink RX8 29 "InkPressModel" "ink" "[I") (by decide +kernel)) (fun _ h9 => h9) rfl dX8_begin_46 ?_
      refine lv_iload_n (pc := 49) hx hb dX8_begin_49 rfl (lv_at hl 1 rfl) ?_
      refine lv_iconst (v := nI (0)) (pc := 50) hx hb dX8_begin_50 (by decide) ?_
      refine mx_iast (x := nI (0)) (pc := 51) hx hb hK hP hD hS 27 w27 (i) (by omega) (by decide) dX8_begin_51 (fun H locs G hP hD hS w27 ho => ?_)
      have w22 := (ho 22 (by decide)).trans w22
      have w24 := (ho 24 (by decide)).trans w24
      have w25 := (ho 25 (by decide)).trans w25
      have w26 := (ho 26 (by decide)).trans w26
      have w27 : G[27]? = some (a 27, .inl (cI, 40, .inl (upd (ink) (i) (nI (0))))) := w27
      have hk := gk_step hk ho (by decide)
      clear ho
      refine lv_iinc (v := nI (i + 1)) (lv' := [(1, .int (nI (i + 1))), (0, .ref (a 22))]) (pc := 52) hx hb dX8_begin_52 hl (k := 1) rfl (mx_inc1 _) (by decide) rfl (fun ls hl => ?_)
      refine lv_goto (tgt := 39) (pc := 55) hx hb dX8_begin_55 (by decide) ?_
      exact ih (i + 1) (upd (ink) (i) (nI (0))) (by omega) G H locs ls hP hD hS hk w22 w24 w25 w26 w27 (lv_sub hl [1, 0] rfl) hcont
  refine LB 40 (0) (ink) (by omega) G H locs ls hP hD hS hk w22 w24 w25 w26 w27 (lv_sub hl [1, 0] rfl) (fun G H locs ls hP hD hS hk w22 w24 w25 w26 w27 hl => ?_)
  have w27 : G[27]? = some (a 27, .inl (cI, 40, .inl (gClr (40) (0) (ink)))) := w27
  refine lv_aload_n (pc := 58) hx hb dX8_begin_58 rfl (lv_at hl 0 rfl) ?_
  refine lv_iconst (v := nI (0)) (pc := 59) hx hb dX8_begin_59 (by decide) ?_
  refine mx_put (ci := 8) (v := .int (nI (0))) (ty := .int) (C := RX8) (T := TX8) (N := 37) (pc := 60) hx hb hts hiX8 tyX8 tyX8_ok nmX8 hown hK hP hD hS 22 w22 rfl 9 (by decide) (hts (.fieldLink RX8 81 "InkPressModel" "sheets" "I") (by decide +kernel)) (fun _ h9 => h9) rfl (by decide +kernel) rfl rfl (Nat.le_of_ble_eq_true rfl) dX8_begin_60 (fun H locs G hP hD hS w22 ho => ?_)
  have w24 := (ho 24 (by decide)).trans w24
  have w25 := (ho 25 (by decide)).trans w25
  have w26 := (ho 26 (by decide)).trans w26
  have w27 := (ho 27 (by decide)).trans w27
  have w22 : G[22]? = some (a 22, .inr (8, [.int (nI (zn)), .int (nI (tr)), .ref (a 23), .ref (a 24), .ref (a 25), .ref (a 26), .ref (a 27), .ref (a 28), .ref (a 29), .int (nI (0)), .int (sg), .int (sr), .int (ss), .int (fed), .int (pap), .int (bar), .int (gB (st)), .ref (a 30), .ref (a 31), .ref (a 32), .int (nI (pn)), .ref (a 33), .ref (a 34), .ref (a 35), .ref (a 36), .int (nI (mn)), .long (q1), .long (q2), .long (q3), .long (q4), .long (q5), .ref (a 37), .ref (a 38), .ref (a 39), .int (nI (jn)), .ref (a 40), .ref (a 41)])) := w22
  have hk := gk_step hk ho (by decide)
  clear ho
  refine lv_aload_n (pc := 63) hx hb dX8_begin_63 rfl (lv_at hl 0 rfl) ?_
  refine lv_iconst (v := nI (0)) (pc := 64) hx hb dX8_begin_64 (by decide) ?_
  refine mx_put (ci := 8) (v := .int (nI (0))) (ty := .int) (C := RX8) (T := TX8) (N := 37) (pc := 65) hx hb hts hiX8 tyX8 tyX8_ok nmX8 hown hK hP hD hS 22 w22 rfl 10 (by decide) (hts (.fieldLink RX8 84 "InkPressModel" "goodMany" "I") (by decide +kernel)) (fun _ h9 => h9) rfl (by decide +kernel) rfl rfl (Nat.le_of_ble_eq_true rfl) dX8_begin_65 (fun H locs G hP hD hS w22 ho => ?_)
  have w24 := (ho 24 (by decide)).trans w24
  have w25 := (ho 25 (by decide)).trans w25
  have w26 := (ho 26 (by decide)).trans w26
  have w27 := (ho 27 (by decide)).trans w27
  have w22 : G[22]? = some (a 22, .inr (8, [.int (nI (zn)), .int (nI (tr)), .ref (a 23), .ref (a 24), .ref (a 25), .ref (a 26), .ref (a 27), .ref (a 28), .ref (a 29), .int (nI (0)), .int (nI (0)), .int (sr), .int (ss), .int (fed), .int (pap), .int (bar), .int (gB (st)), .ref (a 30), .ref (a 31), .ref (a 32), .int (nI (pn)), .ref (a 33), .ref (a 34), .ref (a 35), .ref (a 36), .int (nI (mn)), .long (q1), .long (q2), .long (q3), .long (q4), .long (q5), .ref (a 37), .ref (a 38), .ref (a 39), .int (nI (jn)), .ref (a 40), .ref (a 41)])) := w22
  have hk := gk_step hk ho (by decide)
  clear ho
  refine lv_aload_n (pc := 68) hx hb dX8_begin_68 rfl (lv_at hl 0 rfl) ?_
  refine lv_iconst (v := nI (0)) (pc := 69) hx hb dX8_begin_69 (by decide) ?_
  refine mx_put (ci := 8) (v := .int (nI (0))) (ty := .int) (C := RX8) (T := TX8) (N := 37) (pc := 70) hx hb hts hiX8 tyX8 tyX8_ok nmX8 hown hK hP hD hS 22 w22 rfl 11 (by decide) (hts (.fieldLink RX8 87 "InkPressModel" "together" "I") (by decide +kernel)) (fun _ h9 => h9) rfl (by decide +kernel) rfl rfl (Nat.le_of_ble_eq_true rfl) dX8_begin_70 (fun H locs G hP hD hS w22 ho => ?_)
  have w24 := (ho 24 (by decide)).trans w24
  have w25 := (ho 25 (by decide)).trans w25
  have w26 := (ho 26 (by decide)).trans w26
  have w27 := (ho 27 (by decide)).trans w27
  have w22 : G[22]? = some (a 22, .inr (8, [.int (nI (zn)), .int (nI (tr)), .ref (a 23), .ref (a 24), .ref (a 25), .ref (a 26), .ref (a 27), .ref (a 28), .ref (a 29), .int (nI (0)), .int (nI (0)), .int (nI (0)), .int (ss), .int (fed), .int (pap), .int (bar), .int (gB (st)), .ref (a 30), .ref (a 31), .ref (a 32), .int (nI (pn)), .ref (a 33), .ref (a 34), .ref (a 35), .ref (a 36), .int (nI (mn)), .long (q1), .long (q2), .long (q3), .long (q4), .long (q5), .ref (a 37), .ref (a 38), .ref (a 39), .int (nI (jn)), .ref (a 40), .ref (a 41)])) := w22
  have hk := gk_step hk ho (by decide)
  clear ho
  refine lv_aload_n (pc := 73) hx hb dX8_begin_73 rfl (lv_at hl 0 rfl) ?_
  refine lv_bipush (v := (-6)) (pc := 74) hx hb dX8_begin_74 (by decide) ?_
  refine mx_put (ci := 8) (v := .int ((-6))) (ty := .int) (C := RX8) (T := TX8) (N := 37) (pc := 76) hx hb hts hiX8 tyX8 tyX8_ok nmX8 hown hK hP hD hS 22 w22 rfl 12 (by decide) (hts (.fieldLink RX8 39 "InkPressModel" "start" "I") (by decide +kernel)) (fun _ h9 => h9) rfl (by decide +kernel) rfl rfl (Nat.le_of_ble_eq_true rfl) dX8_begin_76 (fun H locs G hP hD hS w22 ho => ?_)
  have w24 := (ho 24 (by decide)).trans w24
  have w25 := (ho 25 (by decide)).trans w25
  have w26 := (ho 26 (by decide)).trans w26
  have w27 := (ho 27 (by decide)).trans w27
  have w22 : G[22]? = some (a 22, .inr (8, [.int (nI (zn)), .int (nI (tr)), .ref (a 23), .ref (a 24), .ref (a 25), .ref (a 26), .ref (a 27), .ref (a 28), .ref (a 29), .int (nI (0)), .int (nI (0)), .int (nI (0)), .int ((-6)), .int (fed), .int (pap), .int (bar), .int (gB (st)), .ref (a 30), .ref (a 31), .ref (a 32), .int (nI (pn)), .ref (a 33), .ref (a 34), .ref (a 35), .ref (a 36), .int (nI (mn)), .long (q1), .long (q2), .long (q3), .long (q4), .long (q5), .ref (a 37), .ref (a 38), .ref (a 39), .int (nI (jn)), .ref (a 40), .ref (a 41)])) := w22
  have hk := gk_step hk ho (by decide)
  clear ho
  refine lv_aload_n (pc := 79) hx hb dX8_begin_79 rfl (lv_at hl 0 rfl) ?_
  refine lv_iconst (v := nI (0)) (pc := 80) hx hb dX8_begin_80 (by decide) ?_
  refine mx_put (ci := 8) (v := .int (nI (0))) (ty := .int) (C := RX8) (T := TX8) (N := 37) (pc := 81) hx hb hts hiX8 tyX8 tyX8_ok nmX8 hown hK hP hD hS 22 w22 rfl 13 (by decide) (hts (.fieldLink RX8 90 "InkPressModel" "fed" "I") (by decide +kernel)) (fun _ h9 => h9) rfl (by decide +kernel) rfl rfl (Nat.le_of_ble_eq_true rfl) dX8_begin_81 (fun H locs G hP hD hS w22 ho => ?_)
  have w24 := (ho 24 (by decide)).trans w24
  have w25 := (ho 25 (by decide)).trans w25
  have w26 := (ho 26 (by decide)).trans w26
  have w27 := (ho 27 (by decide)).trans w27
  have w22 : G[22]? = some (a 22, .inr (8, [.int (nI (zn)), .int (nI (tr)), .ref (a 23), .ref (a 24), .ref (a 25), .ref (a 26), .ref (a 27), .ref (a 28), .ref (a 29), .int (nI (0)), .int (nI (0)), .int (nI (0)), .int ((-6)), .int (nI (0)), .int (pap), .int (bar), .int (gB (st)), .ref (a 30), .ref (a 31), .ref (a 32), .int (nI (pn)), .ref (a 33), .ref (a 34), .ref (a 35), .ref (a 36), .int (nI (mn)), .long (q1), .long (q2), .long (q3), .long (q4), .long (q5), .ref (a 37), .ref (a 38), .ref (a 39), .int (nI (jn)), .ref (a 40), .ref (a 41)])) := w22
  have hk := gk_step hk ho (by decide)
  clear ho
  refine lv_aload_n (pc := 84) hx hb dX8_begin_84 rfl (lv_at hl 0 rfl) ?_
  refine lv_iconst (v := nI (0)) (pc := 85) hx hb dX8_begin_85 (by decide) ?_
  refine mx_put (ci := 8) (v := .int (nI (0))) (ty := .int) (C := RX8) (T := TX8) (N := 37) (pc := 86) hx hb hts hiX8 tyX8 tyX8_ok nmX8 hown hK hP hD hS 22 w22 rfl 14 (by decide) (hts (.fieldLink RX8 93 "InkPressModel" "paper" "I") (by decide +kernel)) (fun _ h9 => h9) rfl (by decide +kernel) rfl rfl (Nat.le_of_ble_eq_true rfl) dX8_begin_86 (fun H locs G hP hD hS w22 ho => ?_)
  have w24 := (ho 24 (by decide)).trans w24
  have w25 := (ho 25 (by decide)).trans w25
  have w26 := (ho 26 (by decide)).trans w26
  have w27 := (ho 27 (by decide)).trans w27
  have w22 : G[22]? = some (a 22, .inr (8, [.int (nI (zn)), .int (nI (tr)), .ref (a 23), .ref (a 24), .ref (a 25), .ref (a 26), .ref (a 27), .ref (a 28), .ref (a 29), .int (nI (0)), .int (nI (0)), .int (nI (0)), .int ((-6)), .int (nI (0)), .int (nI (0)), .int (bar), .int (gB (st)), .ref (a 30), .ref (a 31), .ref (a 32), .int (nI (pn)), .ref (a 33), .ref (a 34), .ref (a 35), .ref (a 36), .int (nI (mn)), .long (q1), .long (q2), .long (q3), .long (q4), .long (q5), .ref (a 37), .ref (a 38), .ref (a 39), .int (nI (jn)), .ref (a 40), .ref (a 41)])) := w22
  have hk := gk_step hk ho (by decide)
  clear ho
  refine lv_aload_n (pc := 89) hx hb dX8_begin_89 rfl (lv_at hl 0 rfl) ?_
  refine lv_iconst (v := nI (0)) (pc := 90) hx hb dX8_begin_90 (by decide) ?_
  refine mx_put (ci := 8) (v := .int (nI (0))) (ty := .int) (C := RX8) (T := TX8) (N := 37) (pc := 91) hx hb hts hiX8 tyX8 tyX8_ok nmX8 hown hK hP hD hS 22 w22 rfl 15 (by decide) (hts (.fieldLink RX8 96 "InkPressModel" "bars" "I") (by decide +kernel)) (fun _ h9 => h9) rfl (by decide +kernel) rfl rfl (Nat.le_of_ble_eq_true rfl) dX8_begin_91 (fun H locs G hP hD hS w22 ho => ?_)
  have w24 := (ho 24 (by decide)).trans w24
  have w25 := (ho 25 (by decide)).trans w25
  have w26 := (ho 26 (by decide)).trans w26
  have w27 := (ho 27 (by decide)).trans w27
  have w22 : G[22]? = some (a 22, .inr (8, [.int (nI (zn)), .int (nI (tr)), .ref (a 23), .ref (a 24), .ref (a 25), .ref (a 26), .ref (a 27), .ref (a 28), .ref (a 29), .int (nI (0)), .int (nI (0)), .int (nI (0)), .int ((-6)), .int (nI (0)), .int (nI (0)), .int (nI (0)), .int (gB (st)), .ref (a 30), .ref (a 31), .ref (a 32), .int (nI (pn)), .ref (a 33), .ref (a 34), .ref (a 35), .ref (a 36), .int (nI (mn)), .long (q1), .long (q2), .long (q3), .long (q4), .long (q5), .ref (a 37), .ref (a 38), .ref (a 39), .int (nI (jn)), .ref (a 40), .ref (a 41)])) := w22
  have hk := gk_step hk ho (by decide)
  clear ho
  refine lv_aload_n (pc := 94) hx hb dX8_begin_94 rfl (lv_at hl 0 rfl) ?_
  refine lv_iconst (v := nI (0)) (pc := 95) hx hb dX8_begin_95 (by decide) ?_
  refine mx_put (ci := 8) (v := .int (nI (0))) (ty := .boolean) (C := RX8) (T := TX8) (N := 37) (pc := 96) hx hb hts hiX8 tyX8 tyX8_ok nmX8 hown hK hP hD hS 22 w22 rfl 16 (by decide) (hts (.fieldLink RX8 99 "InkPressModel" "steers" "Z") (by decide +kernel)) (fun _ h9 => h9) rfl (by decide +kernel) rfl rfl (Nat.le_of_ble_eq_true rfl) dX8_begin_96 (fun H locs G hP hD hS w22 ho => ?_)
  have w24 := (ho 24 (by decide)).trans w24
  have w25 := (ho 25 (by decide)).trans w25
  have w26 := (ho 26 (by decide)).trans w26
  have w27 := (ho 27 (by decide)).trans w27
  have w22 : G[22]? = some (a 22, .inr (8, [.int (nI (zn)), .int (nI (tr)), .ref (a 23), .ref (a 24), .ref (a 25), .ref (a 26), .ref (a 27), .ref (a 28), .ref (a 29), .int (nI (0)), .int (nI (0)), .int (nI (0)), .int ((-6)), .int (nI (0)), .int (nI (0)), .int (nI (0)), .int (gB (false)), .ref (a 30), .ref (a 31), .ref (a 32), .int (nI (pn)), .ref (a 33), .ref (a 34), .ref (a 35), .ref (a 36), .int (nI (mn)), .long (q1), .long (q2), .long (q3), .long (q4), .long (q5), .ref (a 37), .ref (a 38), .ref (a 39), .int (nI (jn)), .ref (a 40), .ref (a 41)])) := w22
  have hk := gk_step hk ho (by decide)
  clear ho
  exact hret _ _ _ _ _ hP hD hS ⟨w22, w24, w25, w26, w27, hk⟩ dX8_begin_99
set_option maxHeartbeats 4000000 in
set_option maxRecDepth 100000 in
theorem k_X8_press_b {l : Launch} {D : va_G} {cI cZ : ClassId} {A : Nat → Prop} {g a : Nat → Nat} {G0 : va_W} {zn : Nat} {tr : Nat} {sc : Nat} {pn : Nat} {mn : Nat} {jn : Nat} {sg : Int32} {sr : Int32} {ss : Int32} {fed : Int32} {pap : Int32} {bar : Int32} {st : Bool} {q1 : Int64} {q2 : Int64} {q3 : Int64} {q4 : Int64} {q5 : Int64} {z : Int32} {r : Int32} (hD : va_D A G0) (w22 : G0[22]? = some (a 22, .inr (8, [.int (nI (zn)), .int (nI (tr)), .ref (a 23), .ref (a 24), .ref (a 25), .ref (a 26), .ref (a 27), .ref (a 28), .ref (a 29), .int (nI (sc)), .int (sg), .int (sr), .int (ss), .int (fed), .int (pap), .int (bar), .int (gB (st)), .ref (a 30), .ref (a 31), .ref (a 32), .int (nI (pn)), .ref (a 33), .ref (a 34), .ref (a 35), .ref (a 36), .int (nI (mn)), .long (q1), .long (q2), .long (q3), .long (q4), .long (q5), .ref (a 37), .ref (a 38), .ref (a 39), .int (nI (jn)), .ref (a 40), .ref (a 41)]))) (hb1 : gWi z (nI 2) (nI 8) = false ∨ gWi r (nI 2) (nI 5) = false) : gMi l D cI cZ A g yX8_press wsX8_press ({ frames := 1, cells := 0, slots := 0, locals := 25 }) [.ref (a 22), .int (z), .int (r)] G0 ((-2)) (fun G1 => G1 = G0) := by
  refine gof_i (cc := cX8_press) (maxL := 3) (by decide) rfl (Nat.le_of_ble_eq_true rfl) hD ?_
  intro p e s m args below meth c Q hx hb hml hts hown hK hN hZ hP hS hret ls hl
  have hown : s.vm.findClass RX8 = some m.cls := hown
  have hl : lv_has ls 3 [(0, .ref (a 22)), (1, .int (z)), (2, .int (r))] := hl
  obtain ⟨locs, elocs⟩ : ∃ q : List Loc, q = [] := ⟨_, rfl⟩
  rw [← elocs] at hS ⊢
  obtain ⟨H, eH⟩ : ∃ q : Heap, q = s.heap := ⟨_, rfl⟩
  have hP : va_P D vwCl G0 H := eH ▸ hP
  have hS : va_S A s.heap H locs := by rw [eH]; exact hS
  rw [← eH]
  clear elocs eH
  have hk : ∀ k, k ∉ ([] : List Nat) → G0[k]? = G0[k]? := fun _ _ => rfl
  refine lv_iload_n (pc := 0) hx hb dX8_press_0 rfl (lv_at hl 1 rfl) ?_
  refine lv_i2l (v := (z).toInt64) (pc := 1) hx hb dX8_press_1 rfl ?_
  refine lv_ldc2 (own := RX8) (v := (2)) (pc := 2) hx hb hown (hts (.constantLong RX8 107 (2)) (by decide +kernel)) dX8_press_2 ?_
  refine lv_ldc2 (own := RX8) (v := (8)) (pc := 5) hx hb hown (hts (.constantLong RX8 109 (8)) (by decide +kernel)) dX8_press_5 ?_
  refine mx_cSi (As := [.long ((z).toInt64), .long ((2)), .long ((8))]) (rest := []) (pc := 8) ⟨hx, hb, hml, hown, hts⟩ (k_X8_in (a := a) (v := (z).toInt64) (lo := (2)) (hi := (8)) hD  ) (va_cwS 3 hts gX8_press_X8_in rfl rfl rfl (by decide +kernel) ⟨Nat.le_of_ble_eq_true rfl, Nat.le_of_ble_eq_true rfl⟩) hK hN hZ hP hS rfl hl.1 rfl (Nat.le_of_ble_eq_true rfl) dX8_press_8 ⟨Nat.zero_le _, Nat.zero_le _⟩ (fun G' H locs hP hD hS hB => ?_)
  rw [hB] at hP hD
  clear hB G'
  refine mx_beq (tgt := 28) (pc := 11) hx hb dX8_press_11 (by decide) (fun c11 => ?_) (fun c11 => ?_)
  · skip
    refine lv_bipush (v := (-2)) (pc := 28) hx hb dX8_press_28 (by decide) ?_
    exact hret _ _ _ _ _ _ hP hD hS rfl rfl dX8_press_30
  · skip
    refine lv_iload_n (pc := 14) hx hb dX8_press_14 rfl (lv_at hl 2 rfl) ?_
    refine lv_i2l (v := (r).toInt64) (pc := 15) hx hb dX8_press_15 rfl ?_
    refine lv_ldc2 (own := RX8) (v := (2)) (pc := 16) hx hb hown (hts (.constantLong RX8 107 (2)) (by decide +kernel)) dX8_press_16 ?_
    refine lv_ldc2 (own := RX8) (v := (5)) (pc := 19) hx hb hown (hts (.constantLong RX8 111 (5)) (by decide +kernel)) dX8_press_19 ?_
    refine mx_cSi (As := [.long ((r).toInt64), .long ((2)), .long ((5))]) (rest := []) (pc := 22) ⟨hx, hb, hml, hown, hts⟩ (k_X8_in (a := a) (v := (r).toInt64) (lo := (2)) (hi := (5)) hD  ) (va_cwS 3 hts gX8_press_X8_in rfl rfl rfl (by decide +kernel) ⟨Nat.le_of_ble_eq_true rfl, Nat.le_of_ble_eq_true rfl⟩) hK hN hZ hP hS rfl hl.1 rfl (Nat.le_of_ble_eq_true rfl) dX8_press_22 ⟨Nat.zero_le _, Nat.zero_le _⟩ (fun G' H locs hP hD hS hB => ?_)
    rw [hB] at hP hD
    clear hB G'
    refine mx_bne (tgt := 31) (pc := 25) hx hb dX8_press_25 (by decide) (fun c25 => ?_) (fun c25 => ?_)
    · skip
      exact (by rw [gIn_w (a := nI 2) (b := nI 8) (by decide) (by decide)] at c11; rw [gIn_w (a := nI 2) (b := nI 5) (by decide) (by decide)] at c25; simp [c11, c25] at hb1)
    · skip
      refine lv_bipush (v := (-2)) (pc := 28) hx hb dX8_press_28 (by decide) ?_
      exact hret _ _ _ _ _ _ hP hD hS rfl rfl dX8_press_30
set_option maxHeartbeats 4000000 in
set_option maxRecDepth 100000 in
theorem k_X8_press_k {l : Launch} {D : va_G} {cI cZ : ClassId} {A : Nat → Prop} {g a : Nat → Nat} {G0 : va_W} {zn : Nat} {tr : Nat} {sc : Nat} {pn : Nat} {mn : Nat} {jn : Nat} {sg : Int32} {sr : Int32} {ss : Int32} {fed : Int32} {pap : Int32} {bar : Int32} {st : Bool} {q1 : Int64} {q2 : Int64} {q3 : Int64} {q4 : Int64} {q5 : Int64} {ke : Nat → Int32} {cv : Nat → Int32} {tg : Nat → Int32} {ink : Nat → Int32} {z : Nat} {r : Nat} (hD : va_D A G0) (w22 : G0[22]? = some (a 22, .inr (8, [.int (nI (zn)), .int (nI (tr)), .ref (a 23), .ref (a 24), .ref (a 25), .ref (a 26), .ref (a 27), .ref (a 28), .ref (a 29), .int (nI (sc)), .int (sg), .int (sr), .int (ss), .int (fed), .int (pap), .int (bar), .int (gB (st)), .ref (a 30), .ref (a 31), .ref (a 32), .int (nI (pn)), .ref (a 33), .ref (a 34), .ref (a 35), .ref (a 36), .int (nI (mn)), .long (q1), .long (q2), .long (q3), .long (q4), .long (q5), .ref (a 37), .ref (a 38), .ref (a 39), .int (nI (jn)), .ref (a 40), .ref (a 41)]))) (w24 : G0[24]? = some (a 24, .inl (cI, 8, .inl (ke)))) (w25 : G0[25]? = some (a 25, .inl (cI, 8, .inl (cv)))) (w26 : G0[26]? = some (a 26, .inl (cI, 8, .inl (tg)))) (w27 : G0[27]? = some (a 27, .inl (cI, 40, .inl (ink)))) (h1 : gWi (nI z) (nI 2) (nI 8) = true) (h2 : gWi (nI r) (nI 2) (nI 5) = true) : gMi l D cI cZ A g yX8_press wsX8_press ({ frames := 1, cells := 0, slots := 0, locals := 25 }) [.ref (a 22), .int (nI (z)), .int (nI (r))] G0 (nI (z * r)) (fun G1 => G1[22]? = some (a 22, .inr (8, [.int (nI (z)), .int (nI (r)), .ref (a 23), .ref (a 24), .ref (a 25), .ref (a 26), .ref (a 27), .ref (a 28), .ref (a 29), .int (nI (0)), .int (nI (0)), .int (nI (0)), .int ((-6)), .int (nI (0)), .int (nI (0)), .int (nI (0)), .int (gB (false)), .ref (a 30), .ref (a 31), .ref (a 32), .int (nI (pn)), .ref (a 33), .ref (a 34), .ref (a 35), .ref (a 36), .int (nI (mn)), .long (q1), .long (q2), .long (q3), .long (q4), .long (q5), .ref (a 37), .ref (a 38), .ref (a 39), .int (nI (jn)), .ref (a 40), .ref (a 41)])) ∧ G1[24]? = some (a 24, .inl (cI, 8, .inl (gFil (nI 0) 8 0 ke))) ∧ G1[25]? = some (a 25, .inl (cI, 8, .inl (gFil (nI 20) 8 0 cv))) ∧ G1[26]? = some (a 26, .inl (cI, 8, .inl (gFil (nI 100) 8 0 tg))) ∧ G1[27]? = some (a 27, .inl (cI, 40, .inl (gClr 40 0 ink))) ∧ ∀ k, k ∉ [22, 24, 25, 26, 27] → G1[k]? = G0[k]?) := by
  refine gof_i (cc := cX8_press) (maxL := 3) (by decide) rfl (Nat.le_of_ble_eq_true rfl) hD ?_
  intro p e s m args below meth c Q hx hb hml hts hown hK hN hZ hP hS hret ls hl
  have hown : s.vm.findClass RX8 = some m.cls := hown
  have hl : lv_has ls 3 [(0, .ref (a 22)), (1, .int (nI (z))), (2, .int (nI (r)))] := hl
  obtain ⟨locs, elocs⟩ : ∃ q : List Loc, q = [] := ⟨_, rfl⟩
  rw [← elocs] at hS ⊢
  obtain ⟨H, eH⟩ : ∃ q : Heap, q = s.heap := ⟨_, rfl⟩
  have hP : va_P D vwCl G0 H := eH ▸ hP
  have hS : va_S A s.heap H locs := by rw [eH]; exact hS
  rw [← eH]
  clear elocs eH
  have hiX8 : ∀ w ∈ u_ws RX8 TX8 37, w ∈ wsX8_press := by decide +kernel
  have hk : ∀ k, k ∉ [22, 24, 25, 26, 27] → G0[k]? = G0[k]? := fun _ _ => rfl
  refine lv_iload_n (pc := 0) hx hb dX8_press_0 rfl (lv_at hl 1 rfl) ?_
  refine lv_i2l (v := (nI (z)).toInt64) (pc := 1) hx hb dX8_press_1 rfl ?_
  refine lv_ldc2 (own := RX8) (v := (2)) (pc := 2) hx hb hown (hts (.constantLong RX8 107 (2)) (by decide +kernel)) dX8_press_2 ?_
  refine lv_ldc2 (own := RX8) (v := (8)) (pc := 5) hx hb hown (hts (.constantLong RX8 109 (8)) (by decide +kernel)) dX8_press_5 ?_
  refine mx_cSi (As := [.long ((nI (z)).toInt64), .long ((2)), .long ((8))]) (rest := []) (pc := 8) ⟨hx, hb, hml, hown, hts⟩ (k_X8_in (a := a) (v := (nI (z)).toInt64) (lo := (2)) (hi := (8)) hD  ) (va_cwS 3 hts gX8_press_X8_in rfl rfl rfl (by decide +kernel) ⟨Nat.le_of_ble_eq_true rfl, Nat.le_of_ble_eq_true rfl⟩) hK hN hZ hP hS rfl hl.1 rfl (Nat.le_of_ble_eq_true rfl) dX8_press_8 ⟨Nat.zero_le _, Nat.zero_le _⟩ (fun G' H locs hP hD hS hB => ?_)
  rw [hB] at hP hD
  clear hB G'
  refine mx_beq (tgt := 28) (pc := 11) hx hb dX8_press_11 (by decide) (fun c11 => absurd (c11.symm.trans ((gIn_w (a := nI 2) (b := nI 8) (by decide) (by decide)).trans h1)) (by decide)) (fun c11 => ?_)
  refine lv_iload_n (pc := 14) hx hb dX8_press_14 rfl (lv_at hl 2 rfl) ?_
  refine lv_i2l (v := (nI (r)).toInt64) (pc := 15) hx hb dX8_press_15 rfl ?_
  refine lv_ldc2 (own := RX8) (v := (2)) (pc := 16) hx hb hown (hts (.constantLong RX8 107 (2)) (by decide +kernel)) dX8_press_16 ?_
  refine lv_ldc2 (own := RX8) (v := (5)) (pc := 19) hx hb hown (hts (.constantLong RX8 111 (5)) (by decide +kernel)) dX8_press_19 ?_
  refine mx_cSi (As := [.long ((nI (r)).toInt64), .long ((2)), .long ((5))]) (rest := []) (pc := 22) ⟨hx, hb, hml, hown, hts⟩ (k_X8_in (a := a) (v := (nI (r)).toInt64) (lo := (2)) (hi := (5)) hD  ) (va_cwS 3 hts gX8_press_X8_in rfl rfl rfl (by decide +kernel) ⟨Nat.le_of_ble_eq_true rfl, Nat.le_of_ble_eq_true rfl⟩) hK hN hZ hP hS rfl hl.1 rfl (Nat.le_of_ble_eq_true rfl) dX8_press_22 ⟨Nat.zero_le _, Nat.zero_le _⟩ (fun G' H locs hP hD hS hB => ?_)
  rw [hB] at hP hD
  clear hB G'
  refine mx_bne (tgt := 31) (pc := 25) hx hb dX8_press_25 (by decide) (fun c25 => ?_) (fun c25 => absurd (c25.symm.trans ((gIn_w (a := nI 2) (b := nI 5) (by decide) (by decide)).trans h2)) (by decide))
  refine lv_aload_n (pc := 31) hx hb dX8_press_31 rfl (lv_at hl 0 rfl) ?_
  refine lv_iload_n (pc := 32) hx hb dX8_press_32 rfl (lv_at hl 1 rfl) ?_
  refine mx_put (ci := 8) (v := .int (nI (z))) (ty := .int) (C := RX8) (T := TX8) (N := 37) (pc := 33) hx hb hts hiX8 tyX8 tyX8_ok nmX8 hown hK hP hD hS 22 w22 rfl 0 (by decide) (hts (.fieldLink RX8 7 "InkPressModel" "zones" "I") (by decide +kernel)) (fun _ h9 => h9) rfl (by decide +kernel) rfl rfl (Nat.le_of_ble_eq_true rfl) dX8_press_33 (fun H locs G hP hD hS w22 ho => ?_)
  have w24 := (ho 24 (by decide)).trans w24
  have w25 := (ho 25 (by decide)).trans w25
  have w26 := (ho 26 (by decide)).trans w26
  have w27 := (ho 27 (by decide)).trans w27
  have w22 : G[22]? = some (a 22, .inr (8, [.int (nI (z)), .int (nI (tr)), .ref (a 23), .ref (a 24), .ref (a 25), .ref (a 26), .ref (a 27), .ref (a 28), .ref (a 29), .int (nI (sc)), .int (sg), .int (sr), .int (ss), .int (fed), .int (pap), .int (bar), .int (gB (st)), .ref (a 30), .ref (a 31), .ref (a 32), .int (nI (pn)), .ref (a 33), .ref (a 34), .ref (a 35), .ref (a 36), .int (nI (mn)), .long (q1), .long (q2), .long (q3), .long (q4), .long (q5), .ref (a 37), .ref (a 38), .ref (a 39), .int (nI (jn)), .ref (a 40), .ref (a 41)])) := w22
  have hk := gk_step hk ho (by decide)
  clear ho
  refine lv_aload_n (pc := 36) hx hb dX8_press_36 rfl (lv_at hl 0 rfl) ?_
  refine lv_iload_n (pc := 37) hx hb dX8_press_37 rfl (lv_at hl 2 rfl) ?_
  refine mx_put (ci := 8) (v := .int (nI (r))) (ty := .int) (C := RX8) (T := TX8) (N := 37) (pc := 38) hx hb hts hiX8 tyX8 tyX8_ok nmX8 hown hK hP hD hS 22 w22 rfl 1 (by decide) (hts (.fieldLink RX8 13 "InkPressModel" "rollers" "I") (by decide +kernel)) (fun _ h9 => h9) rfl (by decide +kernel) rfl rfl (Nat.le_of_ble_eq_true rfl) dX8_press_38 (fun H locs G hP hD hS w22 ho => ?_)
  have w24 := (ho 24 (by decide)).trans w24
  have w25 := (ho 25 (by decide)).trans w25
  have w26 := (ho 26 (by decide)).trans w26
  have w27 := (ho 27 (by decide)).trans w27
  have w22 : G[22]? = some (a 22, .inr (8, [.int (nI (z)), .int (nI (r)), .ref (a 23), .ref (a 24), .ref (a 25), .ref (a 26), .ref (a 27), .ref (a 28), .ref (a 29), .int (nI (sc)), .int (sg), .int (sr), .int (ss), .int (fed), .int (pap), .int (bar), .int (gB (st)), .ref (a 30), .ref (a 31), .ref (a 32), .int (nI (pn)), .ref (a 33), .ref (a 34), .ref (a 35), .ref (a 36), .int (nI (mn)), .long (q1), .long (q2), .long (q3), .long (q4), .long (q5), .ref (a 37), .ref (a 38), .ref (a 39), .int (nI (jn)), .ref (a 40), .ref (a 41)])) := w22
  have hk := gk_step hk ho (by decide)
  clear ho
  refine lv_aload_n (pc := 41) hx hb dX8_press_41 rfl (lv_at hl 0 rfl) ?_
  refine mx_cVv (As := []) (rest := []) (pc := 42) ⟨hx, hb, hml, hown, hts⟩ (k_X8_begin (a := a) (zn := z) (tr := r) (sc := sc) (pn := pn) (mn := mn) (jn := jn) (sg := sg) (sr := sr) (ss := ss) (fed := fed) (pap := pap) (bar := bar) (st := st) (q1 := q1) (q2 := q2) (q3 := q3) (q4 := q4) (q5 := q5) (ke := ke) (cv := cv) (tg := tg) (ink := ink) hD w22 w24 w25 w26 w27 ) (cwV 0 hts gX8_press_X8_begin rfl rfl rfl (by decide +kernel) ⟨Nat.le_of_ble_eq_true rfl, Nat.le_of_ble_eq_true rfl⟩) 22 rfl rfl w22 hK hN hZ hP hS rfl hl.1 rfl (Nat.le_of_ble_eq_true rfl) dX8_press_42 ⟨Nat.zero_le _, Nat.zero_le _⟩ (fun G H locs hP hD hS hB => ?_)
  obtain ⟨w22, w24, w25, w26, w27, ho⟩ := hB
  have w22 : G[22]? = some (a 22, .inr (8, [.int (nI ((z))), .int (nI ((r))), .ref (a 23), .ref (a 24), .ref (a 25), .ref (a 26), .ref (a 27), .ref (a 28), .ref (a 29), .int (nI (0)), .int (nI (0)), .int (nI (0)), .int ((-6)), .int (nI (0)), .int (nI (0)), .int (nI (0)), .int (gB (false)), .ref (a 30), .ref (a 31), .ref (a 32), .int (nI ((pn))), .ref (a 33), .ref (a 34), .ref (a 35), .ref (a 36), .int (nI ((mn))), .long ((q1)), .long ((q2)), .long ((q3)), .long ((q4)), .long ((q5)), .ref (a 37), .ref (a 38), .ref (a 39), .int (nI ((jn))), .ref (a 40), .ref (a 41)])) := w22
  have w24 : G[24]? = some (a 24, .inl (cI, 8, .inl (gFil (nI 0) 8 0 (ke)))) := w24
  have w25 : G[25]? = some (a 25, .inl (cI, 8, .inl (gFil (nI 20) 8 0 (cv)))) := w25
  have w26 : G[26]? = some (a 26, .inl (cI, 8, .inl (gFil (nI 100) 8 0 (tg)))) := w26
  have w27 : G[27]? = some (a 27, .inl (cI, 40, .inl (gClr 40 0 (ink)))) := w27
  have hk := gk_call hk ho (by decide)
  clear ho
  refine lv_iload_n (pc := 45) hx hb dX8_press_45 rfl (lv_at hl 1 rfl) ?_
  refine lv_iload_n (pc := 46) hx hb dX8_press_46 rfl (lv_at hl 2 rfl) ?_
  refine mx_imul (pc := 47) hx hb dX8_press_47 ?_
  exact hret _ _ _ _ _ _ hP hD hS rfl ⟨w22, w24, w25, w26, w27, hk⟩ dX8_press_48
set_option maxHeartbeats 4000000 in
set_option maxRecDepth 100000 in
theorem k_X8_mostOf {l : Launch} {D : va_G} {cI cZ : ClassId} {A : Nat → Prop} {g a : Nat → Nat} {G0 : va_W} {k : Nat} (hD : va_D A G0) (hk9 : k < 9) : gMi l D cI cZ A g yX8_mostOf wsX8_mostOf ({ frames := 0, cells := 0, slots := 0, locals := 0 }) [.int (nI (k))] G0 ((gTab 1).getD k 0) (fun G1 => G1 = G0) := by
  refine gof_i (cc := cX8_mostOf) (maxL := 1) (by decide) rfl (Nat.le_of_ble_eq_true rfl) hD ?_
  intro p e s m args below meth c Q hx hb hml hts hown hK hN hZ hP hS hret ls hl
  have hown : s.vm.findClass RX8 = some m.cls := hown
  have hl : lv_has ls 1 [(0, .int (nI (k)))] := hl
  obtain ⟨locs, elocs⟩ : ∃ q : List Loc, q = [] := ⟨_, rfl⟩
  rw [← elocs] at hS ⊢
  obtain ⟨H, eH⟩ : ∃ q : Heap, q = s.heap := ⟨_, rfl⟩
  have hP : va_P D vwCl G0 H := eH ▸ hP
  have hS : va_S A s.heap H locs := by rw [eH]; exact hS
  rw [← eH]
  clear elocs eH
  have hk : ∀ k, k ∉ ([] : List Nat) → G0[k]? = G0[k]? := fun _ _ => rfl
  rcases (show k = 0 ∨ k = 1 ∨ k = 2 ∨ k = 3 ∨ k = 4 ∨ k = 5 ∨ k = 6 ∨ k = 7 ∨ k = 8 by omega) with rfl | rfl | rfl | rfl | rfl | rfl | rfl | rfl | rfl
  · skip
    refine lv_iload_n (pc := 0) hx hb dX8_mostOf_0 rfl (lv_at hl 0 rfl) ?_
    refine lv_tableIn (tgt := 52) (pc := 1) hx hb dX8_mostOf_1 (by decide) (by decide) rfl (by decide) ?_
    refine lv_bipush (v := nI (20)) (pc := 52) hx hb dX8_mostOf_52 (by decide) ?_
    exact hret _ _ _ _ _ _ hP hD hS (by decide) rfl dX8_mostOf_54
  · skip
    refine lv_iload_n (pc := 0) hx hb dX8_mostOf_0 rfl (lv_at hl 0 rfl) ?_
    refine lv_tableIn (tgt := 75) (pc := 1) hx hb dX8_mostOf_1 (by decide) (by decide) rfl (by decide) ?_
    refine lv_bipush (v := nI (90)) (pc := 75) hx hb dX8_mostOf_75 (by decide) ?_
    exact hret _ _ _ _ _ _ hP hD hS (by decide) rfl dX8_mostOf_77
  · skip
    refine lv_iload_n (pc := 0) hx hb dX8_mostOf_0 rfl (lv_at hl 0 rfl) ?_
    refine lv_tableIn (tgt := 55) (pc := 1) hx hb dX8_mostOf_1 (by decide) (by decide) rfl (by decide) ?_
    refine lv_bipush (v := nI (40)) (pc := 55) hx hb dX8_mostOf_55 (by decide) ?_
    exact hret _ _ _ _ _ _ hP hD hS (by decide) rfl dX8_mostOf_57
  · skip
    refine lv_iload_n (pc := 0) hx hb dX8_mostOf_0 rfl (lv_at hl 0 rfl) ?_
    refine lv_tableIn (tgt := 75) (pc := 1) hx hb dX8_mostOf_1 (by decide) (by decide) rfl (by decide) ?_
    refine lv_bipush (v := nI (90)) (pc := 75) hx hb dX8_mostOf_75 (by decide) ?_
    exact hret _ _ _ _ _ _ hP hD hS (by decide) rfl dX8_mostOf_77
  · skip
    refine lv_iload_n (pc := 0) hx hb dX8_mostOf_0 rfl (lv_at hl 0 rfl) ?_
    refine lv_tableIn (tgt := 58) (pc := 1) hx hb dX8_mostOf_1 (by decide) (by decide) rfl (by decide) ?_
    refine lv_sipush (v := nI (200)) (pc := 58) hx hb dX8_mostOf_58 (by decide) ?_
    exact hret _ _ _ _ _ _ hP hD hS (by decide) rfl dX8_mostOf_61
  · skip
    refine lv_iload_n (pc := 0) hx hb dX8_mostOf_0 rfl (lv_at hl 0 rfl) ?_
    refine lv_tableIn (tgt := 62) (pc := 1) hx hb dX8_mostOf_1 (by decide) (by decide) rfl (by decide) ?_
    refine lv_bipush (v := nI (100)) (pc := 62) hx hb dX8_mostOf_62 (by decide) ?_
    exact hret _ _ _ _ _ _ hP hD hS (by decide) rfl dX8_mostOf_64
  · skip
    refine lv_iload_n (pc := 0) hx hb dX8_mostOf_0 rfl (lv_at hl 0 rfl) ?_
    refine lv_tableIn (tgt := 65) (pc := 1) hx hb dX8_mostOf_1 (by decide) (by decide) rfl (by decide) ?_
    refine lv_sipush (v := nI (500)) (pc := 65) hx hb dX8_mostOf_65 (by decide) ?_
    exact hret _ _ _ _ _ _ hP hD hS (by decide) rfl dX8_mostOf_68
  · skip
    refine lv_iload_n (pc := 0) hx hb dX8_mostOf_0 rfl (lv_at hl 0 rfl) ?_
    refine lv_tableIn (tgt := 69) (pc := 1) hx hb dX8_mostOf_1 (by decide) (by decide) rfl (by decide) ?_
    refine lv_bipush (v := nI (50)) (pc := 69) hx hb dX8_mostOf_69 (by decide) ?_
    exact hret _ _ _ _ _ _ hP hD hS (by decide) rfl dX8_mostOf_71
  · skip
    refine lv_iload_n (pc := 0) hx hb dX8_mostOf_0 rfl (lv_at hl 0 rfl) ?_
    refine lv_tableIn (tgt := 72) (pc := 1) hx hb dX8_mostOf_1 (by decide) (by decide) rfl (by decide) ?_
    refine lv_bipush (v := nI (20)) (pc := 72) hx hb dX8_mostOf_72 (by decide) ?_
    exact hret _ _ _ _ _ _ hP hD hS (by decide) rfl dX8_mostOf_74
set_option maxHeartbeats 4000000 in
set_option maxRecDepth 100000 in
theorem k_X8_rule_b {l : Launch} {D : va_G} {cI cZ : ClassId} {A : Nat → Prop} {g a : Nat → Nat} {G0 : va_W} {zn : Nat} {tr : Nat} {sc : Nat} {pn : Nat} {mn : Nat} {jn : Nat} {sg : Int32} {sr : Int32} {ss : Int32} {fed : Int32} {pap : Int32} {bar : Int32} {st : Bool} {q1 : Int64} {q2 : Int64} {q3 : Int64} {q4 : Int64} {q5 : Int64} {x : Int32} {v : Int32} (hD : va_D A G0) (w22 : G0[22]? = some (a 22, .inr (8, [.int (nI (zn)), .int (nI (tr)), .ref (a 23), .ref (a 24), .ref (a 25), .ref (a 26), .ref (a 27), .ref (a 28), .ref (a 29), .int (nI (sc)), .int (sg), .int (sr), .int (ss), .int (fed), .int (pap), .int (bar), .int (gB (st)), .ref (a 30), .ref (a 31), .ref (a 32), .int (nI (pn)), .ref (a 33), .ref (a 34), .ref (a 35), .ref (a 36), .int (nI (mn)), .long (q1), .long (q2), .long (q3), .long (q4), .long (q5), .ref (a 37), .ref (a 38), .ref (a 39), .int (nI (jn)), .ref (a 40), .ref (a 41)]))) (h1 : gHas x (nI 9) = false) : gMi l D cI cZ A g yX8_rule wsX8_rule ({ frames := 1, cells := 0, slots := 0, locals := 25 }) [.ref (a 22), .int (x), .int (v)] G0 ((-1000001)) (fun G1 => G1 = G0) := by
  refine gof_i (cc := cX8_rule) (maxL := 4) (by decide) rfl (Nat.le_of_ble_eq_true rfl) hD ?_
  intro p e s m args below meth c Q hx hb hml hts hown hK hN hZ hP hS hret ls hl
  have hown : s.vm.findClass RX8 = some m.cls := hown
  have hl : lv_has ls 4 [(0, .ref (a 22)), (1, .int (x)), (2, .int (v))] := hl
  obtain ⟨locs, elocs⟩ : ∃ q : List Loc, q = [] := ⟨_, rfl⟩
  rw [← elocs] at hS ⊢
  obtain ⟨H, eH⟩ : ∃ q : Heap, q = s.heap := ⟨_, rfl⟩
  have hP : va_P D vwCl G0 H := eH ▸ hP
  have hS : va_S A s.heap H locs := by rw [eH]; exact hS
  rw [← eH]
  clear elocs eH
  have hk : ∀ k, k ∉ ([] : List Nat) → G0[k]? = G0[k]? := fun _ _ => rfl
  refine lv_iload_n (pc := 0) hx hb dX8_rule_0 rfl (lv_at hl 1 rfl) ?_
  refine lv_i2l (v := (x).toInt64) (pc := 1) hx hb dX8_rule_1 rfl ?_
  refine lv_lconst (v := 0) (pc := 2) hx hb dX8_rule_2 (by decide) ?_
  refine lv_ldc2 (own := RX8) (v := (8)) (pc := 3) hx hb hown (hts (.constantLong RX8 109 (8)) (by decide +kernel)) dX8_rule_3 ?_
  refine mx_cSi (As := [.long ((x).toInt64), .long (0), .long ((8))]) (rest := []) (pc := 6) ⟨hx, hb, hml, hown, hts⟩ (k_X8_in (a := a) (v := (x).toInt64) (lo := 0) (hi := (8)) hD  ) (va_cwS 3 hts gX8_rule_X8_in rfl rfl rfl (by decide +kernel) ⟨Nat.le_of_ble_eq_true rfl, Nat.le_of_ble_eq_true rfl⟩) hK hN hZ hP hS rfl hl.1 rfl (Nat.le_of_ble_eq_true rfl) dX8_rule_6 ⟨Nat.zero_le _, Nat.zero_le _⟩ (fun G' H locs hP hD hS hB => ?_)
  rw [hB] at hP hD
  clear hB G'
  refine mx_bne (tgt := 15) (pc := 9) hx hb dX8_rule_9 (by decide) (fun c9 => absurd (c9.symm.trans ((gIn_w (a := nI 0) (b := nI 8) (by decide) (by decide)).trans ((gWi_has 8 (by decide)).trans h1))) (by decide)) (fun c9 => ?_)
  refine lv_ldc (own := RX8) (v := (-1000001)) (pc := 12) hx hb hown (hts (.constant RX8 113 (-1000001)) (by decide +kernel)) dX8_rule_12 ?_
  exact hret _ _ _ _ _ _ hP hD hS rfl rfl dX8_rule_14
set_option maxHeartbeats 4000000 in
set_option maxRecDepth 100000 in
theorem k_X8_rule_c {l : Launch} {D : va_G} {cI cZ : ClassId} {A : Nat → Prop} {g a : Nat → Nat} {G0 : va_W} {zn : Nat} {tr : Nat} {sc : Nat} {pn : Nat} {mn : Nat} {jn : Nat} {sg : Int32} {sr : Int32} {ss : Int32} {fed : Int32} {pap : Int32} {bar : Int32} {st : Bool} {q1 : Int64} {q2 : Int64} {q3 : Int64} {q4 : Int64} {q5 : Int64} {ru : Nat → Int32} {k : Nat} {v : Int32} (hD : va_D A G0) (w22 : G0[22]? = some (a 22, .inr (8, [.int (nI (zn)), .int (nI (tr)), .ref (a 23), .ref (a 24), .ref (a 25), .ref (a 26), .ref (a 27), .ref (a 28), .ref (a 29), .int (nI (sc)), .int (sg), .int (sr), .int (ss), .int (fed), .int (pap), .int (bar), .int (gB (st)), .ref (a 30), .ref (a 31), .ref (a 32), .int (nI (pn)), .ref (a 33), .ref (a 34), .ref (a 35), .ref (a 36), .int (nI (mn)), .long (q1), .long (q2), .long (q3), .long (q4), .long (q5), .ref (a 37), .ref (a 38), .ref (a 39), .int (nI (jn)), .ref (a 40), .ref (a 41)]))) (w23 : G0[23]? = some (a 23, .inl (cI, 9, .inl (ru)))) (hk9 : k < 9) (h1 : gHas (nI k) (nI 9) = true) (h2 : gWi v ((gTab 0).getD k 0) ((gTab 1).getD k 0) = false) : gMi l D cI cZ A g yX8_rule wsX8_rule ({ frames := 1, cells := 0, slots := 0, locals := 25 }) [.ref (a 22), .int (nI (k)), .int (v)] G0 ((-1000002)) (fun G1 => G1 = G0) := by
  refine gof_i (cc := cX8_rule) (maxL := 4) (by decide) rfl (Nat.le_of_ble_eq_true rfl) hD ?_
  intro p e s m args below meth c Q hx hb hml hts hown hK hN hZ hP hS hret ls hl
  have hown : s.vm.findClass RX8 = some m.cls := hown
  have hl : lv_has ls 4 [(0, .ref (a 22)), (1, .int (nI (k))), (2, .int (v))] := hl
  obtain ⟨locs, elocs⟩ : ∃ q : List Loc, q = [] := ⟨_, rfl⟩
  rw [← elocs] at hS ⊢
  obtain ⟨H, eH⟩ : ∃ q : Heap, q = s.heap := ⟨_, rfl⟩
  have hP : va_P D vwCl G0 H := eH ▸ hP
  have hS : va_S A s.heap H locs := by rw [eH]; exact hS
  rw [← eH]
  clear elocs eH
  have hk : ∀ k, k ∉ ([] : List Nat) → G0[k]? = G0[k]? := fun _ _ => rfl
  rcases (show k = 0 ∨ k = 1 ∨ k = 2 ∨ k = 3 ∨ k = 4 ∨ k = 5 ∨ k = 6 ∨ k = 7 ∨ k = 8 by omega) with rfl | rfl | rfl | rfl | rfl | rfl | rfl | rfl | rfl
  · skip
    refine lv_iload_n (pc := 0) hx hb dX8_rule_0 rfl (lv_at hl 1 rfl) ?_
    refine lv_i2l (v := (nI (0)).toInt64) (pc := 1) hx hb dX8_rule_1 rfl ?_
    refine lv_lconst (v := 0) (pc := 2) hx hb dX8_rule_2 (by decide) ?_
    refine lv_ldc2 (own := RX8) (v := (8)) (pc := 3) hx hb hown (hts (.constantLong RX8 109 (8)) (by decide +kernel)) dX8_rule_3 ?_
    refine mx_cSi (As := [.long ((nI (0)).toInt64), .long (0), .long ((8))]) (rest := []) (pc := 6) ⟨hx, hb, hml, hown, hts⟩ (k_X8_in (a := a) (v := (nI (0)).toInt64) (lo := 0) (hi := (8)) hD  ) (va_cwS 3 hts gX8_rule_X8_in rfl rfl rfl (by decide +kernel) ⟨Nat.le_of_ble_eq_true rfl, Nat.le_of_ble_eq_true rfl⟩) hK hN hZ hP hS rfl hl.1 rfl (Nat.le_of_ble_eq_true rfl) dX8_rule_6 ⟨Nat.zero_le _, Nat.zero_le _⟩ (fun G' H locs hP hD hS hB => ?_)
    rw [hB] at hP hD
    clear hB G'
    refine mx_bne (tgt := 15) (pc := 9) hx hb dX8_rule_9 (by decide) (fun c9 => ?_) (fun c9 => absurd (c9.symm.trans ((gIn_w (a := nI 0) (b := nI 8) (by decide) (by decide)).trans ((gWi_has 8 (by decide)).trans h1))) (by decide))
    refine lv_iload_n (pc := 15) hx hb dX8_rule_15 rfl (lv_at hl 2 rfl) ?_
    refine lv_i2l (v := (v).toInt64) (pc := 16) hx hb dX8_rule_16 rfl ?_
    refine lv_iload_n (pc := 17) hx hb dX8_rule_17 rfl (lv_at hl 1 rfl) ?_
    refine lv_iconst (v := nI (2)) (pc := 18) hx hb dX8_rule_18 (by decide) ?_
    refine mx_ceq (tgt := 28) (pc := 19) hx hb (by omega) (by omega) dX8_rule_19 (by decide) (fun c19 => absurd c19 (by decide)) (fun c19 => ?_)
    refine lv_iload_n (pc := 22) hx hb dX8_rule_22 rfl (lv_at hl 1 rfl) ?_
    refine lv_bipush (v := nI (6)) (pc := 23) hx hb dX8_rule_23 (by decide) ?_
    refine mx_cne (tgt := 32) (pc := 25) hx hb (by omega) (by omega) dX8_rule_25 (by decide) (fun c25 => ?_) (fun c25 => absurd c25 (by decide))
    refine lv_lconst (v := 1) (pc := 32) hx hb dX8_rule_32 (by decide) ?_
    refine lv_iload_n (pc := 33) hx hb dX8_rule_33 rfl (lv_at hl 1 rfl) ?_
    refine mx_cSi (As := [.int (nI (0))]) (rest := [.long (1), .long ((v).toInt64)]) (pc := 34) ⟨hx, hb, hml, hown, hts⟩ (k_X8_mostOf (a := a) (k := 0) hD  (by decide)) (va_cwS 1 hts gX8_rule_X8_mostOf rfl rfl rfl (by decide +kernel) ⟨Nat.le_of_ble_eq_true rfl, Nat.le_of_ble_eq_true rfl⟩) hK hN hZ hP hS rfl hl.1 rfl (Nat.le_of_ble_eq_true rfl) dX8_rule_34 ⟨Nat.zero_le _, Nat.zero_le _⟩ (fun G' H locs hP hD hS hB => ?_)
    rw [hB] at hP hD
    clear hB G'
    refine lv_i2l (v := ((gTab 1).getD (0) 0).toInt64) (pc := 37) hx hb dX8_rule_37 rfl ?_
    refine mx_cSi (As := [.long ((v).toInt64), .long (1), .long (((gTab 1).getD (0) 0).toInt64)]) (rest := []) (pc := 38) ⟨hx, hb, hml, hown, hts⟩ (k_X8_in (a := a) (v := (v).toInt64) (lo := 1) (hi := ((gTab 1).getD (0) 0).toInt64) hD  ) (va_cwS 3 hts gX8_rule_X8_in rfl rfl rfl (by decide +kernel) ⟨Nat.le_of_ble_eq_true rfl, Nat.le_of_ble_eq_true rfl⟩) hK hN hZ hP hS rfl hl.1 rfl (Nat.le_of_ble_eq_true rfl) dX8_rule_38 ⟨Nat.zero_le _, Nat.zero_le _⟩ (fun G' H locs hP hD hS hB => ?_)
    rw [hB] at hP hD
    clear hB G'
    refine mx_bne (tgt := 47) (pc := 41) hx hb dX8_rule_41 (by decide) (fun c41 => absurd (c41.symm.trans ((gIn_w (a := (gTab 0).getD 0 0) (b := (gTab 1).getD 0 0) (by decide) rfl).trans h2)) (by decide)) (fun c41 => ?_)
    refine lv_ldc (own := RX8) (v := (-1000002)) (pc := 44) hx hb hown (hts (.constant RX8 118 (-1000002)) (by decide +kernel)) dX8_rule_44 ?_
    exact hret _ _ _ _ _ _ hP hD hS rfl rfl dX8_rule_46
  · skip
    refine lv_iload_n (pc := 0) hx hb dX8_rule_0 rfl (lv_at hl 1 rfl) ?_
    refine lv_i2l (v := (nI (1)).toInt64) (pc := 1) hx hb dX8_rule_1 rfl ?_
    refine lv_lconst (v := 0) (pc := 2) hx hb dX8_rule_2 (by decide) ?_
    refine lv_ldc2 (own := RX8) (v := (8)) (pc := 3) hx hb hown (hts (.constantLong RX8 109 (8)) (by decide +kernel)) dX8_rule_3 ?_
    refine mx_cSi (As := [.long ((nI (1)).toInt64), .long (0), .long ((8))]) (rest := []) (pc := 6) ⟨hx, hb, hml, hown, hts⟩ (k_X8_in (a := a) (v := (nI (1)).toInt64) (lo := 0) (hi := (8)) hD  ) (va_cwS 3 hts gX8_rule_X8_in rfl rfl rfl (by decide +kernel) ⟨Nat.le_of_ble_eq_true rfl, Nat.le_of_ble_eq_true rfl⟩) hK hN hZ hP hS rfl hl.1 rfl (Nat.le_of_ble_eq_true rfl) dX8_rule_6 ⟨Nat.zero_le _, Nat.zero_le _⟩ (fun G' H locs hP hD hS hB => ?_)
    rw [hB] at hP hD
    clear hB G'
    refine mx_bne (tgt := 15) (pc := 9) hx hb dX8_rule_9 (by decide) (fun c9 => ?_) (fun c9 => absurd (c9.symm.trans ((gIn_w (a := nI 0) (b := nI 8) (by decide) (by decide)).trans ((gWi_has 8 (by decide)).trans h1))) (by decide))
    refine lv_iload_n (pc := 15) hx hb dX8_rule_15 rfl (lv_at hl 2 rfl) ?_
    refine lv_i2l (v := (v).toInt64) (pc := 16) hx hb dX8_rule_16 rfl ?_
    refine lv_iload_n (pc := 17) hx hb dX8_rule_17 rfl (lv_at hl 1 rfl) ?_
    refine lv_iconst (v := nI (2)) (pc := 18) hx hb dX8_rule_18 (by decide) ?_
    refine mx_ceq (tgt := 28) (pc := 19) hx hb (by omega) (by omega) dX8_rule_19 (by decide) (fun c19 => absurd c19 (by decide)) (fun c19 => ?_)
    refine lv_iload_n (pc := 22) hx hb dX8_rule_22 rfl (lv_at hl 1 rfl) ?_
    refine lv_bipush (v := nI (6)) (pc := 23) hx hb dX8_rule_23 (by decide) ?_
    refine mx_cne (tgt := 32) (pc := 25) hx hb (by omega) (by omega) dX8_rule_25 (by decide) (fun c25 => ?_) (fun c25 => absurd c25 (by decide))
    refine lv_lconst (v := 1) (pc := 32) hx hb dX8_rule_32 (by decide) ?_
    refine lv_iload_n (pc := 33) hx hb dX8_rule_33 rfl (lv_at hl 1 rfl) ?_
    refine mx_cSi (As := [.int (nI (1))]) (rest := [.long (1), .long ((v).toInt64)]) (pc := 34) ⟨hx, hb, hml, hown, hts⟩ (k_X8_mostOf (a := a) (k := 1) hD  (by decide)) (va_cwS 1 hts gX8_rule_X8_mostOf rfl rfl rfl (by decide +kernel) ⟨Nat.le_of_ble_eq_true rfl, Nat.le_of_ble_eq_true rfl⟩) hK hN hZ hP hS rfl hl.1 rfl (Nat.le_of_ble_eq_true rfl) dX8_rule_34 ⟨Nat.zero_le _, Nat.zero_le _⟩ (fun G' H locs hP hD hS hB => ?_)
    rw [hB] at hP hD
    clear hB G'
    refine lv_i2l (v := ((gTab 1).getD (1) 0).toInt64) (pc := 37) hx hb dX8_rule_37 rfl ?_
    refine mx_cSi (As := [.long ((v).toInt64), .long (1), .long (((gTab 1).getD (1) 0).toInt64)]) (rest := []) (pc := 38) ⟨hx, hb, hml, hown, hts⟩ (k_X8_in (a := a) (v := (v).toInt64) (lo := 1) (hi := ((gTab 1).getD (1) 0).toInt64) hD  ) (va_cwS 3 hts gX8_rule_X8_in rfl rfl rfl (by decide +kernel) ⟨Nat.le_of_ble_eq_true rfl, Nat.le_of_ble_eq_true rfl⟩) hK hN hZ hP hS rfl hl.1 rfl (Nat.le_of_ble_eq_true rfl) dX8_rule_38 ⟨Nat.zero_le _, Nat.zero_le _⟩ (fun G' H locs hP hD hS hB => ?_)
    rw [hB] at hP hD
    clear hB G'
    refine mx_bne (tgt := 47) (pc := 41) hx hb dX8_rule_41 (by decide) (fun c41 => absurd (c41.symm.trans ((gIn_w (a := (gTab 0).getD 1 0) (b := (gTab 1).getD 1 0) (by decide) rfl).trans h2)) (by decide)) (fun c41 => ?_)
    refine lv_ldc (own := RX8) (v := (-1000002)) (pc := 44) hx hb hown (hts (.constant RX8 118 (-1000002)) (by decide +kernel)) dX8_rule_44 ?_
    exact hret _ _ _ _ _ _ hP hD hS rfl rfl dX8_rule_46
  · skip
    refine lv_iload_n (pc := 0) hx hb dX8_rule_0 rfl (lv_at hl 1 rfl) ?_
    refine lv_i2l (v := (nI (2)).toInt64) (pc := 1) hx hb dX8_rule_1 rfl ?_
    refine lv_lconst (v := 0) (pc := 2) hx hb dX8_rule_2 (by decide) ?_
    refine lv_ldc2 (own := RX8) (v := (8)) (pc := 3) hx hb hown (hts (.constantLong RX8 109 (8)) (by decide +kernel)) dX8_rule_3 ?_
    refine mx_cSi (As := [.long ((nI (2)).toInt64), .long (0), .long ((8))]) (rest := []) (pc := 6) ⟨hx, hb, hml, hown, hts⟩ (k_X8_in (a := a) (v := (nI (2)).toInt64) (lo := 0) (hi := (8)) hD  ) (va_cwS 3 hts gX8_rule_X8_in rfl rfl rfl (by decide +kernel) ⟨Nat.le_of_ble_eq_true rfl, Nat.le_of_ble_eq_true rfl⟩) hK hN hZ hP hS rfl hl.1 rfl (Nat.le_of_ble_eq_true rfl) dX8_rule_6 ⟨Nat.zero_le _, Nat.zero_le _⟩ (fun G' H locs hP hD hS hB => ?_)
    rw [hB] at hP hD
    clear hB G'
    refine mx_bne (tgt := 15) (pc := 9) hx hb dX8_rule_9 (by decide) (fun c9 => ?_) (fun c9 => absurd (c9.symm.trans ((gIn_w (a := nI 0) (b := nI 8) (by decide) (by decide)).trans ((gWi_has 8 (by decide)).trans h1))) (by decide))
    refine lv_iload_n (pc := 15) hx hb dX8_rule_15 rfl (lv_at hl 2 rfl) ?_
    refine lv_i2l (v := (v).toInt64) (pc := 16) hx hb dX8_rule_16 rfl ?_
    refine lv_iload_n (pc := 17) hx hb dX8_rule_17 rfl (lv_at hl 1 rfl) ?_
    refine lv_iconst (v := nI (2)) (pc := 18) hx hb dX8_rule_18 (by decide) ?_
    refine mx_ceq (tgt := 28) (pc := 19) hx hb (by omega) (by omega) dX8_rule_19 (by decide) (fun c19 => ?_) (fun c19 => absurd c19 (by decide))
    refine lv_lconst (v := 0) (pc := 28) hx hb dX8_rule_28 (by decide) ?_
    refine lv_goto (tgt := 33) (pc := 29) hx hb dX8_rule_29 (by decide) ?_
    refine lv_iload_n (pc := 33) hx hb dX8_rule_33 rfl (lv_at hl 1 rfl) ?_
    refine mx_cSi (As := [.int (nI (2))]) (rest := [.long (0), .long ((v).toInt64)]) (pc := 34) ⟨hx, hb, hml, hown, hts⟩ (k_X8_mostOf (a := a) (k := 2) hD  (by decide)) (va_cwS 1 hts gX8_rule_X8_mostOf rfl rfl rfl (by decide +kernel) ⟨Nat.le_of_ble_eq_true rfl, Nat.le_of_ble_eq_true rfl⟩) hK hN hZ hP hS rfl hl.1 rfl (Nat.le_of_ble_eq_true rfl) dX8_rule_34 ⟨Nat.zero_le _, Nat.zero_le _⟩ (fun G' H locs hP hD hS hB => ?_)
    rw [hB] at hP hD
    clear hB G'
    refine lv_i2l (v := ((gTab 1).getD (2) 0).toInt64) (pc := 37) hx hb dX8_rule_37 rfl ?_
    refine mx_cSi (As := [.long ((v).toInt64), .long (0), .long (((gTab 1).getD (2) 0).toInt64)]) (rest := []) (pc := 38) ⟨hx, hb, hml, hown, hts⟩ (k_X8_in (a := a) (v := (v).toInt64) (lo := 0) (hi := ((gTab 1).getD (2) 0).toInt64) hD  ) (va_cwS 3 hts gX8_rule_X8_in rfl rfl rfl (by decide +kernel) ⟨Nat.le_of_ble_eq_true rfl, Nat.le_of_ble_eq_true rfl⟩) hK hN hZ hP hS rfl hl.1 rfl (Nat.le_of_ble_eq_true rfl) dX8_rule_38 ⟨Nat.zero_le _, Nat.zero_le _⟩ (fun G' H locs hP hD hS hB => ?_)
    rw [hB] at hP hD
    clear hB G'
    refine mx_bne (tgt := 47) (pc := 41) hx hb dX8_rule_41 (by decide) (fun c41 => absurd (c41.symm.trans ((gIn_w (a := (gTab 0).getD 2 0) (b := (gTab 1).getD 2 0) (by decide) rfl).trans h2)) (by decide)) (fun c41 => ?_)
    refine lv_ldc (own := RX8) (v := (-1000002)) (pc := 44) hx hb hown (hts (.constant RX8 118 (-1000002)) (by decide +kernel)) dX8_rule_44 ?_
    exact hret _ _ _ _ _ _ hP hD hS rfl rfl dX8_rule_46
  · skip
    refine lv_iload_n (pc := 0) hx hb dX8_rule_0 rfl (lv_at hl 1 rfl) ?_
    refine lv_i2l (v := (nI (3)).toInt64) (pc := 1) hx hb dX8_rule_1 rfl ?_
    refine lv_lconst (v := 0) (pc := 2) hx hb dX8_rule_2 (by decide) ?_
    refine lv_ldc2 (own := RX8) (v := (8)) (pc := 3) hx hb hown (hts (.constantLong RX8 109 (8)) (by decide +kernel)) dX8_rule_3 ?_
    refine mx_cSi (As := [.long ((nI (3)).toInt64), .long (0), .long ((8))]) (rest := []) (pc := 6) ⟨hx, hb, hml, hown, hts⟩ (k_X8_in (a := a) (v := (nI (3)).toInt64) (lo := 0) (hi := (8)) hD  ) (va_cwS 3 hts gX8_rule_X8_in rfl rfl rfl (by decide +kernel) ⟨Nat.le_of_ble_eq_true rfl, Nat.le_of_ble_eq_true rfl⟩) hK hN hZ hP hS rfl hl.1 rfl (Nat.le_of_ble_eq_true rfl) dX8_rule_6 ⟨Nat.zero_le _, Nat.zero_le _⟩ (fun G' H locs hP hD hS hB => ?_)
    rw [hB] at hP hD
    clear hB G'
    refine mx_bne (tgt := 15) (pc := 9) hx hb dX8_rule_9 (by decide) (fun c9 => ?_) (fun c9 => absurd (c9.symm.trans ((gIn_w (a := nI 0) (b := nI 8) (by decide) (by decide)).trans ((gWi_has 8 (by decide)).trans h1))) (by decide))
    refine lv_iload_n (pc := 15) hx hb dX8_rule_15 rfl (lv_at hl 2 rfl) ?_
    refine lv_i2l (v := (v).toInt64) (pc := 16) hx hb dX8_rule_16 rfl ?_
    refine lv_iload_n (pc := 17) hx hb dX8_rule_17 rfl (lv_at hl 1 rfl) ?_
    refine lv_iconst (v := nI (2)) (pc := 18) hx hb dX8_rule_18 (by decide) ?_
    refine mx_ceq (tgt := 28) (pc := 19) hx hb (by omega) (by omega) dX8_rule_19 (by decide) (fun c19 => absurd c19 (by decide)) (fun c19 => ?_)
    refine lv_iload_n (pc := 22) hx hb dX8_rule_22 rfl (lv_at hl 1 rfl) ?_
    refine lv_bipush (v := nI (6)) (pc := 23) hx hb dX8_rule_23 (by decide) ?_
    refine mx_cne (tgt := 32) (pc := 25) hx hb (by omega) (by omega) dX8_rule_25 (by decide) (fun c25 => ?_) (fun c25 => absurd c25 (by decide))
    refine lv_lconst (v := 1) (pc := 32) hx hb dX8_rule_32 (by decide) ?_
    refine lv_iload_n (pc := 33) hx hb dX8_rule_33 rfl (lv_at hl 1 rfl) ?_
    refine mx_cSi (As := [.int (nI (3))]) (rest := [.long (1), .long ((v).toInt64)]) (pc := 34) ⟨hx, hb, hml, hown, hts⟩ (k_X8_mostOf (a := a) (k := 3) hD  (by decide)) (va_cwS 1 hts gX8_rule_X8_mostOf rfl rfl rfl (by decide +kernel) ⟨Nat.le_of_ble_eq_true rfl, Nat.le_of_ble_eq_true rfl⟩) hK hN hZ hP hS rfl hl.1 rfl (Nat.le_of_ble_eq_true rfl) dX8_rule_34 ⟨Nat.zero_le _, Nat.zero_le _⟩ (fun G' H locs hP hD hS hB => ?_)
    rw [hB] at hP hD
    clear hB G'
    refine lv_i2l (v := ((gTab 1).getD (3) 0).toInt64) (pc := 37) hx hb dX8_rule_37 rfl ?_
    refine mx_cSi (As := [.long ((v).toInt64), .long (1), .long (((gTab 1).getD (3) 0).toInt64)]) (rest := []) (pc := 38) ⟨hx, hb, hml, hown, hts⟩ (k_X8_in (a := a) (v := (v).toInt64) (lo := 1) (hi := ((gTab 1).getD (3) 0).toInt64) hD  ) (va_cwS 3 hts gX8_rule_X8_in rfl rfl rfl (by decide +kernel) ⟨Nat.le_of_ble_eq_true rfl, Nat.le_of_ble_eq_true rfl⟩) hK hN hZ hP hS rfl hl.1 rfl (Nat.le_of_ble_eq_true rfl) dX8_rule_38 ⟨Nat.zero_le _, Nat.zero_le _⟩ (fun G' H locs hP hD hS hB => ?_)
    rw [hB] at hP hD
    clear hB G'
    refine mx_bne (tgt := 47) (pc := 41) hx hb dX8_rule_41 (by decide) (fun c41 => absurd (c41.symm.trans ((gIn_w (a := (gTab 0).getD 3 0) (b := (gTab 1).getD 3 0) (by decide) rfl).trans h2)) (by decide)) (fun c41 => ?_)
    refine lv_ldc (own := RX8) (v := (-1000002)) (pc := 44) hx hb hown (hts (.constant RX8 118 (-1000002)) (by decide +kernel)) dX8_rule_44 ?_
    exact hret _ _ _ _ _ _ hP hD hS rfl rfl dX8_rule_46
  · skip
    refine lv_iload_n (pc := 0) hx hb dX8_rule_0 rfl (lv_at hl 1 rfl) ?_
    refine lv_i2l (v := (nI (4)).toInt64) (pc := 1) hx hb dX8_rule_1 rfl ?_
    refine lv_lconst (v := 0) (pc := 2) hx hb dX8_rule_2 (by decide) ?_
    refine lv_ldc2 (own := RX8) (v := (8)) (pc := 3) hx hb hown (hts (.constantLong RX8 109 (8)) (by decide +kernel)) dX8_rule_3 ?_
    refine mx_cSi (As := [.long ((nI (4)).toInt64), .long (0), .long ((8))]) (rest := []) (pc := 6) ⟨hx, hb, hml, hown, hts⟩ (k_X8_in (a := a) (v := (nI (4)).toInt64) (lo := 0) (hi := (8)) hD  ) (va_cwS 3 hts gX8_rule_X8_in rfl rfl rfl (by decide +kernel) ⟨Nat.le_of_ble_eq_true rfl, Nat.le_of_ble_eq_true rfl⟩) hK hN hZ hP hS rfl hl.1 rfl (Nat.le_of_ble_eq_true rfl) dX8_rule_6 ⟨Nat.zero_le _, Nat.zero_le _⟩ (fun G' H locs hP hD hS hB => ?_)
    rw [hB] at hP hD
    clear hB G'
    refine mx_bne (tgt := 15) (pc := 9) hx hb dX8_rule_9 (by decide) (fun c9 => ?_) (fun c9 => absurd (c9.symm.trans ((gIn_w (a := nI 0) (b := nI 8) (by decide) (by decide)).trans ((gWi_has 8 (by decide)).trans h1))) (by decide))
    refine lv_iload_n (pc := 15) hx hb dX8_rule_15 rfl (lv_at hl 2 rfl) ?_
    refine lv_i2l (v := (v).toInt64) (pc := 16) hx hb dX8_rule_16 rfl ?_
    refine lv_iload_n (pc := 17) hx hb dX8_rule_17 rfl (lv_at hl 1 rfl) ?_
    refine lv_iconst (v := nI (2)) (pc := 18) hx hb dX8_rule_18 (by decide) ?_
    refine mx_ceq (tgt := 28) (pc := 19) hx hb (by omega) (by omega) dX8_rule_19 (by decide) (fun c19 => absurd c19 (by decide)) (fun c19 => ?_)
    refine lv_iload_n (pc := 22) hx hb dX8_rule_22 rfl (lv_at hl 1 rfl) ?_
    refine lv_bipush (v := nI (6)) (pc := 23) hx hb dX8_rule_23 (by decide) ?_
    refine mx_cne (tgt := 32) (pc := 25) hx hb (by omega) (by omega) dX8_rule_25 (by decide) (fun c25 => ?_) (fun c25 => absurd c25 (by decide))
    refine lv_lconst (v := 1) (pc := 32) hx hb dX8_rule_32 (by decide) ?_
    refine lv_iload_n (pc := 33) hx hb dX8_rule_33 rfl (lv_at hl 1 rfl) ?_
    refine mx_cSi (As := [.int (nI (4))]) (rest := [.long (1), .long ((v).toInt64)]) (pc := 34) ⟨hx, hb, hml, hown, hts⟩ (k_X8_mostOf (a := a) (k := 4) hD  (by decide)) (va_cwS 1 hts gX8_rule_X8_mostOf rfl rfl rfl (by decide +kernel) ⟨Nat.le_of_ble_eq_true rfl, Nat.le_of_ble_eq_true rfl⟩) hK hN hZ hP hS rfl hl.1 rfl (Nat.le_of_ble_eq_true rfl) dX8_rule_34 ⟨Nat.zero_le _, Nat.zero_le _⟩ (fun G' H locs hP hD hS hB => ?_)
    rw [hB] at hP hD
    clear hB G'
    refine lv_i2l (v := ((gTab 1).getD (4) 0).toInt64) (pc := 37) hx hb dX8_rule_37 rfl ?_
    refine mx_cSi (As := [.long ((v).toInt64), .long (1), .long (((gTab 1).getD (4) 0).toInt64)]) (rest := []) (pc := 38) ⟨hx, hb, hml, hown, hts⟩ (k_X8_in (a := a) (v := (v).toInt64) (lo := 1) (hi := ((gTab 1).getD (4) 0).toInt64) hD  ) (va_cwS 3 hts gX8_rule_X8_in rfl rfl rfl (by decide +kernel) ⟨Nat.le_of_ble_eq_true rfl, Nat.le_of_ble_eq_true rfl⟩) hK hN hZ hP hS rfl hl.1 rfl (Nat.le_of_ble_eq_true rfl) dX8_rule_38 ⟨Nat.zero_le _, Nat.zero_le _⟩ (fun G' H locs hP hD hS hB => ?_)
    rw [hB] at hP hD
    clear hB G'
    refine mx_bne (tgt := 47) (pc := 41) hx hb dX8_rule_41 (by decide) (fun c41 => absurd (c41.symm.trans ((gIn_w (a := (gTab 0).getD 4 0) (b := (gTab 1).getD 4 0) (by decide) rfl).trans h2)) (by decide)) (fun c41 => ?_)
    refine lv_ldc (own := RX8) (v := (-1000002)) (pc := 44) hx hb hown (hts (.constant RX8 118 (-1000002)) (by decide +kernel)) dX8_rule_44 ?_
    exact hret _ _ _ _ _ _ hP hD hS rfl rfl dX8_rule_46
  · skip
    refine lv_iload_n (pc := 0) hx hb dX8_rule_0 rfl (lv_at hl 1 rfl) ?_
    refine lv_i2l (v := (nI (5)).toInt64) (pc := 1) hx hb dX8_rule_1 rfl ?_
    refine lv_lconst (v := 0) (pc := 2) hx hb dX8_rule_2 (by decide) ?_
    refine lv_ldc2 (own := RX8) (v := (8)) (pc := 3) hx hb hown (hts (.constantLong RX8 109 (8)) (by decide +kernel)) dX8_rule_3 ?_
    refine mx_cSi (As := [.long ((nI (5)).toInt64), .long (0), .long ((8))]) (rest := []) (pc := 6) ⟨hx, hb, hml, hown, hts⟩ (k_X8_in (a := a) (v := (nI (5)).toInt64) (lo := 0) (hi := (8)) hD  ) (va_cwS 3 hts gX8_rule_X8_in rfl rfl rfl (by decide +kernel) ⟨Nat.le_of_ble_eq_true rfl, Nat.le_of_ble_eq_true rfl⟩) hK hN hZ hP hS rfl hl.1 rfl (Nat.le_of_ble_eq_true rfl) dX8_rule_6 ⟨Nat.zero_le _, Nat.zero_le _⟩ (fun G' H locs hP hD hS hB => ?_)
    rw [hB] at hP hD
    clear hB G'
    refine mx_bne (tgt := 15) (pc := 9) hx hb dX8_rule_9 (by decide) (fun c9 => ?_) (fun c9 => absurd (c9.symm.trans ((gIn_w (a := nI 0) (b := nI 8) (by decide) (by decide)).trans ((gWi_has 8 (by decide)).trans h1))) (by decide))
    refine lv_iload_n (pc := 15) hx hb dX8_rule_15 rfl (lv_at hl 2 rfl) ?_
    refine lv_i2l (v := (v).toInt64) (pc := 16) hx hb dX8_rule_16 rfl ?_
    refine lv_iload_n (pc := 17) hx hb dX8_rule_17 rfl (lv_at hl 1 rfl) ?_
    refine lv_iconst (v := nI (2)) (pc := 18) hx hb dX8_rule_18 (by decide) ?_
    refine mx_ceq (tgt := 28) (pc := 19) hx hb (by omega) (by omega) dX8_rule_19 (by decide) (fun c19 => absurd c19 (by decide)) (fun c19 => ?_)
    refine lv_iload_n (pc := 22) hx hb dX8_rule_22 rfl (lv_at hl 1 rfl) ?_
    refine lv_bipush (v := nI (6)) (pc := 23) hx hb dX8_rule_23 (by decide) ?_
    refine mx_cne (tgt := 32) (pc := 25) hx hb (by omega) (by omega) dX8_rule_25 (by decide) (fun c25 => ?_) (fun c25 => absurd c25 (by decide))
    refine lv_lconst (v := 1) (pc := 32) hx hb dX8_rule_32 (by decide) ?_
    refine lv_iload_n (pc := 33) hx hb dX8_rule_33 rfl (lv_at hl 1 rfl) ?_
    refine mx_cSi (As := [.int (nI (5))]) (rest := [.long (1), .long ((v).toInt64)]) (pc := 34) ⟨hx, hb, hml, hown, hts⟩ (k_X8_mostOf (a := a) (k := 5) hD  (by decide)) (va_cwS 1 hts gX8_rule_X8_mostOf rfl rfl rfl (by decide +kernel) ⟨Nat.le_of_ble_eq_true rfl, Nat.le_of_ble_eq_true rfl⟩) hK hN hZ hP hS rfl hl.1 rfl (Nat.le_of_ble_eq_true rfl) dX8_rule_34 ⟨Nat.zero_le _, Nat.zero_le _⟩ (fun G' H locs hP hD hS hB => ?_)
    rw [hB] at hP hD
    clear hB G'
    refine lv_i2l (v := ((gTab 1).getD (5) 0).toInt64) (pc := 37) hx hb dX8_rule_37 rfl ?_
    refine mx_cSi (As := [.long ((v).toInt64), .long (1), .long (((gTab 1).getD (5) 0).toInt64)]) (rest := []) (pc := 38) ⟨hx, hb, hml, hown, hts⟩ (k_X8_in (a := a) (v := (v).toInt64) (lo := 1) (hi := ((gTab 1).getD (5) 0).toInt64) hD  ) (va_cwS 3 hts gX8_rule_X8_in rfl rfl rfl (by decide +kernel) ⟨Nat.le_of_ble_eq_true rfl, Nat.le_of_ble_eq_true rfl⟩) hK hN hZ hP hS rfl hl.1 rfl (Nat.le_of_ble_eq_true rfl) dX8_rule_38 ⟨Nat.zero_le _, Nat.zero_le _⟩ (fun G' H locs hP hD hS hB => ?_)
    rw [hB] at hP hD
    clear hB G'
    refine mx_bne (tgt := 47) (pc := 41) hx hb dX8_rule_41 (by decide) (fun c41 => absurd (c41.symm.trans ((gIn_w (a := (gTab 0).getD 5 0) (b := (gTab 1).getD 5 0) (by decide) rfl).trans h2)) (by decide)) (fun c41 => ?_)
    refine lv_ldc (own := RX8) (v := (-1000002)) (pc := 44) hx hb hown (hts (.constant RX8 118 (-1000002)) (by decide +kernel)) dX8_rule_44 ?_
    exact hret _ _ _ _ _ _ hP hD hS rfl rfl dX8_rule_46
  · skip
    refine lv_iload_n (pc := 0) hx hb dX8_rule_0 rfl (lv_at hl 1 rfl) ?_
    refine lv_i2l (v := (nI (6)).toInt64) (pc := 1) hx hb dX8_rule_1 rfl ?_
    refine lv_lconst (v := 0) (pc := 2) hx hb dX8_rule_2 (by decide) ?_
    refine lv_ldc2 (own := RX8) (v := (8)) (pc := 3) hx hb hown (hts (.constantLong RX8 109 (8)) (by decide +kernel)) dX8_rule_3 ?_
    refine mx_cSi (As := [.long ((nI (6)).toInt64), .long (0), .long ((8))]) (rest := []) (pc := 6) ⟨hx, hb, hml, hown, hts⟩ (k_X8_in (a := a) (v := (nI (6)).toInt64) (lo := 0) (hi := (8)) hD  ) (va_cwS 3 hts gX8_rule_X8_in rfl rfl rfl (by decide +kernel) ⟨Nat.le_of_ble_eq_true rfl, Nat.le_of_ble_eq_true rfl⟩) hK hN hZ hP hS rfl hl.1 rfl (Nat.le_of_ble_eq_true rfl) dX8_rule_6 ⟨Nat.zero_le _, Nat.zero_le _⟩ (fun G' H locs hP hD hS hB => ?_)
    rw [hB] at hP hD
    clear hB G'
    refine mx_bne (tgt := 15) (pc := 9) hx hb dX8_rule_9 (by decide) (fun c9 => ?_) (fun c9 => absurd (c9.symm.trans ((gIn_w (a := nI 0) (b := nI 8) (by decide) (by decide)).trans ((gWi_has 8 (by decide)).trans h1))) (by decide))
    refine lv_iload_n (pc := 15) hx hb dX8_rule_15 rfl (lv_at hl 2 rfl) ?_
    refine lv_i2l (v := (v).toInt64) (pc := 16) hx hb dX8_rule_16 rfl ?_
    refine lv_iload_n (pc := 17) hx hb dX8_rule_17 rfl (lv_at hl 1 rfl) ?_
    refine lv_iconst (v := nI (2)) (pc := 18) hx hb dX8_rule_18 (by decide) ?_
    refine mx_ceq (tgt := 28) (pc := 19) hx hb (by omega) (by omega) dX8_rule_19 (by decide) (fun c19 => absurd c19 (by decide)) (fun c19 => ?_)
    refine lv_iload_n (pc := 22) hx hb dX8_rule_22 rfl (lv_at hl 1 rfl) ?_
    refine lv_bipush (v := nI (6)) (pc := 23) hx hb dX8_rule_23 (by decide) ?_
    refine mx_cne (tgt := 32) (pc := 25) hx hb (by omega) (by omega) dX8_rule_25 (by decide) (fun c25 => absurd c25 (by decide)) (fun c25 => ?_)
    refine lv_lconst (v := 0) (pc := 28) hx hb dX8_rule_28 (by decide) ?_
    refine lv_goto (tgt := 33) (pc := 29) hx hb dX8_rule_29 (by decide) ?_
    refine lv_iload_n (pc := 33) hx hb dX8_rule_33 rfl (lv_at hl 1 rfl) ?_
    refine mx_cSi (As := [.int (nI (6))]) (rest := [.long (0), .long ((v).toInt64)]) (pc := 34) ⟨hx, hb, hml, hown, hts⟩ (k_X8_mostOf (a := a) (k := 6) hD  (by decide)) (va_cwS 1 hts gX8_rule_X8_mostOf rfl rfl rfl (by decide +kernel) ⟨Nat.le_of_ble_eq_true rfl, Nat.le_of_ble_eq_true rfl⟩) hK hN hZ hP hS rfl hl.1 rfl (Nat.le_of_ble_eq_true rfl) dX8_rule_34 ⟨Nat.zero_le _, Nat.zero_le _⟩ (fun G' H locs hP hD hS hB => ?_)
    rw [hB] at hP hD
    clear hB G'
    refine lv_i2l (v := ((gTab 1).getD (6) 0).toInt64) (pc := 37) hx hb dX8_rule_37 rfl ?_
    refine mx_cSi (As := [.long ((v).toInt64), .long (0), .long (((gTab 1).getD (6) 0).toInt64)]) (rest := []) (pc := 38) ⟨hx, hb, hml, hown, hts⟩ (k_X8_in (a := a) (v := (v).toInt64) (lo := 0) (hi := ((gTab 1).getD (6) 0).toInt64) hD  ) (va_cwS 3 hts gX8_rule_X8_in rfl rfl rfl (by decide +kernel) ⟨Nat.le_of_ble_eq_true rfl, Nat.le_of_ble_eq_true rfl⟩) hK hN hZ hP hS rfl hl.1 rfl (Nat.le_of_ble_eq_true rfl) dX8_rule_38 ⟨Nat.zero_le _, Nat.zero_le _⟩ (fun G' H locs hP hD hS hB => ?_)
    rw [hB] at hP hD
    clear hB G'
    refine mx_bne (tgt := 47) (pc := 41) hx hb dX8_rule_41 (by decide) (fun c41 => absurd (c41.symm.trans ((gIn_w (a := (gTab 0).getD 6 0) (b := (gTab 1).getD 6 0) (by decide) rfl).trans h2)) (by decide)) (fun c41 => ?_)
    refine lv_ldc (own := RX8) (v := (-1000002)) (pc := 44) hx hb hown (hts (.constant RX8 118 (-1000002)) (by decide +kernel)) dX8_rule_44 ?_
    exact hret _ _ _ _ _ _ hP hD hS rfl rfl dX8_rule_46
  · skip
    refine lv_iload_n (pc := 0) hx hb dX8_rule_0 rfl (lv_at hl 1 rfl) ?_
    refine lv_i2l (v := (nI (7)).toInt64) (pc := 1) hx hb dX8_rule_1 rfl ?_
    refine lv_lconst (v := 0) (pc := 2) hx hb dX8_rule_2 (by decide) ?_
    refine lv_ldc2 (own := RX8) (v := (8)) (pc := 3) hx hb hown (hts (.constantLong RX8 109 (8)) (by decide +kernel)) dX8_rule_3 ?_
    refine mx_cSi (As := [.long ((nI (7)).toInt64), .long (0), .long ((8))]) (rest := []) (pc := 6) ⟨hx, hb, hml, hown, hts⟩ (k_X8_in (a := a) (v := (nI (7)).toInt64) (lo := 0) (hi := (8)) hD  ) (va_cwS 3 hts gX8_rule_X8_in rfl rfl rfl (by decide +kernel) ⟨Nat.le_of_ble_eq_true rfl, Nat.le_of_ble_eq_true rfl⟩) hK hN hZ hP hS rfl hl.1 rfl (Nat.le_of_ble_eq_true rfl) dX8_rule_6 ⟨Nat.zero_le _, Nat.zero_le _⟩ (fun G' H locs hP hD hS hB => ?_)
    rw [hB] at hP hD
    clear hB G'
    refine mx_bne (tgt := 15) (pc := 9) hx hb dX8_rule_9 (by decide) (fun c9 => ?_) (fun c9 => absurd (c9.symm.trans ((gIn_w (a := nI 0) (b := nI 8) (by decide) (by decide)).trans ((gWi_has 8 (by decide)).trans h1))) (by decide))
    refine lv_iload_n (pc := 15) hx hb dX8_rule_15 rfl (lv_at hl 2 rfl) ?_
    refine lv_i2l (v := (v).toInt64) (pc := 16) hx hb dX8_rule_16 rfl ?_
    refine lv_iload_n (pc := 17) hx hb dX8_rule_17 rfl (lv_at hl 1 rfl) ?_
    refine lv_iconst (v := nI (2)) (pc := 18) hx hb dX8_rule_18 (by decide) ?_
    refine mx_ceq (tgt := 28) (pc := 19) hx hb (by omega) (by omega) dX8_rule_19 (by decide) (fun c19 => absurd c19 (by decide)) (fun c19 => ?_)
    refine lv_iload_n (pc := 22) hx hb dX8_rule_22 rfl (lv_at hl 1 rfl) ?_
    refine lv_bipush (v := nI (6)) (pc := 23) hx hb dX8_rule_23 (by decide) ?_
    refine mx_cne (tgt := 32) (pc := 25) hx hb (by omega) (by omega) dX8_rule_25 (by decide) (fun c25 => ?_) (fun c25 => absurd c25 (by decide))
    refine lv_lconst (v := 1) (pc := 32) hx hb dX8_rule_32 (by decide) ?_
    refine lv_iload_n (pc := 33) hx hb dX8_rule_33 rfl (lv_at hl 1 rfl) ?_
    refine mx_cSi (As := [.int (nI (7))]) (rest := [.long (1), .long ((v).toInt64)]) (pc := 34) ⟨hx, hb, hml, hown, hts⟩ (k_X8_mostOf (a := a) (k := 7) hD  (by decide)) (va_cwS 1 hts gX8_rule_X8_mostOf rfl rfl rfl (by decide +kernel) ⟨Nat.le_of_ble_eq_true rfl, Nat.le_of_ble_eq_true rfl⟩) hK hN hZ hP hS rfl hl.1 rfl (Nat.le_of_ble_eq_true rfl) dX8_rule_34 ⟨Nat.zero_le _, Nat.zero_le _⟩ (fun G' H locs hP hD hS hB => ?_)
    rw [hB] at hP hD
    clear hB G'
    refine lv_i2l (v := ((gTab 1).getD (7) 0).toInt64) (pc := 37) hx hb dX8_rule_37 rfl ?_
    refine mx_cSi (As := [.long ((v).toInt64), .long (1), .long (((gTab 1).getD (7) 0).toInt64)]) (rest := []) (pc := 38) ⟨hx, hb, hml, hown, hts⟩ (k_X8_in (a := a) (v := (v).toInt64) (lo := 1) (hi := ((gTab 1).getD (7) 0).toInt64) hD  ) (va_cwS 3 hts gX8_rule_X8_in rfl rfl rfl (by decide +kernel) ⟨Nat.le_of_ble_eq_true rfl, Nat.le_of_ble_eq_true rfl⟩) hK hN hZ hP hS rfl hl.1 rfl (Nat.le_of_ble_eq_true rfl) dX8_rule_38 ⟨Nat.zero_le _, Nat.zero_le _⟩ (fun G' H locs hP hD hS hB => ?_)
    rw [hB] at hP hD
    clear hB G'
    refine mx_bne (tgt := 47) (pc := 41) hx hb dX8_rule_41 (by decide) (fun c41 => absurd (c41.symm.trans ((gIn_w (a := (gTab 0).getD 7 0) (b := (gTab 1).getD 7 0) (by decide) rfl).trans h2)) (by decide)) (fun c41 => ?_)
    refine lv_ldc (own := RX8) (v := (-1000002)) (pc := 44) hx hb hown (hts (.constant RX8 118 (-1000002)) (by decide +kernel)) dX8_rule_44 ?_
    exact hret _ _ _ _ _ _ hP hD hS rfl rfl dX8_rule_46
  · skip
    refine lv_iload_n (pc := 0) hx hb dX8_rule_0 rfl (lv_at hl 1 rfl) ?_
    refine lv_i2l (v := (nI (8)).toInt64) (pc := 1) hx hb dX8_rule_1 rfl ?_
    refine lv_lconst (v := 0) (pc := 2) hx hb dX8_rule_2 (by decide) ?_
    refine lv_ldc2 (own := RX8) (v := (8)) (pc := 3) hx hb hown (hts (.constantLong RX8 109 (8)) (by decide +kernel)) dX8_rule_3 ?_
    refine mx_cSi (As := [.long ((nI (8)).toInt64), .long (0), .long ((8))]) (rest := []) (pc := 6) ⟨hx, hb, hml, hown, hts⟩ (k_X8_in (a := a) (v := (nI (8)).toInt64) (lo := 0) (hi := (8)) hD  ) (va_cwS 3 hts gX8_rule_X8_in rfl rfl rfl (by decide +kernel) ⟨Nat.le_of_ble_eq_true rfl, Nat.le_of_ble_eq_true rfl⟩) hK hN hZ hP hS rfl hl.1 rfl (Nat.le_of_ble_eq_true rfl) dX8_rule_6 ⟨Nat.zero_le _, Nat.zero_le _⟩ (fun G' H locs hP hD hS hB => ?_)
    rw [hB] at hP hD
    clear hB G'
    refine mx_bne (tgt := 15) (pc := 9) hx hb dX8_rule_9 (by decide) (fun c9 => ?_) (fun c9 => absurd (c9.symm.trans ((gIn_w (a := nI 0) (b := nI 8) (by decide) (by decide)).trans ((gWi_has 8 (by decide)).trans h1))) (by decide))
    refine lv_iload_n (pc := 15) hx hb dX8_rule_15 rfl (lv_at hl 2 rfl) ?_
    refine lv_i2l (v := (v).toInt64) (pc := 16) hx hb dX8_rule_16 rfl ?_
    refine lv_iload_n (pc := 17) hx hb dX8_rule_17 rfl (lv_at hl 1 rfl) ?_
    refine lv_iconst (v := nI (2)) (pc := 18) hx hb dX8_rule_18 (by decide) ?_
    refine mx_ceq (tgt := 28) (pc := 19) hx hb (by omega) (by omega) dX8_rule_19 (by decide) (fun c19 => absurd c19 (by decide)) (fun c19 => ?_)
    refine lv_iload_n (pc := 22) hx hb dX8_rule_22 rfl (lv_at hl 1 rfl) ?_
    refine lv_bipush (v := nI (6)) (pc := 23) hx hb dX8_rule_23 (by decide) ?_
    refine mx_cne (tgt := 32) (pc := 25) hx hb (by omega) (by omega) dX8_rule_25 (by decide) (fun c25 => ?_) (fun c25 => absurd c25 (by decide))
    refine lv_lconst (v := 1) (pc := 32) hx hb dX8_rule_32 (by decide) ?_
    refine lv_iload_n (pc := 33) hx hb dX8_rule_33 rfl (lv_at hl 1 rfl) ?_
    refine mx_cSi (As := [.int (nI (8))]) (rest := [.long (1), .long ((v).toInt64)]) (pc := 34) ⟨hx, hb, hml, hown, hts⟩ (k_X8_mostOf (a := a) (k := 8) hD  (by decide)) (va_cwS 1 hts gX8_rule_X8_mostOf rfl rfl rfl (by decide +kernel) ⟨Nat.le_of_ble_eq_true rfl, Nat.le_of_ble_eq_true rfl⟩) hK hN hZ hP hS rfl hl.1 rfl (Nat.le_of_ble_eq_true rfl) dX8_rule_34 ⟨Nat.zero_le _, Nat.zero_le _⟩ (fun G' H locs hP hD hS hB => ?_)
    rw [hB] at hP hD
    clear hB G'
    refine lv_i2l (v := ((gTab 1).getD (8) 0).toInt64) (pc := 37) hx hb dX8_rule_37 rfl ?_
    refine mx_cSi (As := [.long ((v).toInt64), .long (1), .long (((gTab 1).getD (8) 0).toInt64)]) (rest := []) (pc := 38) ⟨hx, hb, hml, hown, hts⟩ (k_X8_in (a := a) (v := (v).toInt64) (lo := 1) (hi := ((gTab 1).getD (8) 0).toInt64) hD  ) (va_cwS 3 hts gX8_rule_X8_in rfl rfl rfl (by decide +kernel) ⟨Nat.le_of_ble_eq_true rfl, Nat.le_of_ble_eq_true rfl⟩) hK hN hZ hP hS rfl hl.1 rfl (Nat.le_of_ble_eq_true rfl) dX8_rule_38 ⟨Nat.zero_le _, Nat.zero_le _⟩ (fun G' H locs hP hD hS hB => ?_)
    rw [hB] at hP hD
    clear hB G'
    refine mx_bne (tgt := 47) (pc := 41) hx hb dX8_rule_41 (by decide) (fun c41 => absurd (c41.symm.trans ((gIn_w (a := (gTab 0).getD 8 0) (b := (gTab 1).getD 8 0) (by decide) rfl).trans h2)) (by decide)) (fun c41 => ?_)
    refine lv_ldc (own := RX8) (v := (-1000002)) (pc := 44) hx hb hown (hts (.constant RX8 118 (-1000002)) (by decide +kernel)) dX8_rule_44 ?_
    exact hret _ _ _ _ _ _ hP hD hS rfl rfl dX8_rule_46
set_option maxHeartbeats 4000000 in
set_option maxRecDepth 100000 in
theorem k_X8_rule_k {l : Launch} {D : va_G} {cI cZ : ClassId} {A : Nat → Prop} {g a : Nat → Nat} {G0 : va_W} {zn : Nat} {tr : Nat} {sc : Nat} {pn : Nat} {mn : Nat} {jn : Nat} {sg : Int32} {sr : Int32} {ss : Int32} {fed : Int32} {pap : Int32} {bar : Int32} {st : Bool} {q1 : Int64} {q2 : Int64} {q3 : Int64} {q4 : Int64} {q5 : Int64} {ru : Nat → Int32} {k : Nat} {v : Int32} (hD : va_D A G0) (w22 : G0[22]? = some (a 22, .inr (8, [.int (nI (zn)), .int (nI (tr)), .ref (a 23), .ref (a 24), .ref (a 25), .ref (a 26), .ref (a 27), .ref (a 28), .ref (a 29), .int (nI (sc)), .int (sg), .int (sr), .int (ss), .int (fed), .int (pap), .int (bar), .int (gB (st)), .ref (a 30), .ref (a 31), .ref (a 32), .int (nI (pn)), .ref (a 33), .ref (a 34), .ref (a 35), .ref (a 36), .int (nI (mn)), .long (q1), .long (q2), .long (q3), .long (q4), .long (q5), .ref (a 37), .ref (a 38), .ref (a 39), .int (nI (jn)), .ref (a 40), .ref (a 41)]))) (w23 : G0[23]? = some (a 23, .inl (cI, 9, .inl (ru)))) (hk9 : k < 9) (h1 : gHas (nI k) (nI 9) = true) (h2 : gWi v ((gTab 0).getD k 0) ((gTab 1).getD k 0) = true) : gMi l D cI cZ A g yX8_rule wsX8_rule ({ frames := 1, cells := 0, slots := 0, locals := 25 }) [.ref (a 22), .int (nI (k)), .int (v)] G0 (ru k) (fun G1 => G1[23]? = some (a 23, .inl (cI, 9, .inl (upd ru k v))) ∧ ∀ k, k ∉ [23] → G1[k]? = G0[k]?) := by
  refine gof_i (cc := cX8_rule) (maxL := 4) (by decide) rfl (Nat.le_of_ble_eq_true rfl) hD ?_
  intro p e s m args below meth c Q hx hb hml hts hown hK hN hZ hP hS hret ls hl
  have hown : s.vm.findClass RX8 = some m.cls := hown
  have hl : lv_has ls 4 [(0, .ref (a 22)), (1, .int (nI (k))), (2, .int (v))] := hl
  obtain ⟨locs, elocs⟩ : ∃ q : List Loc, q = [] := ⟨_, rfl⟩
  rw [← elocs] at hS ⊢
  obtain ⟨H, eH⟩ : ∃ q : Heap, q = s.heap := ⟨_, rfl⟩
  have hP : va_P D vwCl G0 H := eH ▸ hP
  have hS : va_S A s.heap H locs := by rw [eH]; exact hS
  rw [← eH]
  clear elocs eH
  have hiX8 : ∀ w ∈ u_ws RX8 TX8 37, w ∈ wsX8_rule := by decide +kernel
  have hk : ∀ k, k ∉ [23] → G0[k]? = G0[k]? := fun _ _ => rfl
  rcases (show k = 0 ∨ k = 1 ∨ k = 2 ∨ k = 3 ∨ k = 4 ∨ k = 5 ∨ k = 6 ∨ k = 7 ∨ k = 8 by omega) with rfl | rfl | rfl | rfl | rfl | rfl | rfl | rfl | rfl
  · skip
    refine lv_iload_n (pc := 0) hx hb dX8_rule_0 rfl (lv_at hl 1 rfl) ?_
    refine lv_i2l (v := (nI (0)).toInt64) (pc := 1) hx hb dX8_rule_1 rfl ?_
    refine lv_lconst (v := 0) (pc := 2) hx hb dX8_rule_2 (by decide) ?_
    refine lv_ldc2 (own := RX8) (v := (8)) (pc := 3) hx hb hown (hts (.constantLong RX8 109 (8)) (by decide +kernel)) dX8_rule_3 ?_
    refine mx_cSi (As := [.long ((nI (0)).toInt64), .long (0), .long ((8))]) (rest := []) (pc := 6) ⟨hx, hb, hml, hown, hts⟩ (k_X8_in (a := a) (v := (nI (0)).toInt64) (lo := 0) (hi := (8)) hD  ) (va_cwS 3 hts gX8_rule_X8_in rfl rfl rfl (by decide +kernel) ⟨Nat.le_of_ble_eq_true rfl, Nat.le_of_ble_eq_true rfl⟩) hK hN hZ hP hS rfl hl.1 rfl (Nat.le_of_ble_eq_true rfl) dX8_rule_6 ⟨Nat.zero_le _, Nat.zero_le _⟩ (fun G' H locs hP hD hS hB => ?_)
    rw [hB] at hP hD
    clear hB G'
    refine mx_bne (tgt := 15) (pc := 9) hx hb dX8_rule_9 (by decide) (fun c9 => ?_) (fun c9 => absurd (c9.symm.trans ((gIn_w (a := nI 0) (b := nI 8) (by decide) (by decide)).trans ((gWi_has 8 (by decide)).trans h1))) (by decide))
    refine lv_iload_n (pc := 15) hx hb dX8_rule_15 rfl (lv_at hl 2 rfl) ?_
    refine lv_i2l (v := (v).toInt64) (pc := 16) hx hb dX8_rule_16 rfl ?_
    refine lv_iload_n (pc := 17) hx hb dX8_rule_17 rfl (lv_at hl 1 rfl) ?_
    refine lv_iconst (v := nI (2)) (pc := 18) hx hb dX8_rule_18 (by decide) ?_
    refine mx_ceq (tgt := 28) (pc := 19) hx hb (by omega) (by omega) dX8_rule_19 (by decide) (fun c19 => absurd c19 (by decide)) (fun c19 => ?_)
    refine lv_iload_n (pc := 22) hx hb dX8_rule_22 rfl (lv_at hl 1 rfl) ?_
    refine lv_bipush (v := nI (6)) (pc := 23) hx hb dX8_rule_23 (by decide) ?_
    refine mx_cne (tgt := 32) (pc := 25) hx hb (by omega) (by omega) dX8_rule_25 (by decide) (fun c25 => ?_) (fun c25 => absurd c25 (by decide))
    refine lv_lconst (v := 1) (pc := 32) hx hb dX8_rule_32 (by decide) ?_
    refine lv_iload_n (pc := 33) hx hb dX8_rule_33 rfl (lv_at hl 1 rfl) ?_
    refine mx_cSi (As := [.int (nI (0))]) (rest := [.long (1), .long ((v).toInt64)]) (pc := 34) ⟨hx, hb, hml, hown, hts⟩ (k_X8_mostOf (a := a) (k := 0) hD  (by decide)) (va_cwS 1 hts gX8_rule_X8_mostOf rfl rfl rfl (by decide +kernel) ⟨Nat.le_of_ble_eq_true rfl, Nat.le_of_ble_eq_true rfl⟩) hK hN hZ hP hS rfl hl.1 rfl (Nat.le_of_ble_eq_true rfl) dX8_rule_34 ⟨Nat.zero_le _, Nat.zero_le _⟩ (fun G' H locs hP hD hS hB => ?_)
    rw [hB] at hP hD
    clear hB G'
    refine lv_i2l (v := ((gTab 1).getD (0) 0).toInt64) (pc := 37) hx hb dX8_rule_37 rfl ?_
    refine mx_cSi (As := [.long ((v).toInt64), .long (1), .long (((gTab 1).getD (0) 0).toInt64)]) (rest := []) (pc := 38) ⟨hx, hb, hml, hown, hts⟩ (k_X8_in (a := a) (v := (v).toInt64) (lo := 1) (hi := ((gTab 1).getD (0) 0).toInt64) hD  ) (va_cwS 3 hts gX8_rule_X8_in rfl rfl rfl (by decide +kernel) ⟨Nat.le_of_ble_eq_true rfl, Nat.le_of_ble_eq_true rfl⟩) hK hN hZ hP hS rfl hl.1 rfl (Nat.le_of_ble_eq_true rfl) dX8_rule_38 ⟨Nat.zero_le _, Nat.zero_le _⟩ (fun G' H locs hP hD hS hB => ?_)
    rw [hB] at hP hD
    clear hB G'
    refine mx_bne (tgt := 47) (pc := 41) hx hb dX8_rule_41 (by decide) (fun c41 => ?_) (fun c41 => absurd (c41.symm.trans ((gIn_w (a := (gTab 0).getD 0 0) (b := (gTab 1).getD 0 0) (by decide) rfl).trans h2)) (by decide))
    refine lv_aload_n (pc := 47) hx hb dX8_rule_47 rfl (lv_at hl 0 rfl) ?_
    refine va_get (ci := 8) (C := RX8) (T := TX8) (N := 37) (pc := 48) hx hb hts hiX8 hown hK hP 22 w22 rfl 2 (by decide) (hts (.fieldLink RX8 16 "InkPressModel" "rules" "[I") (by decide +kernel)) (fun _ h9 => h9) rfl dX8_rule_48 ?_
    refine lv_iload_n (pc := 51) hx hb dX8_rule_51 rfl (lv_at hl 1 rfl) ?_
    refine mx_iald (pc := 52) hx hb hK hP 23 w23 (0) (by omega) (by decide) dX8_rule_52 ?_
    refine lv_istore_n (lv' := [(3, .int ((ru) (0))), (0, .ref (a 22)), (1, .int (nI (0))), (2, .int (v))]) (pc := 53) hx hb dX8_rule_53 rfl hl (by decide) rfl (fun ls hl => ?_)
    refine lv_aload_n (pc := 54) hx hb dX8_rule_54 rfl (lv_at hl 1 rfl) ?_
    refine va_get (ci := 8) (C := RX8) (T := TX8) (N := 37) (pc := 55) hx hb hts hiX8 hown hK hP 22 w22 rfl 2 (by decide) (hts (.fieldLink RX8 16 "InkPressModel" "rules" "[I") (by decide +kernel)) (fun _ h9 => h9) rfl dX8_rule_55 ?_
    refine lv_iload_n (pc := 58) hx hb dX8_rule_58 rfl (lv_at hl 2 rfl) ?_
    refine lv_iload_n (pc := 59) hx hb dX8_rule_59 rfl (lv_at hl 3 rfl) ?_
    refine mx_iast (x := v) (pc := 60) hx hb hK hP hD hS 23 w23 (0) (by omega) (by decide) dX8_rule_60 (fun H locs G hP hD hS w23 ho => ?_)
    have w22 := (ho 22 (by decide)).trans w22
    have w23 : G[23]? = some (a 23, .inl (cI, 9, .inl (upd (ru) (0) (v)))) := w23
    have hk := gk_step hk ho (by decide)
    clear ho
    refine lv_iload_n (pc := 61) hx hb dX8_rule_61 rfl (lv_at hl 0 rfl) ?_
    exact hret _ _ _ _ _ _ hP hD hS rfl ⟨w23, hk⟩ dX8_rule_62
  · skip
    refine lv_iload_n (pc := 0) hx hb dX8_rule_0 rfl (lv_at hl 1 rfl) ?_
    refine lv_i2l (v := (nI (1)).toInt64) (pc := 1) hx hb dX8_rule_1 rfl ?_
    refine lv_lconst (v := 0) (pc := 2) hx hb dX8_rule_2 (by decide) ?_
    refine lv_ldc2 (own := RX8) (v := (8)) (pc := 3) hx hb hown (hts (.constantLong RX8 109 (8)) (by decide +kernel)) dX8_rule_3 ?_
    refine mx_cSi (As := [.long ((nI (1)).toInt64), .long (0), .long ((8))]) (rest := []) (pc := 6) ⟨hx, hb, hml, hown, hts⟩ (k_X8_in (a := a) (v := (nI (1)).toInt64) (lo := 0) (hi := (8)) hD  ) (va_cwS 3 hts gX8_rule_X8_in rfl rfl rfl (by decide +kernel) ⟨Nat.le_of_ble_eq_true rfl, Nat.le_of_ble_eq_true rfl⟩) hK hN hZ hP hS rfl hl.1 rfl (Nat.le_of_ble_eq_true rfl) dX8_rule_6 ⟨Nat.zero_le _, Nat.zero_le _⟩ (fun G' H locs hP hD hS hB => ?_)
    rw [hB] at hP hD
    clear hB G'
    refine mx_bne (tgt := 15) (pc := 9) hx hb dX8_rule_9 (by decide) (fun c9 => ?_) (fun c9 => absurd (c9.symm.trans ((gIn_w (a := nI 0) (b := nI 8) (by decide) (by decide)).trans ((gWi_has 8 (by decide)).trans h1))) (by decide))
    refine lv_iload_n (pc := 15) hx hb dX8_rule_15 rfl (lv_at hl 2 rfl) ?_
    refine lv_i2l (v := (v).toInt64) (pc := 16) hx hb dX8_rule_16 rfl ?_
    refine lv_iload_n (pc := 17) hx hb dX8_rule_17 rfl (lv_at hl 1 rfl) ?_
    refine lv_iconst (v := nI (2)) (pc := 18) hx hb dX8_rule_18 (by decide) ?_
    refine mx_ceq (tgt := 28) (pc := 19) hx hb (by omega) (by omega) dX8_rule_19 (by decide) (fun c19 => absurd c19 (by decide)) (fun c19 => ?_)
    refine lv_iload_n (pc := 22) hx hb dX8_rule_22 rfl (lv_at hl 1 rfl) ?_
    refine lv_bipush (v := nI (6)) (pc := 23) hx hb dX8_rule_23 (by decide) ?_
    refine mx_cne (tgt := 32) (pc := 25) hx hb (by omega) (by omega) dX8_rule_25 (by decide) (fun c25 => ?_) (fun c25 => absurd c25 (by decide))
    refine lv_lconst (v := 1) (pc := 32) hx hb dX8_rule_32 (by decide) ?_
    refine lv_iload_n (pc := 33) hx hb dX8_rule_33 rfl (lv_at hl 1 rfl) ?_
    refine mx_cSi (As := [.int (nI (1))]) (rest := [.long (1), .long ((v).toInt64)]) (pc := 34) ⟨hx, hb, hml, hown, hts⟩ (k_X8_mostOf (a := a) (k := 1) hD  (by decide)) (va_cwS 1 hts gX8_rule_X8_mostOf rfl rfl rfl (by decide +kernel) ⟨Nat.le_of_ble_eq_true rfl, Nat.le_of_ble_eq_true rfl⟩) hK hN hZ hP hS rfl hl.1 rfl (Nat.le_of_ble_eq_true rfl) dX8_rule_34 ⟨Nat.zero_le _, Nat.zero_le _⟩ (fun G' H locs hP hD hS hB => ?_)
    rw [hB] at hP hD
    clear hB G'
    refine lv_i2l (v := ((gTab 1).getD (1) 0).toInt64) (pc := 37) hx hb dX8_rule_37 rfl ?_
    refine mx_cSi (As := [.long ((v).toInt64), .long (1), .long (((gTab 1).getD (1) 0).toInt64)]) (rest := []) (pc := 38) ⟨hx, hb, hml, hown, hts⟩ (k_X8_in (a := a) (v := (v).toInt64) (lo := 1) (hi := ((gTab 1).getD (1) 0).toInt64) hD  ) (va_cwS 3 hts gX8_rule_X8_in rfl rfl rfl (by decide +kernel) ⟨Nat.le_of_ble_eq_true rfl, Nat.le_of_ble_eq_true rfl⟩) hK hN hZ hP hS rfl hl.1 rfl (Nat.le_of_ble_eq_true rfl) dX8_rule_38 ⟨Nat.zero_le _, Nat.zero_le _⟩ (fun G' H locs hP hD hS hB => ?_)
    rw [hB] at hP hD
    clear hB G'
    refine mx_bne (tgt := 47) (pc := 41) hx hb dX8_rule_41 (by decide) (fun c41 => ?_) (fun c41 => absurd (c41.symm.trans ((gIn_w (a := (gTab 0).getD 1 0) (b := (gTab 1).getD 1 0) (by decide) rfl).trans h2)) (by decide))
    refine lv_aload_n (pc := 47) hx hb dX8_rule_47 rfl (lv_at hl 0 rfl) ?_
    refine va_get (ci := 8) (C := RX8) (T := TX8) (N := 37) (pc := 48) hx hb hts hiX8 hown hK hP 22 w22 rfl 2 (by decide) (hts (.fieldLink RX8 16 "InkPressModel" "rules" "[I") (by decide +kernel)) (fun _ h9 => h9) rfl dX8_rule_48 ?_
    refine lv_iload_n (pc := 51) hx hb dX8_rule_51 rfl (lv_at hl 1 rfl) ?_
    refine mx_iald (pc := 52) hx hb hK hP 23 w23 (1) (by omega) (by decide) dX8_rule_52 ?_
    refine lv_istore_n (lv' := [(3, .int ((ru) (1))), (0, .ref (a 22)), (1, .int (nI (1))), (2, .int (v))]) (pc := 53) hx hb dX8_rule_53 rfl hl (by decide) rfl (fun ls hl => ?_)
    refine lv_aload_n (pc := 54) hx hb dX8_rule_54 rfl (lv_at hl 1 rfl) ?_
    refine va_get (ci := 8) (C := RX8) (T := TX8) (N := 37) (pc := 55) hx hb hts hiX8 hown hK hP 22 w22 rfl 2 (by decide) (hts (.fieldLink RX8 16 "InkPressModel" "rules" "[I") (by decide +kernel)) (fun _ h9 => h9) rfl dX8_rule_55 ?_
    refine lv_iload_n (pc := 58) hx hb dX8_rule_58 rfl (lv_at hl 2 rfl) ?_
    refine lv_iload_n (pc := 59) hx hb dX8_rule_59 rfl (lv_at hl 3 rfl) ?_
    refine mx_iast (x := v) (pc := 60) hx hb hK hP hD hS 23 w23 (1) (by omega) (by decide) dX8_rule_60 (fun H locs G hP hD hS w23 ho => ?_)
    have w22 := (ho 22 (by decide)).trans w22
    have w23 : G[23]? = some (a 23, .inl (cI, 9, .inl (upd (ru) (1) (v)))) := w23
    have hk := gk_step hk ho (by decide)
    clear ho
    refine lv_iload_n (pc := 61) hx hb dX8_rule_61 rfl (lv_at hl 0 rfl) ?_
    exact hret _ _ _ _ _ _ hP hD hS rfl ⟨w23, hk⟩ dX8_rule_62
  · skip
    refine lv_iload_n (pc := 0) hx hb dX8_rule_0 rfl (lv_at hl 1 rfl) ?_
    refine lv_i2l (v := (nI (2)).toInt64) (pc := 1) hx hb dX8_rule_1 rfl ?_
    refine lv_lconst (v := 0) (pc := 2) hx hb dX8_rule_2 (by decide) ?_
    refine lv_ldc2 (own := RX8) (v := (8)) (pc := 3) hx hb hown (hts (.constantLong RX8 109 (8)) (by decide +kernel)) dX8_rule_3 ?_
    refine mx_cSi (As := [.long ((nI (2)).toInt64), .long (0), .long ((8))]) (rest := []) (pc := 6) ⟨hx, hb, hml, hown, hts⟩ (k_X8_in (a := a) (v := (nI (2)).toInt64) (lo := 0) (hi := (8)) hD  ) (va_cwS 3 hts gX8_rule_X8_in rfl rfl rfl (by decide +kernel) ⟨Nat.le_of_ble_eq_true rfl, Nat.le_of_ble_eq_true rfl⟩) hK hN hZ hP hS rfl hl.1 rfl (Nat.le_of_ble_eq_true rfl) dX8_rule_6 ⟨Nat.zero_le _, Nat.zero_le _⟩ (fun G' H locs hP hD hS hB => ?_)
    rw [hB] at hP hD
    clear hB G'
    refine mx_bne (tgt := 15) (pc := 9) hx hb dX8_rule_9 (by decide) (fun c9 => ?_) (fun c9 => absurd (c9.symm.trans ((gIn_w (a := nI 0) (b := nI 8) (by decide) (by decide)).trans ((gWi_has 8 (by decide)).trans h1))) (by decide))
    refine lv_iload_n (pc := 15) hx hb dX8_rule_15 rfl (lv_at hl 2 rfl) ?_
    refine lv_i2l (v := (v).toInt64) (pc := 16) hx hb dX8_rule_16 rfl ?_
    refine lv_iload_n (pc := 17) hx hb dX8_rule_17 rfl (lv_at hl 1 rfl) ?_
    refine lv_iconst (v := nI (2)) (pc := 18) hx hb dX8_rule_18 (by decide) ?_
    refine mx_ceq (tgt := 28) (pc := 19) hx hb (by omega) (by omega) dX8_rule_19 (by decide) (fun c19 => ?_) (fun c19 => absurd c19 (by decide))
    refine lv_lconst (v := 0) (pc := 28) hx hb dX8_rule_28 (by decide) ?_
    refine lv_goto (tgt := 33) (pc := 29) hx hb dX8_rule_29 (by decide) ?_
    refine lv_iload_n (pc := 33) hx hb dX8_rule_33 rfl (lv_at hl 1 rfl) ?_
    refine mx_cSi (As := [.int (nI (2))]) (rest := [.long (0), .long ((v).toInt64)]) (pc := 34) ⟨hx, hb, hml, hown, hts⟩ (k_X8_mostOf (a := a) (k := 2) hD  (by decide)) (va_cwS 1 hts gX8_rule_X8_mostOf rfl rfl rfl (by decide +kernel) ⟨Nat.le_of_ble_eq_true rfl, Nat.le_of_ble_eq_true rfl⟩) hK hN hZ hP hS rfl hl.1 rfl (Nat.le_of_ble_eq_true rfl) dX8_rule_34 ⟨Nat.zero_le _, Nat.zero_le _⟩ (fun G' H locs hP hD hS hB => ?_)
    rw [hB] at hP hD
    clear hB G'
    refine lv_i2l (v := ((gTab 1).getD (2) 0).toInt64) (pc := 37) hx hb dX8_rule_37 rfl ?_
    refine mx_cSi (As := [.long ((v).toInt64), .long (0), .long (((gTab 1).getD (2) 0).toInt64)]) (rest := []) (pc := 38) ⟨hx, hb, hml, hown, hts⟩ (k_X8_in (a := a) (v := (v).toInt64) (lo := 0) (hi := ((gTab 1).getD (2) 0).toInt64) hD  ) (va_cwS 3 hts gX8_rule_X8_in rfl rfl rfl (by decide +kernel) ⟨Nat.le_of_ble_eq_true rfl, Nat.le_of_ble_eq_true rfl⟩) hK hN hZ hP hS rfl hl.1 rfl (Nat.le_of_ble_eq_true rfl) dX8_rule_38 ⟨Nat.zero_le _, Nat.zero_le _⟩ (fun G' H locs hP hD hS hB => ?_)
    rw [hB] at hP hD
    clear hB G'
    refine mx_bne (tgt := 47) (pc := 41) hx hb dX8_rule_41 (by decide) (fun c41 => ?_) (fun c41 => absurd (c41.symm.trans ((gIn_w (a := (gTab 0).getD 2 0) (b := (gTab 1).getD 2 0) (by decide) rfl).trans h2)) (by decide))
    refine lv_aload_n (pc := 47) hx hb dX8_rule_47 rfl (lv_at hl 0 rfl) ?_
    refine va_get (ci := 8) (C := RX8) (T := TX8) (N := 37) (pc := 48) hx hb hts hiX8 hown hK hP 22 w22 rfl 2 (by decide) (hts (.fieldLink RX8 16 "InkPressModel" "rules" "[I") (by decide +kernel)) (fun _ h9 => h9) rfl dX8_rule_48 ?_
    refine lv_iload_n (pc := 51) hx hb dX8_rule_51 rfl (lv_at hl 1 rfl) ?_
    refine mx_iald (pc := 52) hx hb hK hP 23 w23 (2) (by omega) (by decide) dX8_rule_52 ?_
    refine lv_istore_n (lv' := [(3, .int ((ru) (2))), (0, .ref (a 22)), (1, .int (nI (2))), (2, .int (v))]) (pc := 53) hx hb dX8_rule_53 rfl hl (by decide) rfl (fun ls hl => ?_)
    refine lv_aload_n (pc := 54) hx hb dX8_rule_54 rfl (lv_at hl 1 rfl) ?_
    refine va_get (ci := 8) (C := RX8) (T := TX8) (N := 37) (pc := 55) hx hb hts hiX8 hown hK hP 22 w22 rfl 2 (by decide) (hts (.fieldLink RX8 16 "InkPressModel" "rules" "[I") (by decide +kernel)) (fun _ h9 => h9) rfl dX8_rule_55 ?_
    refine lv_iload_n (pc := 58) hx hb dX8_rule_58 rfl (lv_at hl 2 rfl) ?_
    refine lv_iload_n (pc := 59) hx hb dX8_rule_59 rfl (lv_at hl 3 rfl) ?_
    refine mx_iast (x := v) (pc := 60) hx hb hK hP hD hS 23 w23 (2) (by omega) (by decide) dX8_rule_60 (fun H locs G hP hD hS w23 ho => ?_)
    have w22 := (ho 22 (by decide)).trans w22
    have w23 : G[23]? = some (a 23, .inl (cI, 9, .inl (upd (ru) (2) (v)))) := w23
    have hk := gk_step hk ho (by decide)
    clear ho
    refine lv_iload_n (pc := 61) hx hb dX8_rule_61 rfl (lv_at hl 0 rfl) ?_
    exact hret _ _ _ _ _ _ hP hD hS rfl ⟨w23, hk⟩ dX8_rule_62
  · skip
    refine lv_iload_n (pc := 0) hx hb dX8_rule_0 rfl (lv_at hl 1 rfl) ?_
    refine lv_i2l (v := (nI (3)).toInt64) (pc := 1) hx hb dX8_rule_1 rfl ?_
    refine lv_lconst (v := 0) (pc := 2) hx hb dX8_rule_2 (by decide) ?_
    refine lv_ldc2 (own := RX8) (v := (8)) (pc := 3) hx hb hown (hts (.constantLong RX8 109 (8)) (by decide +kernel)) dX8_rule_3 ?_
    refine mx_cSi (As := [.long ((nI (3)).toInt64), .long (0), .long ((8))]) (rest := []) (pc := 6) ⟨hx, hb, hml, hown, hts⟩ (k_X8_in (a := a) (v := (nI (3)).toInt64) (lo := 0) (hi := (8)) hD  ) (va_cwS 3 hts gX8_rule_X8_in rfl rfl rfl (by decide +kernel) ⟨Nat.le_of_ble_eq_true rfl, Nat.le_of_ble_eq_true rfl⟩) hK hN hZ hP hS rfl hl.1 rfl (Nat.le_of_ble_eq_true rfl) dX8_rule_6 ⟨Nat.zero_le _, Nat.zero_le _⟩ (fun G' H locs hP hD hS hB => ?_)
    rw [hB] at hP hD
    clear hB G'
    refine mx_bne (tgt := 15) (pc := 9) hx hb dX8_rule_9 (by decide) (fun c9 => ?_) (fun c9 => absurd (c9.symm.trans ((gIn_w (a := nI 0) (b := nI 8) (by decide) (by decide)).trans ((gWi_has 8 (by decide)).trans h1))) (by decide))
    refine lv_iload_n (pc := 15) hx hb dX8_rule_15 rfl (lv_at hl 2 rfl) ?_
    refine lv_i2l (v := (v).toInt64) (pc := 16) hx hb dX8_rule_16 rfl ?_
    refine lv_iload_n (pc := 17) hx hb dX8_rule_17 rfl (lv_at hl 1 rfl) ?_
    refine lv_iconst (v := nI (2)) (pc := 18) hx hb dX8_rule_18 (by decide) ?_
    refine mx_ceq (tgt := 28) (pc := 19) hx hb (by omega) (by omega) dX8_rule_19 (by decide) (fun c19 => absurd c19 (by decide)) (fun c19 => ?_)
    refine lv_iload_n (pc := 22) hx hb dX8_rule_22 rfl (lv_at hl 1 rfl) ?_
    refine lv_bipush (v := nI (6)) (pc := 23) hx hb dX8_rule_23 (by decide) ?_
    refine mx_cne (tgt := 32) (pc := 25) hx hb (by omega) (by omega) dX8_rule_25 (by decide) (fun c25 => ?_) (fun c25 => absurd c25 (by decide))
    refine lv_lconst (v := 1) (pc := 32) hx hb dX8_rule_32 (by decide) ?_
    refine lv_iload_n (pc := 33) hx hb dX8_rule_33 rfl (lv_at hl 1 rfl) ?_
    refine mx_cSi (As := [.int (nI (3))]) (rest := [.long (1), .long ((v).toInt64)]) (pc := 34) ⟨hx, hb, hml, hown, hts⟩ (k_X8_mostOf (a := a) (k := 3) hD  (by decide)) (va_cwS 1 hts gX8_rule_X8_mostOf rfl rfl rfl (by decide +kernel) ⟨Nat.le_of_ble_eq_true rfl, Nat.le_of_ble_eq_true rfl⟩) hK hN hZ hP hS rfl hl.1 rfl (Nat.le_of_ble_eq_true rfl) dX8_rule_34 ⟨Nat.zero_le _, Nat.zero_le _⟩ (fun G' H locs hP hD hS hB => ?_)
    rw [hB] at hP hD
    clear hB G'
    refine lv_i2l (v := ((gTab 1).getD (3) 0).toInt64) (pc := 37) hx hb dX8_rule_37 rfl ?_
    refine mx_cSi (As := [.long ((v).toInt64), .long (1), .long (((gTab 1).getD (3) 0).toInt64)]) (rest := []) (pc := 38) ⟨hx, hb, hml, hown, hts⟩ (k_X8_in (a := a) (v := (v).toInt64) (lo := 1) (hi := ((gTab 1).getD (3) 0).toInt64) hD  ) (va_cwS 3 hts gX8_rule_X8_in rfl rfl rfl (by decide +kernel) ⟨Nat.le_of_ble_eq_true rfl, Nat.le_of_ble_eq_true rfl⟩) hK hN hZ hP hS rfl hl.1 rfl (Nat.le_of_ble_eq_true rfl) dX8_rule_38 ⟨Nat.zero_le _, Nat.zero_le _⟩ (fun G' H locs hP hD hS hB => ?_)
    rw [hB] at hP hD
    clear hB G'
    refine mx_bne (tgt := 47) (pc := 41) hx hb dX8_rule_41 (by decide) (fun c41 => ?_) (fun c41 => absurd (c41.symm.trans ((gIn_w (a := (gTab 0).getD 3 0) (b := (gTab 1).getD 3 0) (by decide) rfl).trans h2)) (by decide))
    refine lv_aload_n (pc := 47) hx hb dX8_rule_47 rfl (lv_at hl 0 rfl) ?_
    refine va_get (ci := 8) (C := RX8) (T := TX8) (N := 37) (pc := 48) hx hb hts hiX8 hown hK hP 22 w22 rfl 2 (by decide) (hts (.fieldLink RX8 16 "InkPressModel" "rules" "[I") (by decide +kernel)) (fun _ h9 => h9) rfl dX8_rule_48 ?_
    refine lv_iload_n (pc := 51) hx hb dX8_rule_51 rfl (lv_at hl 1 rfl) ?_
    refine mx_iald (pc := 52) hx hb hK hP 23 w23 (3) (by omega) (by decide) dX8_rule_52 ?_
    refine lv_istore_n (lv' := [(3, .int ((ru) (3))), (0, .ref (a 22)), (1, .int (nI (3))), (2, .int (v))]) (pc := 53) hx hb dX8_rule_53 rfl hl (by decide) rfl (fun ls hl => ?_)
    refine lv_aload_n (pc := 54) hx hb dX8_rule_54 rfl (lv_at hl 1 rfl) ?_
    refine va_get (ci := 8) (C := RX8) (T := TX8) (N := 37) (pc := 55) hx hb hts hiX8 hown hK hP 22 w22 rfl 2 (by decide) (hts (.fieldLink RX8 16 "InkPressModel" "rules" "[I") (by decide +kernel)) (fun _ h9 => h9) rfl dX8_rule_55 ?_
    refine lv_iload_n (pc := 58) hx hb dX8_rule_58 rfl (lv_at hl 2 rfl) ?_
    refine lv_iload_n (pc := 59) hx hb dX8_rule_59 rfl (lv_at hl 3 rfl) ?_
    refine mx_iast (x := v) (pc := 60) hx hb hK hP hD hS 23 w23 (3) (by omega) (by decide) dX8_rule_60 (fun H locs G hP hD hS w23 ho => ?_)
    have w22 := (ho 22 (by decide)).trans w22
    have w23 : G[23]? = some (a 23, .inl (cI, 9, .inl (upd (ru) (3) (v)))) := w23
    have hk := gk_step hk ho (by decide)
    clear ho
    refine lv_iload_n (pc := 61) hx hb dX8_rule_61 rfl (lv_at hl 0 rfl) ?_
    exact hret _ _ _ _ _ _ hP hD hS rfl ⟨w23, hk⟩ dX8_rule_62
  · skip
    refine lv_iload_n (pc := 0) hx hb dX8_rule_0 rfl (lv_at hl 1 rfl) ?_
    refine lv_i2l (v := (nI (4)).toInt64) (pc := 1) hx hb dX8_rule_1 rfl ?_
    refine lv_lconst (v := 0) (pc := 2) hx hb dX8_rule_2 (by decide) ?_
    refine lv_ldc2 (own := RX8) (v := (8)) (pc := 3) hx hb hown (hts (.constantLong RX8 109 (8)) (by decide +kernel)) dX8_rule_3 ?_
    refine mx_cSi (As := [.long ((nI (4)).toInt64), .long (0), .long ((8))]) (rest := []) (pc := 6) ⟨hx, hb, hml, hown, hts⟩ (k_X8_in (a := a) (v := (nI (4)).toInt64) (lo := 0) (hi := (8)) hD  ) (va_cwS 3 hts gX8_rule_X8_in rfl rfl rfl (by decide +kernel) ⟨Nat.le_of_ble_eq_true rfl, Nat.le_of_ble_eq_true rfl⟩) hK hN hZ hP hS rfl hl.1 rfl (Nat.le_of_ble_eq_true rfl) dX8_rule_6 ⟨Nat.zero_le _, Nat.zero_le _⟩ (fun G' H locs hP hD hS hB => ?_)
    rw [hB] at hP hD
    clear hB G'
    refine mx_bne (tgt := 15) (pc := 9) hx hb dX8_rule_9 (by decide) (fun c9 => ?_) (fun c9 => absurd (c9.symm.trans ((gIn_w (a := nI 0) (b := nI 8) (by decide) (by decide)).trans ((gWi_has 8 (by decide)).trans h1))) (by decide))
    refine lv_iload_n (pc := 15) hx hb dX8_rule_15 rfl (lv_at hl 2 rfl) ?_
    refine lv_i2l (v := (v).toInt64) (pc := 16) hx hb dX8_rule_16 rfl ?_
    refine lv_iload_n (pc := 17) hx hb dX8_rule_17 rfl (lv_at hl 1 rfl) ?_
    refine lv_iconst (v := nI (2)) (pc := 18) hx hb dX8_rule_18 (by decide) ?_
    refine mx_ceq (tgt := 28) (pc := 19) hx hb (by omega) (by omega) dX8_rule_19 (by decide) (fun c19 => absurd c19 (by decide)) (fun c19 => ?_)
    refine lv_iload_n (pc := 22) hx hb dX8_rule_22 rfl (lv_at hl 1 rfl) ?_
    refine lv_bipush (v := nI (6)) (pc := 23) hx hb dX8_rule_23 (by decide) ?_
    refine mx_cne (tgt := 32) (pc := 25) hx hb (by omega) (by omega) dX8_rule_25 (by decide) (fun c25 => ?_) (fun c25 => absurd c25 (by decide))
    refine lv_lconst (v := 1) (pc := 32) hx hb dX8_rule_32 (by decide) ?_
    refine lv_iload_n (pc := 33) hx hb dX8_rule_33 rfl (lv_at hl 1 rfl) ?_
    refine mx_cSi (As := [.int (nI (4))]) (rest := [.long (1), .long ((v).toInt64)]) (pc := 34) ⟨hx, hb, hml, hown, hts⟩ (k_X8_mostOf (a := a) (k := 4) hD  (by decide)) (va_cwS 1 hts gX8_rule_X8_mostOf rfl rfl rfl (by decide +kernel) ⟨Nat.le_of_ble_eq_true rfl, Nat.le_of_ble_eq_true rfl⟩) hK hN hZ hP hS rfl hl.1 rfl (Nat.le_of_ble_eq_true rfl) dX8_rule_34 ⟨Nat.zero_le _, Nat.zero_le _⟩ (fun G' H locs hP hD hS hB => ?_)
    rw [hB] at hP hD
    clear hB G'
    refine lv_i2l (v := ((gTab 1).getD (4) 0).toInt64) (pc := 37) hx hb dX8_rule_37 rfl ?_
    refine mx_cSi (As := [.long ((v).toInt64), .long (1), .long (((gTab 1).getD (4) 0).toInt64)]) (rest := []) (pc := 38) ⟨hx, hb, hml, hown, hts⟩ (k_X8_in (a := a) (v := (v).toInt64) (lo := 1) (hi := ((gTab 1).getD (4) 0).toInt64) hD  ) (va_cwS 3 hts gX8_rule_X8_in rfl rfl rfl (by decide +kernel) ⟨Nat.le_of_ble_eq_true rfl, Nat.le_of_ble_eq_true rfl⟩) hK hN hZ hP hS rfl hl.1 rfl (Nat.le_of_ble_eq_true rfl) dX8_rule_38 ⟨Nat.zero_le _, Nat.zero_le _⟩ (fun G' H locs hP hD hS hB => ?_)
    rw [hB] at hP hD
    clear hB G'
    refine mx_bne (tgt := 47) (pc := 41) hx hb dX8_rule_41 (by decide) (fun c41 => ?_) (fun c41 => absurd (c41.symm.trans ((gIn_w (a := (gTab 0).getD 4 0) (b := (gTab 1).getD 4 0) (by decide) rfl).trans h2)) (by decide))
    refine lv_aload_n (pc := 47) hx hb dX8_rule_47 rfl (lv_at hl 0 rfl) ?_
    refine va_get (ci := 8) (C := RX8) (T := TX8) (N := 37) (pc := 48) hx hb hts hiX8 hown hK hP 22 w22 rfl 2 (by decide) (hts (.fieldLink RX8 16 "InkPressModel" "rules" "[I") (by decide +kernel)) (fun _ h9 => h9) rfl dX8_rule_48 ?_
    refine lv_iload_n (pc := 51) hx hb dX8_rule_51 rfl (lv_at hl 1 rfl) ?_
    refine mx_iald (pc := 52) hx hb hK hP 23 w23 (4) (by omega) (by decide) dX8_rule_52 ?_
    refine lv_istore_n (lv' := [(3, .int ((ru) (4))), (0, .ref (a 22)), (1, .int (nI (4))), (2, .int (v))]) (pc := 53) hx hb dX8_rule_53 rfl hl (by decide) rfl (fun ls hl => ?_)
    refine lv_aload_n (pc := 54) hx hb dX8_rule_54 rfl (lv_at hl 1 rfl) ?_
    refine va_get (ci := 8) (C := RX8) (T := TX8) (N := 37) (pc := 55) hx hb hts hiX8 hown hK hP 22 w22 rfl 2 (by decide) (hts (.fieldLink RX8 16 "InkPressModel" "rules" "[I") (by decide +kernel)) (fun _ h9 => h9) rfl dX8_rule_55 ?_
    refine lv_iload_n (pc := 58) hx hb dX8_rule_58 rfl (lv_at hl 2 rfl) ?_
    refine lv_iload_n (pc := 59) hx hb dX8_rule_59 rfl (lv_at hl 3 rfl) ?_
    refine mx_iast (x := v) (pc := 60) hx hb hK hP hD hS 23 w23 (4) (by omega) (by decide) dX8_rule_60 (fun H locs G hP hD hS w23 ho => ?_)
    have w22 := (ho 22 (by decide)).trans w22
    have w23 : G[23]? = some (a 23, .inl (cI, 9, .inl (upd (ru) (4) (v)))) := w23
    have hk := gk_step hk ho (by decide)
    clear ho
    refine lv_iload_n (pc := 61) hx hb dX8_rule_61 rfl (lv_at hl 0 rfl) ?_
    exact hret _ _ _ _ _ _ hP hD hS rfl ⟨w23, hk⟩ dX8_rule_62
  · skip
    refine lv_iload_n (pc := 0) hx hb dX8_rule_0 rfl (lv_at hl 1 rfl) ?_
    refine lv_i2l (v := (nI (5)).toInt64) (pc := 1) hx hb dX8_rule_1 rfl ?_
    refine lv_lconst (v := 0) (pc := 2) hx hb dX8_rule_2 (by decide) ?_
    refine lv_ldc2 (own := RX8) (v := (8)) (pc := 3) hx hb hown (hts (.constantLong RX8 109 (8)) (by decide +kernel)) dX8_rule_3 ?_
    refine mx_cSi (As := [.long ((nI (5)).toInt64), .long (0), .long ((8))]) (rest := []) (pc := 6) ⟨hx, hb, hml, hown, hts⟩ (k_X8_in (a := a) (v := (nI (5)).toInt64) (lo := 0) (hi := (8)) hD  ) (va_cwS 3 hts gX8_rule_X8_in rfl rfl rfl (by decide +kernel) ⟨Nat.le_of_ble_eq_true rfl, Nat.le_of_ble_eq_true rfl⟩) hK hN hZ hP hS rfl hl.1 rfl (Nat.le_of_ble_eq_true rfl) dX8_rule_6 ⟨Nat.zero_le _, Nat.zero_le _⟩ (fun G' H locs hP hD hS hB => ?_)
    rw [hB] at hP hD
    clear hB G'
    refine mx_bne (tgt := 15) (pc := 9) hx hb dX8_rule_9 (by decide) (fun c9 => ?_) (fun c9 => absurd (c9.symm.trans ((gIn_w (a := nI 0) (b := nI 8) (by decide) (by decide)).trans ((gWi_has 8 (by decide)).trans h1))) (by decide))
    refine lv_iload_n (pc := 15) hx hb dX8_rule_15 rfl (lv_at hl 2 rfl) ?_
    refine lv_i2l (v := (v).toInt64) (pc := 16) hx hb dX8_rule_16 rfl ?_
    refine lv_iload_n (pc := 17) hx hb dX8_rule_17 rfl (lv_at hl 1 rfl) ?_
    refine lv_iconst (v := nI (2)) (pc := 18) hx hb dX8_rule_18 (by decide) ?_
    refine mx_ceq (tgt := 28) (pc := 19) hx hb (by omega) (by omega) dX8_rule_19 (by decide) (fun c19 => absurd c19 (by decide)) (fun c19 => ?_)
    refine lv_iload_n (pc := 22) hx hb dX8_rule_22 rfl (lv_at hl 1 rfl) ?_
    refine lv_bipush (v := nI (6)) (pc := 23) hx hb dX8_rule_23 (by decide) ?_
    refine mx_cne (tgt := 32) (pc := 25) hx hb (by omega) (by omega) dX8_rule_25 (by decide) (fun c25 => ?_) (fun c25 => absurd c25 (by decide))
    refine lv_lconst (v := 1) (pc := 32) hx hb dX8_rule_32 (by decide) ?_
    refine lv_iload_n (pc := 33) hx hb dX8_rule_33 rfl (lv_at hl 1 rfl) ?_
    refine mx_cSi (As := [.int (nI (5))]) (rest := [.long (1), .long ((v).toInt64)]) (pc := 34) ⟨hx, hb, hml, hown, hts⟩ (k_X8_mostOf (a := a) (k := 5) hD  (by decide)) (va_cwS 1 hts gX8_rule_X8_mostOf rfl rfl rfl (by decide +kernel) ⟨Nat.le_of_ble_eq_true rfl, Nat.le_of_ble_eq_true rfl⟩) hK hN hZ hP hS rfl hl.1 rfl (Nat.le_of_ble_eq_true rfl) dX8_rule_34 ⟨Nat.zero_le _, Nat.zero_le _⟩ (fun G' H locs hP hD hS hB => ?_)
    rw [hB] at hP hD
    clear hB G'
    refine lv_i2l (v := ((gTab 1).getD (5) 0).toInt64) (pc := 37) hx hb dX8_rule_37 rfl ?_
    refine mx_cSi (As := [.long ((v).toInt64), .long (1), .long (((gTab 1).getD (5) 0).toInt64)]) (rest := []) (pc := 38) ⟨hx, hb, hml, hown, hts⟩ (k_X8_in (a := a) (v := (v).toInt64) (lo := 1) (hi := ((gTab 1).getD (5) 0).toInt64) hD  ) (va_cwS 3 hts gX8_rule_X8_in rfl rfl rfl (by decide +kernel) ⟨Nat.le_of_ble_eq_true rfl, Nat.le_of_ble_eq_true rfl⟩) hK hN hZ hP hS rfl hl.1 rfl (Nat.le_of_ble_eq_true rfl) dX8_rule_38 ⟨Nat.zero_le _, Nat.zero_le _⟩ (fun G' H locs hP hD hS hB => ?_)
    rw [hB] at hP hD
    clear hB G'
    refine mx_bne (tgt := 47) (pc := 41) hx hb dX8_rule_41 (by decide) (fun c41 => ?_) (fun c41 => absurd (c41.symm.trans ((gIn_w (a := (gTab 0).getD 5 0) (b := (gTab 1).getD 5 0) (by decide) rfl).trans h2)) (by decide))
    refine lv_aload_n (pc := 47) hx hb dX8_rule_47 rfl (lv_at hl 0 rfl) ?_
    refine va_get (ci := 8) (C := RX8) (T := TX8) (N := 37) (pc := 48) hx hb hts hiX8 hown hK hP 22 w22 rfl 2 (by decide) (hts (.fieldLink RX8 16 "InkPressModel" "rules" "[I") (by decide +kernel)) (fun _ h9 => h9) rfl dX8_rule_48 ?_
    refine lv_iload_n (pc := 51) hx hb dX8_rule_51 rfl (lv_at hl 1 rfl) ?_
    refine mx_iald (pc := 52) hx hb hK hP 23 w23 (5) (by omega) (by decide) dX8_rule_52 ?_
    refine lv_istore_n (lv' := [(3, .int ((ru) (5))), (0, .ref (a 22)), (1, .int (nI (5))), (2, .int (v))]) (pc := 53) hx hb dX8_rule_53 rfl hl (by decide) rfl (fun ls hl => ?_)
    refine lv_aload_n (pc := 54) hx hb dX8_rule_54 rfl (lv_at hl 1 rfl) ?_
    refine va_get (ci := 8) (C := RX8) (T := TX8) (N := 37) (pc := 55) hx hb hts hiX8 hown hK hP 22 w22 rfl 2 (by decide) (hts (.fieldLink RX8 16 "InkPressModel" "rules" "[I") (by decide +kernel)) (fun _ h9 => h9) rfl dX8_rule_55 ?_
    refine lv_iload_n (pc := 58) hx hb dX8_rule_58 rfl (lv_at hl 2 rfl) ?_
    refine lv_iload_n (pc := 59) hx hb dX8_rule_59 rfl (lv_at hl 3 rfl) ?_
    refine mx_iast (x := v) (pc := 60) hx hb hK hP hD hS 23 w23 (5) (by omega) (by decide) dX8_rule_60 (fun H locs G hP hD hS w23 ho => ?_)
    have w22 := (ho 22 (by decide)).trans w22
    have w23 : G[23]? = some (a 23, .inl (cI, 9, .inl (upd (ru) (5) (v)))) := w23
    have hk := gk_step hk ho (by decide)
    clear ho
    refine lv_iload_n (pc := 61) hx hb dX8_rule_61 rfl (lv_at hl 0 rfl) ?_
    exact hret _ _ _ _ _ _ hP hD hS rfl ⟨w23, hk⟩ dX8_rule_62
  · skip
    refine lv_iload_n (pc := 0) hx hb dX8_rule_0 rfl (lv_at hl 1 rfl) ?_
    refine lv_i2l (v := (nI (6)).toInt64) (pc := 1) hx hb dX8_rule_1 rfl ?_
    refine lv_lconst (v := 0) (pc := 2) hx hb dX8_rule_2 (by decide) ?_
    refine lv_ldc2 (own := RX8) (v := (8)) (pc := 3) hx hb hown (hts (.constantLong RX8 109 (8)) (by decide +kernel)) dX8_rule_3 ?_
    refine mx_cSi (As := [.long ((nI (6)).toInt64), .long (0), .long ((8))]) (rest := []) (pc := 6) ⟨hx, hb, hml, hown, hts⟩ (k_X8_in (a := a) (v := (nI (6)).toInt64) (lo := 0) (hi := (8)) hD  ) (va_cwS 3 hts gX8_rule_X8_in rfl rfl rfl (by decide +kernel) ⟨Nat.le_of_ble_eq_true rfl, Nat.le_of_ble_eq_true rfl⟩) hK hN hZ hP hS rfl hl.1 rfl (Nat.le_of_ble_eq_true rfl) dX8_rule_6 ⟨Nat.zero_le _, Nat.zero_le _⟩ (fun G' H locs hP hD hS hB => ?_)
    rw [hB] at hP hD
    clear hB G'
    refine mx_bne (tgt := 15) (pc := 9) hx hb dX8_rule_9 (by decide) (fun c9 => ?_) (fun c9 => absurd (c9.symm.trans ((gIn_w (a := nI 0) (b := nI 8) (by decide) (by decide)).trans ((gWi_has 8 (by decide)).trans h1))) (by decide))
    refine lv_iload_n (pc := 15) hx hb dX8_rule_15 rfl (lv_at hl 2 rfl) ?_
    refine lv_i2l (v := (v).toInt64) (pc := 16) hx hb dX8_rule_16 rfl ?_
    refine lv_iload_n (pc := 17) hx hb dX8_rule_17 rfl (lv_at hl 1 rfl) ?_
    refine lv_iconst (v := nI (2)) (pc := 18) hx hb dX8_rule_18 (by decide) ?_
    refine mx_ceq (tgt := 28) (pc := 19) hx hb (by omega) (by omega) dX8_rule_19 (by decide) (fun c19 => absurd c19 (by decide)) (fun c19 => ?_)
    refine lv_iload_n (pc := 22) hx hb dX8_rule_22 rfl (lv_at hl 1 rfl) ?_
    refine lv_bipush (v := nI (6)) (pc := 23) hx hb dX8_rule_23 (by decide) ?_
    refine mx_cne (tgt := 32) (pc := 25) hx hb (by omega) (by omega) dX8_rule_25 (by decide) (fun c25 => absurd c25 (by decide)) (fun c25 => ?_)
    refine lv_lconst (v := 0) (pc := 28) hx hb dX8_rule_28 (by decide) ?_
    refine lv_goto (tgt := 33) (pc := 29) hx hb dX8_rule_29 (by decide) ?_
    refine lv_iload_n (pc := 33) hx hb dX8_rule_33 rfl (lv_at hl 1 rfl) ?_
    refine mx_cSi (As := [.int (nI (6))]) (rest := [.long (0), .long ((v).toInt64)]) (pc := 34) ⟨hx, hb, hml, hown, hts⟩ (k_X8_mostOf (a := a) (k := 6) hD  (by decide)) (va_cwS 1 hts gX8_rule_X8_mostOf rfl rfl rfl (by decide +kernel) ⟨Nat.le_of_ble_eq_true rfl, Nat.le_of_ble_eq_true rfl⟩) hK hN hZ hP hS rfl hl.1 rfl (Nat.le_of_ble_eq_true rfl) dX8_rule_34 ⟨Nat.zero_le _, Nat.zero_le _⟩ (fun G' H locs hP hD hS hB => ?_)
    rw [hB] at hP hD
    clear hB G'
    refine lv_i2l (v := ((gTab 1).getD (6) 0).toInt64) (pc := 37) hx hb dX8_rule_37 rfl ?_
    refine mx_cSi (As := [.long ((v).toInt64), .long (0), .long (((gTab 1).getD (6) 0).toInt64)]) (rest := []) (pc := 38) ⟨hx, hb, hml, hown, hts⟩ (k_X8_in (a := a) (v := (v).toInt64) (lo := 0) (hi := ((gTab 1).getD (6) 0).toInt64) hD  ) (va_cwS 3 hts gX8_rule_X8_in rfl rfl rfl (by decide +kernel) ⟨Nat.le_of_ble_eq_true rfl, Nat.le_of_ble_eq_true rfl⟩) hK hN hZ hP hS rfl hl.1 rfl (Nat.le_of_ble_eq_true rfl) dX8_rule_38 ⟨Nat.zero_le _, Nat.zero_le _⟩ (fun G' H locs hP hD hS hB => ?_)
    rw [hB] at hP hD
    clear hB G'
    refine mx_bne (tgt := 47) (pc := 41) hx hb dX8_rule_41 (by decide) (fun c41 => ?_) (fun c41 => absurd (c41.symm.trans ((gIn_w (a := (gTab 0).getD 6 0) (b := (gTab 1).getD 6 0) (by decide) rfl).trans h2)) (by decide))
    refine lv_aload_n (pc := 47) hx hb dX8_rule_47 rfl (lv_at hl 0 rfl) ?_
    refine va_get (ci := 8) (C := RX8) (T := TX8) (N := 37) (pc := 48) hx hb hts hiX8 hown hK hP 22 w22 rfl 2 (by decide) (hts (.fieldLink RX8 16 "InkPressModel" "rules" "[I") (by decide +kernel)) (fun _ h9 => h9) rfl dX8_rule_48 ?_
    refine lv_iload_n (pc := 51) hx hb dX8_rule_51 rfl (lv_at hl 1 rfl) ?_
    refine mx_iald (pc := 52) hx hb hK hP 23 w23 (6) (by omega) (by decide) dX8_rule_52 ?_
    refine lv_istore_n (lv' := [(3, .int ((ru) (6))), (0, .ref (a 22)), (1, .int (nI (6))), (2, .int (v))]) (pc := 53) hx hb dX8_rule_53 rfl hl (by decide) rfl (fun ls hl => ?_)
    refine lv_aload_n (pc := 54) hx hb dX8_rule_54 rfl (lv_at hl 1 rfl) ?_
    refine va_get (ci := 8) (C := RX8) (T := TX8) (N := 37) (pc := 55) hx hb hts hiX8 hown hK hP 22 w22 rfl 2 (by decide) (hts (.fieldLink RX8 16 "InkPressModel" "rules" "[I") (by decide +kernel)) (fun _ h9 => h9) rfl dX8_rule_55 ?_
    refine lv_iload_n (pc := 58) hx hb dX8_rule_58 rfl (lv_at hl 2 rfl) ?_
    refine lv_iload_n (pc := 59) hx hb dX8_rule_59 rfl (lv_at hl 3 rfl) ?_
    refine mx_iast (x := v) (pc := 60) hx hb hK hP hD hS 23 w23 (6) (by omega) (by decide) dX8_rule_60 (fun H locs G hP hD hS w23 ho => ?_)
    have w22 := (ho 22 (by decide)).trans w22
    have w23 : G[23]? = some (a 23, .inl (cI, 9, .inl (upd (ru) (6) (v)))) := w23
    have hk := gk_step hk ho (by decide)
    clear ho
    refine lv_iload_n (pc := 61) hx hb dX8_rule_61 rfl (lv_at hl 0 rfl) ?_
    exact hret _ _ _ _ _ _ hP hD hS rfl ⟨w23, hk⟩ dX8_rule_62
  · skip
    refine lv_iload_n (pc := 0) hx hb dX8_rule_0 rfl (lv_at hl 1 rfl) ?_
    refine lv_i2l (v := (nI (7)).toInt64) (pc := 1) hx hb dX8_rule_1 rfl ?_
    refine lv_lconst (v := 0) (pc := 2) hx hb dX8_rule_2 (by decide) ?_
    refine lv_ldc2 (own := RX8) (v := (8)) (pc := 3) hx hb hown (hts (.constantLong RX8 109 (8)) (by decide +kernel)) dX8_rule_3 ?_
    refine mx_cSi (As := [.long ((nI (7)).toInt64), .long (0), .long ((8))]) (rest := []) (pc := 6) ⟨hx, hb, hml, hown, hts⟩ (k_X8_in (a := a) (v := (nI (7)).toInt64) (lo := 0) (hi := (8)) hD  ) (va_cwS 3 hts gX8_rule_X8_in rfl rfl rfl (by decide +kernel) ⟨Nat.le_of_ble_eq_true rfl, Nat.le_of_ble_eq_true rfl⟩) hK hN hZ hP hS rfl hl.1 rfl (Nat.le_of_ble_eq_true rfl) dX8_rule_6 ⟨Nat.zero_le _, Nat.zero_le _⟩ (fun G' H locs hP hD hS hB => ?_)
    rw [hB] at hP hD
    clear hB G'
    refine mx_bne (tgt := 15) (pc := 9) hx hb dX8_rule_9 (by decide) (fun c9 => ?_) (fun c9 => absurd (c9.symm.trans ((gIn_w (a := nI 0) (b := nI 8) (by decide) (by decide)).trans ((gWi_has 8 (by decide)).trans h1))) (by decide))
    refine lv_iload_n (pc := 15) hx hb dX8_rule_15 rfl (lv_at hl 2 rfl) ?_
    refine lv_i2l (v := (v).toInt64) (pc := 16) hx hb dX8_rule_16 rfl ?_
    refine lv_iload_n (pc := 17) hx hb dX8_rule_17 rfl (lv_at hl 1 rfl) ?_
    refine lv_iconst (v := nI (2)) (pc := 18) hx hb dX8_rule_18 (by decide) ?_
    refine mx_ceq (tgt := 28) (pc := 19) hx hb (by omega) (by omega) dX8_rule_19 (by decide) (fun c19 => absurd c19 (by decide)) (fun c19 => ?_)
    refine lv_iload_n (pc := 22) hx hb dX8_rule_22 rfl (lv_at hl 1 rfl) ?_
    refine lv_bipush (v := nI (6)) (pc := 23) hx hb dX8_rule_23 (by decide) ?_
    refine mx_cne (tgt := 32) (pc := 25) hx hb (by omega) (by omega) dX8_rule_25 (by decide) (fun c25 => ?_) (fun c25 => absurd c25 (by decide))
    refine lv_lconst (v := 1) (pc := 32) hx hb dX8_rule_32 (by decide) ?_
    refine lv_iload_n (pc := 33) hx hb dX8_rule_33 rfl (lv_at hl 1 rfl) ?_
    refine mx_cSi (As := [.int (nI (7))]) (rest := [.long (1), .long ((v).toInt64)]) (pc := 34) ⟨hx, hb, hml, hown, hts⟩ (k_X8_mostOf (a := a) (k := 7) hD  (by decide)) (va_cwS 1 hts gX8_rule_X8_mostOf rfl rfl rfl (by decide +kernel) ⟨Nat.le_of_ble_eq_true rfl, Nat.le_of_ble_eq_true rfl⟩) hK hN hZ hP hS rfl hl.1 rfl (Nat.le_of_ble_eq_true rfl) dX8_rule_34 ⟨Nat.zero_le _, Nat.zero_le _⟩ (fun G' H locs hP hD hS hB => ?_)
    rw [hB] at hP hD
    clear hB G'
    refine lv_i2l (v := ((gTab 1).getD (7) 0).toInt64) (pc := 37) hx hb dX8_rule_37 rfl ?_
    refine mx_cSi (As := [.long ((v).toInt64), .long (1), .long (((gTab 1).getD (7) 0).toInt64)]) (rest := []) (pc := 38) ⟨hx, hb, hml, hown, hts⟩ (k_X8_in (a := a) (v := (v).toInt64) (lo := 1) (hi := ((gTab 1).getD (7) 0).toInt64) hD  ) (va_cwS 3 hts gX8_rule_X8_in rfl rfl rfl (by decide +kernel) ⟨Nat.le_of_ble_eq_true rfl, Nat.le_of_ble_eq_true rfl⟩) hK hN hZ hP hS rfl hl.1 rfl (Nat.le_of_ble_eq_true rfl) dX8_rule_38 ⟨Nat.zero_le _, Nat.zero_le _⟩ (fun G' H locs hP hD hS hB => ?_)
    rw [hB] at hP hD
    clear hB G'
    refine mx_bne (tgt := 47) (pc := 41) hx hb dX8_rule_41 (by decide) (fun c41 => ?_) (fun c41 => absurd (c41.symm.trans ((gIn_w (a := (gTab 0).getD 7 0) (b := (gTab 1).getD 7 0) (by decide) rfl).trans h2)) (by decide))
    refine lv_aload_n (pc := 47) hx hb dX8_rule_47 rfl (lv_at hl 0 rfl) ?_
    refine va_get (ci := 8) (C := RX8) (T := TX8) (N := 37) (pc := 48) hx hb hts hiX8 hown hK hP 22 w22 rfl 2 (by decide) (hts (.fieldLink RX8 16 "InkPressModel" "rules" "[I") (by decide +kernel)) (fun _ h9 => h9) rfl dX8_rule_48 ?_
    refine lv_iload_n (pc := 51) hx hb dX8_rule_51 rfl (lv_at hl 1 rfl) ?_
    refine mx_iald (pc := 52) hx hb hK hP 23 w23 (7) (by omega) (by decide) dX8_rule_52 ?_
    refine lv_istore_n (lv' := [(3, .int ((ru) (7))), (0, .ref (a 22)), (1, .int (nI (7))), (2, .int (v))]) (pc := 53) hx hb dX8_rule_53 rfl hl (by decide) rfl (fun ls hl => ?_)
    refine lv_aload_n (pc := 54) hx hb dX8_rule_54 rfl (lv_at hl 1 rfl) ?_
    refine va_get (ci := 8) (C := RX8) (T := TX8) (N := 37) (pc := 55) hx hb hts hiX8 hown hK hP 22 w22 rfl 2 (by decide) (hts (.fieldLink RX8 16 "InkPressModel" "rules" "[I") (by decide +kernel)) (fun _ h9 => h9) rfl dX8_rule_55 ?_
    refine lv_iload_n (pc := 58) hx hb dX8_rule_58 rfl (lv_at hl 2 rfl) ?_
    refine lv_iload_n (pc := 59) hx hb dX8_rule_59 rfl (lv_at hl 3 rfl) ?_
    refine mx_iast (x := v) (pc := 60) hx hb hK hP hD hS 23 w23 (7) (by omega) (by decide) dX8_rule_60 (fun H locs G hP hD hS w23 ho => ?_)
    have w22 := (ho 22 (by decide)).trans w22
    have w23 : G[23]? = some (a 23, .inl (cI, 9, .inl (upd (ru) (7) (v)))) := w23
    have hk := gk_step hk ho (by decide)
    clear ho
    refine lv_iload_n (pc := 61) hx hb dX8_rule_61 rfl (lv_at hl 0 rfl) ?_
    exact hret _ _ _ _ _ _ hP hD hS rfl ⟨w23, hk⟩ dX8_rule_62
  · skip
    refine lv_iload_n (pc := 0) hx hb dX8_rule_0 rfl (lv_at hl 1 rfl) ?_
    refine lv_i2l (v := (nI (8)).toInt64) (pc := 1) hx hb dX8_rule_1 rfl ?_
    refine lv_lconst (v := 0) (pc := 2) hx hb dX8_rule_2 (by decide) ?_
    refine lv_ldc2 (own := RX8) (v := (8)) (pc := 3) hx hb hown (hts (.constantLong RX8 109 (8)) (by decide +kernel)) dX8_rule_3 ?_
    refine mx_cSi (As := [.long ((nI (8)).toInt64), .long (0), .long ((8))]) (rest := []) (pc := 6) ⟨hx, hb, hml, hown, hts⟩ (k_X8_in (a := a) (v := (nI (8)).toInt64) (lo := 0) (hi := (8)) hD  ) (va_cwS 3 hts gX8_rule_X8_in rfl rfl rfl (by decide +kernel) ⟨Nat.le_of_ble_eq_true rfl, Nat.le_of_ble_eq_true rfl⟩) hK hN hZ hP hS rfl hl.1 rfl (Nat.le_of_ble_eq_true rfl) dX8_rule_6 ⟨Nat.zero_le _, Nat.zero_le _⟩ (fun G' H locs hP hD hS hB => ?_)
    rw [hB] at hP hD
    clear hB G'
    refine mx_bne (tgt := 15) (pc := 9) hx hb dX8_rule_9 (by decide) (fun c9 => ?_) (fun c9 => absurd (c9.symm.trans ((gIn_w (a := nI 0) (b := nI 8) (by decide) (by decide)).trans ((gWi_has 8 (by decide)).trans h1))) (by decide))
    refine lv_iload_n (pc := 15) hx hb dX8_rule_15 rfl (lv_at hl 2 rfl) ?_
    refine lv_i2l (v := (v).toInt64) (pc := 16) hx hb dX8_rule_16 rfl ?_
    refine lv_iload_n (pc := 17) hx hb dX8_rule_17 rfl (lv_at hl 1 rfl) ?_
    refine lv_iconst (v := nI (2)) (pc := 18) hx hb dX8_rule_18 (by decide) ?_
    refine mx_ceq (tgt := 28) (pc := 19) hx hb (by omega) (by omega) dX8_rule_19 (by decide) (fun c19 => absurd c19 (by decide)) (fun c19 => ?_)
    refine lv_iload_n (pc := 22) hx hb dX8_rule_22 rfl (lv_at hl 1 rfl) ?_
    refine lv_bipush (v := nI (6)) (pc := 23) hx hb dX8_rule_23 (by decide) ?_
    refine mx_cne (tgt := 32) (pc := 25) hx hb (by omega) (by omega) dX8_rule_25 (by decide) (fun c25 => ?_) (fun c25 => absurd c25 (by decide))
    refine lv_lconst (v := 1) (pc := 32) hx hb dX8_rule_32 (by decide) ?_
    refine lv_iload_n (pc := 33) hx hb dX8_rule_33 rfl (lv_at hl 1 rfl) ?_
    refine mx_cSi (As := [.int (nI (8))]) (rest := [.long (1), .long ((v).toInt64)]) (pc := 34) ⟨hx, hb, hml, hown, hts⟩ (k_X8_mostOf (a := a) (k := 8) hD  (by decide)) (va_cwS 1 hts gX8_rule_X8_mostOf rfl rfl rfl (by decide +kernel) ⟨Nat.le_of_ble_eq_true rfl, Nat.le_of_ble_eq_true rfl⟩) hK hN hZ hP hS rfl hl.1 rfl (Nat.le_of_ble_eq_true rfl) dX8_rule_34 ⟨Nat.zero_le _, Nat.zero_le _⟩ (fun G' H locs hP hD hS hB => ?_)
    rw [hB] at hP hD
    clear hB G'
    refine lv_i2l (v := ((gTab 1).getD (8) 0).toInt64) (pc := 37) hx hb dX8_rule_37 rfl ?_
    refine mx_cSi (As := [.long ((v).toInt64), .long (1), .long (((gTab 1).getD (8) 0).toInt64)]) (rest := []) (pc := 38) ⟨hx, hb, hml, hown, hts⟩ (k_X8_in (a := a) (v := (v).toInt64) (lo := 1) (hi := ((gTab 1).getD (8) 0).toInt64) hD  ) (va_cwS 3 hts gX8_rule_X8_in rfl rfl rfl (by decide +kernel) ⟨Nat.le_of_ble_eq_true rfl, Nat.le_of_ble_eq_true rfl⟩) hK hN hZ hP hS rfl hl.1 rfl (Nat.le_of_ble_eq_true rfl) dX8_rule_38 ⟨Nat.zero_le _, Nat.zero_le _⟩ (fun G' H locs hP hD hS hB => ?_)
    rw [hB] at hP hD
    clear hB G'
    refine mx_bne (tgt := 47) (pc := 41) hx hb dX8_rule_41 (by decide) (fun c41 => ?_) (fun c41 => absurd (c41.symm.trans ((gIn_w (a := (gTab 0).getD 8 0) (b := (gTab 1).getD 8 0) (by decide) rfl).trans h2)) (by decide))
    refine lv_aload_n (pc := 47) hx hb dX8_rule_47 rfl (lv_at hl 0 rfl) ?_
    refine va_get (ci := 8) (C := RX8) (T := TX8) (N := 37) (pc := 48) hx hb hts hiX8 hown hK hP 22 w22 rfl 2 (by decide) (hts (.fieldLink RX8 16 "InkPressModel" "rules" "[I") (by decide +kernel)) (fun _ h9 => h9) rfl dX8_rule_48 ?_
    refine lv_iload_n (pc := 51) hx hb dX8_rule_51 rfl (lv_at hl 1 rfl) ?_
    refine mx_iald (pc := 52) hx hb hK hP 23 w23 (8) (by omega) (by decide) dX8_rule_52 ?_
    refine lv_istore_n (lv' := [(3, .int ((ru) (8))), (0, .ref (a 22)), (1, .int (nI (8))), (2, .int (v))]) (pc := 53) hx hb dX8_rule_53 rfl hl (by decide) rfl (fun ls hl => ?_)
    refine lv_aload_n (pc := 54) hx hb dX8_rule_54 rfl (lv_at hl 1 rfl) ?_
    refine va_get (ci := 8) (C := RX8) (T := TX8) (N := 37) (pc := 55) hx hb hts hiX8 hown hK hP 22 w22 rfl 2 (by decide) (hts (.fieldLink RX8 16 "InkPressModel" "rules" "[I") (by decide +kernel)) (fun _ h9 => h9) rfl dX8_rule_55 ?_
    refine lv_iload_n (pc := 58) hx hb dX8_rule_58 rfl (lv_at hl 2 rfl) ?_
    refine lv_iload_n (pc := 59) hx hb dX8_rule_59 rfl (lv_at hl 3 rfl) ?_
    refine mx_iast (x := v) (pc := 60) hx hb hK hP hD hS 23 w23 (8) (by omega) (by decide) dX8_rule_60 (fun H locs G hP hD hS w23 ho => ?_)
    have w22 := (ho 22 (by decide)).trans w22
    have w23 : G[23]? = some (a 23, .inl (cI, 9, .inl (upd (ru) (8) (v)))) := w23
    have hk := gk_step hk ho (by decide)
    clear ho
    refine lv_iload_n (pc := 61) hx hb dX8_rule_61 rfl (lv_at hl 0 rfl) ?_
    exact hret _ _ _ _ _ _ hP hD hS rfl ⟨w23, hk⟩ dX8_rule_62
set_option maxHeartbeats 4000000 in
set_option maxRecDepth 100000 in
theorem k_X8_set_b {l : Launch} {D : va_G} {cI cZ : ClassId} {A : Nat → Prop} {g a : Nat → Nat} {G0 : va_W} {zn : Nat} {tr : Nat} {sc : Nat} {pn : Nat} {mn : Nat} {jn : Nat} {sg : Int32} {sr : Int32} {ss : Int32} {fed : Int32} {pap : Int32} {bar : Int32} {st : Bool} {q1 : Int64} {q2 : Int64} {q3 : Int64} {q4 : Int64} {q5 : Int64} {x : Int32} {y : Int32} {v : Int32} (hD : va_D A G0) (w22 : G0[22]? = some (a 22, .inr (8, [.int (nI (zn)), .int (nI (tr)), .ref (a 23), .ref (a 24), .ref (a 25), .ref (a 26), .ref (a 27), .ref (a 28), .ref (a 29), .int (nI (sc)), .int (sg), .int (sr), .int (ss), .int (fed), .int (pap), .int (bar), .int (gB (st)), .ref (a 30), .ref (a 31), .ref (a 32), .int (nI (pn)), .ref (a 33), .ref (a 34), .ref (a 35), .ref (a 36), .int (nI (mn)), .long (q1), .long (q2), .long (q3), .long (q4), .long (q5), .ref (a 37), .ref (a 38), .ref (a 39), .int (nI (jn)), .ref (a 40), .ref (a 41)]))) (hz1 : 1 ≤ zn) (hz8 : zn ≤ 8) (h1 : gHas x (nI zn) = false) : gMi l D cI cZ A g yX8_set wsX8_set ({ frames := 2, cells := 0, slots := 0, locals := 46 }) [.ref (a 22), .int (x), .int (y), .int (v)] G0 ((-1)) (fun G1 => G1 = G0) := by
  refine gof_i (cc := cX8_set) (maxL := 5) (by decide) rfl (Nat.le_of_ble_eq_true rfl) hD ?_
  intro p e s m args below meth c Q hx hb hml hts hown hK hN hZ hP hS hret ls hl
  have hown : s.vm.findClass RX8 = some m.cls := hown
  have hl : lv_has ls 5 [(0, .ref (a 22)), (1, .int (x)), (2, .int (y)), (3, .int (v))] := hl
  obtain ⟨locs, elocs⟩ : ∃ q : List Loc, q = [] := ⟨_, rfl⟩
  rw [← elocs] at hS ⊢
  obtain ⟨H, eH⟩ : ∃ q : Heap, q = s.heap := ⟨_, rfl⟩
  have hP : va_P D vwCl G0 H := eH ▸ hP
  have hS : va_S A s.heap H locs := by rw [eH]; exact hS
  rw [← eH]
  clear elocs eH
  have hk : ∀ k, k ∉ ([] : List Nat) → G0[k]? = G0[k]? := fun _ _ => rfl
  refine lv_aload_n (pc := 0) hx hb dX8_set_0 rfl (lv_at hl 0 rfl) ?_
  refine lv_iload_n (pc := 1) hx hb dX8_set_1 rfl (lv_at hl 1 rfl) ?_
  refine mx_cVi (As := [.int (x)]) (rest := []) (pc := 2) ⟨hx, hb, hml, hown, hts⟩ (k_X8_isZone (a := a) (zn := zn) (tr := tr) (sc := sc) (pn := pn) (mn := mn) (jn := jn) (sg := sg) (sr := sr) (ss := ss) (fed := fed) (pap := pap) (bar := bar) (st := st) (q1 := q1) (q2 := q2) (q3 := q3) (q4 := q4) (q5 := q5) (x := x) hD w22 hz1 hz8) (cwV 1 hts gX8_set_X8_isZone rfl rfl rfl (by decide +kernel) ⟨Nat.le_of_ble_eq_true rfl, Nat.le_of_ble_eq_true rfl⟩) 22 rfl rfl w22 hK hN hZ hP hS rfl hl.1 rfl (Nat.le_of_ble_eq_true rfl) dX8_set_2 ⟨Nat.zero_le _, Nat.zero_le _⟩ (fun G' H locs hP hD hS hB => ?_)
  rw [hB] at hP hD
  clear hB G'
  refine mx_bne (tgt := 10) (pc := 5) hx hb dX8_set_5 (by decide) (fun c5 => absurd (c5.symm.trans h1) (by decide)) (fun c5 => ?_)
  refine lv_iconst (v := (-1)) (pc := 8) hx hb dX8_set_8 (by decide) ?_
  exact hret _ _ _ _ _ _ hP hD hS rfl rfl dX8_set_9
set_option maxHeartbeats 4000000 in
set_option maxRecDepth 100000 in
theorem k_X8_set_c {l : Launch} {D : va_G} {cI cZ : ClassId} {A : Nat → Prop} {g a : Nat → Nat} {G0 : va_W} {zn : Nat} {tr : Nat} {sc : Nat} {pn : Nat} {mn : Nat} {jn : Nat} {sg : Int32} {sr : Int32} {ss : Int32} {fed : Int32} {pap : Int32} {bar : Int32} {st : Bool} {q1 : Int64} {q2 : Int64} {q3 : Int64} {q4 : Int64} {q5 : Int64} {x : Int32} {y : Int32} {v : Int32} (hD : va_D A G0) (w22 : G0[22]? = some (a 22, .inr (8, [.int (nI (zn)), .int (nI (tr)), .ref (a 23), .ref (a 24), .ref (a 25), .ref (a 26), .ref (a 27), .ref (a 28), .ref (a 29), .int (nI (sc)), .int (sg), .int (sr), .int (ss), .int (fed), .int (pap), .int (bar), .int (gB (st)), .ref (a 30), .ref (a 31), .ref (a 32), .int (nI (pn)), .ref (a 33), .ref (a 34), .ref (a 35), .ref (a 36), .int (nI (mn)), .long (q1), .long (q2), .long (q3), .long (q4), .long (q5), .ref (a 37), .ref (a 38), .ref (a 39), .int (nI (jn)), .ref (a 40), .ref (a 41)]))) (hz1 : 1 ≤ zn) (hz8 : zn ≤ 8) (h1 : gHas x (nI zn) = true) (h2 : gWi y (nI 0) (nI 2) = false) : gMi l D cI cZ A g yX8_set wsX8_set ({ frames := 2, cells := 0, slots := 0, locals := 46 }) [.ref (a 22), .int (x), .int (y), .int (v)] G0 ((-2)) (fun G1 => G1 = G0) := by
  refine gof_i (cc := cX8_set) (maxL := 5) (by decide) rfl (Nat.le_of_ble_eq_true rfl) hD ?_
  intro p e s m args below meth c Q hx hb hml hts hown hK hN hZ hP hS hret ls hl
  have hown : s.vm.findClass RX8 = some m.cls := hown
  have hl : lv_has ls 5 [(0, .ref (a 22)), (1, .int (x)), (2, .int (y)), (3, .int (v))] := hl
  obtain ⟨locs, elocs⟩ : ∃ q : List Loc, q = [] := ⟨_, rfl⟩
  rw [← elocs] at hS ⊢
  obtain ⟨H, eH⟩ : ∃ q : Heap, q = s.heap := ⟨_, rfl⟩
  have hP : va_P D vwCl G0 H := eH ▸ hP
  have hS : va_S A s.heap H locs := by rw [eH]; exact hS
  rw [← eH]
  clear elocs eH
  have hk : ∀ k, k ∉ ([] : List Nat) → G0[k]? = G0[k]? := fun _ _ => rfl
  refine lv_aload_n (pc := 0) hx hb dX8_set_0 rfl (lv_at hl 0 rfl) ?_
  refine lv_iload_n (pc := 1) hx hb dX8_set_1 rfl (lv_at hl 1 rfl) ?_
  refine mx_cVi (As := [.int (x)]) (rest := []) (pc := 2) ⟨hx, hb, hml, hown, hts⟩ (k_X8_isZone (a := a) (zn := zn) (tr := tr) (sc := sc) (pn := pn) (mn := mn) (jn := jn) (sg := sg) (sr := sr) (ss := ss) (fed := fed) (pap := pap) (bar := bar) (st := st) (q1 := q1) (q2 := q2) (q3 := q3) (q4 := q4) (q5 := q5) (x := x) hD w22 hz1 hz8) (cwV 1 hts gX8_set_X8_isZone rfl rfl rfl (by decide +kernel) ⟨Nat.le_of_ble_eq_true rfl, Nat.le_of_ble_eq_true rfl⟩) 22 rfl rfl w22 hK hN hZ hP hS rfl hl.1 rfl (Nat.le_of_ble_eq_true rfl) dX8_set_2 ⟨Nat.zero_le _, Nat.zero_le _⟩ (fun G' H locs hP hD hS hB => ?_)
  rw [hB] at hP hD
  clear hB G'
  refine mx_bne (tgt := 10) (pc := 5) hx hb dX8_set_5 (by decide) (fun c5 => ?_) (fun c5 => absurd (c5.symm.trans h1) (by decide))
  refine lv_iload_n (pc := 10) hx hb dX8_set_10 rfl (lv_at hl 2 rfl) ?_
  refine lv_i2l (v := (y).toInt64) (pc := 11) hx hb dX8_set_11 rfl ?_
  refine lv_lconst (v := 0) (pc := 12) hx hb dX8_set_12 (by decide) ?_
  refine lv_ldc2 (own := RX8) (v := (2)) (pc := 13) hx hb hown (hts (.constantLong RX8 107 (2)) (by decide +kernel)) dX8_set_13 ?_
  refine mx_cSi (As := [.long ((y).toInt64), .long (0), .long ((2))]) (rest := []) (pc := 16) ⟨hx, hb, hml, hown, hts⟩ (k_X8_in (a := a) (v := (y).toInt64) (lo := 0) (hi := (2)) hD  ) (va_cwS 3 hts gX8_set_X8_in rfl rfl rfl (by decide +kernel) ⟨Nat.le_of_ble_eq_true rfl, Nat.le_of_ble_eq_true rfl⟩) hK hN hZ hP hS rfl hl.1 rfl (Nat.le_of_ble_eq_true rfl) dX8_set_16 ⟨Nat.zero_le _, Nat.zero_le _⟩ (fun G' H locs hP hD hS hB => ?_)
  rw [hB] at hP hD
  clear hB G'
  refine mx_beq (tgt := 45) (pc := 19) hx hb dX8_set_19 (by decide) (fun c19 => ?_) (fun c19 => absurd (c19.symm.trans ((gIn_w (a := nI 0) (b := nI 2) (by decide) (by decide)).trans h2)) (by decide))
  refine lv_bipush (v := (-2)) (pc := 45) hx hb dX8_set_45 (by decide) ?_
  exact hret _ _ _ _ _ _ hP hD hS rfl rfl dX8_set_47
set_option maxHeartbeats 4000000 in
set_option maxRecDepth 100000 in
theorem k_X8_set_d {l : Launch} {D : va_G} {cI cZ : ClassId} {A : Nat → Prop} {g a : Nat → Nat} {G0 : va_W} {zn : Nat} {tr : Nat} {sc : Nat} {pn : Nat} {mn : Nat} {jn : Nat} {sg : Int32} {sr : Int32} {ss : Int32} {fed : Int32} {pap : Int32} {bar : Int32} {st : Bool} {q1 : Int64} {q2 : Int64} {q3 : Int64} {q4 : Int64} {q5 : Int64} {ke : Nat → Int32} {cv : Nat → Int32} {tg : Nat → Int32} {x : Int32} {k : Nat} {v : Int32} (hD : va_D A G0) (w22 : G0[22]? = some (a 22, .inr (8, [.int (nI (zn)), .int (nI (tr)), .ref (a 23), .ref (a 24), .ref (a 25), .ref (a 26), .ref (a 27), .ref (a 28), .ref (a 29), .int (nI (sc)), .int (sg), .int (sr), .int (ss), .int (fed), .int (pap), .int (bar), .int (gB (st)), .ref (a 30), .ref (a 31), .ref (a 32), .int (nI (pn)), .ref (a 33), .ref (a 34), .ref (a 35), .ref (a 36), .int (nI (mn)), .long (q1), .long (q2), .long (q3), .long (q4), .long (q5), .ref (a 37), .ref (a 38), .ref (a 39), .int (nI (jn)), .ref (a 40), .ref (a 41)]))) (w24 : G0[24]? = some (a 24, .inl (cI, 8, .inl (ke)))) (w25 : G0[25]? = some (a 25, .inl (cI, 8, .inl (cv)))) (w26 : G0[26]? = some (a 26, .inl (cI, 8, .inl (tg)))) (hz1 : 1 ≤ zn) (hz8 : zn ≤ 8) (hk3 : k < 3) (h1 : gHas x (nI zn) = true) (h2 : gWi (nI k) (nI 0) (nI 2) = true) (h3 : gWi v (nI 0) ((gTab 3).getD k 0) = false) : gMi l D cI cZ A g yX8_set wsX8_set ({ frames := 2, cells := 0, slots := 0, locals := 46 }) [.ref (a 22), .int (x), .int (nI (k)), .int (v)] G0 ((-2)) (fun G1 => G1 = G0) := by
  refine gof_i (cc := cX8_set) (maxL := 5) (by decide) rfl (Nat.le_of_ble_eq_true rfl) hD ?_
  intro p e s m args below meth c Q hx hb hml hts hown hK hN hZ hP hS hret ls hl
  have hown : s.vm.findClass RX8 = some m.cls := hown
  have hl : lv_has ls 5 [(0, .ref (a 22)), (1, .int (x)), (2, .int (nI (k))), (3, .int (v))] := hl
  obtain ⟨locs, elocs⟩ : ∃ q : List Loc, q = [] := ⟨_, rfl⟩
  rw [← elocs] at hS ⊢
  obtain ⟨H, eH⟩ : ∃ q : Heap, q = s.heap := ⟨_, rfl⟩
  have hP : va_P D vwCl G0 H := eH ▸ hP
  have hS : va_S A s.heap H locs := by rw [eH]; exact hS
  rw [← eH]
  clear elocs eH
  have hk : ∀ k, k ∉ ([] : List Nat) → G0[k]? = G0[k]? := fun _ _ => rfl
  rcases (show k = 0 ∨ k = 1 ∨ k = 2 by omega) with rfl | rfl | rfl
  · skip
    refine lv_aload_n (pc := 0) hx hb dX8_set_0 rfl (lv_at hl 0 rfl) ?_
    refine lv_iload_n (pc := 1) hx hb dX8_set_1 rfl (lv_at hl 1 rfl) ?_
    refine mx_cVi (As := [.int (x)]) (rest := []) (pc := 2) ⟨hx, hb, hml, hown, hts⟩ (k_X8_isZone (a := a) (zn := zn) (tr := tr) (sc := sc) (pn := pn) (mn := mn) (jn := jn) (sg := sg) (sr := sr) (ss := ss) (fed := fed) (pap := pap) (bar := bar) (st := st) (q1 := q1) (q2 := q2) (q3 := q3) (q4 := q4) (q5 := q5) (x := x) hD w22 hz1 hz8) (cwV 1 hts gX8_set_X8_isZone rfl rfl rfl (by decide +kernel) ⟨Nat.le_of_ble_eq_true rfl, Nat.le_of_ble_eq_true rfl⟩) 22 rfl rfl w22 hK hN hZ hP hS rfl hl.1 rfl (Nat.le_of_ble_eq_true rfl) dX8_set_2 ⟨Nat.zero_le _, Nat.zero_le _⟩ (fun G' H locs hP hD hS hB => ?_)
    rw [hB] at hP hD
    clear hB G'
    refine mx_bne (tgt := 10) (pc := 5) hx hb dX8_set_5 (by decide) (fun c5 => ?_) (fun c5 => absurd (c5.symm.trans h1) (by decide))
    refine lv_iload_n (pc := 10) hx hb dX8_set_10 rfl (lv_at hl 2 rfl) ?_
    refine lv_i2l (v := (nI (0)).toInt64) (pc := 11) hx hb dX8_set_11 rfl ?_
    refine lv_lconst (v := 0) (pc := 12) hx hb dX8_set_12 (by decide) ?_
    refine lv_ldc2 (own := RX8) (v := (2)) (pc := 13) hx hb hown (hts (.constantLong RX8 107 (2)) (by decide +kernel)) dX8_set_13 ?_
    refine mx_cSi (As := [.long ((nI (0)).toInt64), .long (0), .long ((2))]) (rest := []) (pc := 16) ⟨hx, hb, hml, hown, hts⟩ (k_X8_in (a := a) (v := (nI (0)).toInt64) (lo := 0) (hi := (2)) hD  ) (va_cwS 3 hts gX8_set_X8_in rfl rfl rfl (by decide +kernel) ⟨Nat.le_of_ble_eq_true rfl, Nat.le_of_ble_eq_true rfl⟩) hK hN hZ hP hS rfl hl.1 rfl (Nat.le_of_ble_eq_true rfl) dX8_set_16 ⟨Nat.zero_le _, Nat.zero_le _⟩ (fun G' H locs hP hD hS hB => ?_)
    rw [hB] at hP hD
    clear hB G'
    refine mx_beq (tgt := 45) (pc := 19) hx hb dX8_set_19 (by decide) (fun c19 => absurd (c19.symm.trans ((gIn_w (a := nI 0) (b := nI 2) (by decide) (by decide)).trans h2)) (by decide)) (fun c19 => ?_)
    refine lv_iload_n (pc := 22) hx hb dX8_set_22 rfl (lv_at hl 3 rfl) ?_
    refine lv_i2l (v := (v).toInt64) (pc := 23) hx hb dX8_set_23 rfl ?_
    refine lv_lconst (v := 0) (pc := 24) hx hb dX8_set_24 (by decide) ?_
    refine lv_iload_n (pc := 25) hx hb dX8_set_25 rfl (lv_at hl 2 rfl) ?_
    refine lv_iconst (v := nI (2)) (pc := 26) hx hb dX8_set_26 (by decide) ?_
    refine mx_cne (tgt := 36) (pc := 27) hx hb (by omega) (by omega) dX8_set_27 (by decide) (fun c27 => ?_) (fun c27 => absurd c27 (by decide))
    refine lv_ldc2 (own := RX8) (v := (100)) (pc := 36) hx hb hown (hts (.constantLong RX8 125 (100)) (by decide +kernel)) dX8_set_36 ?_
    refine mx_cSi (As := [.long ((v).toInt64), .long (0), .long ((100))]) (rest := []) (pc := 39) ⟨hx, hb, hml, hown, hts⟩ (k_X8_in (a := a) (v := (v).toInt64) (lo := 0) (hi := (100)) hD  ) (va_cwS 3 hts gX8_set_X8_in rfl rfl rfl (by decide +kernel) ⟨Nat.le_of_ble_eq_true rfl, Nat.le_of_ble_eq_true rfl⟩) hK hN hZ hP hS rfl hl.1 rfl (Nat.le_of_ble_eq_true rfl) dX8_set_39 ⟨Nat.zero_le _, Nat.zero_le _⟩ (fun G' H locs hP hD hS hB => ?_)
    rw [hB] at hP hD
    clear hB G'
    refine mx_bne (tgt := 48) (pc := 42) hx hb dX8_set_42 (by decide) (fun c42 => absurd (c42.symm.trans ((gIn_w (a := nI 0) (b := (gTab 3).getD 0 0) (by decide) (by decide)).trans h3)) (by decide)) (fun c42 => ?_)
    refine lv_bipush (v := (-2)) (pc := 45) hx hb dX8_set_45 (by decide) ?_
    exact hret _ _ _ _ _ _ hP hD hS rfl rfl dX8_set_47
  · skip
    refine lv_aload_n (pc := 0) hx hb dX8_set_0 rfl (lv_at hl 0 rfl) ?_
    refine lv_iload_n (pc := 1) hx hb dX8_set_1 rfl (lv_at hl 1 rfl) ?_
    refine mx_cVi (As := [.int (x)]) (rest := []) (pc := 2) ⟨hx, hb, hml, hown, hts⟩ (k_X8_isZone (a := a) (zn := zn) (tr := tr) (sc := sc) (pn := pn) (mn := mn) (jn := jn) (sg := sg) (sr := sr) (ss := ss) (fed := fed) (pap := pap) (bar := bar) (st := st) (q1 := q1) (q2 := q2) (q3 := q3) (q4 := q4) (q5 := q5) (x := x) hD w22 hz1 hz8) (cwV 1 hts gX8_set_X8_isZone rfl rfl rfl (by decide +kernel) ⟨Nat.le_of_ble_eq_true rfl, Nat.le_of_ble_eq_true rfl⟩) 22 rfl rfl w22 hK hN hZ hP hS rfl hl.1 rfl (Nat.le_of_ble_eq_true rfl) dX8_set_2 ⟨Nat.zero_le _, Nat.zero_le _⟩ (fun G' H locs hP hD hS hB => ?_)
    rw [hB] at hP hD
    clear hB G'
    refine mx_bne (tgt := 10) (pc := 5) hx hb dX8_set_5 (by decide) (fun c5 => ?_) (fun c5 => absurd (c5.symm.trans h1) (by decide))
    refine lv_iload_n (pc := 10) hx hb dX8_set_10 rfl (lv_at hl 2 rfl) ?_
    refine lv_i2l (v := (nI (1)).toInt64) (pc := 11) hx hb dX8_set_11 rfl ?_
    refine lv_lconst (v := 0) (pc := 12) hx hb dX8_set_12 (by decide) ?_
    refine lv_ldc2 (own := RX8) (v := (2)) (pc := 13) hx hb hown (hts (.constantLong RX8 107 (2)) (by decide +kernel)) dX8_set_13 ?_
    refine mx_cSi (As := [.long ((nI (1)).toInt64), .long (0), .long ((2))]) (rest := []) (pc := 16) ⟨hx, hb, hml, hown, hts⟩ (k_X8_in (a := a) (v := (nI (1)).toInt64) (lo := 0) (hi := (2)) hD  ) (va_cwS 3 hts gX8_set_X8_in rfl rfl rfl (by decide +kernel) ⟨Nat.le_of_ble_eq_true rfl, Nat.le_of_ble_eq_true rfl⟩) hK hN hZ hP hS rfl hl.1 rfl (Nat.le_of_ble_eq_true rfl) dX8_set_16 ⟨Nat.zero_le _, Nat.zero_le _⟩ (fun G' H locs hP hD hS hB => ?_)
    rw [hB] at hP hD
    clear hB G'
    refine mx_beq (tgt := 45) (pc := 19) hx hb dX8_set_19 (by decide) (fun c19 => absurd (c19.symm.trans ((gIn_w (a := nI 0) (b := nI 2) (by decide) (by decide)).trans h2)) (by decide)) (fun c19 => ?_)
    refine lv_iload_n (pc := 22) hx hb dX8_set_22 rfl (lv_at hl 3 rfl) ?_
    refine lv_i2l (v := (v).toInt64) (pc := 23) hx hb dX8_set_23 rfl ?_
    refine lv_lconst (v := 0) (pc := 24) hx hb dX8_set_24 (by decide) ?_
    refine lv_iload_n (pc := 25) hx hb dX8_set_25 rfl (lv_at hl 2 rfl) ?_
    refine lv_iconst (v := nI (2)) (pc := 26) hx hb dX8_set_26 (by decide) ?_
    refine mx_cne (tgt := 36) (pc := 27) hx hb (by omega) (by omega) dX8_set_27 (by decide) (fun c27 => ?_) (fun c27 => absurd c27 (by decide))
    refine lv_ldc2 (own := RX8) (v := (100)) (pc := 36) hx hb hown (hts (.constantLong RX8 125 (100)) (by decide +kernel)) dX8_set_36 ?_
    refine mx_cSi (As := [.long ((v).toInt64), .long (0), .long ((100))]) (rest := []) (pc := 39) ⟨hx, hb, hml, hown, hts⟩ (k_X8_in (a := a) (v := (v).toInt64) (lo := 0) (hi := (100)) hD  ) (va_cwS 3 hts gX8_set_X8_in rfl rfl rfl (by decide +kernel) ⟨Nat.le_of_ble_eq_true rfl, Nat.le_of_ble_eq_true rfl⟩) hK hN hZ hP hS rfl hl.1 rfl (Nat.le_of_ble_eq_true rfl) dX8_set_39 ⟨Nat.zero_le _, Nat.zero_le _⟩ (fun G' H locs hP hD hS hB => ?_)
    rw [hB] at hP hD
    clear hB G'
    refine mx_bne (tgt := 48) (pc := 42) hx hb dX8_set_42 (by decide) (fun c42 => absurd (c42.symm.trans ((gIn_w (a := nI 0) (b := (gTab 3).getD 1 0) (by decide) (by decide)).trans h3)) (by decide)) (fun c42 => ?_)
    refine lv_bipush (v := (-2)) (pc := 45) hx hb dX8_set_45 (by decide) ?_
    exact hret _ _ _ _ _ _ hP hD hS rfl rfl dX8_set_47
  · skip
    refine lv_aload_n (pc := 0) hx hb dX8_set_0 rfl (lv_at hl 0 rfl) ?_
    refine lv_iload_n (pc := 1) hx hb dX8_set_1 rfl (lv_at hl 1 rfl) ?_
    refine mx_cVi (As := [.int (x)]) (rest := []) (pc := 2) ⟨hx, hb, hml, hown, hts⟩ (k_X8_isZone (a := a) (zn := zn) (tr := tr) (sc := sc) (pn := pn) (mn := mn) (jn := jn) (sg := sg) (sr := sr) (ss := ss) (fed := fed) (pap := pap) (bar := bar) (st := st) (q1 := q1) (q2 := q2) (q3 := q3) (q4 := q4) (q5 := q5) (x := x) hD w22 hz1 hz8) (cwV 1 hts gX8_set_X8_isZone rfl rfl rfl (by decide +kernel) ⟨Nat.le_of_ble_eq_true rfl, Nat.le_of_ble_eq_true rfl⟩) 22 rfl rfl w22 hK hN hZ hP hS rfl hl.1 rfl (Nat.le_of_ble_eq_true rfl) dX8_set_2 ⟨Nat.zero_le _, Nat.zero_le _⟩ (fun G' H locs hP hD hS hB => ?_)
    rw [hB] at hP hD
    clear hB G'
    refine mx_bne (tgt := 10) (pc := 5) hx hb dX8_set_5 (by decide) (fun c5 => ?_) (fun c5 => absurd (c5.symm.trans h1) (by decide))
    refine lv_iload_n (pc := 10) hx hb dX8_set_10 rfl (lv_at hl 2 rfl) ?_
    refine lv_i2l (v := (nI (2)).toInt64) (pc := 11) hx hb dX8_set_11 rfl ?_
    refine lv_lconst (v := 0) (pc := 12) hx hb dX8_set_12 (by decide) ?_
    refine lv_ldc2 (own := RX8) (v := (2)) (pc := 13) hx hb hown (hts (.constantLong RX8 107 (2)) (by decide +kernel)) dX8_set_13 ?_
    refine mx_cSi (As := [.long ((nI (2)).toInt64), .long (0), .long ((2))]) (rest := []) (pc := 16) ⟨hx, hb, hml, hown, hts⟩ (k_X8_in (a := a) (v := (nI (2)).toInt64) (lo := 0) (hi := (2)) hD  ) (va_cwS 3 hts gX8_set_X8_in rfl rfl rfl (by decide +kernel) ⟨Nat.le_of_ble_eq_true rfl, Nat.le_of_ble_eq_true rfl⟩) hK hN hZ hP hS rfl hl.1 rfl (Nat.le_of_ble_eq_true rfl) dX8_set_16 ⟨Nat.zero_le _, Nat.zero_le _⟩ (fun G' H locs hP hD hS hB => ?_)
    rw [hB] at hP hD
    clear hB G'
    refine mx_beq (tgt := 45) (pc := 19) hx hb dX8_set_19 (by decide) (fun c19 => absurd (c19.symm.trans ((gIn_w (a := nI 0) (b := nI 2) (by decide) (by decide)).trans h2)) (by decide)) (fun c19 => ?_)
    refine lv_iload_n (pc := 22) hx hb dX8_set_22 rfl (lv_at hl 3 rfl) ?_
    refine lv_i2l (v := (v).toInt64) (pc := 23) hx hb dX8_set_23 rfl ?_
    refine lv_lconst (v := 0) (pc := 24) hx hb dX8_set_24 (by decide) ?_
    refine lv_iload_n (pc := 25) hx hb dX8_set_25 rfl (lv_at hl 2 rfl) ?_
    refine lv_iconst (v := nI (2)) (pc := 26) hx hb dX8_set_26 (by decide) ?_
    refine mx_cne (tgt := 36) (pc := 27) hx hb (by omega) (by omega) dX8_set_27 (by decide) (fun c27 => absurd c27 (by decide)) (fun c27 => ?_)
    refine lv_ldc2 (own := RX8) (v := (1000)) (pc := 30) hx hb hown (hts (.constantLong RX8 123 (1000)) (by decide +kernel)) dX8_set_30 ?_
    refine lv_goto (tgt := 39) (pc := 33) hx hb dX8_set_33 (by decide) ?_
    refine mx_cSi (As := [.long ((v).toInt64), .long (0), .long ((1000))]) (rest := []) (pc := 39) ⟨hx, hb, hml, hown, hts⟩ (k_X8_in (a := a) (v := (v).toInt64) (lo := 0) (hi := (1000)) hD  ) (va_cwS 3 hts gX8_set_X8_in rfl rfl rfl (by decide +kernel) ⟨Nat.le_of_ble_eq_true rfl, Nat.le_of_ble_eq_true rfl⟩) hK hN hZ hP hS rfl hl.1 rfl (Nat.le_of_ble_eq_true rfl) dX8_set_39 ⟨Nat.zero_le _, Nat.zero_le _⟩ (fun G' H locs hP hD hS hB => ?_)
    rw [hB] at hP hD
    clear hB G'
    refine mx_bne (tgt := 48) (pc := 42) hx hb dX8_set_42 (by decide) (fun c42 => absurd (c42.symm.trans ((gIn_w (a := nI 0) (b := (gTab 3).getD 2 0) (by decide) (by decide)).trans h3)) (by decide)) (fun c42 => ?_)
    refine lv_bipush (v := (-2)) (pc := 45) hx hb dX8_set_45 (by decide) ?_
    exact hret _ _ _ _ _ _ hP hD hS rfl rfl dX8_set_47
set_option maxHeartbeats 4000000 in
set_option maxRecDepth 100000 in
theorem k_X8_set_k {l : Launch} {D : va_G} {cI cZ : ClassId} {A : Nat → Prop} {g a : Nat → Nat} {G0 : va_W} {zn : Nat} {tr : Nat} {sc : Nat} {pn : Nat} {mn : Nat} {jn : Nat} {sg : Int32} {sr : Int32} {ss : Int32} {fed : Int32} {pap : Int32} {bar : Int32} {st : Bool} {q1 : Int64} {q2 : Int64} {q3 : Int64} {q4 : Int64} {q5 : Int64} {ke : Nat → Int32} {cv : Nat → Int32} {tg : Nat → Int32} {z : Nat} {k : Nat} {v : Int32} (hD : va_D A G0) (w22 : G0[22]? = some (a 22, .inr (8, [.int (nI (zn)), .int (nI (tr)), .ref (a 23), .ref (a 24), .ref (a 25), .ref (a 26), .ref (a 27), .ref (a 28), .ref (a 29), .int (nI (sc)), .int (sg), .int (sr), .int (ss), .int (fed), .int (pap), .int (bar), .int (gB (st)), .ref (a 30), .ref (a 31), .ref (a 32), .int (nI (pn)), .ref (a 33), .ref (a 34), .ref (a 35), .ref (a 36), .int (nI (mn)), .long (q1), .long (q2), .long (q3), .long (q4), .long (q5), .ref (a 37), .ref (a 38), .ref (a 39), .int (nI (jn)), .ref (a 40), .ref (a 41)]))) (w24 : G0[24]? = some (a 24, .inl (cI, 8, .inl (ke)))) (w25 : G0[25]? = some (a 25, .inl (cI, 8, .inl (cv)))) (w26 : G0[26]? = some (a 26, .inl (cI, 8, .inl (tg)))) (hz1 : 1 ≤ zn) (hz8 : zn ≤ 8) (hzz : z < 8) (hk3 : k < 3) (h1 : gHas (nI z) (nI zn) = true) (h2 : gWi (nI k) (nI 0) (nI 2) = true) (h3 : gWi v (nI 0) ((gTab 3).getD k 0) = true) : gMi l D cI cZ A g yX8_set wsX8_set ({ frames := 2, cells := 0, slots := 0, locals := 46 }) [.ref (a 22), .int (nI (z)), .int (nI (k)), .int (v)] G0 (gSel k z ke cv tg) (fun G1 => G1[24]? = some (a 24, .inl (cI, 8, .inl (gSet k 0 z v ke))) ∧ G1[25]? = some (a 25, .inl (cI, 8, .inl (gSet k 1 z v cv))) ∧ G1[26]? = some (a 26, .inl (cI, 8, .inl (gSet k 2 z v tg))) ∧ ∀ k, k ∉ [24, 25, 26] → G1[k]? = G0[k]?) := by
  refine gof_i (cc := cX8_set) (maxL := 5) (by decide) rfl (Nat.le_of_ble_eq_true rfl) hD ?_
  intro p e s m args below meth c Q hx hb hml hts hown hK hN hZ hP hS hret ls hl
  have hown : s.vm.findClass RX8 = some m.cls := hown
  have hl : lv_has ls 5 [(0, .ref (a 22)), (1, .int (nI (z))), (2, .int (nI (k))), (3, .int (v))] := hl
  obtain ⟨locs, elocs⟩ : ∃ q : List Loc, q = [] := ⟨_, rfl⟩
  rw [← elocs] at hS ⊢
  obtain ⟨H, eH⟩ : ∃ q : Heap, q = s.heap := ⟨_, rfl⟩
  have hP : va_P D vwCl G0 H := eH ▸ hP
  have hS : va_S A s.heap H locs := by rw [eH]; exact hS
  rw [← eH]
  clear elocs eH
  have hiX8 : ∀ w ∈ u_ws RX8 TX8 37, w ∈ wsX8_set := by decide +kernel
  have hk : ∀ k, k ∉ [24, 25, 26] → G0[k]? = G0[k]? := fun _ _ => rfl
  rcases (show k = 0 ∨ k = 1 ∨ k = 2 by omega) with rfl | rfl | rfl
  · skip
    refine lv_aload_n (pc := 0) hx hb dX8_set_0 rfl (lv_at hl 0 rfl) ?_
    refine lv_iload_n (pc := 1) hx hb dX8_set_1 rfl (lv_at hl 1 rfl) ?_
    refine mx_cVi (As := [.int (nI (z))]) (rest := []) (pc := 2) ⟨hx, hb, hml, hown, hts⟩ (k_X8_isZone (a := a) (zn := zn) (tr := tr) (sc := sc) (pn := pn) (mn := mn) (jn := jn) (sg := sg) (sr := sr) (ss := ss) (fed := fed) (pap := pap) (bar := bar) (st := st) (q1 := q1) (q2 := q2) (q3 := q3) (q4 := q4) (q5 := q5) (x := nI (z)) hD w22 hz1 hz8) (cwV 1 hts gX8_set_X8_isZone rfl rfl rfl (by decide +kernel) ⟨Nat.le_of_ble_eq_true rfl, Nat.le_of_ble_eq_true rfl⟩) 22 rfl rfl w22 hK hN hZ hP hS rfl hl.1 rfl (Nat.le_of_ble_eq_true rfl) dX8_set_2 ⟨Nat.zero_le _, Nat.zero_le _⟩ (fun G' H locs hP hD hS hB => ?_)
    rw [hB] at hP hD
    clear hB G'
    refine mx_bne (tgt := 10) (pc := 5) hx hb dX8_set_5 (by decide) (fun c5 => ?_) (fun c5 => absurd (c5.symm.trans h1) (by decide))
    refine lv_iload_n (pc := 10) hx hb dX8_set_10 rfl (lv_at hl 2 rfl) ?_
    refine lv_i2l (v := (nI (0)).toInt64) (pc := 11) hx hb dX8_set_11 rfl ?_
    refine lv_lconst (v := 0) (pc := 12) hx hb dX8_set_12 (by decide) ?_
    refine lv_ldc2 (own := RX8) (v := (2)) (pc := 13) hx hb hown (hts (.constantLong RX8 107 (2)) (by decide +kernel)) dX8_set_13 ?_
    refine mx_cSi (As := [.long ((nI (0)).toInt64), .long (0), .long ((2))]) (rest := []) (pc := 16) ⟨hx, hb, hml, hown, hts⟩ (k_X8_in (a := a) (v := (nI (0)).toInt64) (lo := 0) (hi := (2)) hD  ) (va_cwS 3 hts gX8_set_X8_in rfl rfl rfl (by decide +kernel) ⟨Nat.le_of_ble_eq_true rfl, Nat.le_of_ble_eq_true rfl⟩) hK hN hZ hP hS rfl hl.1 rfl (Nat.le_of_ble_eq_true rfl) dX8_set_16 ⟨Nat.zero_le _, Nat.zero_le _⟩ (fun G' H locs hP hD hS hB => ?_)
    rw [hB] at hP hD
    clear hB G'
    refine mx_beq (tgt := 45) (pc := 19) hx hb dX8_set_19 (by decide) (fun c19 => absurd (c19.symm.trans ((gIn_w (a := nI 0) (b := nI 2) (by decide) (by decide)).trans h2)) (by decide)) (fun c19 => ?_)
    refine lv_iload_n (pc := 22) hx hb dX8_set_22 rfl (lv_at hl 3 rfl) ?_
    refine lv_i2l (v := (v).toInt64) (pc := 23) hx hb dX8_set_23 rfl ?_
    refine lv_lconst (v := 0) (pc := 24) hx hb dX8_set_24 (by decide) ?_
    refine lv_iload_n (pc := 25) hx hb dX8_set_25 rfl (lv_at hl 2 rfl) ?_
    refine lv_iconst (v := nI (2)) (pc := 26) hx hb dX8_set_26 (by decide) ?_
    refine mx_cne (tgt := 36) (pc := 27) hx hb (by omega) (by omega) dX8_set_27 (by decide) (fun c27 => ?_) (fun c27 => absurd c27 (by decide))
    refine lv_ldc2 (own := RX8) (v := (100)) (pc := 36) hx hb hown (hts (.constantLong RX8 125 (100)) (by decide +kernel)) dX8_set_36 ?_
    refine mx_cSi (As := [.long ((v).toInt64), .long (0), .long ((100))]) (rest := []) (pc := 39) ⟨hx, hb, hml, hown, hts⟩ (k_X8_in (a := a) (v := (v).toInt64) (lo := 0) (hi := (100)) hD  ) (va_cwS 3 hts gX8_set_X8_in rfl rfl rfl (by decide +kernel) ⟨Nat.le_of_ble_eq_true rfl, Nat.le_of_ble_eq_true rfl⟩) hK hN hZ hP hS rfl hl.1 rfl (Nat.le_of_ble_eq_true rfl) dX8_set_39 ⟨Nat.zero_le _, Nat.zero_le _⟩ (fun G' H locs hP hD hS hB => ?_)
    rw [hB] at hP hD
    clear hB G'
    refine mx_bne (tgt := 48) (pc := 42) hx hb dX8_set_42 (by decide) (fun c42 => ?_) (fun c42 => absurd (c42.symm.trans ((gIn_w (a := nI 0) (b := (gTab 3).getD 0 0) (by decide) (by decide)).trans h3)) (by decide))
    refine lv_iload_n (pc := 48) hx hb dX8_set_48 rfl (lv_at hl 2 rfl) ?_
    refine lv_if_ne (tgt := 61) (pc := 49) hx hb dX8_set_49 (by decide) (fun c49 => absurd c49 (by decide)) (fun c49 => ?_)
    refine lv_aload_n (pc := 52) hx hb dX8_set_52 rfl (lv_at hl 0 rfl) ?_
    refine va_get (ci := 8) (C := RX8) (T := TX8) (N := 37) (pc := 53) hx hb hts hiX8 hown hK hP 22 w22 rfl 3 (by decide) (hts (.fieldLink RX8 20 "InkPressModel" "key" "[I") (by decide +kernel)) (fun _ h9 => h9) rfl dX8_set_53 ?_
    refine lv_iload_n (pc := 56) hx hb dX8_set_56 rfl (lv_at hl 1 rfl) ?_
    refine mx_iald (pc := 57) hx hb hK hP 24 w24 (z) (by omega) (by decide) dX8_set_57 ?_
    refine lv_goto (tgt := 81) (pc := 58) hx hb dX8_set_58 (by decide) ?_
    refine lv_istore (lv' := [(4, .int ((ke) (z))), (0, .ref (a 22)), (1, .int (nI (z))), (2, .int (nI (0))), (3, .int (v))]) (pc := 81) hx hb dX8_set_81 hl (by decide) rfl (fun ls hl => ?_)
    refine lv_iload_n (pc := 83) hx hb dX8_set_83 rfl (lv_at hl 3 rfl) ?_
    refine lv_if_ne (tgt := 97) (pc := 84) hx hb dX8_set_84 (by decide) (fun c84 => absurd c84 (by decide)) (fun c84 => ?_)
    refine lv_aload_n (pc := 87) hx hb dX8_set_87 rfl (lv_at hl 1 rfl) ?_
    refine va_get (ci := 8) (C := RX8) (T := TX8) (N := 37) (pc := 88) hx hb hts hiX8 hown hK hP 22 w22 rfl 3 (by decide) (hts (.fieldLink RX8 20 "InkPressModel" "key" "[I") (by decide +kernel)) (fun _ h9 => h9) rfl dX8_set_88 ?_
    refine lv_iload_n (pc := 91) hx hb dX8_set_91 rfl (lv_at hl 2 rfl) ?_
    refine lv_iload_n (pc := 92) hx hb dX8_set_92 rfl (lv_at hl 4 rfl) ?_
    refine mx_iast (x := v) (pc := 93) hx hb hK hP hD hS 24 w24 (z) (by omega) (by decide) dX8_set_93 (fun H locs G hP hD hS w24 ho => ?_)
    have w22 := (ho 22 (by decide)).trans w22
    have w25 := (ho 25 (by decide)).trans w25
    have w26 := (ho 26 (by decide)).trans w26
    have w24 : G[24]? = some (a 24, .inl (cI, 8, .inl (upd (ke) (z) (v)))) := w24
    have hk := gk_step hk ho (by decide)
    clear ho
    refine lv_goto (tgt := 119) (pc := 94) hx hb dX8_set_94 (by decide) ?_
    refine lv_iload (pc := 119) hx hb dX8_set_119 (lv_at hl 0 rfl) ?_
    exact hret _ _ _ _ _ _ hP hD hS rfl ⟨w24, w25, w26, hk⟩ dX8_set_121
  · skip
    refine lv_aload_n (pc := 0) hx hb dX8_set_0 rfl (lv_at hl 0 rfl) ?_
    refine lv_iload_n (pc := 1) hx hb dX8_set_1 rfl (lv_at hl 1 rfl) ?_
    refine mx_cVi (As := [.int (nI (z))]) (rest := []) (pc := 2) ⟨hx, hb, hml, hown, hts⟩ (k_X8_isZone (a := a) (zn := zn) (tr := tr) (sc := sc) (pn := pn) (mn := mn) (jn := jn) (sg := sg) (sr := sr) (ss := ss) (fed := fed) (pap := pap) (bar := bar) (st := st) (q1 := q1) (q2 := q2) (q3 := q3) (q4 := q4) (q5 := q5) (x := nI (z)) hD w22 hz1 hz8) (cwV 1 hts gX8_set_X8_isZone rfl rfl rfl (by decide +kernel) ⟨Nat.le_of_ble_eq_true rfl, Nat.le_of_ble_eq_true rfl⟩) 22 rfl rfl w22 hK hN hZ hP hS rfl hl.1 rfl (Nat.le_of_ble_eq_true rfl) dX8_set_2 ⟨Nat.zero_le _, Nat.zero_le _⟩ (fun G' H locs hP hD hS hB => ?_)
    rw [hB] at hP hD
    clear hB G'
    refine mx_bne (tgt := 10) (pc := 5) hx hb dX8_set_5 (by decide) (fun c5 => ?_) (fun c5 => absurd (c5.symm.trans h1) (by decide))
    refine lv_iload_n (pc := 10) hx hb dX8_set_10 rfl (lv_at hl 2 rfl) ?_
    refine lv_i2l (v := (nI (1)).toInt64) (pc := 11) hx hb dX8_set_11 rfl ?_
    refine lv_lconst (v := 0) (pc := 12) hx hb dX8_set_12 (by decide) ?_
    refine lv_ldc2 (own := RX8) (v := (2)) (pc := 13) hx hb hown (hts (.constantLong RX8 107 (2)) (by decide +kernel)) dX8_set_13 ?_
    refine mx_cSi (As := [.long ((nI (1)).toInt64), .long (0), .long ((2))]) (rest := []) (pc := 16) ⟨hx, hb, hml, hown, hts⟩ (k_X8_in (a := a) (v := (nI (1)).toInt64) (lo := 0) (hi := (2)) hD  ) (va_cwS 3 hts gX8_set_X8_in rfl rfl rfl (by decide +kernel) ⟨Nat.le_of_ble_eq_true rfl, Nat.le_of_ble_eq_true rfl⟩) hK hN hZ hP hS rfl hl.1 rfl (Nat.le_of_ble_eq_true rfl) dX8_set_16 ⟨Nat.zero_le _, Nat.zero_le _⟩ (fun G' H locs hP hD hS hB => ?_)
    rw [hB] at hP hD
    clear hB G'
    refine mx_beq (tgt := 45) (pc := 19) hx hb dX8_set_19 (by decide) (fun c19 => absurd (c19.symm.trans ((gIn_w (a := nI 0) (b := nI 2) (by decide) (by decide)).trans h2)) (by decide)) (fun c19 => ?_)
    refine lv_iload_n (pc := 22) hx hb dX8_set_22 rfl (lv_at hl 3 rfl) ?_
    refine lv_i2l (v := (v).toInt64) (pc := 23) hx hb dX8_set_23 rfl ?_
    refine lv_lconst (v := 0) (pc := 24) hx hb dX8_set_24 (by decide) ?_
    refine lv_iload_n (pc := 25) hx hb dX8_set_25 rfl (lv_at hl 2 rfl) ?_
    refine lv_iconst (v := nI (2)) (pc := 26) hx hb dX8_set_26 (by decide) ?_
    refine mx_cne (tgt := 36) (pc := 27) hx hb (by omega) (by omega) dX8_set_27 (by decide) (fun c27 => ?_) (fun c27 => absurd c27 (by decide))
    refine lv_ldc2 (own := RX8) (v := (100)) (pc := 36) hx hb hown (hts (.constantLong RX8 125 (100)) (by decide +kernel)) dX8_set_36 ?_
    refine mx_cSi (As := [.long ((v).toInt64), .long (0), .long ((100))]) (rest := []) (pc := 39) ⟨hx, hb, hml, hown, hts⟩ (k_X8_in (a := a) (v := (v).toInt64) (lo := 0) (hi := (100)) hD  ) (va_cwS 3 hts gX8_set_X8_in rfl rfl rfl (by decide +kernel) ⟨Nat.le_of_ble_eq_true rfl, Nat.le_of_ble_eq_true rfl⟩) hK hN hZ hP hS rfl hl.1 rfl (Nat.le_of_ble_eq_true rfl) dX8_set_39 ⟨Nat.zero_le _, Nat.zero_le _⟩ (fun G' H locs hP hD hS hB => ?_)
    rw [hB] at hP hD
    clear hB G'
    refine mx_bne (tgt := 48) (pc := 42) hx hb dX8_set_42 (by decide) (fun c42 => ?_) (fun c42 => absurd (c42.symm.trans ((gIn_w (a := nI 0) (b := (gTab 3).getD 1 0) (by decide) (by decide)).trans h3)) (by decide))
    refine lv_iload_n (pc := 48) hx hb dX8_set_48 rfl (lv_at hl 2 rfl) ?_
    refine lv_if_ne (tgt := 61) (pc := 49) hx hb dX8_set_49 (by decide) (fun c49 => ?_) (fun c49 => absurd c49 (by decide))
    refine lv_iload_n (pc := 61) hx hb dX8_set_61 rfl (lv_at hl 2 rfl) ?_
    refine lv_iconst (v := nI (1)) (pc := 62) hx hb dX8_set_62 (by decide) ?_
    refine mx_cne (tgt := 75) (pc := 63) hx hb (by omega) (by omega) dX8_set_63 (by decide) (fun c63 => absurd c63 (by decide)) (fun c63 => ?_)
    refine lv_aload_n (pc := 66) hx hb dX8_set_66 rfl (lv_at hl 0 rfl) ?_
    refine va_get (ci := 8) (C := RX8) (T := TX8) (N := 37) (pc := 67) hx hb hts hiX8 hown hK hP 22 w22 rfl 4 (by decide) (hts (.fieldLink RX8 23 "InkPressModel" "cover" "[I") (by decide +kernel)) (fun _ h9 => h9) rfl dX8_set_67 ?_
    refine lv_iload_n (pc := 70) hx hb dX8_set_70 rfl (lv_at hl 1 rfl) ?_
    refine mx_iald (pc := 71) hx hb hK hP 25 w25 (z) (by omega) (by decide) dX8_set_71 ?_
    refine lv_goto (tgt := 81) (pc := 72) hx hb dX8_set_72 (by decide) ?_
    refine lv_istore (lv' := [(4, .int ((cv) (z))), (0, .ref (a 22)), (1, .int (nI (z))), (2, .int (nI (1))), (3, .int (v))]) (pc := 81) hx hb dX8_set_81 hl (by decide) rfl (fun ls hl => ?_)
    refine lv_iload_n (pc := 83) hx hb dX8_set_83 rfl (lv_at hl 3 rfl) ?_
    refine lv_if_ne (tgt := 97) (pc := 84) hx hb dX8_set_84 (by decide) (fun c84 => ?_) (fun c84 => absurd c84 (by decide))
    refine lv_iload_n (pc := 97) hx hb dX8_set_97 rfl (lv_at hl 3 rfl) ?_
    refine lv_iconst (v := nI (1)) (pc := 98) hx hb dX8_set_98 (by decide) ?_
    refine mx_cne (tgt := 112) (pc := 99) hx hb (by omega) (by omega) dX8_set_99 (by decide) (fun c99 => absurd c99 (by decide)) (fun c99 => ?_)
    refine lv_aload_n (pc := 102) hx hb dX8_set_102 rfl (lv_at hl 1 rfl) ?_
    refine va_get (ci := 8) (C := RX8) (T := TX8) (N := 37) (pc := 103) hx hb hts hiX8 hown hK hP 22 w22 rfl 4 (by decide) (hts (.fieldLink RX8 23 "InkPressModel" "cover" "[I") (by decide +kernel)) (fun _ h9 => h9) rfl dX8_set_103 ?_
    refine lv_iload_n (pc := 106) hx hb dX8_set_106 rfl (lv_at hl 2 rfl) ?_
    refine lv_iload_n (pc := 107) hx hb dX8_set_107 rfl (lv_at hl 4 rfl) ?_
    refine mx_iast (x := v) (pc := 108) hx hb hK hP hD hS 25 w25 (z) (by omega) (by decide) dX8_set_108 (fun H locs G hP hD hS w25 ho => ?_)
    have w22 := (ho 22 (by decide)).trans w22
    have w24 := (ho 24 (by decide)).trans w24
    have w26 := (ho 26 (by decide)).trans w26
    have w25 : G[25]? = some (a 25, .inl (cI, 8, .inl (upd (cv) (z) (v)))) := w25
    have hk := gk_step hk ho (by decide)
    clear ho
    refine lv_goto (tgt := 119) (pc := 109) hx hb dX8_set_109 (by decide) ?_
    refine lv_iload (pc := 119) hx hb dX8_set_119 (lv_at hl 0 rfl) ?_
    exact hret _ _ _ _ _ _ hP hD hS rfl ⟨w24, w25, w26, hk⟩ dX8_set_121
  · skip
    refine lv_aload_n (pc := 0) hx hb dX8_set_0 rfl (lv_at hl 0 rfl) ?_
    refine lv_iload_n (pc := 1) hx hb dX8_set_1 rfl (lv_at hl 1 rfl) ?_
    refine mx_cVi (As := [.int (nI (z))]) (rest := []) (pc := 2) ⟨hx, hb, hml, hown, hts⟩ (k_X8_isZone (a := a) (zn := zn) (tr := tr) (sc := sc) (pn := pn) (mn := mn) (jn := jn) (sg := sg) (sr := sr) (ss := ss) (fed := fed) (pap := pap) (bar := bar) (st := st) (q1 := q1) (q2 := q2) (q3 := q3) (q4 := q4) (q5 := q5) (x := nI (z)) hD w22 hz1 hz8) (cwV 1 hts gX8_set_X8_isZone rfl rfl rfl (by decide +kernel) ⟨Nat.le_of_ble_eq_true rfl, Nat.le_of_ble_eq_true rfl⟩) 22 rfl rfl w22 hK hN hZ hP hS rfl hl.1 rfl (Nat.le_of_ble_eq_true rfl) dX8_set_2 ⟨Nat.zero_le _, Nat.zero_le _⟩ (fun G' H locs hP hD hS hB => ?_)
    rw [hB] at hP hD
    clear hB G'
    refine mx_bne (tgt := 10) (pc := 5) hx hb dX8_set_5 (by decide) (fun c5 => ?_) (fun c5 => absurd (c5.symm.trans h1) (by decide))
    refine lv_iload_n (pc := 10) hx hb dX8_set_10 rfl (lv_at hl 2 rfl) ?_
    refine lv_i2l (v := (nI (2)).toInt64) (pc := 11) hx hb dX8_set_11 rfl ?_
    refine lv_lconst (v := 0) (pc := 12) hx hb dX8_set_12 (by decide) ?_
    refine lv_ldc2 (own := RX8) (v := (2)) (pc := 13) hx hb hown (hts (.constantLong RX8 107 (2)) (by decide +kernel)) dX8_set_13 ?_
    refine mx_cSi (As := [.long ((nI (2)).toInt64), .long (0), .long ((2))]) (rest := []) (pc := 16) ⟨hx, hb, hml, hown, hts⟩ (k_X8_in (a := a) (v := (nI (2)).toInt64) (lo := 0) (hi := (2)) hD  ) (va_cwS 3 hts gX8_set_X8_in rfl rfl rfl (by decide +kernel) ⟨Nat.le_of_ble_eq_true rfl, Nat.le_of_ble_eq_true rfl⟩) hK hN hZ hP hS rfl hl.1 rfl (Nat.le_of_ble_eq_true rfl) dX8_set_16 ⟨Nat.zero_le _, Nat.zero_le _⟩ (fun G' H locs hP hD hS hB => ?_)
    rw [hB] at hP hD
    clear hB G'
    refine mx_beq (tgt := 45) (pc := 19) hx hb dX8_set_19 (by decide) (fun c19 => absurd (c19.symm.trans ((gIn_w (a := nI 0) (b := nI 2) (by decide) (by decide)).trans h2)) (by decide)) (fun c19 => ?_)
    refine lv_iload_n (pc := 22) hx hb dX8_set_22 rfl (lv_at hl 3 rfl) ?_
    refine lv_i2l (v := (v).toInt64) (pc := 23) hx hb dX8_set_23 rfl ?_
    refine lv_lconst (v := 0) (pc := 24) hx hb dX8_set_24 (by decide) ?_
    refine lv_iload_n (pc := 25) hx hb dX8_set_25 rfl (lv_at hl 2 rfl) ?_
    refine lv_iconst (v := nI (2)) (pc := 26) hx hb dX8_set_26 (by decide) ?_
    refine mx_cne (tgt := 36) (pc := 27) hx hb (by omega) (by omega) dX8_set_27 (by decide) (fun c27 => absurd c27 (by decide)) (fun c27 => ?_)
    refine lv_ldc2 (own := RX8) (v := (1000)) (pc := 30) hx hb hown (hts (.constantLong RX8 123 (1000)) (by decide +kernel)) dX8_set_30 ?_
    refine lv_goto (tgt := 39) (pc := 33) hx hb dX8_set_33 (by decide) ?_
    refine mx_cSi (As := [.long ((v).toInt64), .long (0), .long ((1000))]) (rest := []) (pc := 39) ⟨hx, hb, hml, hown, hts⟩ (k_X8_in (a := a) (v := (v).toInt64) (lo := 0) (hi := (1000)) hD  ) (va_cwS 3 hts gX8_set_X8_in rfl rfl rfl (by decide +kernel) ⟨Nat.le_of_ble_eq_true rfl, Nat.le_of_ble_eq_true rfl⟩) hK hN hZ hP hS rfl hl.1 rfl (Nat.le_of_ble_eq_true rfl) dX8_set_39 ⟨Nat.zero_le _, Nat.zero_le _⟩ (fun G' H locs hP hD hS hB => ?_)
    rw [hB] at hP hD
    clear hB G'
    refine mx_bne (tgt := 48) (pc := 42) hx hb dX8_set_42 (by decide) (fun c42 => ?_) (fun c42 => absurd (c42.symm.trans ((gIn_w (a := nI 0) (b := (gTab 3).getD 2 0) (by decide) (by decide)).trans h3)) (by decide))
    refine lv_iload_n (pc := 48) hx hb dX8_set_48 rfl (lv_at hl 2 rfl) ?_
    refine lv_if_ne (tgt := 61) (pc := 49) hx hb dX8_set_49 (by decide) (fun c49 => ?_) (fun c49 => absurd c49 (by decide))
    refine lv_iload_n (pc := 61) hx hb dX8_set_61 rfl (lv_at hl 2 rfl) ?_
    refine lv_iconst (v := nI (1)) (pc := 62) hx hb dX8_set_62 (by decide) ?_
    refine mx_cne (tgt := 75) (pc := 63) hx hb (by omega) (by omega) dX8_set_63 (by decide) (fun c63 => ?_) (fun c63 => absurd c63 (by decide))
    refine lv_aload_n (pc := 75) hx hb dX8_set_75 rfl (lv_at hl 0 rfl) ?_
    refine va_get (ci := 8) (C := RX8) (T := TX8) (N := 37) (pc := 76) hx hb hts hiX8 hown hK hP 22 w22 rfl 5 (by decide) (hts (.fieldLink RX8 26 "InkPressModel" "target" "[I") (by decide +kernel)) (fun _ h9 => h9) rfl dX8_set_76 ?_
    refine lv_iload_n (pc := 79) hx hb dX8_set_79 rfl (lv_at hl 1 rfl) ?_
    refine mx_iald (pc := 80) hx hb hK hP 26 w26 (z) (by omega) (by decide) dX8_set_80 ?_
    refine lv_istore (lv' := [(4, .int ((tg) (z))), (0, .ref (a 22)), (1, .int (nI (z))), (2, .int (nI (2))), (3, .int (v))]) (pc := 81) hx hb dX8_set_81 hl (by decide) rfl (fun ls hl => ?_)
    refine lv_iload_n (pc := 83) hx hb dX8_set_83 rfl (lv_at hl 3 rfl) ?_
    refine lv_if_ne (tgt := 97) (pc := 84) hx hb dX8_set_84 (by decide) (fun c84 => ?_) (fun c84 => absurd c84 (by decide))
    refine lv_iload_n (pc := 97) hx hb dX8_set_97 rfl (lv_at hl 3 rfl) ?_
    refine lv_iconst (v := nI (1)) (pc := 98) hx hb dX8_set_98 (by decide) ?_
    refine mx_cne (tgt := 112) (pc := 99) hx hb (by omega) (by omega) dX8_set_99 (by decide) (fun c99 => ?_) (fun c99 => absurd c99 (by decide))
    refine lv_aload_n (pc := 112) hx hb dX8_set_112 rfl (lv_at hl 1 rfl) ?_
    refine va_get (ci := 8) (C := RX8) (T := TX8) (N := 37) (pc := 113) hx hb hts hiX8 hown hK hP 22 w22 rfl 5 (by decide) (hts (.fieldLink RX8 26 "InkPressModel" "target" "[I") (by decide +kernel)) (fun _ h9 => h9) rfl dX8_set_113 ?_
    refine lv_iload_n (pc := 116) hx hb dX8_set_116 rfl (lv_at hl 2 rfl) ?_
    refine lv_iload_n (pc := 117) hx hb dX8_set_117 rfl (lv_at hl 4 rfl) ?_
    refine mx_iast (x := v) (pc := 118) hx hb hK hP hD hS 26 w26 (z) (by omega) (by decide) dX8_set_118 (fun H locs G hP hD hS w26 ho => ?_)
    have w22 := (ho 22 (by decide)).trans w22
    have w24 := (ho 24 (by decide)).trans w24
    have w25 := (ho 25 (by decide)).trans w25
    have w26 : G[26]? = some (a 26, .inl (cI, 8, .inl (upd (tg) (z) (v)))) := w26
    have hk := gk_step hk ho (by decide)
    clear ho
    refine lv_iload (pc := 119) hx hb dX8_set_119 (lv_at hl 0 rfl) ?_
    exact hret _ _ _ _ _ _ hP hD hS rfl ⟨w24, w25, w26, hk⟩ dX8_set_121
set_option maxHeartbeats 4000000 in
set_option maxRecDepth 100000 in
theorem k_X8_densityOf {l : Launch} {D : va_G} {cI cZ : ClassId} {A : Nat → Prop} {g a : Nat → Nat} {G0 : va_W} {zn : Nat} {tr : Nat} {sc : Nat} {pn : Nat} {mn : Nat} {jn : Nat} {sg : Int32} {sr : Int32} {ss : Int32} {fed : Int32} {pap : Int32} {bar : Int32} {st : Bool} {q1 : Int64} {q2 : Int64} {q3 : Int64} {q4 : Int64} {q5 : Int64} {den : Nat → Int32} {n : Nat} {z : Nat} (hD : va_D A G0) (w22 : G0[22]? = some (a 22, .inr (8, [.int (nI (zn)), .int (nI (tr)), .ref (a 23), .ref (a 24), .ref (a 25), .ref (a 26), .ref (a 27), .ref (a 28), .ref (a 29), .int (nI (sc)), .int (sg), .int (sr), .int (ss), .int (fed), .int (pap), .int (bar), .int (gB (st)), .ref (a 30), .ref (a 31), .ref (a 32), .int (nI (pn)), .ref (a 33), .ref (a 34), .ref (a 35), .ref (a 36), .int (nI (mn)), .long (q1), .long (q2), .long (q3), .long (q4), .long (q5), .ref (a 37), .ref (a 38), .ref (a 39), .int (nI (jn)), .ref (a 40), .ref (a 41)]))) (w28 : G0[28]? = some (a 28, .inl (cI, 8000, .inl (den)))) (hn : n ≤ 1000) (hz : z < 8) : gMi l D cI cZ A g yX8_densityOf wsX8_densityOf ({ frames := 0, cells := 0, slots := 0, locals := 0 }) [.ref (a 22), .int (nI (n)), .int (nI (z))] G0 (gMLd n z den) (fun G1 => G1 = G0) := by
  refine gof_i (cc := cX8_densityOf) (maxL := 3) (by decide) rfl (Nat.le_of_ble_eq_true rfl) hD ?_
  intro p e s m args below meth c Q hx hb hml hts hown hK hN hZ hP hS hret ls hl
  have hown : s.vm.findClass RX8 = some m.cls := hown
  have hl : lv_has ls 3 [(0, .ref (a 22)), (1, .int (nI (n))), (2, .int (nI (z)))] := hl
  obtain ⟨locs, elocs⟩ : ∃ q : List Loc, q = [] := ⟨_, rfl⟩
  rw [← elocs] at hS ⊢
  obtain ⟨H, eH⟩ : ∃ q : Heap, q = s.heap := ⟨_, rfl⟩
  have hP : va_P D vwCl G0 H := eH ▸ hP
  have hS : va_S A s.heap H locs := by rw [eH]; exact hS
  rw [← eH]
  clear elocs eH
  have hiX8 : ∀ w ∈ u_ws RX8 TX8 37, w ∈ wsX8_densityOf := by decide +kernel
  have hk : ∀ k, k ∉ ([] : List Nat) → G0[k]? = G0[k]? := fun _ _ => rfl
  refine lv_iload_n (pc := 0) hx hb dX8_densityOf_0 rfl (lv_at hl 1 rfl) ?_
  refine mx_nne (tgt := 8) (pc := 1) hx hb (by omega) dX8_densityOf_1 (by decide) (fun c1 => ?_) (fun c1 => ?_)
  · skip
    refine lv_aload_n (pc := 8) hx hb dX8_densityOf_8 rfl (lv_at hl 0 rfl) ?_
    refine va_get (ci := 8) (C := RX8) (T := TX8) (N := 37) (pc := 9) hx hb hts hiX8 hown hK hP 22 w22 rfl 7 (by decide) (hts (.fieldLink RX8 32 "InkPressModel" "density" "[I") (by decide +kernel)) (fun _ h9 => h9) rfl dX8_densityOf_9 ?_
    refine lv_bipush (v := nI (8)) (pc := 12) hx hb dX8_densityOf_12 (by decide) ?_
    refine lv_iload_n (pc := 14) hx hb dX8_densityOf_14 rfl (lv_at hl 1 rfl) ?_
    refine lv_iconst (v := nI (1)) (pc := 15) hx hb dX8_densityOf_15 (by decide) ?_
    refine mx_isub (pc := 16) hx hb (by omega) dX8_densityOf_16 ?_
    refine mx_imul (pc := 17) hx hb dX8_densityOf_17 ?_
    refine lv_iload_n (pc := 18) hx hb dX8_densityOf_18 rfl (lv_at hl 2 rfl) ?_
    refine mx_iadd (pc := 19) hx hb dX8_densityOf_19 ?_
    refine mx_iald (pc := 20) hx hb hK hP 28 w28 ((8) * ((n) - (1)) + z) (by omega) (by decide) dX8_densityOf_20 ?_
    exact hret _ _ _ _ _ _ hP hD hS (gMLd_1 c1).symm rfl dX8_densityOf_21
  · skip
    refine lv_iconst (v := nI (0)) (pc := 4) hx hb dX8_densityOf_4 (by decide) ?_
    refine lv_goto (tgt := 21) (pc := 5) hx hb dX8_densityOf_5 (by decide) ?_
    exact hret _ _ _ _ _ _ hP hD hS (gMLd_0 c1).symm rfl dX8_densityOf_21
