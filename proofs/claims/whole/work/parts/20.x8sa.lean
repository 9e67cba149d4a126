/-! the reference: sheets -/
def gMh (v lo hi : Int32) : Int32 := if v < lo then lo else if hi < v then hi else v
theorem gMh_0 {v lo hi : Int32} (h : v < lo) : lo = gMh v lo hi := (if_pos h).symm
theorem gMh_1 {v lo hi : Int32} (h : lo ≤ v) (h2 : hi < v) : hi = gMh v lo hi := ((if_neg (Int32.not_lt.mpr h)).trans (if_pos h2)).symm
theorem gMh_2 {v lo hi : Int32} (h : lo ≤ v) (h2 : v ≤ hi) : v = gMh v lo hi := ((if_neg (Int32.not_lt.mpr h)).trans (if_neg (Int32.not_lt.mpr h2))).symm
def gAs (q : Int32) (b : Nat) (ink : Nat → Int32) : Nat → Nat → (Nat → Int32) → Nat → Int32
  | 0, _, f => f
  | k + 1, z, f => gAs q b ink k (z + 1) (upd f z (ink (b + z) * q / nI 200))
def gMd1 (az : Nat → Int32) (b z : Nat) (ink : Nat → Int32) : Nat → Int32 :=
  upd (upd ink (b + z) (ink (b + z) + (az (z + 1) - az z))) (b + z + 1) ((upd ink (b + z) (ink (b + z) + (az (z + 1) - az z))) (b + z + 1) + (az z - az (z + 1)))
def gMdz (az : Nat → Int32) (b : Nat) : Nat → Nat → (Nat → Int32) → Nat → Int32
  | 0, _, f => f
  | k + 1, z, f => gMdz az b k (z + 1) (gMd1 az b z f)
def gMdI (q : Int32) (zn : Nat) : Nat → Nat → (Nat → Int32) → (Nat → Int32) → Nat → Int32
  | 0, _, ink, _ => ink
  | k + 1, r, ink, asd => gMdI q zn k (r + 1) (gMdz (gAs q (8 * r) ink zn 0 asd) (8 * r) (zn - 1) 0 ink) (gAs q (8 * r) ink zn 0 asd)
def gMdA (q : Int32) (zn : Nat) : Nat → Nat → (Nat → Int32) → (Nat → Int32) → Nat → Int32
  | 0, _, _, asd => asd
  | k + 1, r, ink, asd => gMdA q zn k (r + 1) (gMdz (gAs q (8 * r) ink zn 0 asd) (8 * r) (zn - 1) 0 ink) (gAs q (8 * r) ink zn 0 asd)
def gMSk (ru : Nat → Int32) (sc : Nat) (den tg : Nat → Int32) : Nat → Nat → (Nat → Int32) → Nat → Int32
  | 0, _, ke => ke
  | k + 1, z, ke => gMSk ru sc den tg k (z + 1) (upd ke z (gMh (ke z + gMh ((tg z - gMLd sc z den) * ru 4 / nI 1000) (-(ru 5)) (ru 5)) (nI 0) (nI 100)))
def gMP1 (q : Int32) (r z : Nat) (ink : Nat → Int32) : Nat → Int32 :=
  upd (upd ink (8 * r + z) (ink (8 * r + z) - ((ink (8 * r + z)).toInt64 * q.toInt64 / 100).toInt32)) (8 * r + z + 8) ((upd ink (8 * r + z) (ink (8 * r + z) - ((ink (8 * r + z)).toInt64 * q.toInt64 / 100).toInt32)) (8 * r + z + 8) + ((ink (8 * r + z)).toInt64 * q.toInt64 / 100).toInt32)
def gMPz (q : Int32) (r : Nat) : Nat → Nat → (Nat → Int32) → Nat → Int32
  | 0, _, f => f
  | k + 1, z, f => gMPz q r k (z + 1) (gMP1 q r z f)
def gMPr (q : Int32) (tz : Nat) : Nat → Nat → (Nat → Int32) → Nat → Int32
  | 0, _, f => f
  | k + 1, r, f => gMPr q tz k (r + 1) (gMPz q r tz 0 f)
def gMBar (tr z : Nat) (ink : Nat → Int32) : Int32 := ink (8 * (tr - 1) + z) / nI 100
def gMPap (tr z : Nat) (q cv : Int32) (ink : Nat → Int32) : Int32 := ((ink (8 * (tr - 1) + z)).toInt64 * q.toInt64 * cv.toInt64 / 10000).toInt32
def gMTk (tr z : Nat) (q cv : Int32) (ink : Nat → Int32) : Nat → Int32 := upd ink (8 * (tr - 1) + z) (ink (8 * (tr - 1) + z) - (gMPap tr z q cv ink + gMBar tr z ink))
def gMTi (tr : Nat) (q : Int32) (co : Nat → Int32) : Nat → Nat → (Nat → Int32) → Nat → Int32
  | 0, _, ink => ink
  | k + 1, z, ink => gMTi tr q co k (z + 1) (gMTk tr z q (co z) ink)
def gMTp (tr : Nat) (q : Int32) (co : Nat → Int32) : Nat → Nat → (Nat → Int32) → Int32 → Int32
  | 0, _, _, pap => pap
  | k + 1, z, ink, pap => gMTp tr q co k (z + 1) (gMTk tr z q (co z) ink) (pap + gMPap tr z q (co z) ink)
def gMTb (tr : Nat) (q : Int32) (co : Nat → Int32) : Nat → Nat → (Nat → Int32) → Int32 → Int32
  | 0, _, _, bar => bar
  | k + 1, z, ink, bar => gMTb tr q co k (z + 1) (gMTk tr z q (co z) ink) (bar + gMBar tr z ink)
def gMTd (tr : Nat) (q : Int32) (co : Nat → Int32) (bs : Nat) : Nat → Nat → (Nat → Int32) → (Nat → Int32) → Nat → Int32
  | 0, _, _, den => den
  | k + 1, z, ink, den => gMTd tr q co bs k (z + 1) (gMTk tr z q (co z) ink) (upd den (bs + z) (nI 10 * gMBar tr z ink))
def gMab (x : Int32) : Int32 := if 0 ≤ x then x else -x
def gMG1 (gd : Bool) (x tg tol : Int32) : Bool := gd && decide (¬ tol < gMab (x - tg))
theorem gMG_0 {gd : Bool} {x tg tol : Int32} (h : gd = false) : gMG1 gd x tg tol = false := by
  unfold gMG1
  rw [h]
  rfl
theorem gMG_1 {gd : Bool} {x tg tol : Int32} (h : 0 ≤ x - tg) (h2 : tol < x - tg) : gMG1 gd x tg tol = false := by
  unfold gMG1 gMab
  rw [if_pos h, decide_eq_false (fun q => q h2), Bool.and_false]
theorem gMG_2 {gd : Bool} {x tg tol : Int32} (h : ¬ 0 ≤ x - tg) (h2 : tol < -(x - tg)) : gMG1 gd x tg tol = false := by
  unfold gMG1 gMab
  rw [if_neg h, decide_eq_false (fun q => q h2), Bool.and_false]
theorem gMG_3 {gd : Bool} {x tg tol : Int32} (h0 : gd = true) (h : 0 ≤ x - tg) (h2 : ¬ tol < x - tg) : gMG1 gd x tg tol = true := by
  unfold gMG1 gMab
  rw [if_pos h, decide_eq_true h2, h0]
  rfl
theorem gMG_4 {gd : Bool} {x tg tol : Int32} (h0 : gd = true) (h : ¬ 0 ≤ x - tg) (h2 : ¬ tol < -(x - tg)) : gMG1 gd x tg tol = true := by
  unfold gMG1 gMab
  rw [if_neg h, decide_eq_true h2, h0]
  rfl
def gMTg (tr : Nat) (q : Int32) (co tg : Nat → Int32) (tol : Int32) : Nat → Nat → (Nat → Int32) → Bool → Bool
  | 0, _, _, gd => gd
  | k + 1, z, ink, gd => gMTg tr q co tg tol k (z + 1) (gMTk tr z q (co z) ink) (gMG1 gd (nI 10 * gMBar tr z ink) (tg z) tol)
def gMi3 (ru ke : Nat → Int32) (zn tr : Nat) (ink asd : Nat → Int32) : Nat → Int32 := gMdI (ru 2) zn tr 0 (gMPr (ru 1) zn (tr - 1) 0 (gFi ke (ru 0) zn 0 ink)) asd
def gMa3 (ru ke : Nat → Int32) (zn tr : Nat) (ink asd : Nat → Int32) : Nat → Int32 := gMdA (ru 2) zn tr 0 (gMPr (ru 1) zn (tr - 1) 0 (gFi ke (ru 0) zn 0 ink)) asd
def gMJg (b : Bool) (g : Int32) : Int32 := match b with | true => g + nI 1 | false => g + nI 0
def gMJs (r ho n ss : Int32) : Int32 := if ss < 0 ∧ ho ≤ r then n else ss
theorem gMJs_1 {r ho n ss : Int32} (h : 0 ≤ ss) : gMJs r ho n ss = ss := if_neg (fun q => Int32.not_lt.mpr h q.1)
theorem gMJs_2 {r ho n ss : Int32} (h : r < ho) : gMJs r ho n ss = ss := if_neg (fun q => Int32.not_le.mpr h q.2)
theorem gMJs_3 {r ho n ss : Int32} (h : ¬ 0 ≤ ss) (h2 : ¬ r < ho) : gMJs r ho n ss = n := if_pos ⟨Int32.not_le.mp h, Int32.not_lt.mp h2⟩
def gMst (st : Bool) (ev n : Int32) (k2 ke : Nat → Int32) : Nat → Int32 := if st = true ∧ n - n / ev * ev = 0 then k2 else ke
theorem gMst_0 {st : Bool} {ev n : Int32} {k2 ke : Nat → Int32} (h : st = false) : gMst st ev n k2 ke = ke := if_neg (fun q => by rw [h] at q; exact absurd q.1 (by decide))
theorem gMst_1 {st : Bool} {ev n : Int32} {k2 ke : Nat → Int32} (h : ¬ n - n / ev * ev = 0) : gMst st ev n k2 ke = ke := if_neg (fun q => h q.2)
theorem gMst_2 {st : Bool} {ev n : Int32} {k2 ke : Nat → Int32} (h : st = true) (h2 : n - n / ev * ev = 0) : gMst st ev n k2 ke = k2 := if_pos ⟨h, h2⟩
abbrev gMU : Type := (Nat → Int32) × (Nat → Int32) × (Nat → Int32) × (Nat → Bool) × Nat × Int32 × Int32 × Int32 × Int32 × Int32 × Int32 × (Nat → Int32)
/-- one sheet -/
def gMS (ru cv tg : Nat → Int32) (zn tr : Nat) (st : Bool) (u : gMU) : gMU :=
  (gMst st (ru 7) (nI ((u.2.2.2.2.1) + 1)) (gMSk ru ((u.2.2.2.2.1) + 1) (gMTd tr (ru 3) cv (8 * (u.2.2.2.2.1)) zn 0 (gMi3 ru (u.1) zn tr (u.2.1) (u.2.2.2.2.2.2.2.2.2.2.2)) (u.2.2.1)) tg zn 0 (u.1)) (u.1), gMTi tr (ru 3) cv zn 0 (gMi3 ru (u.1) zn tr (u.2.1) (u.2.2.2.2.2.2.2.2.2.2.2)), gMTd tr (ru 3) cv (8 * (u.2.2.2.2.1)) zn 0 (gMi3 ru (u.1) zn tr (u.2.1) (u.2.2.2.2.2.2.2.2.2.2.2)) (u.2.2.1), vf_upd (u.2.2.2.1) (u.2.2.2.2.1) (gMTg tr (ru 3) cv tg (ru 6) zn 0 (gMi3 ru (u.1) zn tr (u.2.1) (u.2.2.2.2.2.2.2.2.2.2.2)) true), u.2.2.2.2.1 + 1, gFf (u.1) (ru 0) zn 0 (u.2.2.2.2.2.1), gMTp tr (ru 3) cv zn 0 (gMi3 ru (u.1) zn tr (u.2.1) (u.2.2.2.2.2.2.2.2.2.2.2)) (u.2.2.2.2.2.2.1), gMTb tr (ru 3) cv zn 0 (gMi3 ru (u.1) zn tr (u.2.1) (u.2.2.2.2.2.2.2.2.2.2.2)) (u.2.2.2.2.2.2.2.1), gMJg (gMTg tr (ru 3) cv tg (ru 6) zn 0 (gMi3 ru (u.1) zn tr (u.2.1) (u.2.2.2.2.2.2.2.2.2.2.2)) true) (u.2.2.2.2.2.2.2.2.1), (gJr (gMTg tr (ru 3) cv tg (ru 6) zn 0 (gMi3 ru (u.1) zn tr (u.2.1) (u.2.2.2.2.2.2.2.2.2.2.2)) true) (u.2.2.2.2.2.2.2.2.2.1)), gMJs (gJr (gMTg tr (ru 3) cv tg (ru 6) zn 0 (gMi3 ru (u.1) zn tr (u.2.1) (u.2.2.2.2.2.2.2.2.2.2.2)) true) (u.2.2.2.2.2.2.2.2.2.1)) (ru 8) (nI ((u.2.2.2.2.1) + 1)) (u.2.2.2.2.2.2.2.2.2.2.1), (gMa3 ru (u.1) zn tr (u.2.1) (u.2.2.2.2.2.2.2.2.2.2.2)))
def gMRun (ru cv tg : Nat → Int32) (zn tr : Nat) (st : Bool) : Nat → gMU → gMU
  | 0, u => u
  | k + 1, u => gMRun ru cv tg zn tr st k (gMS ru cv tg zn tr st u)
set_option maxHeartbeats 4000000 in
set_option maxRecDepth 100000 in
theorem k_X8_held {l : Launch} {D : va_G} {cI cZ : ClassId} {A : Nat → Prop} {g a : Nat → Nat} {G0 : va_W} {v : Int32} {lo : Int32} {hi : Int32} (hD : va_D A G0) : gMi l D cI cZ A g yX8_held wsX8_held ({ frames := 0, cells := 0, slots := 0, locals := 0 }) [.int (v), .int (lo), .int (hi)] G0 (gMh v lo hi) (fun G1 => G1 = G0) := by
  refine gof_i (cc := cX8_held) (maxL := 3) (by decide) rfl (Nat.le_of_ble_eq_true rfl) hD ?_
  intro p e s m args below meth c Q hx hb hml hts hown hK hN hZ hP hS hret ls hl
  have hown : s.vm.findClass RX8 = some m.cls := hown
  have hl : lv_has ls 3 [(0, .int (v)), (1, .int (lo)), (2, .int (hi))] := hl
  obtain ⟨locs, elocs⟩ : ∃ q : List Loc, q = [] := ⟨_, rfl⟩
  rw [← elocs] at hS ⊢
  obtain ⟨H, eH⟩ : ∃ q : Heap, q = s.heap := ⟨_, rfl⟩
  have hP : va_P D vwCl G0 H := eH ▸ hP
  have hS : va_S A s.heap H locs := by rw [eH]; exact hS
  rw [← eH]
  clear elocs eH
  have hk : ∀ k, k ∉ ([] : List Nat) → G0[k]? = G0[k]? := fun _ _ => rfl
  refine lv_iload_n (pc := 0) hx hb dX8_held_0 rfl (lv_at hl 0 rfl) ?_
  refine lv_iload_n (pc := 1) hx hb dX8_held_1 rfl (lv_at hl 1 rfl) ?_
  refine lv_icmp_ge (tgt := 9) (pc := 2) hx hb dX8_held_2 (by decide) (fun c2 => ?_) (fun c2 => ?_)
  · skip
    refine lv_iload_n (pc := 9) hx hb dX8_held_9 rfl (lv_at hl 0 rfl) ?_
    refine lv_iload_n (pc := 10) hx hb dX8_held_10 rfl (lv_at hl 2 rfl) ?_
    refine lv_icmp_le (tgt := 18) (pc := 11) hx hb dX8_held_11 (by decide) (fun c11 => ?_) (fun c11 => ?_)
    · skip
      refine lv_iload_n (pc := 18) hx hb dX8_held_18 rfl (lv_at hl 0 rfl) ?_
      exact hret _ _ _ _ _ _ hP hD hS (gMh_2 c2 c11) rfl dX8_held_19
    · skip
      refine lv_iload_n (pc := 14) hx hb dX8_held_14 rfl (lv_at hl 2 rfl) ?_
      refine lv_goto (tgt := 19) (pc := 15) hx hb dX8_held_15 (by decide) ?_
      exact hret _ _ _ _ _ _ hP hD hS (gMh_1 c2 (Int32.not_le.mp c11)) rfl dX8_held_19
  · skip
    refine lv_iload_n (pc := 5) hx hb dX8_held_5 rfl (lv_at hl 1 rfl) ?_
    refine lv_goto (tgt := 19) (pc := 6) hx hb dX8_held_6 (by decide) ?_
    exact hret _ _ _ _ _ _ hP hD hS (gMh_0 (Int32.not_le.mp c2)) rfl dX8_held_19
set_option maxHeartbeats 4000000 in
set_option maxRecDepth 100000 in
theorem k_X8_drift {l : Launch} {D : va_G} {cI cZ : ClassId} {A : Nat → Prop} {g a : Nat → Nat} {G0 : va_W} {zn : Nat} {tr : Nat} {sc : Nat} {pn : Nat} {mn : Nat} {jn : Nat} {sg : Int32} {sr : Int32} {ss : Int32} {fed : Int32} {pap : Int32} {bar : Int32} {st : Bool} {q1 : Int64} {q2 : Int64} {q3 : Int64} {q4 : Int64} {q5 : Int64} {ru : Nat → Int32} {ink : Nat → Int32} {asd : Nat → Int32} {r : Nat} (hD : va_D A G0) (w22 : G0[22]? = some (a 22, .inr (8, [.int (nI (zn)), .int (nI (tr)), .ref (a 23), .ref (a 24), .ref (a 25), .ref (a 26), .ref (a 27), .ref (a 28), .ref (a 29), .int (nI (sc)), .int (sg), .int (sr), .int (ss), .int (fed), .int (pap), .int (bar), .int (gB (st)), .ref (a 30), .ref (a 31), .ref (a 32), .int (nI (pn)), .ref (a 33), .ref (a 34), .ref (a 35), .ref (a 36), .int (nI (mn)), .long (q1), .long (q2), .long (q3), .long (q4), .long (q5), .ref (a 37), .ref (a 38), .ref (a 39), .int (nI (jn)), .ref (a 40), .ref (a 41)]))) (w23 : G0[23]? = some (a 23, .inl (cI, 9, .inl (ru)))) (w27 : G0[27]? = some (a 27, .inl (cI, 40, .inl (ink)))) (w30 : G0[30]? = some (a 30, .inl (cI, 8, .inl (asd)))) (hz1 : 1 ≤ zn) (hz8 : zn ≤ 8) (hr : r < 5) : gMv l D cI cZ A g yX8_drift wsX8_drift ({ frames := 0, cells := 0, slots := 0, locals := 0 }) [.ref (a 22), .int (nI (r))] G0 (fun G1 => G1[27]? = some (a 27, .inl (cI, 40, .inl (gMdz (gAs (ru 2) (8 * r) ink zn 0 asd) (8 * r) (zn - 1) 0 ink))) ∧ G1[30]? = some (a 30, .inl (cI, 8, .inl (gAs (ru 2) (8 * r) ink zn 0 asd))) ∧ ∀ k, k ∉ [27, 30] → G1[k]? = G0[k]?) := by
  refine gof_v (cc := cX8_drift) (maxL := 4) (by decide) rfl (Nat.le_of_ble_eq_true rfl) hD ?_
  intro p e s m args below meth c Q hx hb hml hts hown hK hN hZ hP hS hret ls hl
  have hown : s.vm.findClass RX8 = some m.cls := hown
  have hl : lv_has ls 4 [(0, .ref (a 22)), (1, .int (nI (r)))] := hl
  obtain ⟨locs, elocs⟩ : ∃ q : List Loc, q = [] := ⟨_, rfl⟩
  rw [← elocs] at hS ⊢
  obtain ⟨H, eH⟩ : ∃ q : Heap, q = s.heap := ⟨_, rfl⟩
  have hP : va_P D vwCl G0 H := eH ▸ hP
  have hS : va_S A s.heap H locs := by rw [eH]; exact hS
  rw [← eH]
  clear elocs eH
  have hiX8 : ∀ w ∈ u_ws RX8 TX8 37, w ∈ wsX8_drift := by decide +kernel
  have hk : ∀ k, k ∉ [27, 30] → G0[k]? = G0[k]? := fun _ _ => rfl
  refine lv_iconst (v := nI (0)) (pc := 0) hx hb dX8_drift_0 (by decide) ?_
  refine lv_istore_n (lv' := [(2, .int (nI (0))), (0, .ref (a 22)), (1, .int (nI (r)))]) (pc := 1) hx hb dX8_drift_1 rfl hl (by decide) rfl (fun ls hl => ?_)
  have LA : ∀ (k : Nat) (z : Nat) (asd : Nat → Int32), z + k = zn → ∀ (G : va_W) (H : Heap) (locs : List Loc) (ls : Array Slot), va_P D vwCl G H → va_D A G → va_S A s.heap H locs → (∀ j, j ∉ [27, 30] → G[j]? = G0[j]?) → G[22]? = some (a 22, .inr (8, [.int (nI (zn)), .int (nI (tr)), .ref (a 23), .ref (a 24), .ref (a 25), .ref (a 26), .ref (a 27), .ref (a 28), .ref (a 29), .int (nI (sc)), .int (sg), .int (sr), .int (ss), .int (fed), .int (pap), .int (bar), .int (gB (st)), .ref (a 30), .ref (a 31), .ref (a 32), .int (nI (pn)), .ref (a 33), .ref (a 34), .ref (a 35), .ref (a 36), .int (nI (mn)), .long (q1), .long (q2), .long (q3), .long (q4), .long (q5), .ref (a 37), .ref (a 38), .ref (a 39), .int (nI (jn)), .ref (a 40), .ref (a 41)])) → G[23]? = some (a 23, .inl (cI, 9, .inl (ru))) → G[27]? = some (a 27, .inl (cI, 40, .inl (ink))) → G[30]? = some (a 30, .inl (cI, 8, .inl (asd))) → lv_has ls 4 [(0, .ref (a 22)), (1, .int (nI (r))), (2, .int (nI (z)))] → (∀ (G : va_W) (H : Heap) (locs : List Loc) (ls : Array Slot), va_P D vwCl G H → va_D A G → va_S A s.heap H locs → (∀ j, j ∉ [27, 30] → G[j]? = G0[j]?) → G[22]? = some (a 22, .inr (8, [.int (nI (zn)), .int (nI (tr)), .ref (a 23), .ref (a 24), .ref (a 25), .ref (a 26), .ref (a 27), .ref (a 28), .ref (a 29), .int (nI (sc)), .int (sg), .int (sr), .int (ss), .int (fed), .int (pap), .int (bar), .int (gB (st)), .ref (a 30), .ref (a 31), .ref (a 32), .int (nI (pn)), .ref (a 33), .ref (a 34), .ref (a 35), .ref (a 36), .int (nI (mn)), .long (q1), .long (q2), .long (q3), .long (q4), .long (q5), .ref (a 37), .ref (a 38), .ref (a 39), .int (nI (jn)), .ref (a 40), .ref (a 41)])) → G[23]? = some (a 23, .inl (cI, 9, .inl (ru))) → G[27]? = some (a 27, .inl (cI, 40, .inl (ink))) → G[30]? = some (a 30, .inl (cI, 8, .inl (gAs (ru 2) (8 * r) ink k z asd))) → lv_has ls 4 [(0, .ref (a 22)), (1, .int (nI (r)))] → W p l e ({ frames := 0, cells := 0, slots := 0, locals := 0 } : Room) s m args below meth c H locs 0 0 Q (F0 m 44 ls [])) → W p l e ({ frames := 0, cells := 0, slots := 0, locals := 0 } : Room) s m args below meth c H locs 0 0 Q (F0 m 2 ls []) := by
    intro k
    induction k with
    | zero =>
      intro z asd hz G H locs ls hP hD hS hk w22 w23 w27 w30 hl hcont
      refine lv_iload_n (pc := 2) hx hb dX8_drift_2 rfl (lv_at hl 2 rfl) ?_
      refine lv_aload_n (pc := 3) hx hb dX8_drift_3 rfl (lv_at hl 0 rfl) ?_
      refine va_get (ci := 8) (C := RX8) (T := TX8) (N := 37) (pc := 4) hx hb hts hiX8 hown hK hP 22 w22 rfl 0 (by decide) (hts (.fieldLink RX8 7 "InkPressModel" "zones" "I") (by decide +kernel)) (fun _ h9 => h9) rfl dX8_drift_4 ?_
      refine mx_cge (tgt := 44) (pc := 7) hx hb (by omega) (by omega) dX8_drift_7 (by decide) (fun c7 => ?_) (fun c7 => absurd c7 (by omega))
      exact hcont G H locs ls hP hD hS hk w22 w23 w27 w30 (lv_sub hl [0, 1] rfl)
    | succ k ih =>
      intro z asd hz G H locs ls hP hD hS hk w22 w23 w27 w30 hl hcont
      refine lv_iload_n (pc := 2) hx hb dX8_drift_2 rfl (lv_at hl 2 rfl) ?_
      refine lv_aload_n (pc := 3) hx hb dX8_drift_3 rfl (lv_at hl 0 rfl) ?_
      refine va_get (ci := 8) (C := RX8) (T := TX8) (N := 37) (pc := 4) hx hb hts hiX8 hown hK hP 22 w22 rfl 0 (by decide) (hts (.fieldLink RX8 7 "InkPressModel" "zones" "I") (by decide +kernel)) (fun _ h9 => h9) rfl dX8_drift_4 ?_
      refine mx_cge (tgt := 44) (pc := 7) hx hb (by omega) (by omega) dX8_drift_7 (by decide) (fun c7 => absurd c7 (by omega)) (fun c7 => ?_)
      refine lv_aload_n (pc := 10) hx hb dX8_drift_10 rfl (lv_at hl 0 rfl) ?_
      refine va_get (ci := 8) (C := RX8) (T := TX8) (N := 37) (pc := 11) hx hb hts hiX8 hown hK hP 22 w22 rfl 17 (by decide) (hts (.fieldLink RX8 42 "InkPressModel" "aside" "[I") (by decide +kernel)) (fun _ h9 => h9) rfl dX8_drift_11 ?_
      refine lv_iload_n (pc := 14) hx hb dX8_drift_14 rfl (lv_at hl 2 rfl) ?_
      refine lv_aload_n (pc := 15) hx hb dX8_drift_15 rfl (lv_at hl 0 rfl) ?_
      refine va_get (ci := 8) (C := RX8) (T := TX8) (N := 37) (pc := 16) hx hb hts hiX8 hown hK hP 22 w22 rfl 6 (by decide) (hts (.fieldLink RX8 29 "InkPressModel" "ink" "[I") (by decide +kernel)) (fun _ h9 => h9) rfl dX8_drift_16 ?_
      refine lv_bipush (v := nI (8)) (pc := 19) hx hb dX8_drift_19 (by decide) ?_
      refine lv_iload_n (pc := 21) hx hb dX8_drift_21 rfl (lv_at hl 1 rfl) ?_
      refine mx_imul (pc := 22) hx hb dX8_drift_22 ?_
      refine lv_iload_n (pc := 23) hx hb dX8_drift_23 rfl (lv_at hl 2 rfl) ?_
      refine mx_iadd (pc := 24) hx hb dX8_drift_24 ?_
      refine mx_iald (pc := 25) hx hb hK hP 27 w27 ((8) * (r) + z) (by omega) (by decide) dX8_drift_25 ?_
      refine lv_aload_n (pc := 26) hx hb dX8_drift_26 rfl (lv_at hl 0 rfl) ?_
      refine va_get (ci := 8) (C := RX8) (T := TX8) (N := 37) (pc := 27) hx hb hts hiX8 hown hK hP 22 w22 rfl 2 (by decide) (hts (.fieldLink RX8 16 "InkPressModel" "rules" "[I") (by decide +kernel)) (fun _ h9 => h9) rfl dX8_drift_27 ?_
      refine lv_iconst (v := nI (2)) (pc := 30) hx hb dX8_drift_30 (by decide) ?_
      refine mx_iald (pc := 31) hx hb hK hP 23 w23 (2) (by omega) (by decide) dX8_drift_31 ?_
      refine lv_imul (pc := 32) hx hb dX8_drift_32 ?_
      refine lv_sipush (v := nI (200)) (pc := 33) hx hb dX8_drift_33 (by decide) ?_
      refine lv_idiv (pc := 36) hx hb dX8_drift_36 (by decide) ?_
      refine mx_iast (x := ((((ink) ((8) * (r) + z) * (ru) (2))) / (nI (200)))) (pc := 37) hx hb hK hP hD hS 30 w30 (z) (by omega) (by decide) dX8_drift_37 (fun H locs G hP hD hS w30 ho => ?_)
      have w22 := (ho 22 (by decide)).trans w22
      have w23 := (ho 23 (by decide)).trans w23
      have w27 := (ho 27 (by decide)).trans w27
      have w30 : G[30]? = some (a 30, .inl (cI, 8, .inl (upd (asd) (z) (((((ink) ((8) * (r) + z) * (ru) (2))) / (nI (200))))))) := w30
      have hk := gk_step hk ho (by decide)
      clear ho
      refine lv_iinc (v := nI (z + 1)) (lv' := [(2, .int (nI (z + 1))), (0, .ref (a 22)), (1, .int (nI (r)))]) (pc := 38) hx hb dX8_drift_38 hl (k := 2) rfl (mx_inc1 _) (by decide) rfl (fun ls hl => ?_)
      refine lv_goto (tgt := 2) (pc := 41) hx hb dX8_drift_41 (by decide) ?_
      exact ih (z + 1) (upd (asd) (z) (((((ink) ((8) * (r) + z) * (ru) (2))) / (nI (200))))) (by omega) G H locs ls hP hD hS hk w22 w23 w27 w30 (lv_sub hl [1, 2, 0] rfl) hcont
  refine LA zn (0) (asd) (by omega) G0 H locs ls hP hD hS hk w22 w23 w27 w30 (lv_sub hl [1, 2, 0] rfl) (fun G H locs ls hP hD hS hk w22 w23 w27 w30 hl => ?_)
  have w30 : G[30]? = some (a 30, .inl (cI, 8, .inl (gAs (ru 2) (8 * r) ink (zn) (0) (asd)))) := w30
  refine lv_iconst (v := nI (0)) (pc := 44) hx hb dX8_drift_44 (by decide) ?_
  refine lv_istore_n (lv' := [(2, .int (nI (0))), (0, .ref (a 22)), (1, .int (nI (r)))]) (pc := 45) hx hb dX8_drift_45 rfl hl (by decide) rfl (fun ls hl => ?_)
  obtain ⟨az, eaz⟩ : ∃ q : Nat → Int32, q = gAs (ru 2) (8 * r) ink (zn) (0) (asd) := ⟨_, rfl⟩
  rw [← eaz] at w30
  have LB : ∀ (k : Nat) (z : Nat) (ink : Nat → Int32), z + 1 + k = zn → ∀ (G : va_W) (H : Heap) (locs : List Loc) (ls : Array Slot), va_P D vwCl G H → va_D A G → va_S A s.heap H locs → (∀ j, j ∉ [27, 30] → G[j]? = G0[j]?) → G[22]? = some (a 22, .inr (8, [.int (nI (zn)), .int (nI (tr)), .ref (a 23), .ref (a 24), .ref (a 25), .ref (a 26), .ref (a 27), .ref (a 28), .ref (a 29), .int (nI (sc)), .int (sg), .int (sr), .int (ss), .int (fed), .int (pap), .int (bar), .int (gB (st)), .ref (a 30), .ref (a 31), .ref (a 32), .int (nI (pn)), .ref (a 33), .ref (a 34), .ref (a 35), .ref (a 36), .int (nI (mn)), .long (q1), .long (q2), .long (q3), .long (q4), .long (q5), .ref (a 37), .ref (a 38), .ref (a 39), .int (nI (jn)), .ref (a 40), .ref (a 41)])) → G[23]? = some (a 23, .inl (cI, 9, .inl (ru))) → G[27]? = some (a 27, .inl (cI, 40, .inl (ink))) → G[30]? = some (a 30, .inl (cI, 8, .inl (az))) → lv_has ls 4 [(0, .ref (a 22)), (1, .int (nI (r))), (2, .int (nI (z)))] → (∀ (G : va_W) (H : Heap) (locs : List Loc) (ls : Array Slot), va_P D vwCl G H → va_D A G → va_S A s.heap H locs → (∀ j, j ∉ [27, 30] → G[j]? = G0[j]?) → G[22]? = some (a 22, .inr (8, [.int (nI (zn)), .int (nI (tr)), .ref (a 23), .ref (a 24), .ref (a 25), .ref (a 26), .ref (a 27), .ref (a 28), .ref (a 29), .int (nI (sc)), .int (sg), .int (sr), .int (ss), .int (fed), .int (pap), .int (bar), .int (gB (st)), .ref (a 30), .ref (a 31), .ref (a 32), .int (nI (pn)), .ref (a 33), .ref (a 34), .ref (a 35), .ref (a 36), .int (nI (mn)), .long (q1), .long (q2), .long (q3), .long (q4), .long (q5), .ref (a 37), .ref (a 38), .ref (a 39), .int (nI (jn)), .ref (a 40), .ref (a 41)])) → G[23]? = some (a 23, .inl (cI, 9, .inl (ru))) → G[27]? = some (a 27, .inl (cI, 40, .inl (gMdz az (8 * r) k z ink))) → G[30]? = some (a 30, .inl (cI, 8, .inl (az))) → lv_has ls 4 [(0, .ref (a 22))] → W p l e ({ frames := 0, cells := 0, slots := 0, locals := 0 } : Room) s m args below meth c H locs 0 0 Q (F0 m 119 ls [])) → W p l e ({ frames := 0, cells := 0, slots := 0, locals := 0 } : Room) s m args below meth c H locs 0 0 Q (F0 m 46 ls []) := by
    intro k
    induction k with
    | zero =>
      intro z ink hz G H locs ls hP hD hS hk w22 w23 w27 w30 hl hcont
      refine lv_iload_n (pc := 46) hx hb dX8_drift_46 rfl (lv_at hl 2 rfl) ?_
      refine lv_iconst (v := nI (1)) (pc := 47) hx hb dX8_drift_47 (by decide) ?_
      refine mx_iadd (pc := 48) hx hb dX8_drift_48 ?_
      refine lv_aload_n (pc := 49) hx hb dX8_drift_49 rfl (lv_at hl 0 rfl) ?_
      refine va_get (ci := 8) (C := RX8) (T := TX8) (N := 37) (pc := 50) hx hb hts hiX8 hown hK hP 22 w22 rfl 0 (by decide) (hts (.fieldLink RX8 7 "InkPressModel" "zones" "I") (by decide +kernel)) (fun _ h9 => h9) rfl dX8_drift_50 ?_
      refine mx_cge (tgt := 119) (pc := 53) hx hb (by omega) (by omega) dX8_drift_53 (by decide) (fun c53 => ?_) (fun c53 => absurd c53 (by omega))
      exact hcont G H locs ls hP hD hS hk w22 w23 w27 w30 (lv_sub hl [0] rfl)
    | succ k ih =>
      intro z ink hz G H locs ls hP hD hS hk w22 w23 w27 w30 hl hcont
      refine lv_iload_n (pc := 46) hx hb dX8_drift_46 rfl (lv_at hl 2 rfl) ?_
      refine lv_iconst (v := nI (1)) (pc := 47) hx hb dX8_drift_47 (by decide) ?_
      refine mx_iadd (pc := 48) hx hb dX8_drift_48 ?_
      refine lv_aload_n (pc := 49) hx hb dX8_drift_49 rfl (lv_at hl 0 rfl) ?_
      refine va_get (ci := 8) (C := RX8) (T := TX8) (N := 37) (pc := 50) hx hb hts hiX8 hown hK hP 22 w22 rfl 0 (by decide) (hts (.fieldLink RX8 7 "InkPressModel" "zones" "I") (by decide +kernel)) (fun _ h9 => h9) rfl dX8_drift_50 ?_
      refine mx_cge (tgt := 119) (pc := 53) hx hb (by omega) (by omega) dX8_drift_53 (by decide) (fun c53 => absurd c53 (by omega)) (fun c53 => ?_)
      refine lv_bipush (v := nI (8)) (pc := 56) hx hb dX8_drift_56 (by decide) ?_
      refine lv_iload_n (pc := 58) hx hb dX8_drift_58 rfl (lv_at hl 1 rfl) ?_
      refine mx_imul (pc := 59) hx hb dX8_drift_59 ?_
      refine lv_iload_n (pc := 60) hx hb dX8_drift_60 rfl (lv_at hl 2 rfl) ?_
      refine mx_iadd (pc := 61) hx hb dX8_drift_61 ?_
      refine lv_istore_n (lv' := [(3, .int (nI ((8) * (r) + z))), (0, .ref (a 22)), (1, .int (nI (r))), (2, .int (nI (z)))]) (pc := 62) hx hb dX8_drift_62 rfl hl (by decide) rfl (fun ls hl => ?_)
      refine lv_aload_n (pc := 63) hx hb dX8_drift_63 rfl (lv_at hl 1 rfl) ?_
      refine va_get (ci := 8) (C := RX8) (T := TX8) (N := 37) (pc := 64) hx hb hts hiX8 hown hK hP 22 w22 rfl 6 (by decide) (hts (.fieldLink RX8 29 "InkPressModel" "ink" "[I") (by decide +kernel)) (fun _ h9 => h9) rfl dX8_drift_64 ?_
      refine lv_iload_n (pc := 67) hx hb dX8_drift_67 rfl (lv_at hl 0 rfl) ?_
      refine lv_dup2_11 (pc := 68) hx hb dX8_drift_68 rfl rfl ?_
      refine mx_iald (pc := 69) hx hb hK hP 27 w27 ((8) * (r) + z) (by omega) (by decide) dX8_drift_69 ?_
      refine lv_aload_n (pc := 70) hx hb dX8_drift_70 rfl (lv_at hl 1 rfl) ?_
      refine va_get (ci := 8) (C := RX8) (T := TX8) (N := 37) (pc := 71) hx hb hts hiX8 hown hK hP 22 w22 rfl 17 (by decide) (hts (.fieldLink RX8 42 "InkPressModel" "aside" "[I") (by decide +kernel)) (fun _ h9 => h9) rfl dX8_drift_71 ?_
      refine lv_iload_n (pc := 74) hx hb dX8_drift_74 rfl (lv_at hl 3 rfl) ?_
      refine lv_iconst (v := nI (1)) (pc := 75) hx hb dX8_drift_75 (by decide) ?_
      refine mx_iadd (pc := 76) hx hb dX8_drift_76 ?_
      refine mx_iald (pc := 77) hx hb hK hP 30 w30 (z + 1) (by omega) (by decide) dX8_drift_77 ?_
      refine lv_aload_n (pc := 78) hx hb dX8_drift_78 rfl (lv_at hl 1 rfl) ?_
      refine va_get (ci := 8) (C := RX8) (T := TX8) (N := 37) (pc := 79) hx hb hts hiX8 hown hK hP 22 w22 rfl 17 (by decide) (hts (.fieldLink RX8 42 "InkPressModel" "aside" "[I") (by decide +kernel)) (fun _ h9 => h9) rfl dX8_drift_79 ?_
      refine lv_iload_n (pc := 82) hx hb dX8_drift_82 rfl (lv_at hl 3 rfl) ?_
      refine mx_iald (pc := 83) hx hb hK hP 30 w30 (z) (by omega) (by decide) dX8_drift_83 ?_
      refine lv_isub (pc := 84) hx hb dX8_drift_84 ?_
      refine lv_iadd (pc := 85) hx hb dX8_drift_85 ?_
      refine mx_iast (x := ((ink) ((8) * (r) + z) + ((az) (z + 1) - (az) (z)))) (pc := 86) hx hb hK hP hD hS 27 w27 ((8) * (r) + z) (by omega) (by decide) dX8_drift_86 (fun H locs G hP hD hS w27 ho => ?_)
      have w22 := (ho 22 (by decide)).trans w22
      have w23 := (ho 23 (by decide)).trans w23
      have w30 := (ho 30 (by decide)).trans w30
      have w27 : G[27]? = some (a 27, .inl (cI, 40, .inl (upd (ink) ((8) * (r) + z) (((ink) ((8) * (r) + z) + ((az) (z + 1) - (az) (z))))))) := w27
      have hk := gk_step hk ho (by decide)
      clear ho
      refine lv_aload_n (pc := 87) hx hb dX8_drift_87 rfl (lv_at hl 1 rfl) ?_
      refine va_get (ci := 8) (C := RX8) (T := TX8) (N := 37) (pc := 88) hx hb hts hiX8 hown hK hP 22 w22 rfl 6 (by decide) (hts (.fieldLink RX8 29 "InkPressModel" "ink" "[I") (by decide +kernel)) (fun _ h9 => h9) rfl dX8_drift_88 ?_
      refine lv_iload_n (pc := 91) hx hb dX8_drift_91 rfl (lv_at hl 0 rfl) ?_
      refine lv_iconst (v := nI (1)) (pc := 92) hx hb dX8_drift_92 (by decide) ?_
      refine mx_iadd (pc := 93) hx hb dX8_drift_93 ?_
      refine lv_dup2_11 (pc := 94) hx hb dX8_drift_94 rfl rfl ?_
      refine mx_iald (pc := 95) hx hb hK hP 27 w27 ((8) * (r) + z + 1) (by omega) (by decide) dX8_drift_95 ?_
      refine lv_aload_n (pc := 96) hx hb dX8_drift_96 rfl (lv_at hl 1 rfl) ?_
      refine va_get (ci := 8) (C := RX8) (T := TX8) (N := 37) (pc := 97) hx hb hts hiX8 hown hK hP 22 w22 rfl 17 (by decide) (hts (.fieldLink RX8 42 "InkPressModel" "aside" "[I") (by decide +kernel)) (fun _ h9 => h9) rfl dX8_drift_97 ?_
      refine lv_iload_n (pc := 100) hx hb dX8_drift_100 rfl (lv_at hl 3 rfl) ?_
      refine mx_iald (pc := 101) hx hb hK hP 30 w30 (z) (by omega) (by decide) dX8_drift_101 ?_
      refine lv_aload_n (pc := 102) hx hb dX8_drift_102 rfl (lv_at hl 1 rfl) ?_
      refine va_get (ci := 8) (C := RX8) (T := TX8) (N := 37) (pc := 103) hx hb hts hiX8 hown hK hP 22 w22 rfl 17 (by decide) (hts (.fieldLink RX8 42 "InkPressModel" "aside" "[I") (by decide +kernel)) (fun _ h9 => h9) rfl dX8_drift_103 ?_
      refine lv_iload_n (pc := 106) hx hb dX8_drift_106 rfl (lv_at hl 3 rfl) ?_
      refine lv_iconst (v := nI (1)) (pc := 107) hx hb dX8_drift_107 (by decide) ?_
      refine mx_iadd (pc := 108) hx hb dX8_drift_108 ?_
      refine mx_iald (pc := 109) hx hb hK hP 30 w30 (z + 1) (by omega) (by decide) dX8_drift_109 ?_
      refine lv_isub (pc := 110) hx hb dX8_drift_110 ?_
      refine lv_iadd (pc := 111) hx hb dX8_drift_111 ?_
      refine mx_iast (x := ((upd (ink) ((8) * (r) + z) (((ink) ((8) * (r) + z) + ((az) (z + 1) - (az) (z))))) ((8) * (r) + z + 1) + ((az) (z) - (az) (z + 1)))) (pc := 112) hx hb hK hP hD hS 27 w27 ((8) * (r) + z + 1) (by omega) (by decide) dX8_drift_112 (fun H locs G hP hD hS w27 ho => ?_)
      have w22 := (ho 22 (by decide)).trans w22
      have w23 := (ho 23 (by decide)).trans w23
      have w30 := (ho 30 (by decide)).trans w30
      have w27 : G[27]? = some (a 27, .inl (cI, 40, .inl (upd (upd (ink) ((8) * (r) + z) (((ink) ((8) * (r) + z) + ((az) (z + 1) - (az) (z))))) ((8) * (r) + z + 1) (((upd (ink) ((8) * (r) + z) (((ink) ((8) * (r) + z) + ((az) (z + 1) - (az) (z))))) ((8) * (r) + z + 1) + ((az) (z) - (az) (z + 1))))))) := w27
      have hk := gk_step hk ho (by decide)
      clear ho
      refine lv_iinc (v := nI (z + 1)) (lv' := [(2, .int (nI (z + 1))), (3, .int (nI ((8) * (r) + z))), (0, .ref (a 22)), (1, .int (nI (r)))]) (pc := 113) hx hb dX8_drift_113 hl (k := 3) rfl (mx_inc1 _) (by decide) rfl (fun ls hl => ?_)
      refine lv_goto (tgt := 46) (pc := 116) hx hb dX8_drift_116 (by decide) ?_
      exact ih (z + 1) (gMd1 az (8 * r) z ink) (by omega) G H locs ls hP hD hS hk w22 w23 w27 w30 (lv_sub hl [2, 3, 0] rfl) hcont
  refine LB (zn - 1) (0) (ink) (by omega) G H locs ls hP hD hS hk w22 w23 w27 w30 (lv_sub hl [1, 2, 0] rfl) (fun G H locs ls hP hD hS hk w22 w23 w27 w30 hl => ?_)
  have w27 : G[27]? = some (a 27, .inl (cI, 40, .inl (gMdz az (8 * r) ((zn - 1)) (0) (ink)))) := w27
  exact hret _ _ _ _ _ hP hD hS ⟨(by rw [← eaz]; exact w27), (by rw [← eaz]; exact w30), hk⟩ dX8_drift_119
set_option maxHeartbeats 4000000 in
set_option maxRecDepth 100000 in
theorem k_X8_steerKeys {l : Launch} {D : va_G} {cI cZ : ClassId} {A : Nat → Prop} {g a : Nat → Nat} {G0 : va_W} {zn : Nat} {tr : Nat} {sc : Nat} {pn : Nat} {mn : Nat} {jn : Nat} {sg : Int32} {sr : Int32} {ss : Int32} {fed : Int32} {pap : Int32} {bar : Int32} {st : Bool} {q1 : Int64} {q2 : Int64} {q3 : Int64} {q4 : Int64} {q5 : Int64} {ru : Nat → Int32} {ke : Nat → Int32} {tg : Nat → Int32} {den : Nat → Int32} (hD : va_D A G0) (w22 : G0[22]? = some (a 22, .inr (8, [.int (nI (zn)), .int (nI (tr)), .ref (a 23), .ref (a 24), .ref (a 25), .ref (a 26), .ref (a 27), .ref (a 28), .ref (a 29), .int (nI (sc)), .int (sg), .int (sr), .int (ss), .int (fed), .int (pap), .int (bar), .int (gB (st)), .ref (a 30), .ref (a 31), .ref (a 32), .int (nI (pn)), .ref (a 33), .ref (a 34), .ref (a 35), .ref (a 36), .int (nI (mn)), .long (q1), .long (q2), .long (q3), .long (q4), .long (q5), .ref (a 37), .ref (a 38), .ref (a 39), .int (nI (jn)), .ref (a 40), .ref (a 41)]))) (w23 : G0[23]? = some (a 23, .inl (cI, 9, .inl (ru)))) (w24 : G0[24]? = some (a 24, .inl (cI, 8, .inl (ke)))) (w26 : G0[26]? = some (a 26, .inl (cI, 8, .inl (tg)))) (w28 : G0[28]? = some (a 28, .inl (cI, 8000, .inl (den)))) (hz8 : zn ≤ 8) (hs : sc ≤ 1000) : gMv l D cI cZ A g yX8_steerKeys wsX8_steerKeys ({ frames := 1, cells := 0, slots := 0, locals := 22 }) [.ref (a 22)] G0 (fun G1 => G1[24]? = some (a 24, .inl (cI, 8, .inl (gMSk ru sc den tg zn 0 ke))) ∧ ∀ k, k ∉ [24] → G1[k]? = G0[k]?) := by
  refine gof_v (cc := cX8_steerKeys) (maxL := 3) (by decide) rfl (Nat.le_of_ble_eq_true rfl) hD ?_
  intro p e s m args below meth c Q hx hb hml hts hown hK hN hZ hP hS hret ls hl
  have hown : s.vm.findClass RX8 = some m.cls := hown
  have hl : lv_has ls 3 [(0, .ref (a 22))] := hl
  obtain ⟨locs, elocs⟩ : ∃ q : List Loc, q = [] := ⟨_, rfl⟩
  rw [← elocs] at hS ⊢
  obtain ⟨H, eH⟩ : ∃ q : Heap, q = s.heap := ⟨_, rfl⟩
  have hP : va_P D vwCl G0 H := eH ▸ hP
  have hS : va_S A s.heap H locs := by rw [eH]; exact hS
  rw [← eH]
  clear elocs eH
  have hiX8 : ∀ w ∈ u_ws RX8 TX8 37, w ∈ wsX8_steerKeys := by decide +kernel
  have hk : ∀ k, k ∉ [24] → G0[k]? = G0[k]? := fun _ _ => rfl
  refine lv_iconst (v := nI (0)) (pc := 0) hx hb dX8_steerKeys_0 (by decide) ?_
  refine lv_istore_n (lv' := [(1, .int (nI (0))), (0, .ref (a 22))]) (pc := 1) hx hb dX8_steerKeys_1 rfl hl (by decide) rfl (fun ls hl => ?_)
  have LP : ∀ (k : Nat) (z : Nat) (ke : Nat → Int32), z + k = zn → ∀ (G : va_W) (H : Heap) (locs : List Loc) (ls : Array Slot), va_P D vwCl G H → va_D A G → va_S A s.heap H locs → (∀ j, j ∉ [24] → G[j]? = G0[j]?) → G[22]? = some (a 22, .inr (8, [.int (nI (zn)), .int (nI (tr)), .ref (a 23), .ref (a 24), .ref (a 25), .ref (a 26), .ref (a 27), .ref (a 28), .ref (a 29), .int (nI (sc)), .int (sg), .int (sr), .int (ss), .int (fed), .int (pap), .int (bar), .int (gB (st)), .ref (a 30), .ref (a 31), .ref (a 32), .int (nI (pn)), .ref (a 33), .ref (a 34), .ref (a 35), .ref (a 36), .int (nI (mn)), .long (q1), .long (q2), .long (q3), .long (q4), .long (q5), .ref (a 37), .ref (a 38), .ref (a 39), .int (nI (jn)), .ref (a 40), .ref (a 41)])) → G[23]? = some (a 23, .inl (cI, 9, .inl (ru))) → G[24]? = some (a 24, .inl (cI, 8, .inl (ke))) → G[26]? = some (a 26, .inl (cI, 8, .inl (tg))) → G[28]? = some (a 28, .inl (cI, 8000, .inl (den))) → lv_has ls 3 [(0, .ref (a 22)), (1, .int (nI (z)))] → (∀ (G : va_W) (H : Heap) (locs : List Loc) (ls : Array Slot), va_P D vwCl G H → va_D A G → va_S A s.heap H locs → (∀ j, j ∉ [24] → G[j]? = G0[j]?) → G[22]? = some (a 22, .inr (8, [.int (nI (zn)), .int (nI (tr)), .ref (a 23), .ref (a 24), .ref (a 25), .ref (a 26), .ref (a 27), .ref (a 28), .ref (a 29), .int (nI (sc)), .int (sg), .int (sr), .int (ss), .int (fed), .int (pap), .int (bar), .int (gB (st)), .ref (a 30), .ref (a 31), .ref (a 32), .int (nI (pn)), .ref (a 33), .ref (a 34), .ref (a 35), .ref (a 36), .int (nI (mn)), .long (q1), .long (q2), .long (q3), .long (q4), .long (q5), .ref (a 37), .ref (a 38), .ref (a 39), .int (nI (jn)), .ref (a 40), .ref (a 41)])) → G[23]? = some (a 23, .inl (cI, 9, .inl (ru))) → G[24]? = some (a 24, .inl (cI, 8, .inl (gMSk ru sc den tg k z ke))) → G[26]? = some (a 26, .inl (cI, 8, .inl (tg))) → G[28]? = some (a 28, .inl (cI, 8000, .inl (den))) → lv_has ls 3 [(0, .ref (a 22))] → W p l e ({ frames := 1, cells := 0, slots := 0, locals := 22 } : Room) s m args below meth c H locs 0 0 Q (F0 m 80 ls [])) → W p l e ({ frames := 1, cells := 0, slots := 0, locals := 22 } : Room) s m args below meth c H locs 0 0 Q (F0 m 2 ls []) := by
    intro k
    induction k with
    | zero =>
      intro z ke hz G H locs ls hP hD hS hk w22 w23 w24 w26 w28 hl hcont
      refine lv_iload_n (pc := 2) hx hb dX8_steerKeys_2 rfl (lv_at hl 1 rfl) ?_
      refine lv_aload_n (pc := 3) hx hb dX8_steerKeys_3 rfl (lv_at hl 0 rfl) ?_
      refine va_get (ci := 8) (C := RX8) (T := TX8) (N := 37) (pc := 4) hx hb hts hiX8 hown hK hP 22 w22 rfl 0 (by decide) (hts (.fieldLink RX8 7 "InkPressModel" "zones" "I") (by decide +kernel)) (fun _ h9 => h9) rfl dX8_steerKeys_4 ?_
      refine mx_cge (tgt := 80) (pc := 7) hx hb (by omega) (by omega) dX8_steerKeys_7 (by decide) (fun c7 => ?_) (fun c7 => absurd c7 (by omega))
      exact hcont G H locs ls hP hD hS hk w22 w23 w24 w26 w28 (lv_sub hl [0] rfl)
    | succ k ih =>
      intro z ke hz G H locs ls hP hD hS hk w22 w23 w24 w26 w28 hl hcont
      refine lv_iload_n (pc := 2) hx hb dX8_steerKeys_2 rfl (lv_at hl 1 rfl) ?_
      refine lv_aload_n (pc := 3) hx hb dX8_steerKeys_3 rfl (lv_at hl 0 rfl) ?_
      refine va_get (ci := 8) (C := RX8) (T := TX8) (N := 37) (pc := 4) hx hb hts hiX8 hown hK hP 22 w22 rfl 0 (by decide) (hts (.fieldLink RX8 7 "InkPressModel" "zones" "I") (by decide +kernel)) (fun _ h9 => h9) rfl dX8_steerKeys_4 ?_
      refine mx_cge (tgt := 80) (pc := 7) hx hb (by omega) (by omega) dX8_steerKeys_7 (by decide) (fun c7 => absurd c7 (by omega)) (fun c7 => ?_)
      refine lv_aload_n (pc := 10) hx hb dX8_steerKeys_10 rfl (lv_at hl 0 rfl) ?_
      refine va_get (ci := 8) (C := RX8) (T := TX8) (N := 37) (pc := 11) hx hb hts hiX8 hown hK hP 22 w22 rfl 5 (by decide) (hts (.fieldLink RX8 26 "InkPressModel" "target" "[I") (by decide +kernel)) (fun _ h9 => h9) rfl dX8_steerKeys_11 ?_
      refine lv_iload_n (pc := 14) hx hb dX8_steerKeys_14 rfl (lv_at hl 1 rfl) ?_
      refine mx_iald (pc := 15) hx hb hK hP 26 w26 (z) (by omega) (by decide) dX8_steerKeys_15 ?_
      refine lv_aload_n (pc := 16) hx hb dX8_steerKeys_16 rfl (lv_at hl 0 rfl) ?_
      refine lv_aload_n (pc := 17) hx hb dX8_steerKeys_17 rfl (lv_at hl 0 rfl) ?_
      refine va_get (ci := 8) (C := RX8) (T := TX8) (N := 37) (pc := 18) hx hb hts hiX8 hown hK hP 22 w22 rfl 9 (by decide) (hts (.fieldLink RX8 81 "InkPressModel" "sheets" "I") (by decide +kernel)) (fun _ h9 => h9) rfl dX8_steerKeys_18 ?_
      refine lv_iload_n (pc := 21) hx hb dX8_steerKeys_21 rfl (lv_at hl 1 rfl) ?_
      refine mx_cVi (As := [.int (nI (sc)), .int (nI (z))]) (rest := [.int ((tg) (z))]) (pc := 22) ⟨hx, hb, hml, hown, hts⟩ (k_X8_densityOf (a := a) (zn := zn) (tr := tr) (sc := sc) (pn := pn) (mn := mn) (jn := jn) (sg := sg) (sr := sr) (ss := ss) (fed := fed) (pap := pap) (bar := bar) (st := st) (q1 := q1) (q2 := q2) (q3 := q3) (q4 := q4) (q5 := q5) (den := den) (n := sc) (z := z) hD w22 w28 (by omega) (by omega)) (cwV 2 hts gX8_steerKeys_X8_densityOf rfl rfl rfl (by decide +kernel) ⟨Nat.le_of_ble_eq_true rfl, Nat.le_of_ble_eq_true rfl⟩) 22 rfl rfl w22 hK hN hZ hP hS rfl hl.1 rfl (Nat.le_of_ble_eq_true rfl) dX8_steerKeys_22 ⟨Nat.zero_le _, Nat.zero_le _⟩ (fun G' H locs hP hD hS hB => ?_)
      rw [hB] at hP hD
      clear hB G'
      refine lv_isub (pc := 25) hx hb dX8_steerKeys_25 ?_
      refine lv_aload_n (pc := 26) hx hb dX8_steerKeys_26 rfl (lv_at hl 0 rfl) ?_
      refine va_get (ci := 8) (C := RX8) (T := TX8) (N := 37) (pc := 27) hx hb hts hiX8 hown hK hP 22 w22 rfl 2 (by decide) (hts (.fieldLink RX8 16 "InkPressModel" "rules" "[I") (by decide +kernel)) (fun _ h9 => h9) rfl dX8_steerKeys_27 ?_
      refine lv_iconst (v := nI (4)) (pc := 30) hx hb dX8_steerKeys_30 (by decide) ?_
      refine mx_iald (pc := 31) hx hb hK hP 23 w23 (4) (by omega) (by decide) dX8_steerKeys_31 ?_
      refine lv_imul (pc := 32) hx hb dX8_steerKeys_32 ?_
      refine lv_sipush (v := nI (1000)) (pc := 33) hx hb dX8_steerKeys_33 (by decide) ?_
      refine lv_idiv (pc := 36) hx hb dX8_steerKeys_36 (by decide) ?_
      refine lv_aload_n (pc := 37) hx hb dX8_steerKeys_37 rfl (lv_at hl 0 rfl) ?_
      refine va_get (ci := 8) (C := RX8) (T := TX8) (N := 37) (pc := 38) hx hb hts hiX8 hown hK hP 22 w22 rfl 2 (by decide) (hts (.fieldLink RX8 16 "InkPressModel" "rules" "[I") (by decide +kernel)) (fun _ h9 => h9) rfl dX8_steerKeys_38 ?_
      refine lv_iconst (v := nI (5)) (pc := 41) hx hb dX8_steerKeys_41 (by decide) ?_
      refine mx_iald (pc := 42) hx hb hK hP 23 w23 (5) (by omega) (by decide) dX8_steerKeys_42 ?_
      refine lv_ineg (pc := 43) hx hb dX8_steerKeys_43 ?_
      refine lv_aload_n (pc := 44) hx hb dX8_steerKeys_44 rfl (lv_at hl 0 rfl) ?_
      refine va_get (ci := 8) (C := RX8) (T := TX8) (N := 37) (pc := 45) hx hb hts hiX8 hown hK hP 22 w22 rfl 2 (by decide) (hts (.fieldLink RX8 16 "InkPressModel" "rules" "[I") (by decide +kernel)) (fun _ h9 => h9) rfl dX8_steerKeys_45 ?_
      refine lv_iconst (v := nI (5)) (pc := 48) hx hb dX8_steerKeys_48 (by decide) ?_
      refine mx_iald (pc := 49) hx hb hK hP 23 w23 (5) (by omega) (by decide) dX8_steerKeys_49 ?_
      refine mx_cSi (As := [.int ((((((tg) (z) - gMLd (sc) (z) (den)) * (ru) (4))) / (nI (1000)))), .int ((-((ru) (5)))), .int ((ru) (5))]) (rest := []) (pc := 50) ⟨hx, hb, hml, hown, hts⟩ (k_X8_held (a := a) (v := (((((tg) (z) - gMLd (sc) (z) (den)) * (ru) (4))) / (nI (1000)))) (lo := (-((ru) (5)))) (hi := (ru) (5)) hD  ) (va_cwS 3 hts gX8_steerKeys_X8_held rfl rfl rfl (by decide +kernel) ⟨Nat.le_of_ble_eq_true rfl, Nat.le_of_ble_eq_true rfl⟩) hK hN hZ hP hS rfl hl.1 rfl (Nat.le_of_ble_eq_true rfl) dX8_steerKeys_50 ⟨Nat.zero_le _, Nat.zero_le _⟩ (fun G' H locs hP hD hS hB => ?_)
      rw [hB] at hP hD
      clear hB G'
      refine lv_istore_n (lv' := [(2, .int (gMh ((((((tg) (z) - gMLd (sc) (z) (den)) * (ru) (4))) / (nI (1000)))) ((-((ru) (5)))) ((ru) (5)))), (0, .ref (a 22)), (1, .int (nI (z)))]) (pc := 53) hx hb dX8_steerKeys_53 rfl hl (by decide) rfl (fun ls hl => ?_)
      refine lv_aload_n (pc := 54) hx hb dX8_steerKeys_54 rfl (lv_at hl 1 rfl) ?_
      refine va_get (ci := 8) (C := RX8) (T := TX8) (N := 37) (pc := 55) hx hb hts hiX8 hown hK hP 22 w22 rfl 3 (by decide) (hts (.fieldLink RX8 20 "InkPressModel" "key" "[I") (by decide +kernel)) (fun _ h9 => h9) rfl dX8_steerKeys_55 ?_
      refine lv_iload_n (pc := 58) hx hb dX8_steerKeys_58 rfl (lv_at hl 2 rfl) ?_
      refine lv_aload_n (pc := 59) hx hb dX8_steerKeys_59 rfl (lv_at hl 1 rfl) ?_
      refine va_get (ci := 8) (C := RX8) (T := TX8) (N := 37) (pc := 60) hx hb hts hiX8 hown hK hP 22 w22 rfl 3 (by decide) (hts (.fieldLink RX8 20 "InkPressModel" "key" "[I") (by decide +kernel)) (fun _ h9 => h9) rfl dX8_steerKeys_60 ?_
      refine lv_iload_n (pc := 63) hx hb dX8_steerKeys_63 rfl (lv_at hl 2 rfl) ?_
      refine mx_iald (pc := 64) hx hb hK hP 24 w24 (z) (by omega) (by decide) dX8_steerKeys_64 ?_
      refine lv_iload_n (pc := 65) hx hb dX8_steerKeys_65 rfl (lv_at hl 0 rfl) ?_
      refine lv_iadd (pc := 66) hx hb dX8_steerKeys_66 ?_
      refine lv_iconst (v := nI (0)) (pc := 67) hx hb dX8_steerKeys_67 (by decide) ?_
      refine lv_bipush (v := nI (100)) (pc := 68) hx hb dX8_steerKeys_68 (by decide) ?_
      refine mx_cSi (As := [.int (((ke) (z) + gMh ((((((tg) (z) - gMLd (sc) (z) (den)) * (ru) (4))) / (nI (1000)))) ((-((ru) (5)))) ((ru) (5)))), .int (nI (0)), .int (nI (100))]) (rest := [.int (nI (z)), .ref (a 24)]) (pc := 70) ⟨hx, hb, hml, hown, hts⟩ (k_X8_held (a := a) (v := ((ke) (z) + gMh ((((((tg) (z) - gMLd (sc) (z) (den)) * (ru) (4))) / (nI (1000)))) ((-((ru) (5)))) ((ru) (5)))) (lo := nI (0)) (hi := nI (100)) hD  ) (va_cwS 3 hts gX8_steerKeys_X8_held rfl rfl rfl (by decide +kernel) ⟨Nat.le_of_ble_eq_true rfl, Nat.le_of_ble_eq_true rfl⟩) hK hN hZ hP hS rfl hl.1 rfl (Nat.le_of_ble_eq_true rfl) dX8_steerKeys_70 ⟨Nat.zero_le _, Nat.zero_le _⟩ (fun G' H locs hP hD hS hB => ?_)
      rw [hB] at hP hD
      clear hB G'
      refine mx_iast (x := gMh (((ke) (z) + gMh ((((((tg) (z) - gMLd (sc) (z) (den)) * (ru) (4))) / (nI (1000)))) ((-((ru) (5)))) ((ru) (5)))) (nI (0)) (nI (100))) (pc := 73) hx hb hK hP hD hS 24 w24 (z) (by omega) (by decide) dX8_steerKeys_73 (fun H locs G hP hD hS w24 ho => ?_)
      have w22 := (ho 22 (by decide)).trans w22
      have w23 := (ho 23 (by decide)).trans w23
      have w26 := (ho 26 (by decide)).trans w26
      have w28 := (ho 28 (by decide)).trans w28
      have w24 : G[24]? = some (a 24, .inl (cI, 8, .inl (upd (ke) (z) (gMh (((ke) (z) + gMh ((((((tg) (z) - gMLd (sc) (z) (den)) * (ru) (4))) / (nI (1000)))) ((-((ru) (5)))) ((ru) (5)))) (nI (0)) (nI (100)))))) := w24
      have hk := gk_step hk ho (by decide)
      clear ho
      refine lv_iinc (v := nI (z + 1)) (lv' := [(1, .int (nI (z + 1))), (2, .int (gMh ((((((tg) (z) - gMLd (sc) (z) (den)) * (ru) (4))) / (nI (1000)))) ((-((ru) (5)))) ((ru) (5)))), (0, .ref (a 22))]) (pc := 74) hx hb dX8_steerKeys_74 hl (k := 2) rfl (mx_inc1 _) (by decide) rfl (fun ls hl => ?_)
      refine lv_goto (tgt := 2) (pc := 77) hx hb dX8_steerKeys_77 (by decide) ?_
      exact ih (z + 1) (upd (ke) (z) (gMh (((ke) (z) + gMh ((((((tg) (z) - gMLd (sc) (z) (den)) * (ru) (4))) / (nI (1000)))) ((-((ru) (5)))) ((ru) (5)))) (nI (0)) (nI (100)))) (by omega) G H locs ls hP hD hS hk w22 w23 w24 w26 w28 (lv_sub hl [2, 0] rfl) hcont
  refine LP zn (0) (ke) (by omega) G0 H locs ls hP hD hS hk w22 w23 w24 w26 w28 (lv_sub hl [1, 0] rfl) (fun G H locs ls hP hD hS hk w22 w23 w24 w26 w28 hl => ?_)
  have w24 : G[24]? = some (a 24, .inl (cI, 8, .inl (gMSk ru sc den tg (zn) (0) (ke)))) := w24
  exact hret _ _ _ _ _ hP hD hS ⟨w24, hk⟩ dX8_steerKeys_80
