/-! the reference: the order of jobs -/
theorem gHolds_eq {d j : Int32} (h : (d >>> (j &&& 31)) &&& nI 1 = nI 1) : gHolds d j = true := decide_eq_true (show (d >>> (j &&& 31)) &&& 1 = 1 from h)
theorem gHolds_ne {d j : Int32} (h : ¬ (d >>> (j &&& 31)) &&& nI 1 = nI 1) : gHolds d j = false := decide_eq_false (show ¬ (d >>> (j &&& 31)) &&& 1 = 1 from h)
theorem gHolds_tb {d j : Nat} (hd : d < 128) (hj : j < 8) : gHolds (nI d) (nI j) = d.testBit j := by
  unfold gHolds
  rw [pk_shrN (by omega) (nI j &&& 31) j (gSl j (by omega)), pk_andN (k := 1) (Nat.lt_of_le_of_lt (Nat.div_le_self _ _) (by omega)) (by decide), Nat.testBit_eq_decide_div_mod_eq]
  apply decide_eq_decide.mpr
  have h2 : d / 2 ^ j % 2 ^ 1 < 2 := by rw [Nat.pow_one]; exact Nat.mod_lt _ (by decide)
  rw [show (1 : Int32) = nI 1 from rfl, nI_eq (by omega) (by decide), Nat.pow_one]
def gFct : Nat → Nat
  | 0 => 1
  | n + 1 => (n + 1) * gFct n
theorem gFct_le : ∀ {n : Nat}, n ≤ 7 → 0 < gFct n ∧ gFct n ≤ 5040 := by
  intro n h
  rcases (show n = 0 ∨ n = 1 ∨ n = 2 ∨ n = 3 ∨ n = 4 ∨ n = 5 ∨ n = 6 ∨ n = 7 by omega) with rfl | rfl | rfl | rfl | rfl | rfl | rfl | rfl <;> decide
def gAl : Nat → Nat → Nat → Nat
  | 0, _, al => al
  | k + 1, kk, al => gAl k (kk + 1) (al * kk)
theorem gAl_fct : ∀ n, n ≤ 7 → gAl (n - 1) 2 1 = gFct n := by
  intro n h
  rcases (show n = 0 ∨ n = 1 ∨ n = 2 ∨ n = 3 ∨ n = 4 ∨ n = 5 ∨ n = 6 ∨ n = 7 by omega) with rfl | rfl | rfl | rfl | rfl | rfl | rfl | rfl <;> decide
def gNth (used : Nat) : Nat → Nat → Nat → Nat
  | 0, j, _ => j
  | f + 1, j, sk => if gHolds (nI used) (nI j) = true then gNth used f (j + 1) sk else if sk = 0 then j else gNth used f (j + 1) (sk - 1)
theorem gNth_t {used f j sk : Nat} (h : gHolds (nI used) (nI j) = true) : gNth used (f + 1) j sk = gNth used f (j + 1) sk := if_pos h
theorem gNth_z {used f j sk : Nat} (h : gHolds (nI used) (nI j) = false) (h2 : sk = 0) : gNth used (f + 1) j sk = j := (if_neg (by rw [h]; decide)).trans (if_pos h2)
theorem gNth_s {used f j sk : Nat} (h : gHolds (nI used) (nI j) = false) (h2 : 0 < sk) : gNth used (f + 1) j sk = gNth used f (j + 1) (sk - 1) := (if_neg (by rw [h]; decide)).trans (if_neg (by omega))
/-- how many of f places from j on are not used -/
def gUn (used : Nat) : Nat → Nat → Nat
  | 0, _ => 0
  | f + 1, j => (if gHolds (nI used) (nI j) = true then 0 else 1) + gUn used f (j + 1)
theorem gUn_t {used f j : Nat} (h : gHolds (nI used) (nI j) = true) : gUn used (f + 1) j = gUn used f (j + 1) := by
  show (if _ then 0 else 1) + _ = _
  rw [if_pos h, Nat.zero_add]
theorem gUn_f {used f j : Nat} (h : gHolds (nI used) (nI j) = false) : gUn used (f + 1) j = gUn used f (j + 1) + 1 := by
  show (if _ then 0 else 1) + _ = _
  rw [if_neg (by rw [h]; decide), Nat.add_comm]
theorem gUn_0 : ∀ f j, j + f ≤ 8 → gUn 0 f j = f := by
  intro f
  induction f with
  | zero => intro j _; rfl
  | succ f ih =>
    intro j h
    rw [gUn_f (by rw [gHolds_tb (by decide) (by omega), Nat.zero_testBit]), ih (j + 1) (by omega)]
theorem gUn_le (used : Nat) : ∀ f j, gUn used f j ≤ f := by
  intro f
  induction f with
  | zero => intro j; exact Nat.le_refl _
  | succ f ih =>
    intro j
    have := ih (j + 1)
    show (if _ then 0 else 1) + _ ≤ _
    split <;> omega
theorem gNth_spec {used : Nat} : ∀ f j sk, sk < gUn used f j → j ≤ gNth used f j sk ∧ gNth used f j sk < j + f ∧ gHolds (nI used) (nI (gNth used f j sk)) = false := by
  intro f
  induction f with
  | zero => intro j sk h; exact absurd h (Nat.not_lt_zero _)
  | succ f ih =>
    intro j sk h
    cases hb : gHolds (nI used) (nI j) with
    | true =>
      rw [gUn_t hb] at h
      rw [gNth_t hb]
      have := ih (j + 1) sk h
      exact ⟨by omega, by omega, this.2.2⟩
    | false =>
      rw [gUn_f hb] at h
      by_cases h0 : sk = 0
      · rw [gNth_z hb h0]
        exact ⟨by omega, by omega, hb⟩
      · rw [gNth_s hb (by omega)]
        have := ih (j + 1) (sk - 1) (by omega)
        exact ⟨by omega, by omega, this.2.2⟩
theorem gHolds_or {used x j : Nat} (hu : used < 128) (hx : x < 7) (hj : j < 8) : gHolds (nI (used ||| 1 * 2 ^ x)) (nI j) = (gHolds (nI used) (nI j) || decide (x = j)) := by
  rw [gHolds_tb (gOr hu hx) hj, gHolds_tb hu hj, Nat.testBit_or, Nat.one_mul, Nat.testBit_two_pow]
theorem gUn_or {used x : Nat} (hu : used < 128) (hx : x < 7) (hb : gHolds (nI used) (nI x) = false) : ∀ f j, j + f ≤ 8 → (j ≤ x ∧ x < j + f → gUn (used ||| 1 * 2 ^ x) f j + 1 = gUn used f j) ∧ (¬ (j ≤ x ∧ x < j + f) → gUn (used ||| 1 * 2 ^ x) f j = gUn used f j) := by
  intro f
  induction f with
  | zero => intro j _; exact ⟨fun h => by omega, fun _ => rfl⟩
  | succ f ih =>
    intro j h
    have hi := ih (j + 1) (by omega)
    have ho := gHolds_or hu hx (show j < 8 by omega)
    by_cases hxj : x = j
    · subst hxj
      rw [hb, decide_eq_true rfl] at ho
      rw [gUn_t (by rw [ho]; rfl), gUn_f hb, hi.2 (by omega)]
      exact ⟨fun _ => rfl, fun q => by omega⟩
    · rw [decide_eq_false hxj, Bool.or_false] at ho
      cases hb2 : gHolds (nI used) (nI j) with
      | true =>
        rw [gUn_t (by rw [ho, hb2]), gUn_t hb2]
        exact ⟨fun q => hi.1 ⟨by omega, by omega⟩, fun q => hi.2 (by omega)⟩
      | false =>
        rw [gUn_f (by rw [ho, hb2]), gUn_f hb2]
        exact ⟨fun q => by rw [← hi.1 ⟨by omega, by omega⟩], fun q => by rw [hi.2 (by omega)]⟩
/-- the row number left, from place i on, with the jobs of used laid -/
def gLay (jn : Nat) : Nat → Nat → Nat → Nat → (Nat → Nat) → Nat → Nat
  | 0, _, _, _, ro => ro
  | k + 1, i, left, used, ro => gLay jn k (i + 1) (left % gFct k) (used ||| 1 * 2 ^ (gNth used jn 0 (left / gFct k))) (vf_upd ro i (gNth used jn 0 (left / gFct k)))
theorem gLay_lt {jn : Nat} (hj : jn ≤ 7) : ∀ k i left used (ro : Nat → Nat), i + k = jn → (∀ m, m < i → ro m < 7) → left < gFct k → used < 128 → gUn used jn 0 = k → ∀ m, m < jn → gLay jn k i left used ro m < 7 := by
  intro k
  induction k with
  | zero => intro i left used ro hi hm _ _ _ m h; exact hm m (by omega)
  | succ k ih =>
    intro i left used ro hi hm hl hu hun
    have q2 := gFct_le (show k ≤ 7 by omega)
    have q3 : left / gFct k < k + 1 := Nat.div_lt_of_lt_mul (by rw [Nat.mul_comm]; exact hl)
    have hJ := gNth_spec jn 0 (left / gFct k) (by rw [hun]; exact q3)
    have q6 := gUn_or hu (show gNth used jn 0 (left / gFct k) < 7 by omega) hJ.2.2 jn 0 (by omega)
    refine ih (i + 1) _ _ _ (by omega) (fun m hmi => ?_) (Nat.mod_lt _ (by omega)) (gOr hu (by omega)) (by have q7 := q6.1 ⟨by omega, by omega⟩; omega)
    by_cases e : m = i
    · simp only [vf_upd, if_pos e]; omega
    · simp only [vf_upd, if_neg e]; exact hm m (by omega)
theorem gLay_in {jn n : Nat} (hj : jn ≤ 7) (hn : n < gFct jn) (ro : Nat → Nat) : ∀ i, i < jn → gLay jn jn 0 n 0 ro i < 7 := gLay_lt hj jn 0 n 0 ro (by omega) (fun m h => by omega) hn (by decide) (gUn_0 jn 0 (by omega))
def gMc (co : Nat → Nat) (pa wa : Nat → Int32) (ro : Nat → Nat) : Nat → Nat → Int32 → Nat → Int32 → Int32
  | 0, _, cst, _, _ => cst
  | k + 1, i, cst, cl, pp => gMc co pa wa ro k (i + 1) (cst + (wa (4 * cl + co (ro i)) + (if pa (ro i) = pp then nI 0 else nI 5))) (co (ro i)) (pa (ro i))
theorem gMc_s {co : Nat → Nat} {pa wa : Nat → Int32} {ro : Nat → Nat} {k i cl : Nat} {cst pp : Int32} : gMc co pa wa ro (k + 1) i cst cl pp = gMc co pa wa ro k (i + 1) (cst + (wa (4 * cl + co (ro i)) + (if pa (ro i) = pp then nI 0 else nI 5))) (co (ro i)) (pa (ro i)) := rfl
theorem gMc_e {co : Nat → Nat} {pa wa : Nat → Int32} {ro : Nat → Nat} {k i cl : Nat} {cst pp : Int32} (h : pa (ro i) = pp) : gMc co pa wa ro (k + 1) i cst cl pp = gMc co pa wa ro k (i + 1) (cst + (wa (4 * cl + co (ro i)) + nI 0)) (co (ro i)) (pa (ro i)) := by
  rw [gMc_s, if_pos h]
theorem gMc_n {co : Nat → Nat} {pa wa : Nat → Int32} {ro : Nat → Nat} {k i cl : Nat} {cst pp : Int32} (h : ¬ pa (ro i) = pp) : gMc co pa wa ro (k + 1) i cst cl pp = gMc co pa wa ro k (i + 1) (cst + (wa (4 * cl + co (ro i)) + nI 5)) (co (ro i)) (pa (ro i)) := by
  rw [gMc_s, if_neg h]
def gCp (ro : Nat → Nat) : Nat → Nat → (Nat → Nat) → Nat → Nat
  | 0, _, be => be
  | k + 1, j, be => gCp ro k (j + 1) (vf_upd be j (ro j))
/-- the costs of row n -/
def gMcs (jn : Nat) (co : Nat → Nat) (pa wa : Nat → Int32) (n : Nat) (u : Int32 × (Nat → Nat) × (Nat → Nat)) : Int32 := gMc co pa wa (gLay jn jn 0 n 0 u.2.1) jn 0 (nI 0) 0 (nI 0)
def gMo (jn : Nat) (co : Nat → Nat) (pa wa : Nat → Int32) : Nat → Nat → Int32 × (Nat → Nat) × (Nat → Nat) → Int32 × (Nat → Nat) × (Nat → Nat)
  | 0, _, u => u
  | k + 1, n, u => gMo jn co pa wa k (n + 1) (if u.1 < 0 ∨ ¬ u.1 ≤ gMcs jn co pa wa n u then (gMcs jn co pa wa n u, gLay jn jn 0 n 0 u.2.1, gCp (gLay jn jn 0 n 0 u.2.1) jn 0 u.2.2) else (u.1, gLay jn jn 0 n 0 u.2.1, u.2.2))
theorem gMo_1 {jn k n : Nat} {co : Nat → Nat} {pa wa : Nat → Int32} {u : Int32 × (Nat → Nat) × (Nat → Nat)} (h : u.1 < 0) : gMo jn co pa wa (k + 1) n u = gMo jn co pa wa k (n + 1) (gMcs jn co pa wa n u, gLay jn jn 0 n 0 u.2.1, gCp (gLay jn jn 0 n 0 u.2.1) jn 0 u.2.2) := by
  show gMo jn co pa wa k (n + 1) (if _ then _ else _) = _
  rw [if_pos (Or.inl h)]
theorem gMo_2 {jn k n : Nat} {co : Nat → Nat} {pa wa : Nat → Int32} {u : Int32 × (Nat → Nat) × (Nat → Nat)} (_h : ¬ u.1 < 0) (h2 : ¬ u.1 ≤ gMcs jn co pa wa n u) : gMo jn co pa wa (k + 1) n u = gMo jn co pa wa k (n + 1) (gMcs jn co pa wa n u, gLay jn jn 0 n 0 u.2.1, gCp (gLay jn jn 0 n 0 u.2.1) jn 0 u.2.2) := by
  show gMo jn co pa wa k (n + 1) (if _ then _ else _) = _
  rw [if_pos (Or.inr h2)]
theorem gMo_3 {jn k n : Nat} {co : Nat → Nat} {pa wa : Nat → Int32} {u : Int32 × (Nat → Nat) × (Nat → Nat)} (h : ¬ u.1 < 0) (h2 : u.1 ≤ gMcs jn co pa wa n u) : gMo jn co pa wa (k + 1) n u = gMo jn co pa wa k (n + 1) (u.1, gLay jn jn 0 n 0 u.2.1, u.2.2) := by
  show gMo jn co pa wa k (n + 1) (if _ then _ else _) = _
  rw [if_neg (fun q => q.elim h (fun z => z h2))]
set_option maxHeartbeats 4000000 in
set_option maxRecDepth 100000 in
theorem k_X8_layRow {l : Launch} {D : va_G} {cI cZ : ClassId} {A : Nat → Prop} {g a : Nat → Nat} {G0 : va_W} {zn : Nat} {tr : Nat} {sc : Nat} {pn : Nat} {mn : Nat} {jn : Nat} {sg : Int32} {sr : Int32} {ss : Int32} {fed : Int32} {pap : Int32} {bar : Int32} {st : Bool} {q1 : Int64} {q2 : Int64} {q3 : Int64} {q4 : Int64} {q5 : Int64} {ro : Nat → Nat} {nn : Nat} {al : Nat} (hD : va_D A G0) (w22 : G0[22]? = some (a 22, .inr (8, [.int (nI (zn)), .int (nI (tr)), .ref (a 23), .ref (a 24), .ref (a 25), .ref (a 26), .ref (a 27), .ref (a 28), .ref (a 29), .int (nI (sc)), .int (sg), .int (sr), .int (ss), .int (fed), .int (pap), .int (bar), .int (gB (st)), .ref (a 30), .ref (a 31), .ref (a 32), .int (nI (pn)), .ref (a 33), .ref (a 34), .ref (a 35), .ref (a 36), .int (nI (mn)), .long (q1), .long (q2), .long (q3), .long (q4), .long (q5), .ref (a 37), .ref (a 38), .ref (a 39), .int (nI (jn)), .ref (a 40), .ref (a 41)]))) (w40 : G0[40]? = some (a 40, .inl (cI, 7, .inl (fun j => nI ((ro) j))))) (hj : jn ≤ 7) (hal : al = gFct jn) (hnn : nn < al) : gMv l D cI cZ A g yX8_layRow wsX8_layRow ({ frames := 0, cells := 0, slots := 0, locals := 0 }) [.ref (a 22), .int (nI (nn)), .int (nI (al))] G0 (fun G1 => G1[40]? = some (a 40, .inl (cI, 7, .inl (fun j => nI ((gLay jn jn 0 nn 0 ro) j)))) ∧ ∀ k, k ∉ [40] → G1[k]? = G0[k]?) := by
  refine gof_v (cc := cX8_layRow) (maxL := 9) (by decide) rfl (Nat.le_of_ble_eq_true rfl) hD ?_
  intro p e s m args below meth c Q hx hb hml hts hown hK hN hZ hP hS hret ls hl
  have hown : s.vm.findClass RX8 = some m.cls := hown
  have hl : lv_has ls 9 [(0, .ref (a 22)), (1, .int (nI (nn))), (2, .int (nI (al)))] := hl
  obtain ⟨locs, elocs⟩ : ∃ q : List Loc, q = [] := ⟨_, rfl⟩
  rw [← elocs] at hS ⊢
  obtain ⟨H, eH⟩ : ∃ q : Heap, q = s.heap := ⟨_, rfl⟩
  have hP : va_P D vwCl G0 H := eH ▸ hP
  have hS : va_S A s.heap H locs := by rw [eH]; exact hS
  rw [← eH]
  clear elocs eH
  have hiX8 : ∀ w ∈ u_ws RX8 TX8 37, w ∈ wsX8_layRow := by decide +kernel
  have hk : ∀ k, k ∉ [40] → G0[k]? = G0[k]? := fun _ _ => rfl
  refine lv_iload_n (pc := 0) hx hb dX8_layRow_0 rfl (lv_at hl 1 rfl) ?_
  refine lv_istore_n (lv' := [(3, .int (nI (nn))), (0, .ref (a 22)), (1, .int (nI (nn))), (2, .int (nI (al)))]) (pc := 1) hx hb dX8_layRow_1 rfl hl (by decide) rfl (fun ls hl => ?_)
  refine lv_iload_n (pc := 2) hx hb dX8_layRow_2 rfl (lv_at hl 3 rfl) ?_
  refine lv_istore (lv' := [(4, .int (nI (al))), (3, .int (nI (nn))), (0, .ref (a 22)), (1, .int (nI (nn))), (2, .int (nI (al)))]) (pc := 3) hx hb dX8_layRow_3 hl (by decide) rfl (fun ls hl => ?_)
  refine lv_iconst (v := nI (0)) (pc := 5) hx hb dX8_layRow_5 (by decide) ?_
  refine lv_istore (lv' := [(5, .int (nI (0))), (4, .int (nI (al))), (3, .int (nI (nn))), (0, .ref (a 22)), (1, .int (nI (nn))), (2, .int (nI (al)))]) (pc := 6) hx hb dX8_layRow_6 hl (by decide) rfl (fun ls hl => ?_)
  refine lv_iconst (v := nI (0)) (pc := 8) hx hb dX8_layRow_8 (by decide) ?_
  refine lv_istore (lv' := [(6, .int (nI (0))), (5, .int (nI (0))), (4, .int (nI (al))), (3, .int (nI (nn))), (0, .ref (a 22)), (1, .int (nI (nn))), (2, .int (nI (al)))]) (pc := 9) hx hb dX8_layRow_9 hl (by decide) rfl (fun ls hl => ?_)
  have hF := gFct_le hj
  have LP : ∀ (k : Nat) (i : Nat) (left : Nat) (share : Nat) (used : Nat) (ro : Nat → Nat), i + k = jn → share = gFct k → left < share → used < 128 → gUn used jn 0 = k → ∀ (G : va_W) (H : Heap) (locs : List Loc) (ls : Array Slot), va_P D vwCl G H → va_D A G → va_S A s.heap H locs → (∀ j, j ∉ [40] → G[j]? = G0[j]?) → G[22]? = some (a 22, .inr (8, [.int (nI (zn)), .int (nI (tr)), .ref (a 23), .ref (a 24), .ref (a 25), .ref (a 26), .ref (a 27), .ref (a 28), .ref (a 29), .int (nI (sc)), .int (sg), .int (sr), .int (ss), .int (fed), .int (pap), .int (bar), .int (gB (st)), .ref (a 30), .ref (a 31), .ref (a 32), .int (nI (pn)), .ref (a 33), .ref (a 34), .ref (a 35), .ref (a 36), .int (nI (mn)), .long (q1), .long (q2), .long (q3), .long (q4), .long (q5), .ref (a 37), .ref (a 38), .ref (a 39), .int (nI (jn)), .ref (a 40), .ref (a 41)])) → G[40]? = some (a 40, .inl (cI, 7, .inl (fun j => nI ((ro) j)))) → lv_has ls 9 [(0, .ref (a 22)), (3, .int (nI (left))), (4, .int (nI (share))), (5, .int (nI (used))), (6, .int (nI (i)))] → (∀ (G : va_W) (H : Heap) (locs : List Loc) (ls : Array Slot), va_P D vwCl G H → va_D A G → va_S A s.heap H locs → (∀ j, j ∉ [40] → G[j]? = G0[j]?) → G[22]? = some (a 22, .inr (8, [.int (nI (zn)), .int (nI (tr)), .ref (a 23), .ref (a 24), .ref (a 25), .ref (a 26), .ref (a 27), .ref (a 28), .ref (a 29), .int (nI (sc)), .int (sg), .int (sr), .int (ss), .int (fed), .int (pap), .int (bar), .int (gB (st)), .ref (a 30), .ref (a 31), .ref (a 32), .int (nI (pn)), .ref (a 33), .ref (a 34), .ref (a 35), .ref (a 36), .int (nI (mn)), .long (q1), .long (q2), .long (q3), .long (q4), .long (q5), .ref (a 37), .ref (a 38), .ref (a 39), .int (nI (jn)), .ref (a 40), .ref (a 41)])) → G[40]? = some (a 40, .inl (cI, 7, .inl (fun j => nI ((gLay jn k i left used ro) j)))) → lv_has ls 9 [(0, .ref (a 22))] → W p l e ({ frames := 0, cells := 0, slots := 0, locals := 0 } : Room) s m args below meth c H locs 0 0 Q (F0 m 113 ls [])) → W p l e ({ frames := 0, cells := 0, slots := 0, locals := 0 } : Room) s m args below meth c H locs 0 0 Q (F0 m 11 ls []) := by
    intro k
    induction k with
    | zero =>
      intro i left share used ro hi hsh hle hus hun G H locs ls hP hD hS hk w22 w40 hl hcont
      refine lv_iload (pc := 11) hx hb dX8_layRow_11 (lv_at hl 4 rfl) ?_
      refine lv_aload_n (pc := 13) hx hb dX8_layRow_13 rfl (lv_at hl 0 rfl) ?_
      refine va_get (ci := 8) (C := RX8) (T := TX8) (N := 37) (pc := 14) hx hb hts hiX8 hown hK hP 22 w22 rfl 34 (by decide) (hts (.fieldLink RX8 193 "InkPressModel" "jobs" "I") (by decide +kernel)) (fun _ h9 => h9) rfl dX8_layRow_14 ?_
      refine mx_cge (tgt := 113) (pc := 17) hx hb (by omega) (by omega) dX8_layRow_17 (by decide) (fun c17 => ?_) (fun c17 => absurd c17 (by omega))
      exact hcont G H locs ls hP hD hS hk w22 w40 (lv_sub hl [0] rfl)
    | succ k ih =>
      intro i left share used ro hi hsh hle hus hun G H locs ls hP hD hS hk w22 w40 hl hcont
      subst hsh
      have tq1 : gFct (k + 1) = (k + 1) * gFct k := rfl
      have tq2 := gFct_le (show k ≤ 7 by omega)
      have tq5 := gFct_le (show k + 1 ≤ 7 by omega)
      refine lv_iload (pc := 11) hx hb dX8_layRow_11 (lv_at hl 4 rfl) ?_
      refine lv_aload_n (pc := 13) hx hb dX8_layRow_13 rfl (lv_at hl 0 rfl) ?_
      refine va_get (ci := 8) (C := RX8) (T := TX8) (N := 37) (pc := 14) hx hb hts hiX8 hown hK hP 22 w22 rfl 34 (by decide) (hts (.fieldLink RX8 193 "InkPressModel" "jobs" "I") (by decide +kernel)) (fun _ h9 => h9) rfl dX8_layRow_14 ?_
      refine mx_cge (tgt := 113) (pc := 17) hx hb (by omega) (by omega) dX8_layRow_17 (by decide) (fun c17 => absurd c17 (by omega)) (fun c17 => ?_)
      refine lv_iload (pc := 20) hx hb dX8_layRow_20 (lv_at hl 2 rfl) ?_
      refine lv_aload_n (pc := 22) hx hb dX8_layRow_22 rfl (lv_at hl 0 rfl) ?_
      refine va_get (ci := 8) (C := RX8) (T := TX8) (N := 37) (pc := 23) hx hb hts hiX8 hown hK hP 22 w22 rfl 34 (by decide) (hts (.fieldLink RX8 193 "InkPressModel" "jobs" "I") (by decide +kernel)) (fun _ h9 => h9) rfl dX8_layRow_23 ?_
      refine lv_iload (pc := 26) hx hb dX8_layRow_26 (lv_at hl 4 rfl) ?_
      refine mx_isub (pc := 28) hx hb (by omega) dX8_layRow_28 ?_
      refine mx_idiv (pc := 29) hx hb (by omega) (by omega) (by omega) dX8_layRow_29 ?_
      refine lv_istore (lv' := [(4, .int (nI ((gFct (k + 1)) / ((jn) - (i))))), (0, .ref (a 22)), (3, .int (nI (left))), (5, .int (nI (used))), (6, .int (nI (i)))]) (pc := 30) hx hb dX8_layRow_30 hl (by decide) rfl (fun ls hl => ?_)
      have esh : gFct (k + 1) / (jn - i) = gFct k := by rw [show jn - i = k + 1 by omega, tq1]; exact Nat.mul_div_cancel_left _ (by omega)
      rw [esh] at hl
      refine lv_iload_n (pc := 32) hx hb dX8_layRow_32 rfl (lv_at hl 2 rfl) ?_
      refine lv_iload (pc := 33) hx hb dX8_layRow_33 (lv_at hl 0 rfl) ?_
      refine mx_idiv (pc := 35) hx hb (by omega) (by omega) (by omega) dX8_layRow_35 ?_
      refine lv_istore (lv' := [(7, .int (nI ((left) / (gFct k)))), (4, .int (nI (gFct k))), (0, .ref (a 22)), (3, .int (nI (left))), (5, .int (nI (used))), (6, .int (nI (i)))]) (pc := 36) hx hb dX8_layRow_36 hl (by decide) rfl (fun ls hl => ?_)
      refine lv_iload_n (pc := 38) hx hb dX8_layRow_38 rfl (lv_at hl 3 rfl) ?_
      refine lv_iload (pc := 39) hx hb dX8_layRow_39 (lv_at hl 1 rfl) ?_
      refine mx_irem (pc := 41) hx hb (by omega) (by omega) (by omega) dX8_layRow_41 ?_
      refine lv_istore_n (lv' := [(3, .int (nI ((left) % (gFct k)))), (7, .int (nI ((left) / (gFct k)))), (4, .int (nI (gFct k))), (0, .ref (a 22)), (5, .int (nI (used))), (6, .int (nI (i)))]) (pc := 42) hx hb dX8_layRow_42 rfl hl (by decide) rfl (fun ls hl => ?_)
      refine lv_iconst (v := nI (0)) (pc := 43) hx hb dX8_layRow_43 (by decide) ?_
      refine lv_istore (lv' := [(8, .int (nI (0))), (3, .int (nI ((left) % (gFct k)))), (7, .int (nI ((left) / (gFct k)))), (4, .int (nI (gFct k))), (0, .ref (a 22)), (5, .int (nI (used))), (6, .int (nI (i)))]) (pc := 44) hx hb dX8_layRow_44 hl (by decide) rfl (fun ls hl => ?_)
      have tq3 : left / gFct k < k + 1 := Nat.div_lt_of_lt_mul (by rw [Nat.mul_comm, ← tq1]; exact hle)
      have tq4 : left % gFct k < gFct k := Nat.mod_lt _ (by omega)
      have LJ : ∀ (f : Nat) (j : Nat) (sk : Nat), j + f = jn → sk < gUn used f j → ∀ (G : va_W) (H : Heap) (locs : List Loc) (ls : Array Slot), va_P D vwCl G H → va_D A G → va_S A s.heap H locs → (∀ j, j ∉ [40] → G[j]? = G0[j]?) → G[22]? = some (a 22, .inr (8, [.int (nI (zn)), .int (nI (tr)), .ref (a 23), .ref (a 24), .ref (a 25), .ref (a 26), .ref (a 27), .ref (a 28), .ref (a 29), .int (nI (sc)), .int (sg), .int (sr), .int (ss), .int (fed), .int (pap), .int (bar), .int (gB (st)), .ref (a 30), .ref (a 31), .ref (a 32), .int (nI (pn)), .ref (a 33), .ref (a 34), .ref (a 35), .ref (a 36), .int (nI (mn)), .long (q1), .long (q2), .long (q3), .long (q4), .long (q5), .ref (a 37), .ref (a 38), .ref (a 39), .int (nI (jn)), .ref (a 40), .ref (a 41)])) → G[40]? = some (a 40, .inl (cI, 7, .inl (fun j => nI ((ro) j)))) → lv_has ls 9 [(0, .ref (a 22)), (3, .int (nI (left % gFct k))), (4, .int (nI (gFct k))), (5, .int (nI (used))), (6, .int (nI (i))), (7, .int (nI (sk))), (8, .int (nI (j)))] → (∀ (G : va_W) (H : Heap) (locs : List Loc) (ls : Array Slot), va_P D vwCl G H → va_D A G → va_S A s.heap H locs → (∀ j, j ∉ [40] → G[j]? = G0[j]?) → G[22]? = some (a 22, .inr (8, [.int (nI (zn)), .int (nI (tr)), .ref (a 23), .ref (a 24), .ref (a 25), .ref (a 26), .ref (a 27), .ref (a 28), .ref (a 29), .int (nI (sc)), .int (sg), .int (sr), .int (ss), .int (fed), .int (pap), .int (bar), .int (gB (st)), .ref (a 30), .ref (a 31), .ref (a 32), .int (nI (pn)), .ref (a 33), .ref (a 34), .ref (a 35), .ref (a 36), .int (nI (mn)), .long (q1), .long (q2), .long (q3), .long (q4), .long (q5), .ref (a 37), .ref (a 38), .ref (a 39), .int (nI (jn)), .ref (a 40), .ref (a 41)])) → G[40]? = some (a 40, .inl (cI, 7, .inl (fun j => nI ((ro) j)))) → lv_has ls 9 [(0, .ref (a 22)), (3, .int (nI (left % gFct k))), (4, .int (nI (gFct k))), (5, .int (nI (used))), (6, .int (nI (i))), (8, .int (nI (gNth used f j sk)))] → W p l e ({ frames := 0, cells := 0, slots := 0, locals := 0 } : Room) s m args below meth c H locs 0 0 Q (F0 m 89 ls [])) → W p l e ({ frames := 0, cells := 0, slots := 0, locals := 0 } : Room) s m args below meth c H locs 0 0 Q (F0 m 46 ls []) := by
        intro f
        induction f with
        | zero =>
          intro j sk hjf hsk G H locs ls hP hD hS hk w22 w40 hl hcont
          exact absurd hsk (Nat.not_lt_zero _)
        | succ f ih =>
          intro j sk hjf hsk G H locs ls hP hD hS hk w22 w40 hl hcont
          have tq8 := gUn_le used (f + 1) j
          refine lv_iload (pc := 46) hx hb dX8_layRow_46 (lv_at hl 3 rfl) ?_
          refine lv_iload (pc := 48) hx hb dX8_layRow_48 (lv_at hl 6 rfl) ?_
          refine lv_ishr (pc := 50) hx hb dX8_layRow_50 ?_
          refine lv_iconst (v := nI (1)) (pc := 51) hx hb dX8_layRow_51 (by decide) ?_
          refine lv_iand (pc := 52) hx hb dX8_layRow_52 ?_
          refine lv_iconst (v := nI (1)) (pc := 53) hx hb dX8_layRow_53 (by decide) ?_
          refine lv_icmp_eq (tgt := 62) (pc := 54) hx hb dX8_layRow_54 (by decide) (fun c54 => ?_) (fun c54 => ?_)
          · skip
            have e54 := gHolds_eq c54
            refine lv_iload (pc := 62) hx hb dX8_layRow_62 (lv_at hl 5 rfl) ?_
            refine lv_iload (pc := 64) hx hb dX8_layRow_64 (lv_at hl 3 rfl) ?_
            refine lv_iload (pc := 66) hx hb dX8_layRow_66 (lv_at hl 6 rfl) ?_
            refine lv_ishr (pc := 68) hx hb dX8_layRow_68 ?_
            refine lv_iconst (v := nI (1)) (pc := 69) hx hb dX8_layRow_69 (by decide) ?_
            refine lv_iand (pc := 70) hx hb dX8_layRow_70 ?_
            refine lv_iconst (v := nI (1)) (pc := 71) hx hb dX8_layRow_71 (by decide) ?_
            refine lv_icmp_ne (tgt := 79) (pc := 72) hx hb dX8_layRow_72 (by decide) (fun c72 => absurd c54 c72) (fun c72 => ?_)
            refine lv_iconst (v := nI (0)) (pc := 75) hx hb dX8_layRow_75 (by decide) ?_
            refine lv_goto (tgt := 80) (pc := 76) hx hb dX8_layRow_76 (by decide) ?_
            refine mx_isub (pc := 80) hx hb (by omega) dX8_layRow_80 ?_
            refine lv_istore (lv' := [(7, .int (nI ((sk) - (0)))), (0, .ref (a 22)), (3, .int (nI (left % gFct k))), (4, .int (nI (gFct k))), (5, .int (nI (used))), (6, .int (nI (i))), (8, .int (nI (j)))]) (pc := 81) hx hb dX8_layRow_81 hl (by decide) rfl (fun ls hl => ?_)
            refine lv_iinc (v := nI (j + 1)) (lv' := [(8, .int (nI (j + 1))), (7, .int (nI ((sk) - (0)))), (0, .ref (a 22)), (3, .int (nI (left % gFct k))), (4, .int (nI (gFct k))), (5, .int (nI (used))), (6, .int (nI (i)))]) (pc := 83) hx hb dX8_layRow_83 hl (k := 6) rfl (mx_inc1 _) (by decide) rfl (fun ls hl => ?_)
            refine lv_goto (tgt := 46) (pc := 86) hx hb dX8_layRow_86 (by decide) ?_
            rw [gNth_t e54] at hcont
            rw [gUn_t e54] at hsk
            exact ih (j + 1) ((sk) - (0)) (by omega) (by omega) G H locs ls hP hD hS hk w22 w40 (lv_sub hl [2, 3, 4, 5, 6, 1, 0] rfl) hcont
          · skip
            have e54 := gHolds_ne c54
            refine lv_iload (pc := 57) hx hb dX8_layRow_57 (lv_at hl 5 rfl) ?_
            refine mx_nle (tgt := 89) (pc := 59) hx hb (by omega) dX8_layRow_59 (by decide) (fun c59 => ?_) (fun c59 => ?_)
            · skip
              rw [gNth_z e54 c59] at hcont
              exact hcont G H locs ls hP hD hS hk w22 w40 (lv_sub hl [0, 1, 2, 3, 4, 6] rfl)
            · skip
              refine lv_iload (pc := 62) hx hb dX8_layRow_62 (lv_at hl 5 rfl) ?_
              refine lv_iload (pc := 64) hx hb dX8_layRow_64 (lv_at hl 3 rfl) ?_
              refine lv_iload (pc := 66) hx hb dX8_layRow_66 (lv_at hl 6 rfl) ?_
              refine lv_ishr (pc := 68) hx hb dX8_layRow_68 ?_
              refine lv_iconst (v := nI (1)) (pc := 69) hx hb dX8_layRow_69 (by decide) ?_
              refine lv_iand (pc := 70) hx hb dX8_layRow_70 ?_
              refine lv_iconst (v := nI (1)) (pc := 71) hx hb dX8_layRow_71 (by decide) ?_
              refine lv_icmp_ne (tgt := 79) (pc := 72) hx hb dX8_layRow_72 (by decide) (fun c72 => ?_) (fun c72 => absurd c72 c54)
              refine lv_iconst (v := nI (1)) (pc := 79) hx hb dX8_layRow_79 (by decide) ?_
              refine mx_isub (pc := 80) hx hb (by omega) dX8_layRow_80 ?_
              refine lv_istore (lv' := [(7, .int (nI ((sk) - (1)))), (0, .ref (a 22)), (3, .int (nI (left % gFct k))), (4, .int (nI (gFct k))), (5, .int (nI (used))), (6, .int (nI (i))), (8, .int (nI (j)))]) (pc := 81) hx hb dX8_layRow_81 hl (by decide) rfl (fun ls hl => ?_)
              refine lv_iinc (v := nI (j + 1)) (lv' := [(8, .int (nI (j + 1))), (7, .int (nI ((sk) - (1)))), (0, .ref (a 22)), (3, .int (nI (left % gFct k))), (4, .int (nI (gFct k))), (5, .int (nI (used))), (6, .int (nI (i)))]) (pc := 83) hx hb dX8_layRow_83 hl (k := 6) rfl (mx_inc1 _) (by decide) rfl (fun ls hl => ?_)
              refine lv_goto (tgt := 46) (pc := 86) hx hb dX8_layRow_86 (by decide) ?_
              rw [gNth_s e54 (by omega)] at hcont
              rw [gUn_f e54] at hsk
              exact ih (j + 1) ((sk) - (1)) (by omega) (by omega) G H locs ls hP hD hS hk w22 w40 (lv_sub hl [2, 3, 4, 5, 6, 1, 0] rfl) hcont
      refine LJ jn (0) (left / gFct k) (by omega) (by rw [hun]; exact tq3) G H locs ls hP hD hS hk w22 w40 (lv_sub hl [4, 1, 3, 5, 6, 2, 0] rfl) (fun G H locs ls hP hD hS hk w22 w40 hl => ?_)
      have hJ := gNth_spec jn 0 (left / gFct k) (show left / gFct k < gUn used jn 0 by rw [hun]; exact tq3)
      refine lv_aload_n (pc := 89) hx hb dX8_layRow_89 rfl (lv_at hl 0 rfl) ?_
      refine va_get (ci := 8) (C := RX8) (T := TX8) (N := 37) (pc := 90) hx hb hts hiX8 hown hK hP 22 w22 rfl 35 (by decide) (hts (.fieldLink RX8 72 "InkPressModel" "row" "[I") (by decide +kernel)) (fun _ h9 => h9) rfl dX8_layRow_90 ?_
      refine lv_iload (pc := 93) hx hb dX8_layRow_93 (lv_at hl 4 rfl) ?_
      refine lv_iload (pc := 95) hx hb dX8_layRow_95 (lv_at hl 5 rfl) ?_
      refine mx_iast (x := nI (gNth used jn 0 (left / gFct k))) (pc := 97) hx hb hK hP hD hS 40 w40 (i) (by omega) (by decide) dX8_layRow_97 (fun H locs G hP hD hS w40 ho => ?_)
      rw [gUpdN] at w40
      have w22 := (ho 22 (by decide)).trans w22
      have w40 : G[40]? = some (a 40, .inl (cI, 7, .inl (fun j => nI ((vf_upd (ro) (i) (gNth used jn 0 (left / gFct k))) j)))) := w40
      have hk := gk_step hk ho (by decide)
      clear ho
      refine lv_iload (pc := 98) hx hb dX8_layRow_98 (lv_at hl 3 rfl) ?_
      refine lv_iconst (v := nI (1)) (pc := 100) hx hb dX8_layRow_100 (by decide) ?_
      refine lv_iload (pc := 101) hx hb dX8_layRow_101 (lv_at hl 5 rfl) ?_
      refine mx_ishl (pc := 103) hx hb (by omega) (gP2 (by omega)) dX8_layRow_103 ?_
      refine mx_ior (pc := 104) hx hb dX8_layRow_104 ?_
      refine lv_istore (lv' := [(5, .int (nI ((used) ||| ((1) * 2 ^ (gNth used jn 0 (left / gFct k)))))), (0, .ref (a 22)), (3, .int (nI (left % gFct k))), (4, .int (nI (gFct k))), (6, .int (nI (i))), (8, .int (nI (gNth used jn 0 (left / gFct k))))]) (pc := 105) hx hb dX8_layRow_105 hl (by decide) rfl (fun ls hl => ?_)
      refine lv_iinc (v := nI (i + 1)) (lv' := [(6, .int (nI (i + 1))), (5, .int (nI ((used) ||| ((1) * 2 ^ (gNth used jn 0 (left / gFct k)))))), (0, .ref (a 22)), (3, .int (nI (left % gFct k))), (4, .int (nI (gFct k))), (8, .int (nI (gNth used jn 0 (left / gFct k))))]) (pc := 107) hx hb dX8_layRow_107 hl (k := 4) rfl (mx_inc1 _) (by decide) rfl (fun ls hl => ?_)
      refine lv_goto (tgt := 11) (pc := 110) hx hb dX8_layRow_110 (by decide) ?_
      have tq6 := gUn_or hus (show gNth used jn 0 (left / gFct k) < 7 by omega) hJ.2.2 jn 0 (by omega)
      exact ih (i + 1) (left % gFct k) (gFct k) (used ||| 1 * 2 ^ (gNth used jn 0 (left / gFct k))) (vf_upd ro i (gNth used jn 0 (left / gFct k))) (by omega) rfl tq4 (gOr hus (by omega)) (by have tq7 := tq6.1 ⟨by omega, by omega⟩; omega) G H locs ls hP hD hS hk w22 w40 (lv_sub hl [2, 3, 4, 1, 0] rfl) hcont
  refine LP jn (0) (nn) (al) (0) (ro) (by omega) hal hnn (by decide) (gUn_0 jn 0 (by omega)) G0 H locs ls hP hD hS hk w22 w40 (lv_sub hl [4, 3, 2, 1, 0] rfl) (fun G H locs ls hP hD hS hk w22 w40 hl => ?_)
  have w40 : G[40]? = some (a 40, .inl (cI, 7, .inl (fun j => nI ((gLay jn (jn) (0) (nn) (0) (ro)) j)))) := w40
  exact hret _ _ _ _ _ hP hD hS ⟨w40, hk⟩ dX8_layRow_113
set_option maxHeartbeats 4000000 in
set_option maxRecDepth 100000 in
theorem k_X8_costOf {l : Launch} {D : va_G} {cI cZ : ClassId} {A : Nat → Prop} {g a : Nat → Nat} {G0 : va_W} {zn : Nat} {tr : Nat} {sc : Nat} {pn : Nat} {mn : Nat} {jn : Nat} {sg : Int32} {sr : Int32} {ss : Int32} {fed : Int32} {pap : Int32} {bar : Int32} {st : Bool} {q1 : Int64} {q2 : Int64} {q3 : Int64} {q4 : Int64} {q5 : Int64} {co : Nat → Nat} {pa : Nat → Int32} {wa : Nat → Int32} {ro : Nat → Nat} (hD : va_D A G0) (w22 : G0[22]? = some (a 22, .inr (8, [.int (nI (zn)), .int (nI (tr)), .ref (a 23), .ref (a 24), .ref (a 25), .ref (a 26), .ref (a 27), .ref (a 28), .ref (a 29), .int (nI (sc)), .int (sg), .int (sr), .int (ss), .int (fed), .int (pap), .int (bar), .int (gB (st)), .ref (a 30), .ref (a 31), .ref (a 32), .int (nI (pn)), .ref (a 33), .ref (a 34), .ref (a 35), .ref (a 36), .int (nI (mn)), .long (q1), .long (q2), .long (q3), .long (q4), .long (q5), .ref (a 37), .ref (a 38), .ref (a 39), .int (nI (jn)), .ref (a 40), .ref (a 41)]))) (w37 : G0[37]? = some (a 37, .inl (cI, 7, .inl (fun j => nI ((co) j))))) (w38 : G0[38]? = some (a 38, .inl (cI, 7, .inl (pa)))) (w39 : G0[39]? = some (a 39, .inl (cI, 16, .inl (wa)))) (w40 : G0[40]? = some (a 40, .inl (cI, 7, .inl (fun j => nI ((ro) j))))) (hj : jn ≤ 7) (hco : ∀ j, co j < 4) (hro : ∀ i, i < jn → ro i < 7) : gMi l D cI cZ A g yX8_costOf wsX8_costOf ({ frames := 0, cells := 0, slots := 0, locals := 0 }) [.ref (a 22)] G0 (gMc co pa wa ro jn 0 (nI 0) 0 (nI 0)) (fun G1 => G1 = G0) := by
  refine gof_i (cc := cX8_costOf) (maxL := 5) (by decide) rfl (Nat.le_of_ble_eq_true rfl) hD ?_
  intro p e s m args below meth c Q hx hb hml hts hown hK hN hZ hP hS hret ls hl
  have hown : s.vm.findClass RX8 = some m.cls := hown
  have hl : lv_has ls 5 [(0, .ref (a 22))] := hl
  obtain ⟨locs, elocs⟩ : ∃ q : List Loc, q = [] := ⟨_, rfl⟩
  rw [← elocs] at hS ⊢
  obtain ⟨H, eH⟩ : ∃ q : Heap, q = s.heap := ⟨_, rfl⟩
  have hP : va_P D vwCl G0 H := eH ▸ hP
  have hS : va_S A s.heap H locs := by rw [eH]; exact hS
  rw [← eH]
  clear elocs eH
  have hiX8 : ∀ w ∈ u_ws RX8 TX8 37, w ∈ wsX8_costOf := by decide +kernel
  have hk : ∀ k, k ∉ ([] : List Nat) → G0[k]? = G0[k]? := fun _ _ => rfl
  refine lv_iconst (v := nI (0)) (pc := 0) hx hb dX8_costOf_0 (by decide) ?_
  refine lv_istore_n (lv' := [(1, .int (nI (0))), (0, .ref (a 22))]) (pc := 1) hx hb dX8_costOf_1 rfl hl (by decide) rfl (fun ls hl => ?_)
  refine lv_iconst (v := nI (0)) (pc := 2) hx hb dX8_costOf_2 (by decide) ?_
  refine lv_istore_n (lv' := [(2, .int (nI (0))), (1, .int (nI (0))), (0, .ref (a 22))]) (pc := 3) hx hb dX8_costOf_3 rfl hl (by decide) rfl (fun ls hl => ?_)
  refine lv_iconst (v := nI (0)) (pc := 4) hx hb dX8_costOf_4 (by decide) ?_
  refine lv_istore_n (lv' := [(3, .int (nI (0))), (2, .int (nI (0))), (1, .int (nI (0))), (0, .ref (a 22))]) (pc := 5) hx hb dX8_costOf_5 rfl hl (by decide) rfl (fun ls hl => ?_)
  refine lv_iconst (v := nI (0)) (pc := 6) hx hb dX8_costOf_6 (by decide) ?_
  refine lv_istore (lv' := [(4, .int (nI (0))), (3, .int (nI (0))), (2, .int (nI (0))), (1, .int (nI (0))), (0, .ref (a 22))]) (pc := 7) hx hb dX8_costOf_7 hl (by decide) rfl (fun ls hl => ?_)
  have LP : ∀ (k : Nat) (i : Nat) (cst : Int32) (cl : Nat) (pp : Int32), i + k = jn → cl < 4 → ∀ (H : Heap) (locs : List Loc) (ls : Array Slot), va_P D vwCl G0 H → va_D A G0 → va_S A s.heap H locs → (∀ j, j ∉ ([] : List Nat) → G0[j]? = G0[j]?) → G0[22]? = some (a 22, .inr (8, [.int (nI (zn)), .int (nI (tr)), .ref (a 23), .ref (a 24), .ref (a 25), .ref (a 26), .ref (a 27), .ref (a 28), .ref (a 29), .int (nI (sc)), .int (sg), .int (sr), .int (ss), .int (fed), .int (pap), .int (bar), .int (gB (st)), .ref (a 30), .ref (a 31), .ref (a 32), .int (nI (pn)), .ref (a 33), .ref (a 34), .ref (a 35), .ref (a 36), .int (nI (mn)), .long (q1), .long (q2), .long (q3), .long (q4), .long (q5), .ref (a 37), .ref (a 38), .ref (a 39), .int (nI (jn)), .ref (a 40), .ref (a 41)])) → G0[37]? = some (a 37, .inl (cI, 7, .inl (fun j => nI ((co) j)))) → G0[38]? = some (a 38, .inl (cI, 7, .inl (pa))) → G0[39]? = some (a 39, .inl (cI, 16, .inl (wa))) → G0[40]? = some (a 40, .inl (cI, 7, .inl (fun j => nI ((ro) j)))) → lv_has ls 5 [(0, .ref (a 22)), (1, .int (cst)), (2, .int (nI (cl))), (3, .int (pp)), (4, .int (nI (i)))] → (∀ (H : Heap) (locs : List Loc) (ls : Array Slot), va_P D vwCl G0 H → va_D A G0 → va_S A s.heap H locs → (∀ j, j ∉ ([] : List Nat) → G0[j]? = G0[j]?) → G0[22]? = some (a 22, .inr (8, [.int (nI (zn)), .int (nI (tr)), .ref (a 23), .ref (a 24), .ref (a 25), .ref (a 26), .ref (a 27), .ref (a 28), .ref (a 29), .int (nI (sc)), .int (sg), .int (sr), .int (ss), .int (fed), .int (pap), .int (bar), .int (gB (st)), .ref (a 30), .ref (a 31), .ref (a 32), .int (nI (pn)), .ref (a 33), .ref (a 34), .ref (a 35), .ref (a 36), .int (nI (mn)), .long (q1), .long (q2), .long (q3), .long (q4), .long (q5), .ref (a 37), .ref (a 38), .ref (a 39), .int (nI (jn)), .ref (a 40), .ref (a 41)])) → G0[37]? = some (a 37, .inl (cI, 7, .inl (fun j => nI ((co) j)))) → G0[38]? = some (a 38, .inl (cI, 7, .inl (pa))) → G0[39]? = some (a 39, .inl (cI, 16, .inl (wa))) → G0[40]? = some (a 40, .inl (cI, 7, .inl (fun j => nI ((ro) j)))) → lv_has ls 5 [(1, .int (gMc co pa wa ro k i cst cl pp))] → W p l e ({ frames := 0, cells := 0, slots := 0, locals := 0 } : Room) s m args below meth c H locs 0 0 Q (F0 m 96 ls [])) → W p l e ({ frames := 0, cells := 0, slots := 0, locals := 0 } : Room) s m args below meth c H locs 0 0 Q (F0 m 9 ls []) := by
    intro k
    induction k with
    | zero =>
      intro i cst cl pp hi hcl H locs ls hP hD hS hk w22 w37 w38 w39 w40 hl hcont
      refine lv_iload (pc := 9) hx hb dX8_costOf_9 (lv_at hl 4 rfl) ?_
      refine lv_aload_n (pc := 11) hx hb dX8_costOf_11 rfl (lv_at hl 0 rfl) ?_
      refine va_get (ci := 8) (C := RX8) (T := TX8) (N := 37) (pc := 12) hx hb hts hiX8 hown hK hP 22 w22 rfl 34 (by decide) (hts (.fieldLink RX8 193 "InkPressModel" "jobs" "I") (by decide +kernel)) (fun _ h9 => h9) rfl dX8_costOf_12 ?_
      refine mx_cge (tgt := 96) (pc := 15) hx hb (by omega) (by omega) dX8_costOf_15 (by decide) (fun c15 => ?_) (fun c15 => absurd c15 (by omega))
      exact hcont H locs ls hP hD hS hk w22 w37 w38 w39 w40 (lv_sub hl [1] rfl)
    | succ k ih =>
      intro i cst cl pp hi hcl H locs ls hP hD hS hk w22 w37 w38 w39 w40 hl hcont
      refine lv_iload (pc := 9) hx hb dX8_costOf_9 (lv_at hl 4 rfl) ?_
      refine lv_aload_n (pc := 11) hx hb dX8_costOf_11 rfl (lv_at hl 0 rfl) ?_
      refine va_get (ci := 8) (C := RX8) (T := TX8) (N := 37) (pc := 12) hx hb hts hiX8 hown hK hP 22 w22 rfl 34 (by decide) (hts (.fieldLink RX8 193 "InkPressModel" "jobs" "I") (by decide +kernel)) (fun _ h9 => h9) rfl dX8_costOf_12 ?_
      refine mx_cge (tgt := 96) (pc := 15) hx hb (by omega) (by omega) dX8_costOf_15 (by decide) (fun c15 => absurd c15 (by omega)) (fun c15 => ?_)
      refine lv_iload_n (pc := 18) hx hb dX8_costOf_18 rfl (lv_at hl 1 rfl) ?_
      refine lv_aload_n (pc := 19) hx hb dX8_costOf_19 rfl (lv_at hl 0 rfl) ?_
      refine va_get (ci := 8) (C := RX8) (T := TX8) (N := 37) (pc := 20) hx hb hts hiX8 hown hK hP 22 w22 rfl 33 (by decide) (hts (.fieldLink RX8 69 "InkPressModel" "washes" "[I") (by decide +kernel)) (fun _ h9 => h9) rfl dX8_costOf_20 ?_
      refine lv_iconst (v := nI (4)) (pc := 23) hx hb dX8_costOf_23 (by decide) ?_
      refine lv_iload_n (pc := 24) hx hb dX8_costOf_24 rfl (lv_at hl 2 rfl) ?_
      refine mx_imul (pc := 25) hx hb dX8_costOf_25 ?_
      refine lv_aload_n (pc := 26) hx hb dX8_costOf_26 rfl (lv_at hl 0 rfl) ?_
      refine va_get (ci := 8) (C := RX8) (T := TX8) (N := 37) (pc := 27) hx hb hts hiX8 hown hK hP 22 w22 rfl 31 (by decide) (hts (.fieldLink RX8 63 "InkPressModel" "colour" "[I") (by decide +kernel)) (fun _ h9 => h9) rfl dX8_costOf_27 ?_
      refine lv_aload_n (pc := 30) hx hb dX8_costOf_30 rfl (lv_at hl 0 rfl) ?_
      refine va_get (ci := 8) (C := RX8) (T := TX8) (N := 37) (pc := 31) hx hb hts hiX8 hown hK hP 22 w22 rfl 35 (by decide) (hts (.fieldLink RX8 72 "InkPressModel" "row" "[I") (by decide +kernel)) (fun _ h9 => h9) rfl dX8_costOf_31 ?_
      refine lv_iload (pc := 34) hx hb dX8_costOf_34 (lv_at hl 4 rfl) ?_
      refine mx_iald (pc := 36) hx hb hK hP 40 w40 (i) (by omega) (by decide) dX8_costOf_36 ?_
      refine mx_iald (pc := 37) hx hb hK hP 37 w37 ((ro) (i)) (hro i (by omega)) (by decide) dX8_costOf_37 ?_
      refine mx_iadd (pc := 38) hx hb dX8_costOf_38 ?_
      refine mx_iald (pc := 39) hx hb hK hP 39 w39 ((4) * (cl) + ((co) ((ro) (i)))) (by have q1 := hco (ro i); omega) (by decide) dX8_costOf_39 ?_
      refine lv_aload_n (pc := 40) hx hb dX8_costOf_40 rfl (lv_at hl 0 rfl) ?_
      refine va_get (ci := 8) (C := RX8) (T := TX8) (N := 37) (pc := 41) hx hb hts hiX8 hown hK hP 22 w22 rfl 32 (by decide) (hts (.fieldLink RX8 66 "InkPressModel" "sheetOf" "[I") (by decide +kernel)) (fun _ h9 => h9) rfl dX8_costOf_41 ?_
      refine lv_aload_n (pc := 44) hx hb dX8_costOf_44 rfl (lv_at hl 0 rfl) ?_
      refine va_get (ci := 8) (C := RX8) (T := TX8) (N := 37) (pc := 45) hx hb hts hiX8 hown hK hP 22 w22 rfl 35 (by decide) (hts (.fieldLink RX8 72 "InkPressModel" "row" "[I") (by decide +kernel)) (fun _ h9 => h9) rfl dX8_costOf_45 ?_
      refine lv_iload (pc := 48) hx hb dX8_costOf_48 (lv_at hl 4 rfl) ?_
      refine mx_iald (pc := 50) hx hb hK hP 40 w40 (i) (by omega) (by decide) dX8_costOf_50 ?_
      refine mx_iald (pc := 51) hx hb hK hP 38 w38 ((ro) (i)) (hro i (by omega)) (by decide) dX8_costOf_51 ?_
      refine lv_iload_n (pc := 52) hx hb dX8_costOf_52 rfl (lv_at hl 3 rfl) ?_
      refine lv_icmp_ne (tgt := 60) (pc := 53) hx hb dX8_costOf_53 (by decide) (fun c53 => ?_) (fun c53 => ?_)
      · skip
        refine lv_iconst (v := nI (5)) (pc := 60) hx hb dX8_costOf_60 (by decide) ?_
        refine lv_iadd (pc := 61) hx hb dX8_costOf_61 ?_
        refine lv_iadd (pc := 62) hx hb dX8_costOf_62 ?_
        refine lv_istore_n (lv' := [(1, .int ((cst + ((wa) ((4) * (cl) + ((co) ((ro) (i)))) + nI (5))))), (0, .ref (a 22)), (2, .int (nI (cl))), (3, .int (pp)), (4, .int (nI (i)))]) (pc := 63) hx hb dX8_costOf_63 rfl hl (by decide) rfl (fun ls hl => ?_)
        refine lv_aload_n (pc := 64) hx hb dX8_costOf_64 rfl (lv_at hl 1 rfl) ?_
        refine va_get (ci := 8) (C := RX8) (T := TX8) (N := 37) (pc := 65) hx hb hts hiX8 hown hK hP 22 w22 rfl 31 (by decide) (hts (.fieldLink RX8 63 "InkPressModel" "colour" "[I") (by decide +kernel)) (fun _ h9 => h9) rfl dX8_costOf_65 ?_
        refine lv_aload_n (pc := 68) hx hb dX8_costOf_68 rfl (lv_at hl 1 rfl) ?_
        refine va_get (ci := 8) (C := RX8) (T := TX8) (N := 37) (pc := 69) hx hb hts hiX8 hown hK hP 22 w22 rfl 35 (by decide) (hts (.fieldLink RX8 72 "InkPressModel" "row" "[I") (by decide +kernel)) (fun _ h9 => h9) rfl dX8_costOf_69 ?_
        refine lv_iload (pc := 72) hx hb dX8_costOf_72 (lv_at hl 4 rfl) ?_
        refine mx_iald (pc := 74) hx hb hK hP 40 w40 (i) (by omega) (by decide) dX8_costOf_74 ?_
        refine mx_iald (pc := 75) hx hb hK hP 37 w37 ((ro) (i)) (hro i (by omega)) (by decide) dX8_costOf_75 ?_
        refine lv_istore_n (lv' := [(2, .int (nI ((co) ((ro) (i))))), (1, .int ((cst + ((wa) ((4) * (cl) + ((co) ((ro) (i)))) + nI (5))))), (0, .ref (a 22)), (3, .int (pp)), (4, .int (nI (i)))]) (pc := 76) hx hb dX8_costOf_76 rfl hl (by decide) rfl (fun ls hl => ?_)
        refine lv_aload_n (pc := 77) hx hb dX8_costOf_77 rfl (lv_at hl 2 rfl) ?_
        refine va_get (ci := 8) (C := RX8) (T := TX8) (N := 37) (pc := 78) hx hb hts hiX8 hown hK hP 22 w22 rfl 32 (by decide) (hts (.fieldLink RX8 66 "InkPressModel" "sheetOf" "[I") (by decide +kernel)) (fun _ h9 => h9) rfl dX8_costOf_78 ?_
        refine lv_aload_n (pc := 81) hx hb dX8_costOf_81 rfl (lv_at hl 2 rfl) ?_
        refine va_get (ci := 8) (C := RX8) (T := TX8) (N := 37) (pc := 82) hx hb hts hiX8 hown hK hP 22 w22 rfl 35 (by decide) (hts (.fieldLink RX8 72 "InkPressModel" "row" "[I") (by decide +kernel)) (fun _ h9 => h9) rfl dX8_costOf_82 ?_
        refine lv_iload (pc := 85) hx hb dX8_costOf_85 (lv_at hl 4 rfl) ?_
        refine mx_iald (pc := 87) hx hb hK hP 40 w40 (i) (by omega) (by decide) dX8_costOf_87 ?_
        refine mx_iald (pc := 88) hx hb hK hP 38 w38 ((ro) (i)) (hro i (by omega)) (by decide) dX8_costOf_88 ?_
        refine lv_istore_n (lv' := [(3, .int ((pa) ((ro) (i)))), (2, .int (nI ((co) ((ro) (i))))), (1, .int ((cst + ((wa) ((4) * (cl) + ((co) ((ro) (i)))) + nI (5))))), (0, .ref (a 22)), (4, .int (nI (i)))]) (pc := 89) hx hb dX8_costOf_89 rfl hl (by decide) rfl (fun ls hl => ?_)
        refine lv_iinc (v := nI (i + 1)) (lv' := [(4, .int (nI (i + 1))), (3, .int ((pa) ((ro) (i)))), (2, .int (nI ((co) ((ro) (i))))), (1, .int ((cst + ((wa) ((4) * (cl) + ((co) ((ro) (i)))) + nI (5))))), (0, .ref (a 22))]) (pc := 90) hx hb dX8_costOf_90 hl (k := 4) rfl (mx_inc1 _) (by decide) rfl (fun ls hl => ?_)
        refine lv_goto (tgt := 9) (pc := 93) hx hb dX8_costOf_93 (by decide) ?_
        rw [gMc_n c53] at hcont
        exact ih (i + 1) ((cst + ((wa) ((4) * (cl) + ((co) ((ro) (i)))) + nI (5)))) ((co) ((ro) (i))) ((pa) ((ro) (i))) (by omega) (hco _) H locs ls hP hD hS hk w22 w37 w38 w39 w40 (lv_sub hl [4, 3, 2, 1, 0] rfl) hcont
      · skip
        refine lv_iconst (v := nI (0)) (pc := 56) hx hb dX8_costOf_56 (by decide) ?_
        refine lv_goto (tgt := 61) (pc := 57) hx hb dX8_costOf_57 (by decide) ?_
        refine lv_iadd (pc := 61) hx hb dX8_costOf_61 ?_
        refine lv_iadd (pc := 62) hx hb dX8_costOf_62 ?_
        refine lv_istore_n (lv' := [(1, .int ((cst + ((wa) ((4) * (cl) + ((co) ((ro) (i)))) + nI (0))))), (0, .ref (a 22)), (2, .int (nI (cl))), (3, .int (pp)), (4, .int (nI (i)))]) (pc := 63) hx hb dX8_costOf_63 rfl hl (by decide) rfl (fun ls hl => ?_)
        refine lv_aload_n (pc := 64) hx hb dX8_costOf_64 rfl (lv_at hl 1 rfl) ?_
        refine va_get (ci := 8) (C := RX8) (T := TX8) (N := 37) (pc := 65) hx hb hts hiX8 hown hK hP 22 w22 rfl 31 (by decide) (hts (.fieldLink RX8 63 "InkPressModel" "colour" "[I") (by decide +kernel)) (fun _ h9 => h9) rfl dX8_costOf_65 ?_
        refine lv_aload_n (pc := 68) hx hb dX8_costOf_68 rfl (lv_at hl 1 rfl) ?_
        refine va_get (ci := 8) (C := RX8) (T := TX8) (N := 37) (pc := 69) hx hb hts hiX8 hown hK hP 22 w22 rfl 35 (by decide) (hts (.fieldLink RX8 72 "InkPressModel" "row" "[I") (by decide +kernel)) (fun _ h9 => h9) rfl dX8_costOf_69 ?_
        refine lv_iload (pc := 72) hx hb dX8_costOf_72 (lv_at hl 4 rfl) ?_
        refine mx_iald (pc := 74) hx hb hK hP 40 w40 (i) (by omega) (by decide) dX8_costOf_74 ?_
        refine mx_iald (pc := 75) hx hb hK hP 37 w37 ((ro) (i)) (hro i (by omega)) (by decide) dX8_costOf_75 ?_
        refine lv_istore_n (lv' := [(2, .int (nI ((co) ((ro) (i))))), (1, .int ((cst + ((wa) ((4) * (cl) + ((co) ((ro) (i)))) + nI (0))))), (0, .ref (a 22)), (3, .int (pp)), (4, .int (nI (i)))]) (pc := 76) hx hb dX8_costOf_76 rfl hl (by decide) rfl (fun ls hl => ?_)
        refine lv_aload_n (pc := 77) hx hb dX8_costOf_77 rfl (lv_at hl 2 rfl) ?_
        refine va_get (ci := 8) (C := RX8) (T := TX8) (N := 37) (pc := 78) hx hb hts hiX8 hown hK hP 22 w22 rfl 32 (by decide) (hts (.fieldLink RX8 66 "InkPressModel" "sheetOf" "[I") (by decide +kernel)) (fun _ h9 => h9) rfl dX8_costOf_78 ?_
        refine lv_aload_n (pc := 81) hx hb dX8_costOf_81 rfl (lv_at hl 2 rfl) ?_
        refine va_get (ci := 8) (C := RX8) (T := TX8) (N := 37) (pc := 82) hx hb hts hiX8 hown hK hP 22 w22 rfl 35 (by decide) (hts (.fieldLink RX8 72 "InkPressModel" "row" "[I") (by decide +kernel)) (fun _ h9 => h9) rfl dX8_costOf_82 ?_
        refine lv_iload (pc := 85) hx hb dX8_costOf_85 (lv_at hl 4 rfl) ?_
        refine mx_iald (pc := 87) hx hb hK hP 40 w40 (i) (by omega) (by decide) dX8_costOf_87 ?_
        refine mx_iald (pc := 88) hx hb hK hP 38 w38 ((ro) (i)) (hro i (by omega)) (by decide) dX8_costOf_88 ?_
        refine lv_istore_n (lv' := [(3, .int ((pa) ((ro) (i)))), (2, .int (nI ((co) ((ro) (i))))), (1, .int ((cst + ((wa) ((4) * (cl) + ((co) ((ro) (i)))) + nI (0))))), (0, .ref (a 22)), (4, .int (nI (i)))]) (pc := 89) hx hb dX8_costOf_89 rfl hl (by decide) rfl (fun ls hl => ?_)
        refine lv_iinc (v := nI (i + 1)) (lv' := [(4, .int (nI (i + 1))), (3, .int ((pa) ((ro) (i)))), (2, .int (nI ((co) ((ro) (i))))), (1, .int ((cst + ((wa) ((4) * (cl) + ((co) ((ro) (i)))) + nI (0))))), (0, .ref (a 22))]) (pc := 90) hx hb dX8_costOf_90 hl (k := 4) rfl (mx_inc1 _) (by decide) rfl (fun ls hl => ?_)
        refine lv_goto (tgt := 9) (pc := 93) hx hb dX8_costOf_93 (by decide) ?_
        rw [gMc_e c53] at hcont
        exact ih (i + 1) ((cst + ((wa) ((4) * (cl) + ((co) ((ro) (i)))) + nI (0)))) ((co) ((ro) (i))) ((pa) ((ro) (i))) (by omega) (hco _) H locs ls hP hD hS hk w22 w37 w38 w39 w40 (lv_sub hl [4, 3, 2, 1, 0] rfl) hcont
  refine LP jn (0) (nI 0) (0) (nI 0) (by omega) (by omega)  H locs ls hP hD hS hk w22 w37 w38 w39 w40 (lv_sub hl [4, 3, 2, 1, 0] rfl) (fun H locs ls hP hD hS hk w22 w37 w38 w39 w40 hl => ?_)
  refine lv_iload_n (pc := 96) hx hb dX8_costOf_96 rfl (lv_at hl 0 rfl) ?_
  exact hret _ _ _ _ _ _ hP hD hS rfl rfl dX8_costOf_97
set_option maxHeartbeats 4000000 in
set_option maxRecDepth 100000 in
theorem k_X8_order {l : Launch} {D : va_G} {cI cZ : ClassId} {A : Nat → Prop} {g a : Nat → Nat} {G0 : va_W} {zn : Nat} {tr : Nat} {sc : Nat} {pn : Nat} {mn : Nat} {jn : Nat} {sg : Int32} {sr : Int32} {ss : Int32} {fed : Int32} {pap : Int32} {bar : Int32} {st : Bool} {q1 : Int64} {q2 : Int64} {q3 : Int64} {q4 : Int64} {q5 : Int64} {co : Nat → Nat} {pa : Nat → Int32} {wa : Nat → Int32} {ro : Nat → Nat} {be : Nat → Nat} (hD : va_D A G0) (w22 : G0[22]? = some (a 22, .inr (8, [.int (nI (zn)), .int (nI (tr)), .ref (a 23), .ref (a 24), .ref (a 25), .ref (a 26), .ref (a 27), .ref (a 28), .ref (a 29), .int (nI (sc)), .int (sg), .int (sr), .int (ss), .int (fed), .int (pap), .int (bar), .int (gB (st)), .ref (a 30), .ref (a 31), .ref (a 32), .int (nI (pn)), .ref (a 33), .ref (a 34), .ref (a 35), .ref (a 36), .int (nI (mn)), .long (q1), .long (q2), .long (q3), .long (q4), .long (q5), .ref (a 37), .ref (a 38), .ref (a 39), .int (nI (jn)), .ref (a 40), .ref (a 41)]))) (w37 : G0[37]? = some (a 37, .inl (cI, 7, .inl (fun j => nI ((co) j))))) (w38 : G0[38]? = some (a 38, .inl (cI, 7, .inl (pa)))) (w39 : G0[39]? = some (a 39, .inl (cI, 16, .inl (wa)))) (w40 : G0[40]? = some (a 40, .inl (cI, 7, .inl (fun j => nI ((ro) j))))) (w41 : G0[41]? = some (a 41, .inl (cI, 7, .inl (fun j => nI ((be) j))))) (hj : jn ≤ 7) (hco : ∀ j, co j < 4) : gMi l D cI cZ A g yX8_order wsX8_order ({ frames := 1, cells := 0, slots := 0, locals := 28 }) [.ref (a 22)] G0 ((gMo jn co pa wa (gFct jn) 0 ((-1), ro, be)).1) (fun G1 => G1[40]? = some (a 40, .inl (cI, 7, .inl (fun j => nI (((gMo jn co pa wa (gFct jn) 0 ((-1), ro, be)).2.1) j)))) ∧ G1[41]? = some (a 41, .inl (cI, 7, .inl (fun j => nI (((gMo jn co pa wa (gFct jn) 0 ((-1), ro, be)).2.2) j)))) ∧ ∀ k, k ∉ [40, 41] → G1[k]? = G0[k]?) := by
  refine gof_i (cc := cX8_order) (maxL := 6) (by decide) rfl (Nat.le_of_ble_eq_true rfl) hD ?_
  intro p e s m args below meth c Q hx hb hml hts hown hK hN hZ hP hS hret ls hl
  have hown : s.vm.findClass RX8 = some m.cls := hown
  have hl : lv_has ls 6 [(0, .ref (a 22))] := hl
  obtain ⟨locs, elocs⟩ : ∃ q : List Loc, q = [] := ⟨_, rfl⟩
  rw [← elocs] at hS ⊢
  obtain ⟨H, eH⟩ : ∃ q : Heap, q = s.heap := ⟨_, rfl⟩
  have hP : va_P D vwCl G0 H := eH ▸ hP
  have hS : va_S A s.heap H locs := by rw [eH]; exact hS
  rw [← eH]
  clear elocs eH
  have hiX8 : ∀ w ∈ u_ws RX8 TX8 37, w ∈ wsX8_order := by decide +kernel
  have hk : ∀ k, k ∉ [40, 41] → G0[k]? = G0[k]? := fun _ _ => rfl
  refine lv_iconst (v := nI (1)) (pc := 0) hx hb dX8_order_0 (by decide) ?_
  refine lv_istore_n (lv' := [(1, .int (nI (1))), (0, .ref (a 22))]) (pc := 1) hx hb dX8_order_1 rfl hl (by decide) rfl (fun ls hl => ?_)
  refine lv_iconst (v := nI (2)) (pc := 2) hx hb dX8_order_2 (by decide) ?_
  refine lv_istore_n (lv' := [(2, .int (nI (2))), (1, .int (nI (1))), (0, .ref (a 22))]) (pc := 3) hx hb dX8_order_3 rfl hl (by decide) rfl (fun ls hl => ?_)
  have LF : ∀ (k : Nat) (kk : Nat) (al : Nat), kk + k = jn + 1 ∨ (k = 0 ∧ jn < kk) → kk + k ≤ 9 → ∀ (G : va_W) (H : Heap) (locs : List Loc) (ls : Array Slot), va_P D vwCl G H → va_D A G → va_S A s.heap H locs → (∀ j, j ∉ [40, 41] → G[j]? = G0[j]?) → G[22]? = some (a 22, .inr (8, [.int (nI (zn)), .int (nI (tr)), .ref (a 23), .ref (a 24), .ref (a 25), .ref (a 26), .ref (a 27), .ref (a 28), .ref (a 29), .int (nI (sc)), .int (sg), .int (sr), .int (ss), .int (fed), .int (pap), .int (bar), .int (gB (st)), .ref (a 30), .ref (a 31), .ref (a 32), .int (nI (pn)), .ref (a 33), .ref (a 34), .ref (a 35), .ref (a 36), .int (nI (mn)), .long (q1), .long (q2), .long (q3), .long (q4), .long (q5), .ref (a 37), .ref (a 38), .ref (a 39), .int (nI (jn)), .ref (a 40), .ref (a 41)])) → G[37]? = some (a 37, .inl (cI, 7, .inl (fun j => nI ((co) j)))) → G[38]? = some (a 38, .inl (cI, 7, .inl (pa))) → G[39]? = some (a 39, .inl (cI, 16, .inl (wa))) → G[40]? = some (a 40, .inl (cI, 7, .inl (fun j => nI ((ro) j)))) → G[41]? = some (a 41, .inl (cI, 7, .inl (fun j => nI ((be) j)))) → lv_has ls 6 [(0, .ref (a 22)), (1, .int (nI (al))), (2, .int (nI (kk)))] → (∀ (G : va_W) (H : Heap) (locs : List Loc) (ls : Array Slot), va_P D vwCl G H → va_D A G → va_S A s.heap H locs → (∀ j, j ∉ [40, 41] → G[j]? = G0[j]?) → G[22]? = some (a 22, .inr (8, [.int (nI (zn)), .int (nI (tr)), .ref (a 23), .ref (a 24), .ref (a 25), .ref (a 26), .ref (a 27), .ref (a 28), .ref (a 29), .int (nI (sc)), .int (sg), .int (sr), .int (ss), .int (fed), .int (pap), .int (bar), .int (gB (st)), .ref (a 30), .ref (a 31), .ref (a 32), .int (nI (pn)), .ref (a 33), .ref (a 34), .ref (a 35), .ref (a 36), .int (nI (mn)), .long (q1), .long (q2), .long (q3), .long (q4), .long (q5), .ref (a 37), .ref (a 38), .ref (a 39), .int (nI (jn)), .ref (a 40), .ref (a 41)])) → G[37]? = some (a 37, .inl (cI, 7, .inl (fun j => nI ((co) j)))) → G[38]? = some (a 38, .inl (cI, 7, .inl (pa))) → G[39]? = some (a 39, .inl (cI, 16, .inl (wa))) → G[40]? = some (a 40, .inl (cI, 7, .inl (fun j => nI ((ro) j)))) → G[41]? = some (a 41, .inl (cI, 7, .inl (fun j => nI ((be) j)))) → lv_has ls 6 [(0, .ref (a 22)), (1, .int (nI (gAl k kk al)))] → W p l e ({ frames := 1, cells := 0, slots := 0, locals := 28 } : Room) s m args below meth c H locs 0 0 Q (F0 m 22 ls [])) → W p l e ({ frames := 1, cells := 0, slots := 0, locals := 28 } : Room) s m args below meth c H locs 0 0 Q (F0 m 4 ls []) := by
    intro k
    induction k with
    | zero =>
      intro kk al hkk hk9 G H locs ls hP hD hS hk w22 w37 w38 w39 w40 w41 hl hcont
      refine lv_iload_n (pc := 4) hx hb dX8_order_4 rfl (lv_at hl 2 rfl) ?_
      refine lv_aload_n (pc := 5) hx hb dX8_order_5 rfl (lv_at hl 0 rfl) ?_
      refine va_get (ci := 8) (C := RX8) (T := TX8) (N := 37) (pc := 6) hx hb hts hiX8 hown hK hP 22 w22 rfl 34 (by decide) (hts (.fieldLink RX8 193 "InkPressModel" "jobs" "I") (by decide +kernel)) (fun _ h9 => h9) rfl dX8_order_6 ?_
      refine mx_cgt (tgt := 22) (pc := 9) hx hb (by omega) (by omega) dX8_order_9 (by decide) (fun c9 => ?_) (fun c9 => absurd c9 (by omega))
      exact hcont G H locs ls hP hD hS hk w22 w37 w38 w39 w40 w41 (lv_sub hl [0, 1] rfl)
    | succ k ih =>
      intro kk al hkk hk9 G H locs ls hP hD hS hk w22 w37 w38 w39 w40 w41 hl hcont
      refine lv_iload_n (pc := 4) hx hb dX8_order_4 rfl (lv_at hl 2 rfl) ?_
      refine lv_aload_n (pc := 5) hx hb dX8_order_5 rfl (lv_at hl 0 rfl) ?_
      refine va_get (ci := 8) (C := RX8) (T := TX8) (N := 37) (pc := 6) hx hb hts hiX8 hown hK hP 22 w22 rfl 34 (by decide) (hts (.fieldLink RX8 193 "InkPressModel" "jobs" "I") (by decide +kernel)) (fun _ h9 => h9) rfl dX8_order_6 ?_
      refine mx_cgt (tgt := 22) (pc := 9) hx hb (by omega) (by omega) dX8_order_9 (by decide) (fun c9 => absurd c9 (by omega)) (fun c9 => ?_)
      refine lv_iload_n (pc := 12) hx hb dX8_order_12 rfl (lv_at hl 1 rfl) ?_
      refine lv_iload_n (pc := 13) hx hb dX8_order_13 rfl (lv_at hl 2 rfl) ?_
      refine mx_imul (pc := 14) hx hb dX8_order_14 ?_
      refine lv_istore_n (lv' := [(1, .int (nI ((al) * (kk)))), (0, .ref (a 22)), (2, .int (nI (kk)))]) (pc := 15) hx hb dX8_order_15 rfl hl (by decide) rfl (fun ls hl => ?_)
      refine lv_iinc (v := nI (kk + 1)) (lv' := [(2, .int (nI (kk + 1))), (1, .int (nI ((al) * (kk)))), (0, .ref (a 22))]) (pc := 16) hx hb dX8_order_16 hl (k := 2) rfl (mx_inc1 _) (by decide) rfl (fun ls hl => ?_)
      refine lv_goto (tgt := 4) (pc := 19) hx hb dX8_order_19 (by decide) ?_
      exact ih (kk + 1) (al * kk) (by omega) (by omega) G H locs ls hP hD hS hk w22 w37 w38 w39 w40 w41 (lv_sub hl [2, 1, 0] rfl) hcont
  refine LF (jn - 1) (2) (1) (by omega) (by omega) G0 H locs ls hP hD hS hk w22 w37 w38 w39 w40 w41 (lv_sub hl [2, 1, 0] rfl) (fun G H locs ls hP hD hS hk w22 w37 w38 w39 w40 w41 hl => ?_)
  rw [gAl_fct jn hj] at hl
  have hF := gFct_le hj
  refine lv_iconst (v := (-1)) (pc := 22) hx hb dX8_order_22 (by decide) ?_
  refine lv_istore_n (lv' := [(2, .int ((-1))), (0, .ref (a 22)), (1, .int (nI (gFct jn)))]) (pc := 23) hx hb dX8_order_23 rfl hl (by decide) rfl (fun ls hl => ?_)
  refine lv_iconst (v := nI (0)) (pc := 24) hx hb dX8_order_24 (by decide) ?_
  refine lv_istore_n (lv' := [(3, .int (nI (0))), (2, .int ((-1))), (0, .ref (a 22)), (1, .int (nI (gFct jn)))]) (pc := 25) hx hb dX8_order_25 rfl hl (by decide) rfl (fun ls hl => ?_)
  have LN : ∀ (k : Nat) (n : Nat) (u : Int32 × (Nat → Nat) × (Nat → Nat)), n + k = gFct jn → ∀ (G : va_W) (H : Heap) (locs : List Loc) (ls : Array Slot), va_P D vwCl G H → va_D A G → va_S A s.heap H locs → (∀ j, j ∉ [40, 41] → G[j]? = G0[j]?) → G[22]? = some (a 22, .inr (8, [.int (nI (zn)), .int (nI (tr)), .ref (a 23), .ref (a 24), .ref (a 25), .ref (a 26), .ref (a 27), .ref (a 28), .ref (a 29), .int (nI (sc)), .int (sg), .int (sr), .int (ss), .int (fed), .int (pap), .int (bar), .int (gB (st)), .ref (a 30), .ref (a 31), .ref (a 32), .int (nI (pn)), .ref (a 33), .ref (a 34), .ref (a 35), .ref (a 36), .int (nI (mn)), .long (q1), .long (q2), .long (q3), .long (q4), .long (q5), .ref (a 37), .ref (a 38), .ref (a 39), .int (nI (jn)), .ref (a 40), .ref (a 41)])) → G[37]? = some (a 37, .inl (cI, 7, .inl (fun j => nI ((co) j)))) → G[38]? = some (a 38, .inl (cI, 7, .inl (pa))) → G[39]? = some (a 39, .inl (cI, 16, .inl (wa))) → G[40]? = some (a 40, .inl (cI, 7, .inl (fun j => nI ((u.2.1) j)))) → G[41]? = some (a 41, .inl (cI, 7, .inl (fun j => nI ((u.2.2) j)))) → lv_has ls 6 [(0, .ref (a 22)), (1, .int (nI (gFct jn))), (2, .int (u.1)), (3, .int (nI (n)))] → (∀ (G : va_W) (H : Heap) (locs : List Loc) (ls : Array Slot), va_P D vwCl G H → va_D A G → va_S A s.heap H locs → (∀ j, j ∉ [40, 41] → G[j]? = G0[j]?) → G[22]? = some (a 22, .inr (8, [.int (nI (zn)), .int (nI (tr)), .ref (a 23), .ref (a 24), .ref (a 25), .ref (a 26), .ref (a 27), .ref (a 28), .ref (a 29), .int (nI (sc)), .int (sg), .int (sr), .int (ss), .int (fed), .int (pap), .int (bar), .int (gB (st)), .ref (a 30), .ref (a 31), .ref (a 32), .int (nI (pn)), .ref (a 33), .ref (a 34), .ref (a 35), .ref (a 36), .int (nI (mn)), .long (q1), .long (q2), .long (q3), .long (q4), .long (q5), .ref (a 37), .ref (a 38), .ref (a 39), .int (nI (jn)), .ref (a 40), .ref (a 41)])) → G[37]? = some (a 37, .inl (cI, 7, .inl (fun j => nI ((co) j)))) → G[38]? = some (a 38, .inl (cI, 7, .inl (pa))) → G[39]? = some (a 39, .inl (cI, 16, .inl (wa))) → G[40]? = some (a 40, .inl (cI, 7, .inl (fun j => nI (((gMo jn co pa wa k n u).2.1) j)))) → G[41]? = some (a 41, .inl (cI, 7, .inl (fun j => nI (((gMo jn co pa wa k n u).2.2) j)))) → lv_has ls 6 [(2, .int ((gMo jn co pa wa k n u).1))] → W p l e ({ frames := 1, cells := 0, slots := 0, locals := 28 } : Room) s m args below meth c H locs 0 0 Q (F0 m 94 ls [])) → W p l e ({ frames := 1, cells := 0, slots := 0, locals := 28 } : Room) s m args below meth c H locs 0 0 Q (F0 m 26 ls []) := by
    intro k
    induction k with
    | zero =>
      intro n u hn G H locs ls hP hD hS hk w22 w37 w38 w39 w40 w41 hl hcont
      refine lv_iload_n (pc := 26) hx hb dX8_order_26 rfl (lv_at hl 3 rfl) ?_
      refine lv_iload_n (pc := 27) hx hb dX8_order_27 rfl (lv_at hl 1 rfl) ?_
      refine mx_cge (tgt := 94) (pc := 28) hx hb (by omega) (by omega) dX8_order_28 (by decide) (fun c28 => ?_) (fun c28 => absurd c28 (by omega))
      exact hcont G H locs ls hP hD hS hk w22 w37 w38 w39 w40 w41 (lv_sub hl [2] rfl)
    | succ k ih =>
      intro n u hn G H locs ls hP hD hS hk w22 w37 w38 w39 w40 w41 hl hcont
      refine lv_iload_n (pc := 26) hx hb dX8_order_26 rfl (lv_at hl 3 rfl) ?_
      refine lv_iload_n (pc := 27) hx hb dX8_order_27 rfl (lv_at hl 1 rfl) ?_
      refine mx_cge (tgt := 94) (pc := 28) hx hb (by omega) (by omega) dX8_order_28 (by decide) (fun c28 => absurd c28 (by omega)) (fun c28 => ?_)
      refine lv_aload_n (pc := 31) hx hb dX8_order_31 rfl (lv_at hl 0 rfl) ?_
      refine lv_iload_n (pc := 32) hx hb dX8_order_32 rfl (lv_at hl 3 rfl) ?_
      refine lv_iload_n (pc := 33) hx hb dX8_order_33 rfl (lv_at hl 1 rfl) ?_
      refine mx_cVv (As := [.int (nI (n)), .int (nI (gFct jn))]) (rest := []) (pc := 34) ⟨hx, hb, hml, hown, hts⟩ (k_X8_layRow (a := a) (zn := zn) (tr := tr) (sc := sc) (pn := pn) (mn := mn) (jn := jn) (sg := sg) (sr := sr) (ss := ss) (fed := fed) (pap := pap) (bar := bar) (st := st) (q1 := q1) (q2 := q2) (q3 := q3) (q4 := q4) (q5 := q5) (ro := u.2.1) (nn := n) (al := gFct jn) hD w22 w40 hj rfl (by omega)) (cwV 2 hts gX8_order_X8_layRow rfl rfl rfl (by decide +kernel) ⟨Nat.le_of_ble_eq_true rfl, Nat.le_of_ble_eq_true rfl⟩) 22 rfl rfl w22 hK hN hZ hP hS rfl hl.1 rfl (Nat.le_of_ble_eq_true rfl) dX8_order_34 ⟨Nat.zero_le _, Nat.zero_le _⟩ (fun G H locs hP hD hS hB => ?_)
      obtain ⟨w40, ho⟩ := hB
      have w22 := (ho 22 (by decide)).trans w22
      have w37 := (ho 37 (by decide)).trans w37
      have w38 := (ho 38 (by decide)).trans w38
      have w39 := (ho 39 (by decide)).trans w39
      have w40 : G[40]? = some (a 40, .inl (cI, 7, .inl (fun j => nI ((gLay (jn) (jn) 0 (n) 0 (u.2.1)) j)))) := w40
      have w41 := (ho 41 (by decide)).trans w41
      have hk := gk_call hk ho (by decide)
      clear ho
      refine lv_aload_n (pc := 37) hx hb dX8_order_37 rfl (lv_at hl 0 rfl) ?_
      refine mx_cVi (As := []) (rest := []) (pc := 38) ⟨hx, hb, hml, hown, hts⟩ (k_X8_costOf (a := a) (zn := zn) (tr := tr) (sc := sc) (pn := pn) (mn := mn) (jn := jn) (sg := sg) (sr := sr) (ss := ss) (fed := fed) (pap := pap) (bar := bar) (st := st) (q1 := q1) (q2 := q2) (q3 := q3) (q4 := q4) (q5 := q5) (co := co) (pa := pa) (wa := wa) (ro := gLay (jn) (jn) 0 (n) 0 (u.2.1)) hD w22 w37 w38 w39 w40 hj hco (gLay_in hj (by omega) u.2.1)) (cwV 0 hts gX8_order_X8_costOf rfl rfl rfl (by decide +kernel) ⟨Nat.le_of_ble_eq_true rfl, Nat.le_of_ble_eq_true rfl⟩) 22 rfl rfl w22 hK hN hZ hP hS rfl hl.1 rfl (Nat.le_of_ble_eq_true rfl) dX8_order_38 ⟨Nat.zero_le _, Nat.zero_le _⟩ (fun G' H locs hP hD hS hB => ?_)
      rw [hB] at hP hD
      clear hB G'
      refine lv_istore (lv' := [(4, .int (gMc (co) (pa) (wa) (gLay (jn) (jn) 0 (n) 0 (u.2.1)) (jn) 0 (nI 0) 0 (nI 0))), (0, .ref (a 22)), (1, .int (nI (gFct jn))), (2, .int (u.1)), (3, .int (nI (n)))]) (pc := 41) hx hb dX8_order_41 hl (by decide) rfl (fun ls hl => ?_)
      refine lv_iload_n (pc := 43) hx hb dX8_order_43 rfl (lv_at hl 3 rfl) ?_
      refine lv_if_lt (tgt := 53) (pc := 44) hx hb dX8_order_44 (by decide) (fun c44 => ?_) (fun c44 => ?_)
      · skip
        refine lv_iload (pc := 53) hx hb dX8_order_53 (lv_at hl 0 rfl) ?_
        refine lv_istore_n (lv' := [(2, .int (gMc (co) (pa) (wa) (gLay (jn) (jn) 0 (n) 0 (u.2.1)) (jn) 0 (nI 0) 0 (nI 0))), (4, .int (gMc (co) (pa) (wa) (gLay (jn) (jn) 0 (n) 0 (u.2.1)) (jn) 0 (nI 0) 0 (nI 0))), (0, .ref (a 22)), (1, .int (nI (gFct jn))), (3, .int (nI (n)))]) (pc := 55) hx hb dX8_order_55 rfl hl (by decide) rfl (fun ls hl => ?_)
        refine lv_iconst (v := nI (0)) (pc := 56) hx hb dX8_order_56 (by decide) ?_
        refine lv_istore (lv' := [(5, .int (nI (0))), (2, .int (gMc (co) (pa) (wa) (gLay (jn) (jn) 0 (n) 0 (u.2.1)) (jn) 0 (nI 0) 0 (nI 0))), (4, .int (gMc (co) (pa) (wa) (gLay (jn) (jn) 0 (n) 0 (u.2.1)) (jn) 0 (nI 0) 0 (nI 0))), (0, .ref (a 22)), (1, .int (nI (gFct jn))), (3, .int (nI (n)))]) (pc := 57) hx hb dX8_order_57 hl (by decide) rfl (fun ls hl => ?_)
        have LC : ∀ (f : Nat) (jx : Nat) (bf : Nat → Nat), jx + f = jn → ∀ (G : va_W) (H : Heap) (locs : List Loc) (ls : Array Slot), va_P D vwCl G H → va_D A G → va_S A s.heap H locs → (∀ j, j ∉ [40, 41] → G[j]? = G0[j]?) → G[22]? = some (a 22, .inr (8, [.int (nI (zn)), .int (nI (tr)), .ref (a 23), .ref (a 24), .ref (a 25), .ref (a 26), .ref (a 27), .ref (a 28), .ref (a 29), .int (nI (sc)), .int (sg), .int (sr), .int (ss), .int (fed), .int (pap), .int (bar), .int (gB (st)), .ref (a 30), .ref (a 31), .ref (a 32), .int (nI (pn)), .ref (a 33), .ref (a 34), .ref (a 35), .ref (a 36), .int (nI (mn)), .long (q1), .long (q2), .long (q3), .long (q4), .long (q5), .ref (a 37), .ref (a 38), .ref (a 39), .int (nI (jn)), .ref (a 40), .ref (a 41)])) → G[37]? = some (a 37, .inl (cI, 7, .inl (fun j => nI ((co) j)))) → G[38]? = some (a 38, .inl (cI, 7, .inl (pa))) → G[39]? = some (a 39, .inl (cI, 16, .inl (wa))) → G[40]? = some (a 40, .inl (cI, 7, .inl (fun j => nI ((gLay (jn) (jn) 0 (n) 0 (u.2.1)) j)))) → G[41]? = some (a 41, .inl (cI, 7, .inl (fun j => nI ((bf) j)))) → lv_has ls 6 [(0, .ref (a 22)), (1, .int (nI (gFct jn))), (2, .int (gMc (co) (pa) (wa) (gLay (jn) (jn) 0 (n) 0 (u.2.1)) (jn) 0 (nI 0) 0 (nI 0))), (3, .int (nI (n))), (5, .int (nI (jx)))] → (∀ (G : va_W) (H : Heap) (locs : List Loc) (ls : Array Slot), va_P D vwCl G H → va_D A G → va_S A s.heap H locs → (∀ j, j ∉ [40, 41] → G[j]? = G0[j]?) → G[22]? = some (a 22, .inr (8, [.int (nI (zn)), .int (nI (tr)), .ref (a 23), .ref (a 24), .ref (a 25), .ref (a 26), .ref (a 27), .ref (a 28), .ref (a 29), .int (nI (sc)), .int (sg), .int (sr), .int (ss), .int (fed), .int (pap), .int (bar), .int (gB (st)), .ref (a 30), .ref (a 31), .ref (a 32), .int (nI (pn)), .ref (a 33), .ref (a 34), .ref (a 35), .ref (a 36), .int (nI (mn)), .long (q1), .long (q2), .long (q3), .long (q4), .long (q5), .ref (a 37), .ref (a 38), .ref (a 39), .int (nI (jn)), .ref (a 40), .ref (a 41)])) → G[37]? = some (a 37, .inl (cI, 7, .inl (fun j => nI ((co) j)))) → G[38]? = some (a 38, .inl (cI, 7, .inl (pa))) → G[39]? = some (a 39, .inl (cI, 16, .inl (wa))) → G[40]? = some (a 40, .inl (cI, 7, .inl (fun j => nI ((gLay (jn) (jn) 0 (n) 0 (u.2.1)) j)))) → G[41]? = some (a 41, .inl (cI, 7, .inl (fun j => nI ((gCp (gLay jn jn 0 n 0 u.2.1) f jx bf) j)))) → lv_has ls 6 [(0, .ref (a 22)), (1, .int (nI (gFct jn))), (2, .int (gMc (co) (pa) (wa) (gLay (jn) (jn) 0 (n) 0 (u.2.1)) (jn) 0 (nI 0) 0 (nI 0))), (3, .int (nI (n)))] → W p l e ({ frames := 1, cells := 0, slots := 0, locals := 28 } : Room) s m args below meth c H locs 0 0 Q (F0 m 88 ls [])) → W p l e ({ frames := 1, cells := 0, slots := 0, locals := 28 } : Room) s m args below meth c H locs 0 0 Q (F0 m 59 ls []) := by
          intro f
          induction f with
          | zero =>
            intro jx bf hjf G H locs ls hP hD hS hk w22 w37 w38 w39 w40 w41 hl hcont
            refine lv_iload (pc := 59) hx hb dX8_order_59 (lv_at hl 4 rfl) ?_
            refine lv_aload_n (pc := 61) hx hb dX8_order_61 rfl (lv_at hl 0 rfl) ?_
            refine va_get (ci := 8) (C := RX8) (T := TX8) (N := 37) (pc := 62) hx hb hts hiX8 hown hK hP 22 w22 rfl 34 (by decide) (hts (.fieldLink RX8 193 "InkPressModel" "jobs" "I") (by decide +kernel)) (fun _ h9 => h9) rfl dX8_order_62 ?_
            refine mx_cge (tgt := 88) (pc := 65) hx hb (by omega) (by omega) dX8_order_65 (by decide) (fun c65 => ?_) (fun c65 => absurd c65 (by omega))
            exact hcont G H locs ls hP hD hS hk w22 w37 w38 w39 w40 w41 (lv_sub hl [0, 1, 2, 3] rfl)
          | succ f ih =>
            intro jx bf hjf G H locs ls hP hD hS hk w22 w37 w38 w39 w40 w41 hl hcont
            refine lv_iload (pc := 59) hx hb dX8_order_59 (lv_at hl 4 rfl) ?_
            refine lv_aload_n (pc := 61) hx hb dX8_order_61 rfl (lv_at hl 0 rfl) ?_
            refine va_get (ci := 8) (C := RX8) (T := TX8) (N := 37) (pc := 62) hx hb hts hiX8 hown hK hP 22 w22 rfl 34 (by decide) (hts (.fieldLink RX8 193 "InkPressModel" "jobs" "I") (by decide +kernel)) (fun _ h9 => h9) rfl dX8_order_62 ?_
            refine mx_cge (tgt := 88) (pc := 65) hx hb (by omega) (by omega) dX8_order_65 (by decide) (fun c65 => absurd c65 (by omega)) (fun c65 => ?_)
            refine lv_aload_n (pc := 68) hx hb dX8_order_68 rfl (lv_at hl 0 rfl) ?_
            refine va_get (ci := 8) (C := RX8) (T := TX8) (N := 37) (pc := 69) hx hb hts hiX8 hown hK hP 22 w22 rfl 36 (by decide) (hts (.fieldLink RX8 75 "InkPressModel" "best" "[I") (by decide +kernel)) (fun _ h9 => h9) rfl dX8_order_69 ?_
            refine lv_iload (pc := 72) hx hb dX8_order_72 (lv_at hl 4 rfl) ?_
            refine lv_aload_n (pc := 74) hx hb dX8_order_74 rfl (lv_at hl 0 rfl) ?_
            refine va_get (ci := 8) (C := RX8) (T := TX8) (N := 37) (pc := 75) hx hb hts hiX8 hown hK hP 22 w22 rfl 35 (by decide) (hts (.fieldLink RX8 72 "InkPressModel" "row" "[I") (by decide +kernel)) (fun _ h9 => h9) rfl dX8_order_75 ?_
            refine lv_iload (pc := 78) hx hb dX8_order_78 (lv_at hl 4 rfl) ?_
            refine mx_iald (pc := 80) hx hb hK hP 40 w40 (jx) (by omega) (by decide) dX8_order_80 ?_
            refine mx_iast (x := nI ((gLay (jn) (jn) 0 (n) 0 (u.2.1)) (jx))) (pc := 81) hx hb hK hP hD hS 41 w41 (jx) (by omega) (by decide) dX8_order_81 (fun H locs G hP hD hS w41 ho => ?_)
            rw [gUpdN] at w41
            have w22 := (ho 22 (by decide)).trans w22
            have w37 := (ho 37 (by decide)).trans w37
            have w38 := (ho 38 (by decide)).trans w38
            have w39 := (ho 39 (by decide)).trans w39
            have w40 := (ho 40 (by decide)).trans w40
            have w41 : G[41]? = some (a 41, .inl (cI, 7, .inl (fun j => nI ((vf_upd (bf) (jx) ((gLay (jn) (jn) 0 (n) 0 (u.2.1)) (jx))) j)))) := w41
            have hk := gk_step hk ho (by decide)
            clear ho
            refine lv_iinc (v := nI (jx + 1)) (lv' := [(5, .int (nI (jx + 1))), (0, .ref (a 22)), (1, .int (nI (gFct jn))), (2, .int (gMc (co) (pa) (wa) (gLay (jn) (jn) 0 (n) 0 (u.2.1)) (jn) 0 (nI 0) 0 (nI 0))), (3, .int (nI (n)))]) (pc := 82) hx hb dX8_order_82 hl (k := 4) rfl (mx_inc1 _) (by decide) rfl (fun ls hl => ?_)
            refine lv_goto (tgt := 59) (pc := 85) hx hb dX8_order_85 (by decide) ?_
            exact ih (jx + 1) (vf_upd (bf) (jx) ((gLay (jn) (jn) 0 (n) 0 (u.2.1)) (jx))) (by omega) G H locs ls hP hD hS hk w22 w37 w38 w39 w40 w41 (lv_sub hl [1, 2, 3, 4, 0] rfl) hcont
        refine LC jn (0) (u.2.2) (by omega) G H locs ls hP hD hS hk w22 w37 w38 w39 w40 w41 (lv_sub hl [3, 4, 1, 5, 0] rfl) (fun G H locs ls hP hD hS hk w22 w37 w38 w39 w40 w41 hl => ?_)
        have w41 : G[41]? = some (a 41, .inl (cI, 7, .inl (fun j => nI ((gCp (gLay jn jn 0 n 0 u.2.1) (jn) (0) (u.2.2)) j)))) := w41
        refine lv_iinc (v := nI (n + 1)) (lv' := [(3, .int (nI (n + 1))), (0, .ref (a 22)), (1, .int (nI (gFct jn))), (2, .int (gMc (co) (pa) (wa) (gLay (jn) (jn) 0 (n) 0 (u.2.1)) (jn) 0 (nI 0) 0 (nI 0)))]) (pc := 88) hx hb dX8_order_88 hl (k := 3) rfl (mx_inc1 _) (by decide) rfl (fun ls hl => ?_)
        refine lv_goto (tgt := 26) (pc := 91) hx hb dX8_order_91 (by decide) ?_
        rw [gMo_1 c44] at hcont
        exact ih (n + 1) ((gMcs jn co pa wa n u, (gLay jn jn 0 n 0 u.2.1), gCp (gLay jn jn 0 n 0 u.2.1) jn 0 u.2.2)) (by omega) G H locs ls hP hD hS hk w22 w37 w38 w39 w40 w41 (lv_sub hl [1, 2, 3, 0] rfl) hcont
      · skip
        refine lv_iload (pc := 47) hx hb dX8_order_47 (lv_at hl 0 rfl) ?_
        refine lv_iload_n (pc := 49) hx hb dX8_order_49 rfl (lv_at hl 3 rfl) ?_
        refine lv_icmp_ge (tgt := 88) (pc := 50) hx hb dX8_order_50 (by decide) (fun c50 => ?_) (fun c50 => ?_)
        · skip
          refine lv_iinc (v := nI (n + 1)) (lv' := [(3, .int (nI (n + 1))), (4, .int (gMc (co) (pa) (wa) (gLay (jn) (jn) 0 (n) 0 (u.2.1)) (jn) 0 (nI 0) 0 (nI 0))), (0, .ref (a 22)), (1, .int (nI (gFct jn))), (2, .int (u.1))]) (pc := 88) hx hb dX8_order_88 hl (k := 4) rfl (mx_inc1 _) (by decide) rfl (fun ls hl => ?_)
          refine lv_goto (tgt := 26) (pc := 91) hx hb dX8_order_91 (by decide) ?_
          rw [gMo_3 c44 c50] at hcont
          exact ih (n + 1) ((u.1, (gLay jn jn 0 n 0 u.2.1), u.2.2)) (by omega) G H locs ls hP hD hS hk w22 w37 w38 w39 w40 w41 (lv_sub hl [2, 3, 4, 0] rfl) hcont
        · skip
          refine lv_iload (pc := 53) hx hb dX8_order_53 (lv_at hl 0 rfl) ?_
          refine lv_istore_n (lv' := [(2, .int (gMc (co) (pa) (wa) (gLay (jn) (jn) 0 (n) 0 (u.2.1)) (jn) 0 (nI 0) 0 (nI 0))), (4, .int (gMc (co) (pa) (wa) (gLay (jn) (jn) 0 (n) 0 (u.2.1)) (jn) 0 (nI 0) 0 (nI 0))), (0, .ref (a 22)), (1, .int (nI (gFct jn))), (3, .int (nI (n)))]) (pc := 55) hx hb dX8_order_55 rfl hl (by decide) rfl (fun ls hl => ?_)
          refine lv_iconst (v := nI (0)) (pc := 56) hx hb dX8_order_56 (by decide) ?_
          refine lv_istore (lv' := [(5, .int (nI (0))), (2, .int (gMc (co) (pa) (wa) (gLay (jn) (jn) 0 (n) 0 (u.2.1)) (jn) 0 (nI 0) 0 (nI 0))), (4, .int (gMc (co) (pa) (wa) (gLay (jn) (jn) 0 (n) 0 (u.2.1)) (jn) 0 (nI 0) 0 (nI 0))), (0, .ref (a 22)), (1, .int (nI (gFct jn))), (3, .int (nI (n)))]) (pc := 57) hx hb dX8_order_57 hl (by decide) rfl (fun ls hl => ?_)
          have LC : ∀ (f : Nat) (jx : Nat) (bf : Nat → Nat), jx + f = jn → ∀ (G : va_W) (H : Heap) (locs : List Loc) (ls : Array Slot), va_P D vwCl G H → va_D A G → va_S A s.heap H locs → (∀ j, j ∉ [40, 41] → G[j]? = G0[j]?) → G[22]? = some (a 22, .inr (8, [.int (nI (zn)), .int (nI (tr)), .ref (a 23), .ref (a 24), .ref (a 25), .ref (a 26), .ref (a 27), .ref (a 28), .ref (a 29), .int (nI (sc)), .int (sg), .int (sr), .int (ss), .int (fed), .int (pap), .int (bar), .int (gB (st)), .ref (a 30), .ref (a 31), .ref (a 32), .int (nI (pn)), .ref (a 33), .ref (a 34), .ref (a 35), .ref (a 36), .int (nI (mn)), .long (q1), .long (q2), .long (q3), .long (q4), .long (q5), .ref (a 37), .ref (a 38), .ref (a 39), .int (nI (jn)), .ref (a 40), .ref (a 41)])) → G[37]? = some (a 37, .inl (cI, 7, .inl (fun j => nI ((co) j)))) → G[38]? = some (a 38, .inl (cI, 7, .inl (pa))) → G[39]? = some (a 39, .inl (cI, 16, .inl (wa))) → G[40]? = some (a 40, .inl (cI, 7, .inl (fun j => nI ((gLay (jn) (jn) 0 (n) 0 (u.2.1)) j)))) → G[41]? = some (a 41, .inl (cI, 7, .inl (fun j => nI ((bf) j)))) → lv_has ls 6 [(0, .ref (a 22)), (1, .int (nI (gFct jn))), (2, .int (gMc (co) (pa) (wa) (gLay (jn) (jn) 0 (n) 0 (u.2.1)) (jn) 0 (nI 0) 0 (nI 0))), (3, .int (nI (n))), (5, .int (nI (jx)))] → (∀ (G : va_W) (H : Heap) (locs : List Loc) (ls : Array Slot), va_P D vwCl G H → va_D A G → va_S A s.heap H locs → (∀ j, j ∉ [40, 41] → G[j]? = G0[j]?) → G[22]? = some (a 22, .inr (8, [.int (nI (zn)), .int (nI (tr)), .ref (a 23), .ref (a 24), .ref (a 25), .ref (a 26), .ref (a 27), .ref (a 28), .ref (a 29), .int (nI (sc)), .int (sg), .int (sr), .int (ss), .int (fed), .int (pap), .int (bar), .int (gB (st)), .ref (a 30), .ref (a 31), .ref (a 32), .int (nI (pn)), .ref (a 33), .ref (a 34), .ref (a 35), .ref (a 36), .int (nI (mn)), .long (q1), .long (q2), .long (q3), .long (q4), .long (q5), .ref (a 37), .ref (a 38), .ref (a 39), .int (nI (jn)), .ref (a 40), .ref (a 41)])) → G[37]? = some (a 37, .inl (cI, 7, .inl (fun j => nI ((co) j)))) → G[38]? = some (a 38, .inl (cI, 7, .inl (pa))) → G[39]? = some (a 39, .inl (cI, 16, .inl (wa))) → G[40]? = some (a 40, .inl (cI, 7, .inl (fun j => nI ((gLay (jn) (jn) 0 (n) 0 (u.2.1)) j)))) → G[41]? = some (a 41, .inl (cI, 7, .inl (fun j => nI ((gCp (gLay jn jn 0 n 0 u.2.1) f jx bf) j)))) → lv_has ls 6 [(0, .ref (a 22)), (1, .int (nI (gFct jn))), (2, .int (gMc (co) (pa) (wa) (gLay (jn) (jn) 0 (n) 0 (u.2.1)) (jn) 0 (nI 0) 0 (nI 0))), (3, .int (nI (n)))] → W p l e ({ frames := 1, cells := 0, slots := 0, locals := 28 } : Room) s m args below meth c H locs 0 0 Q (F0 m 88 ls [])) → W p l e ({ frames := 1, cells := 0, slots := 0, locals := 28 } : Room) s m args below meth c H locs 0 0 Q (F0 m 59 ls []) := by
            intro f
            induction f with
            | zero =>
              intro jx bf hjf G H locs ls hP hD hS hk w22 w37 w38 w39 w40 w41 hl hcont
              refine lv_iload (pc := 59) hx hb dX8_order_59 (lv_at hl 4 rfl) ?_
              refine lv_aload_n (pc := 61) hx hb dX8_order_61 rfl (lv_at hl 0 rfl) ?_
              refine va_get (ci := 8) (C := RX8) (T := TX8) (N := 37) (pc := 62) hx hb hts hiX8 hown hK hP 22 w22 rfl 34 (by decide) (hts (.fieldLink RX8 193 "InkPressModel" "jobs" "I") (by decide +kernel)) (fun _ h9 => h9) rfl dX8_order_62 ?_
              refine mx_cge (tgt := 88) (pc := 65) hx hb (by omega) (by omega) dX8_order_65 (by decide) (fun c65 => ?_) (fun c65 => absurd c65 (by omega))
              exact hcont G H locs ls hP hD hS hk w22 w37 w38 w39 w40 w41 (lv_sub hl [0, 1, 2, 3] rfl)
            | succ f ih =>
              intro jx bf hjf G H locs ls hP hD hS hk w22 w37 w38 w39 w40 w41 hl hcont
              refine lv_iload (pc := 59) hx hb dX8_order_59 (lv_at hl 4 rfl) ?_
              refine lv_aload_n (pc := 61) hx hb dX8_order_61 rfl (lv_at hl 0 rfl) ?_
              refine va_get (ci := 8) (C := RX8) (T := TX8) (N := 37) (pc := 62) hx hb hts hiX8 hown hK hP 22 w22 rfl 34 (by decide) (hts (.fieldLink RX8 193 "InkPressModel" "jobs" "I") (by decide +kernel)) (fun _ h9 => h9) rfl dX8_order_62 ?_
              refine mx_cge (tgt := 88) (pc := 65) hx hb (by omega) (by omega) dX8_order_65 (by decide) (fun c65 => absurd c65 (by omega)) (fun c65 => ?_)
              refine lv_aload_n (pc := 68) hx hb dX8_order_68 rfl (lv_at hl 0 rfl) ?_
              refine va_get (ci := 8) (C := RX8) (T := TX8) (N := 37) (pc := 69) hx hb hts hiX8 hown hK hP 22 w22 rfl 36 (by decide) (hts (.fieldLink RX8 75 "InkPressModel" "best" "[I") (by decide +kernel)) (fun _ h9 => h9) rfl dX8_order_69 ?_
              refine lv_iload (pc := 72) hx hb dX8_order_72 (lv_at hl 4 rfl) ?_
              refine lv_aload_n (pc := 74) hx hb dX8_order_74 rfl (lv_at hl 0 rfl) ?_
              refine va_get (ci := 8) (C := RX8) (T := TX8) (N := 37) (pc := 75) hx hb hts hiX8 hown hK hP 22 w22 rfl 35 (by decide) (hts (.fieldLink RX8 72 "InkPressModel" "row" "[I") (by decide +kernel)) (fun _ h9 => h9) rfl dX8_order_75 ?_
              refine lv_iload (pc := 78) hx hb dX8_order_78 (lv_at hl 4 rfl) ?_
              refine mx_iald (pc := 80) hx hb hK hP 40 w40 (jx) (by omega) (by decide) dX8_order_80 ?_
              refine mx_iast (x := nI ((gLay (jn) (jn) 0 (n) 0 (u.2.1)) (jx))) (pc := 81) hx hb hK hP hD hS 41 w41 (jx) (by omega) (by decide) dX8_order_81 (fun H locs G hP hD hS w41 ho => ?_)
              rw [gUpdN] at w41
              have w22 := (ho 22 (by decide)).trans w22
              have w37 := (ho 37 (by decide)).trans w37
              have w38 := (ho 38 (by decide)).trans w38
              have w39 := (ho 39 (by decide)).trans w39
              have w40 := (ho 40 (by decide)).trans w40
              have w41 : G[41]? = some (a 41, .inl (cI, 7, .inl (fun j => nI ((vf_upd (bf) (jx) ((gLay (jn) (jn) 0 (n) 0 (u.2.1)) (jx))) j)))) := w41
              have hk := gk_step hk ho (by decide)
              clear ho
              refine lv_iinc (v := nI (jx + 1)) (lv' := [(5, .int (nI (jx + 1))), (0, .ref (a 22)), (1, .int (nI (gFct jn))), (2, .int (gMc (co) (pa) (wa) (gLay (jn) (jn) 0 (n) 0 (u.2.1)) (jn) 0 (nI 0) 0 (nI 0))), (3, .int (nI (n)))]) (pc := 82) hx hb dX8_order_82 hl (k := 4) rfl (mx_inc1 _) (by decide) rfl (fun ls hl => ?_)
              refine lv_goto (tgt := 59) (pc := 85) hx hb dX8_order_85 (by decide) ?_
              exact ih (jx + 1) (vf_upd (bf) (jx) ((gLay (jn) (jn) 0 (n) 0 (u.2.1)) (jx))) (by omega) G H locs ls hP hD hS hk w22 w37 w38 w39 w40 w41 (lv_sub hl [1, 2, 3, 4, 0] rfl) hcont
          refine LC jn (0) (u.2.2) (by omega) G H locs ls hP hD hS hk w22 w37 w38 w39 w40 w41 (lv_sub hl [3, 4, 1, 5, 0] rfl) (fun G H locs ls hP hD hS hk w22 w37 w38 w39 w40 w41 hl => ?_)
          have w41 : G[41]? = some (a 41, .inl (cI, 7, .inl (fun j => nI ((gCp (gLay jn jn 0 n 0 u.2.1) (jn) (0) (u.2.2)) j)))) := w41
          refine lv_iinc (v := nI (n + 1)) (lv' := [(3, .int (nI (n + 1))), (0, .ref (a 22)), (1, .int (nI (gFct jn))), (2, .int (gMc (co) (pa) (wa) (gLay (jn) (jn) 0 (n) 0 (u.2.1)) (jn) 0 (nI 0) 0 (nI 0)))]) (pc := 88) hx hb dX8_order_88 hl (k := 3) rfl (mx_inc1 _) (by decide) rfl (fun ls hl => ?_)
          refine lv_goto (tgt := 26) (pc := 91) hx hb dX8_order_91 (by decide) ?_
          rw [gMo_2 c44 c50] at hcont
          exact ih (n + 1) ((gMcs jn co pa wa n u, (gLay jn jn 0 n 0 u.2.1), gCp (gLay jn jn 0 n 0 u.2.1) jn 0 u.2.2)) (by omega) G H locs ls hP hD hS hk w22 w37 w38 w39 w40 w41 (lv_sub hl [1, 2, 3, 0] rfl) hcont
  refine LN (gFct jn) (0) (((-1), ro, be)) (by omega) G H locs ls hP hD hS hk w22 w37 w38 w39 w40 w41 (lv_sub hl [2, 3, 1, 0] rfl) (fun G H locs ls hP hD hS hk w22 w37 w38 w39 w40 w41 hl => ?_)
  have w40 : G[40]? = some (a 40, .inl (cI, 7, .inl (fun j => nI (((gMo jn co pa wa ((gFct jn)) (0) (((-1), ro, be))).2.1) j)))) := w40
  have w41 : G[41]? = some (a 41, .inl (cI, 7, .inl (fun j => nI (((gMo jn co pa wa ((gFct jn)) (0) (((-1), ro, be))).2.2) j)))) := w41
  refine lv_iload_n (pc := 94) hx hb dX8_order_94 rfl (lv_at hl 0 rfl) ?_
  exact hret _ _ _ _ _ _ hP hD hS rfl ⟨w40, w41, hk⟩ dX8_order_95
set_option maxHeartbeats 4000000 in
set_option maxRecDepth 100000 in
theorem k_X8_orderAt_b {l : Launch} {D : va_G} {cI cZ : ClassId} {A : Nat → Prop} {g a : Nat → Nat} {G0 : va_W} {zn : Nat} {tr : Nat} {sc : Nat} {pn : Nat} {mn : Nat} {jn : Nat} {sg : Int32} {sr : Int32} {ss : Int32} {fed : Int32} {pap : Int32} {bar : Int32} {st : Bool} {q1 : Int64} {q2 : Int64} {q3 : Int64} {q4 : Int64} {q5 : Int64} {x : Int32} (hD : va_D A G0) (w22 : G0[22]? = some (a 22, .inr (8, [.int (nI (zn)), .int (nI (tr)), .ref (a 23), .ref (a 24), .ref (a 25), .ref (a 26), .ref (a 27), .ref (a 28), .ref (a 29), .int (nI (sc)), .int (sg), .int (sr), .int (ss), .int (fed), .int (pap), .int (bar), .int (gB (st)), .ref (a 30), .ref (a 31), .ref (a 32), .int (nI (pn)), .ref (a 33), .ref (a 34), .ref (a 35), .ref (a 36), .int (nI (mn)), .long (q1), .long (q2), .long (q3), .long (q4), .long (q5), .ref (a 37), .ref (a 38), .ref (a 39), .int (nI (jn)), .ref (a 40), .ref (a 41)]))) (h1 : gIn (x).toInt64 0 (nI jn - nI 1).toInt64 = false) : gMi l D cI cZ A g yX8_orderAt wsX8_orderAt ({ frames := 1, cells := 0, slots := 0, locals := 25 }) [.ref (a 22), .int (x)] G0 ((-6)) (fun G1 => G1 = G0) := by
  refine gof_i (cc := cX8_orderAt) (maxL := 3) (by decide) rfl (Nat.le_of_ble_eq_true rfl) hD ?_
  intro p e s m args below meth c Q hx hb hml hts hown hK hN hZ hP hS hret ls hl
  have hown : s.vm.findClass RX8 = some m.cls := hown
  have hl : lv_has ls 3 [(0, .ref (a 22)), (1, .int (x))] := hl
  obtain ⟨locs, elocs⟩ : ∃ q : List Loc, q = [] := ⟨_, rfl⟩
  rw [← elocs] at hS ⊢
  obtain ⟨H, eH⟩ : ∃ q : Heap, q = s.heap := ⟨_, rfl⟩
  have hP : va_P D vwCl G0 H := eH ▸ hP
  have hS : va_S A s.heap H locs := by rw [eH]; exact hS
  rw [← eH]
  clear elocs eH
  have hiX8 : ∀ w ∈ u_ws RX8 TX8 37, w ∈ wsX8_orderAt := by decide +kernel
  have hk : ∀ k, k ∉ ([] : List Nat) → G0[k]? = G0[k]? := fun _ _ => rfl
  refine lv_iload_n (pc := 0) hx hb dX8_orderAt_0 rfl (lv_at hl 1 rfl) ?_
  refine lv_i2l (v := (x).toInt64) (pc := 1) hx hb dX8_orderAt_1 rfl ?_
  refine lv_lconst (v := 0) (pc := 2) hx hb dX8_orderAt_2 (by decide) ?_
  refine lv_aload_n (pc := 3) hx hb dX8_orderAt_3 rfl (lv_at hl 0 rfl) ?_
  refine va_get (ci := 8) (C := RX8) (T := TX8) (N := 37) (pc := 4) hx hb hts hiX8 hown hK hP 22 w22 rfl 34 (by decide) (hts (.fieldLink RX8 193 "InkPressModel" "jobs" "I") (by decide +kernel)) (fun _ h9 => h9) rfl dX8_orderAt_4 ?_
  refine lv_iconst (v := nI (1)) (pc := 7) hx hb dX8_orderAt_7 (by decide) ?_
  refine lv_isub (pc := 8) hx hb dX8_orderAt_8 ?_
  refine lv_i2l (v := ((nI (jn) - nI (1))).toInt64) (pc := 9) hx hb dX8_orderAt_9 rfl ?_
  refine mx_cSi (As := [.long ((x).toInt64), .long (0), .long (((nI (jn) - nI (1))).toInt64)]) (rest := []) (pc := 10) ⟨hx, hb, hml, hown, hts⟩ (k_X8_in (a := a) (v := (x).toInt64) (lo := 0) (hi := ((nI (jn) - nI (1))).toInt64) hD  ) (va_cwS 3 hts gX8_orderAt_X8_in rfl rfl rfl (by decide +kernel) ⟨Nat.le_of_ble_eq_true rfl, Nat.le_of_ble_eq_true rfl⟩) hK hN hZ hP hS rfl hl.1 rfl (Nat.le_of_ble_eq_true rfl) dX8_orderAt_10 ⟨Nat.zero_le _, Nat.zero_le _⟩ (fun G' H locs hP hD hS hB => ?_)
  rw [hB] at hP hD
  clear hB G'
  refine mx_bne (tgt := 19) (pc := 13) hx hb dX8_orderAt_13 (by decide) (fun c13 => absurd (c13.symm.trans h1) (by decide)) (fun c13 => ?_)
  refine lv_bipush (v := (-6)) (pc := 16) hx hb dX8_orderAt_16 (by decide) ?_
  exact hret _ _ _ _ _ _ hP hD hS rfl rfl dX8_orderAt_18
set_option maxHeartbeats 4000000 in
set_option maxRecDepth 100000 in
theorem k_X8_orderAt_k {l : Launch} {D : va_G} {cI cZ : ClassId} {A : Nat → Prop} {g a : Nat → Nat} {G0 : va_W} {zn : Nat} {tr : Nat} {sc : Nat} {pn : Nat} {mn : Nat} {jn : Nat} {sg : Int32} {sr : Int32} {ss : Int32} {fed : Int32} {pap : Int32} {bar : Int32} {st : Bool} {q1 : Int64} {q2 : Int64} {q3 : Int64} {q4 : Int64} {q5 : Int64} {co : Nat → Nat} {pa : Nat → Int32} {wa : Nat → Int32} {ro : Nat → Nat} {be : Nat → Nat} {i : Nat} (hD : va_D A G0) (w22 : G0[22]? = some (a 22, .inr (8, [.int (nI (zn)), .int (nI (tr)), .ref (a 23), .ref (a 24), .ref (a 25), .ref (a 26), .ref (a 27), .ref (a 28), .ref (a 29), .int (nI (sc)), .int (sg), .int (sr), .int (ss), .int (fed), .int (pap), .int (bar), .int (gB (st)), .ref (a 30), .ref (a 31), .ref (a 32), .int (nI (pn)), .ref (a 33), .ref (a 34), .ref (a 35), .ref (a 36), .int (nI (mn)), .long (q1), .long (q2), .long (q3), .long (q4), .long (q5), .ref (a 37), .ref (a 38), .ref (a 39), .int (nI (jn)), .ref (a 40), .ref (a 41)]))) (w37 : G0[37]? = some (a 37, .inl (cI, 7, .inl (fun j => nI ((co) j))))) (w38 : G0[38]? = some (a 38, .inl (cI, 7, .inl (pa)))) (w39 : G0[39]? = some (a 39, .inl (cI, 16, .inl (wa)))) (w40 : G0[40]? = some (a 40, .inl (cI, 7, .inl (fun j => nI ((ro) j))))) (w41 : G0[41]? = some (a 41, .inl (cI, 7, .inl (fun j => nI ((be) j))))) (hj : jn ≤ 7) (hco : ∀ j, co j < 4) (hj1 : 1 ≤ jn) (hi : i < 7) (h1 : gHas (nI i) (nI jn) = true) (hc0 : 0 ≤ (gMo jn co pa wa (gFct jn) 0 ((-1), ro, be)).1) : gMi l D cI cZ A g yX8_orderAt wsX8_orderAt ({ frames := 2, cells := 0, slots := 0, locals := 53 }) [.ref (a 22), .int (nI (i))] G0 (nI ((gMo jn co pa wa (gFct jn) 0 ((-1), ro, be)).2.2 i)) (fun G1 => G1[40]? = some (a 40, .inl (cI, 7, .inl (fun j => nI (((gMo jn co pa wa (gFct jn) 0 ((-1), ro, be)).2.1) j)))) ∧ G1[41]? = some (a 41, .inl (cI, 7, .inl (fun j => nI (((gMo jn co pa wa (gFct jn) 0 ((-1), ro, be)).2.2) j)))) ∧ ∀ k, k ∉ [40, 41] → G1[k]? = G0[k]?) := by
  refine gof_i (cc := cX8_orderAt) (maxL := 3) (by decide) rfl (Nat.le_of_ble_eq_true rfl) hD ?_
  intro p e s m args below meth c Q hx hb hml hts hown hK hN hZ hP hS hret ls hl
  have hown : s.vm.findClass RX8 = some m.cls := hown
  have hl : lv_has ls 3 [(0, .ref (a 22)), (1, .int (nI (i)))] := hl
  obtain ⟨locs, elocs⟩ : ∃ q : List Loc, q = [] := ⟨_, rfl⟩
  rw [← elocs] at hS ⊢
  obtain ⟨H, eH⟩ : ∃ q : Heap, q = s.heap := ⟨_, rfl⟩
  have hP : va_P D vwCl G0 H := eH ▸ hP
  have hS : va_S A s.heap H locs := by rw [eH]; exact hS
  rw [← eH]
  clear elocs eH
  have hiX8 : ∀ w ∈ u_ws RX8 TX8 37, w ∈ wsX8_orderAt := by decide +kernel
  have hk : ∀ k, k ∉ [40, 41] → G0[k]? = G0[k]? := fun _ _ => rfl
  refine lv_iload_n (pc := 0) hx hb dX8_orderAt_0 rfl (lv_at hl 1 rfl) ?_
  refine lv_i2l (v := (nI (i)).toInt64) (pc := 1) hx hb dX8_orderAt_1 rfl ?_
  refine lv_lconst (v := 0) (pc := 2) hx hb dX8_orderAt_2 (by decide) ?_
  refine lv_aload_n (pc := 3) hx hb dX8_orderAt_3 rfl (lv_at hl 0 rfl) ?_
  refine va_get (ci := 8) (C := RX8) (T := TX8) (N := 37) (pc := 4) hx hb hts hiX8 hown hK hP 22 w22 rfl 34 (by decide) (hts (.fieldLink RX8 193 "InkPressModel" "jobs" "I") (by decide +kernel)) (fun _ h9 => h9) rfl dX8_orderAt_4 ?_
  refine lv_iconst (v := nI (1)) (pc := 7) hx hb dX8_orderAt_7 (by decide) ?_
  refine mx_isub (pc := 8) hx hb hj1 dX8_orderAt_8 ?_
  refine lv_i2l (v := (nI ((jn) - (1))).toInt64) (pc := 9) hx hb dX8_orderAt_9 rfl ?_
  refine mx_cSi (As := [.long ((nI (i)).toInt64), .long (0), .long ((nI ((jn) - (1))).toInt64)]) (rest := []) (pc := 10) ⟨hx, hb, hml, hown, hts⟩ (k_X8_in (a := a) (v := (nI (i)).toInt64) (lo := 0) (hi := (nI ((jn) - (1))).toInt64) hD  ) (va_cwS 3 hts gX8_orderAt_X8_in rfl rfl rfl (by decide +kernel) ⟨Nat.le_of_ble_eq_true rfl, Nat.le_of_ble_eq_true rfl⟩) hK hN hZ hP hS rfl hl.1 rfl (Nat.le_of_ble_eq_true rfl) dX8_orderAt_10 ⟨Nat.zero_le _, Nat.zero_le _⟩ (fun G' H locs hP hD hS hB => ?_)
  rw [hB] at hP hD
  clear hB G'
  refine mx_bne (tgt := 19) (pc := 13) hx hb dX8_orderAt_13 (by decide) (fun c13 => ?_) (fun c13 => absurd (c13.symm.trans ((gIn_has hj1 (by omega)).trans h1)) (by decide))
  refine lv_aload_n (pc := 19) hx hb dX8_orderAt_19 rfl (lv_at hl 0 rfl) ?_
  refine mx_cVi (As := []) (rest := []) (pc := 20) ⟨hx, hb, hml, hown, hts⟩ (k_X8_order (a := a) (zn := zn) (tr := tr) (sc := sc) (pn := pn) (mn := mn) (jn := jn) (sg := sg) (sr := sr) (ss := ss) (fed := fed) (pap := pap) (bar := bar) (st := st) (q1 := q1) (q2 := q2) (q3 := q3) (q4 := q4) (q5 := q5) (co := co) (pa := pa) (wa := wa) (ro := ro) (be := be) hD w22 w37 w38 w39 w40 w41 hj hco) (cwV 0 hts gX8_orderAt_X8_order rfl rfl rfl (by decide +kernel) ⟨Nat.le_of_ble_eq_true rfl, Nat.le_of_ble_eq_true rfl⟩) 22 rfl rfl w22 hK hN hZ hP hS rfl hl.1 rfl (Nat.le_of_ble_eq_true rfl) dX8_orderAt_20 ⟨Nat.zero_le _, Nat.zero_le _⟩ (fun G H locs hP hD hS hB => ?_)
  obtain ⟨w40, w41, ho⟩ := hB
  have w22 := (ho 22 (by decide)).trans w22
  have w37 := (ho 37 (by decide)).trans w37
  have w38 := (ho 38 (by decide)).trans w38
  have w39 := (ho 39 (by decide)).trans w39
  have w40 : G[40]? = some (a 40, .inl (cI, 7, .inl (fun j => nI (((gMo (jn) (co) (pa) (wa) (gFct (jn)) 0 ((-1), (ro), (be))).2.1) j)))) := w40
  have w41 : G[41]? = some (a 41, .inl (cI, 7, .inl (fun j => nI (((gMo (jn) (co) (pa) (wa) (gFct (jn)) 0 ((-1), (ro), (be))).2.2) j)))) := w41
  have hk := gk_call hk ho (by decide)
  clear ho
  refine lv_istore_n (lv' := [(2, .int ((gMo (jn) (co) (pa) (wa) (gFct (jn)) 0 ((-1), (ro), (be))).1)), (0, .ref (a 22)), (1, .int (nI (i)))]) (pc := 23) hx hb dX8_orderAt_23 rfl hl (by decide) rfl (fun ls hl => ?_)
  refine lv_iload_n (pc := 24) hx hb dX8_orderAt_24 rfl (lv_at hl 0 rfl) ?_
  refine lv_if_ge (tgt := 33) (pc := 25) hx hb dX8_orderAt_25 (by decide) (fun c25 => ?_) (fun c25 => absurd hc0 c25)
  refine lv_aload_n (pc := 33) hx hb dX8_orderAt_33 rfl (lv_at hl 1 rfl) ?_
  refine va_get (ci := 8) (C := RX8) (T := TX8) (N := 37) (pc := 34) hx hb hts hiX8 hown hK hP 22 w22 rfl 36 (by decide) (hts (.fieldLink RX8 75 "InkPressModel" "best" "[I") (by decide +kernel)) (fun _ h9 => h9) rfl dX8_orderAt_34 ?_
  refine lv_iload_n (pc := 37) hx hb dX8_orderAt_37 rfl (lv_at hl 2 rfl) ?_
  refine mx_iald (pc := 38) hx hb hK hP 41 w41 (i) (by omega) (by decide) dX8_orderAt_38 ?_
  exact hret _ _ _ _ _ _ hP hD hS rfl ⟨w40, w41, hk⟩ dX8_orderAt_39
