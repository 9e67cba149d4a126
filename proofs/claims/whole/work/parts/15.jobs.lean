/-! the jobs -/
theorem gUpdN (f : Nat → Nat) (k : Nat) (b : Nat) : upd (fun j => nI (f j)) k (nI b) = fun j => nI (vf_upd f k b j) := by
  funext j
  by_cases h : j = k <;> simp [upd, vf_upd, h]
theorem gSl : ∀ n, n < 32 → ((nI n &&& 31).toBitVec.smod 32).toNat = n := by decide
theorem gP2 {j : Nat} (h : j < 8) : 1 * 2 ^ j < 2 ^ 32 := by
  rw [Nat.one_mul]
  exact Nat.pow_lt_pow_right (by decide) (by omega)
theorem gOr {d j : Nat} (hd : d < 128) (hj : j < 7) : d ||| 1 * 2 ^ j < 128 := by
  rw [Nat.one_mul]
  exact Nat.or_lt_two_pow (n := 7) hd (Nat.pow_lt_pow_right (by decide) hj)
theorem gIx {d j : Nat} (hd : d < 128) (hj : j < 7) : (d ||| 1 * 2 ^ j) * 8 + j < 1024 := by
  have := gOr hd hj
  omega
theorem gP128 {n : Nat} (h : n ≤ 7) : 1 * 2 ^ n - 1 < 128 := by
  have : 2 ^ n ≤ 2 ^ 7 := Nat.pow_le_pow_right (by decide) h
  omega
theorem gOrN (a b : Nat) : nI a ||| nI b = nI (a ||| b) := by
  apply Int32.toBitVec_inj.mp
  show BitVec.ofNat 32 a ||| BitVec.ofNat 32 b = BitVec.ofNat 32 (a ||| b)
  apply BitVec.eq_of_toNat_eq
  simp [BitVec.toNat_or, BitVec.toNat_ofNat, Nat.or_mod_two_pow]
section MX3
variable {p : Program} {l : Launch} {e : Env} {R : Room} {s : State} {m : MethodId} {args : Array Value} {below : List Frame} {meth : Method} {c : Code} {H : Heap} {locs : List Loc} {cells slots : Nat} {Q : State → Prop}
variable {cc : ByteArray} {pc : Nat} {ls : Array Slot} {rest : List Value}
theorem mx_ishl (hexec : p.tables.exec = Jvm.exec) (hb : c.code = cc) {x y : Nat} (hy : y < 32) (h : x * 2 ^ y < 2 ^ 32) (hdg : decode cc pc = .ok (.ishl, 1)) (k : W p l e R s m args below meth c H locs cells slots Q (F0 m (pc + 1) ls (.int (nI (x * 2 ^ y)) :: rest))) : W p l e R s m args below meth c H locs cells slots Q (F0 m pc ls (.int (nI y) :: .int (nI x) :: rest)) := lv_ishl hexec hb hdg (by rw [pk_shlN _ y (gSl y hy) h]; exact k)
theorem mx_ior (hexec : p.tables.exec = Jvm.exec) (hb : c.code = cc) {x y : Nat} (hdg : decode cc pc = .ok (.ior, 1)) (k : W p l e R s m args below meth c H locs cells slots Q (F0 m (pc + 1) ls (.int (nI (x ||| y)) :: rest))) : W p l e R s m args below meth c H locs cells slots Q (F0 m pc ls (.int (nI y) :: .int (nI x) :: rest)) := lv_ior hexec hb hdg (by rw [gOrN]; exact k)
end MX3
/-- the costs by way of job nx behind la, with the jobs of d done -/
def gCost (co : Nat → Nat) (pa wa ct : Nat → Int32) (d la nx : Nat) : Int32 := wa (co la * 4 + co nx) + (if pa la = pa nx then nI 0 else nI 5) + ct ((d ||| 1 * 2 ^ nx) * 8 + nx)
theorem gCost_e {co : Nat → Nat} {pa wa ct : Nat → Int32} {d la nx : Nat} (h : pa la = pa nx) : gCost co pa wa ct d la nx = wa (co la * 4 + co nx) + nI 0 + ct ((d ||| 1 * 2 ^ nx) * 8 + nx) := by
  unfold gCost
  rw [if_pos h]
theorem gCost_n {co : Nat → Nat} {pa wa ct : Nat → Int32} {d la nx : Nat} (h : ¬ pa la = pa nx) : gCost co pa wa ct d la nx = wa (co la * 4 + co nx) + nI 5 + ct ((d ||| 1 * 2 ^ nx) * 8 + nx) := by
  unfold gCost
  rw [if_neg h]
/-- the best next one: what was found, and its costs -/
def gBn (cost : Nat → Int32) (d : Nat) : Nat → Nat → Int32 → Int32 → Int32 × Int32
  | 0, _, fo, le => (fo, le)
  | k + 1, nx, fo, le => if gHolds (nI d) (nI nx) = true then gBn cost d k (nx + 1) fo le else if fo = -6 ∨ ¬ le ≤ cost nx then gBn cost d k (nx + 1) (nI nx) (cost nx) else gBn cost d k (nx + 1) fo le
theorem gBn_h {cost : Nat → Int32} {d k nx : Nat} {fo le : Int32} (h : gHolds (nI d) (nI nx) = true) : gBn cost d (k + 1) nx fo le = gBn cost d k (nx + 1) fo le := if_pos h
theorem gBn_n {cost : Nat → Int32} {d k nx : Nat} {fo le : Int32} (h : gHolds (nI d) (nI nx) = false) (h2 : fo = -6) : gBn cost d (k + 1) nx fo le = gBn cost d k (nx + 1) (nI nx) (cost nx) := (if_neg (by rw [h]; decide)).trans (if_pos (Or.inl h2))
theorem gBn_l {cost : Nat → Int32} {d k nx : Nat} {fo le : Int32} (h : gHolds (nI d) (nI nx) = false) (_h2 : ¬ fo = -6) (h3 : ¬ le ≤ cost nx) : gBn cost d (k + 1) nx fo le = gBn cost d k (nx + 1) (nI nx) (cost nx) := (if_neg (by rw [h]; decide)).trans (if_pos (Or.inr h3))
theorem gBn_k {cost : Nat → Int32} {d k nx : Nat} {fo le : Int32} (h : gHolds (nI d) (nI nx) = false) (h2 : ¬ fo = -6) (h3 : le ≤ cost nx) : gBn cost d (k + 1) nx fo le = gBn cost d k (nx + 1) fo le := (if_neg (by rw [h]; decide)).trans (if_neg (fun q => q.elim h2 (fun z => z h3)))
theorem gBn_in {cost : Nat → Int32} {d n : Nat} : ∀ (k nx : Nat) (fo le : Int32), nx + k = n → (fo = -6 ∨ ∃ j, j < n ∧ fo = nI j) → ((gBn cost d k nx fo le).1 = -6 ∨ ∃ j, j < n ∧ (gBn cost d k nx fo le).1 = nI j) := by
  intro k
  induction k with
  | zero => intro nx fo le _ h; exact h
  | succ k ih =>
    intro nx fo le hn h
    unfold gBn
    split
    · exact ih _ _ _ (by omega) h
    · split
      · exact ih _ _ _ (by omega) (Or.inr ⟨nx, by omega, rfl⟩)
      · exact ih _ _ _ (by omega) h
theorem gBx_ne {cost : Nat → Int32} {d n : Nat} (h : ¬ (gBn cost d n 0 (-6) (nI 0)).1 = -6) : ∃ j, j < n ∧ (gBn cost d n 0 (-6) (nI 0)).1 = nI j := (gBn_in n 0 (-6) (nI 0) (by omega) (Or.inl rfl)).elim (fun q => absurd q h) id
def gWv (jn : Nat) (co : Nat → Nat) (pa wa ct : Nat → Int32) (d la : Nat) : Int32 :=
  if (gBn (gCost co pa wa ct d la) d jn 0 (-6) (nI 0)).1 = -6 then nI 0 else gCost co pa wa ct d la (gBn (gCost co pa wa ct d la) d jn 0 (-6) (nI 0)).1.toNatClampNeg
theorem gWv_0 {jn : Nat} {co : Nat → Nat} {pa wa ct : Nat → Int32} {d la : Nat} (h : (gBn (gCost co pa wa ct d la) d jn 0 (-6) (nI 0)).1 = -6) : gWv jn co pa wa ct d la = nI 0 := if_pos h
theorem gWv_n {jn nx : Nat} {co : Nat → Nat} {pa wa ct : Nat → Int32} {d la : Nat} (h : ¬ (gBn (gCost co pa wa ct d la) d jn 0 (-6) (nI 0)).1 = -6) (e : (gBn (gCost co pa wa ct d la) d jn 0 (-6) (nI 0)).1 = nI nx) (hn : nx < 2 ^ 31) : gWv jn co pa wa ct d la = gCost co pa wa ct d la nx := by
  unfold gWv
  rw [if_neg h, e, nI_clamp hn]
def gWk (jn : Nat) (co : Nat → Nat) (pa wa ct : Nat → Int32) : Nat → Nat → Nat → Nat → (Nat → Nat) → Nat → Nat
  | 0, _, _, _, bf => bf
  | k + 1, pl, d, la, bf => if (gBn (gCost co pa wa ct d la) d jn 0 (-6) (nI 0)).1 = -6 then bf else gWk jn co pa wa ct k (pl + 1) (d ||| 1 * 2 ^ (gBn (gCost co pa wa ct d la) d jn 0 (-6) (nI 0)).1.toNatClampNeg) (gBn (gCost co pa wa ct d la) d jn 0 (-6) (nI 0)).1.toNatClampNeg (vf_upd bf pl (gBn (gCost co pa wa ct d la) d jn 0 (-6) (nI 0)).1.toNatClampNeg)
theorem gWk_0 {jn k pl d la : Nat} {co bf : Nat → Nat} {pa wa ct : Nat → Int32} (h : (gBn (gCost co pa wa ct d la) d jn 0 (-6) (nI 0)).1 = -6) : gWk jn co pa wa ct (k + 1) pl d la bf = bf := if_pos h
theorem gWk_1 {jn k pl d la nx : Nat} {co bf : Nat → Nat} {pa wa ct : Nat → Int32} (h : ¬ (gBn (gCost co pa wa ct d la) d jn 0 (-6) (nI 0)).1 = -6) (e : (gBn (gCost co pa wa ct d la) d jn 0 (-6) (nI 0)).1 = nI nx) (hn : nx < 2 ^ 31) : gWk jn co pa wa ct (k + 1) pl d la bf = gWk jn co pa wa ct k (pl + 1) (d ||| 1 * 2 ^ nx) nx (vf_upd bf pl nx) := by
  refine (if_neg h).trans ?_
  rw [e, nI_clamp hn]
def gWz (jn : Nat) (co : Nat → Nat) (pa wa : Nat → Int32) (d : Nat) : Nat → Nat → (Nat → Int32) → Nat → Int32
  | 0, _, ct => ct
  | k + 1, la, ct => if gHolds (nI d) (nI la) = true then gWz jn co pa wa d k (la + 1) (upd ct (d * 8 + la) (gWv jn co pa wa ct d la)) else gWz jn co pa wa d k (la + 1) ct
theorem gWz_t {jn d k la : Nat} {co : Nat → Nat} {pa wa ct : Nat → Int32} (h : gHolds (nI d) (nI la) = true) : gWz jn co pa wa d (k + 1) la ct = gWz jn co pa wa d k (la + 1) (upd ct (d * 8 + la) (gWv jn co pa wa ct d la)) := if_pos h
theorem gWz_f {jn d k la : Nat} {co : Nat → Nat} {pa wa ct : Nat → Int32} (h : gHolds (nI d) (nI la) = false) : gWz jn co pa wa d (k + 1) la ct = gWz jn co pa wa d k (la + 1) ct := if_neg (by rw [h]; decide)
def gWd (jn : Nat) (co : Nat → Nat) (pa wa : Nat → Int32) : Nat → (Nat → Int32) → Nat → Int32
  | 0, ct => ct
  | k + 1, ct => gWd jn co pa wa k (gWz jn co pa wa (k + 1) jn 0 ct)
def gPc (jp : Bool) (jn : Nat) (co : Nat → Nat) (pa wa ct : Nat → Int32) : Nat → Int32 := match jp with
  | true => ct
  | false => upd (gWd jn co pa wa (1 * 2 ^ jn - 1) ct) (0 * 8 + 7) (gWv jn co pa wa (gWd jn co pa wa (1 * 2 ^ jn - 1) ct) 0 7)
def gPb (jp : Bool) (jn : Nat) (co : Nat → Nat) (pa wa ct : Nat → Int32) (be : Nat → Nat) : Nat → Nat := match jp with
  | true => be
  | false => gWk jn co pa wa (gPc false jn co pa wa ct) jn 0 0 7 be
set_option maxHeartbeats 4000000 in
set_option maxRecDepth 100000 in
theorem k_X0_has {l : Launch} {D : va_G} {cI cZ : ClassId} {A : Nat → Prop} {g a : Nat → Nat} {G0 : va_W} {co : Nat → Nat} {pa : Nat → Int32} {wa : Nat → Int32} {ct : Nat → Int32} {be : Nat → Nat} {jn : Nat} {jp : Bool} {x : Int32} (hD : va_D A G0) (w16 : G0[16]? = some (a 16, .inr (0, [.ref (a 17), .ref (a 18), .ref (a 19), .ref (a 20), .ref (a 21), .int (nI (jn)), .int (gB (jp))]))) (w17 : G0[17]? = some (a 17, .inl (cI, 8, .inl (fun j => nI ((co) j))))) (w18 : G0[18]? = some (a 18, .inl (cI, 8, .inl (pa)))) (w19 : G0[19]? = some (a 19, .inl (cI, 16, .inl (wa)))) (w20 : G0[20]? = some (a 20, .inl (cI, 1024, .inl (ct)))) (w21 : G0[21]? = some (a 21, .inl (cI, 7, .inl (fun j => nI ((be) j))))) : gMi l D cI cZ A g yX0_has wsX0_has ({ frames := 0, cells := 0, slots := 0, locals := 0 }) [.ref (a 16), .int (x)] G0 (gB (gHas x (nI jn))) (fun G1 => G1 = G0) := by
  refine gof_z (cc := cX0_has) (maxL := 2) (by decide) rfl (Nat.le_of_ble_eq_true rfl) hD ?_
  intro p e s m args below meth c Q hx hb hml hts hown hK hN hZ hP hS hret ls hl
  have hown : s.vm.findClass RX0 = some m.cls := hown
  have hl : lv_has ls 2 [(0, .ref (a 16)), (1, .int (x))] := hl
  obtain ⟨locs, elocs⟩ : ∃ q : List Loc, q = [] := ⟨_, rfl⟩
  rw [← elocs] at hS ⊢
  obtain ⟨H, eH⟩ : ∃ q : Heap, q = s.heap := ⟨_, rfl⟩
  have hP : va_P D vwCl G0 H := eH ▸ hP
  have hS : va_S A s.heap H locs := by rw [eH]; exact hS
  rw [← eH]
  clear elocs eH
  have hiX0 : ∀ w ∈ u_ws RX0 TX0 7, w ∈ wsX0_has := by decide +kernel
  have hk : ∀ k, k ∉ ([] : List Nat) → G0[k]? = G0[k]? := fun _ _ => rfl
  refine lv_iload_n (pc := 0) hx hb dX0_has_0 rfl (lv_at hl 1 rfl) ?_
  refine lv_if_lt (tgt := 16) (pc := 1) hx hb dX0_has_1 (by decide) (fun c1 => ?_) (fun c1 => ?_)
  · skip
    refine lv_iconst (v := nI (0)) (pc := 16) hx hb dX0_has_16 (by decide) ?_
    exact hret _ _ _ _ _ _ hP hD hS rfl (by first | exact gHas_lt c1 | exact gHas_ge c9 | exact gHas_in c1 c9) rfl dX0_has_17
  · skip
    refine lv_iload_n (pc := 4) hx hb dX0_has_4 rfl (lv_at hl 1 rfl) ?_
    refine lv_aload_n (pc := 5) hx hb dX0_has_5 rfl (lv_at hl 0 rfl) ?_
    refine va_get (ci := 0) (C := RX0) (T := TX0) (N := 7) (pc := 6) hx hb hts hiX0 hown hK hP 16 w16 rfl 5 (by decide) (hts (.fieldLink RX0 31 "InkPress$Jobs" "count" "I") (by decide +kernel)) (fun _ h9 => h9) rfl dX0_has_6 ?_
    refine lv_icmp_ge (tgt := 16) (pc := 9) hx hb dX0_has_9 (by decide) (fun c9 => ?_) (fun c9 => ?_)
    · skip
      refine lv_iconst (v := nI (0)) (pc := 16) hx hb dX0_has_16 (by decide) ?_
      exact hret _ _ _ _ _ _ hP hD hS rfl (by first | exact gHas_lt c1 | exact gHas_ge c9 | exact gHas_in c1 c9) rfl dX0_has_17
    · skip
      refine lv_iconst (v := nI (1)) (pc := 12) hx hb dX0_has_12 (by decide) ?_
      refine lv_goto (tgt := 17) (pc := 13) hx hb dX0_has_13 (by decide) ?_
      exact hret _ _ _ _ _ _ hP hD hS rfl (by first | exact gHas_lt c1 | exact gHas_ge c9 | exact gHas_in c1 c9) rfl dX0_has_17
set_option maxHeartbeats 4000000 in
set_option maxRecDepth 100000 in
theorem k_X0_isFull {l : Launch} {D : va_G} {cI cZ : ClassId} {A : Nat → Prop} {g a : Nat → Nat} {G0 : va_W} {co : Nat → Nat} {pa : Nat → Int32} {wa : Nat → Int32} {ct : Nat → Int32} {be : Nat → Nat} {jn : Nat} {jp : Bool} (hD : va_D A G0) (w16 : G0[16]? = some (a 16, .inr (0, [.ref (a 17), .ref (a 18), .ref (a 19), .ref (a 20), .ref (a 21), .int (nI (jn)), .int (gB (jp))]))) (w17 : G0[17]? = some (a 17, .inl (cI, 8, .inl (fun j => nI ((co) j))))) (w18 : G0[18]? = some (a 18, .inl (cI, 8, .inl (pa)))) (w19 : G0[19]? = some (a 19, .inl (cI, 16, .inl (wa)))) (w20 : G0[20]? = some (a 20, .inl (cI, 1024, .inl (ct)))) (w21 : G0[21]? = some (a 21, .inl (cI, 7, .inl (fun j => nI ((be) j))))) (hj : jn ≤ 7) : gMi l D cI cZ A g yX0_isFull wsX0_isFull ({ frames := 0, cells := 0, slots := 0, locals := 0 }) [.ref (a 16)] G0 (gB (decide (7 ≤ jn))) (fun G1 => G1 = G0) := by
  refine gof_z (cc := cX0_isFull) (maxL := 1) (by decide) rfl (Nat.le_of_ble_eq_true rfl) hD ?_
  intro p e s m args below meth c Q hx hb hml hts hown hK hN hZ hP hS hret ls hl
  have hown : s.vm.findClass RX0 = some m.cls := hown
  have hl : lv_has ls 1 [(0, .ref (a 16))] := hl
  obtain ⟨locs, elocs⟩ : ∃ q : List Loc, q = [] := ⟨_, rfl⟩
  rw [← elocs] at hS ⊢
  obtain ⟨H, eH⟩ : ∃ q : Heap, q = s.heap := ⟨_, rfl⟩
  have hP : va_P D vwCl G0 H := eH ▸ hP
  have hS : va_S A s.heap H locs := by rw [eH]; exact hS
  rw [← eH]
  clear elocs eH
  have hiX0 : ∀ w ∈ u_ws RX0 TX0 7, w ∈ wsX0_isFull := by decide +kernel
  have hk : ∀ k, k ∉ ([] : List Nat) → G0[k]? = G0[k]? := fun _ _ => rfl
  refine lv_aload_n (pc := 0) hx hb dX0_isFull_0 rfl (lv_at hl 0 rfl) ?_
  refine va_get (ci := 0) (C := RX0) (T := TX0) (N := 7) (pc := 1) hx hb hts hiX0 hown hK hP 16 w16 rfl 5 (by decide) (hts (.fieldLink RX0 31 "InkPress$Jobs" "count" "I") (by decide +kernel)) (fun _ h9 => h9) rfl dX0_isFull_1 ?_
  refine lv_bipush (v := nI (7)) (pc := 4) hx hb dX0_isFull_4 (by decide) ?_
  refine mx_clt (tgt := 13) (pc := 6) hx hb (by omega) (by omega) dX0_isFull_6 (by decide) (fun c6 => ?_) (fun c6 => ?_)
  · skip
    refine lv_iconst (v := nI (0)) (pc := 13) hx hb dX0_isFull_13 (by decide) ?_
    exact hret _ _ _ _ _ _ hP hD hS rfl (by first | exact gDe_f (Nat.not_le.mpr c6) | exact gDe_t c6) rfl dX0_isFull_14
  · skip
    refine lv_iconst (v := nI (1)) (pc := 9) hx hb dX0_isFull_9 (by decide) ?_
    refine lv_goto (tgt := 14) (pc := 10) hx hb dX0_isFull_10 (by decide) ?_
    exact hret _ _ _ _ _ _ hP hD hS rfl (by first | exact gDe_f (Nat.not_le.mpr c6) | exact gDe_t c6) rfl dX0_isFull_14
set_option maxHeartbeats 4000000 in
set_option maxRecDepth 100000 in
theorem k_X0_add {l : Launch} {D : va_G} {cI cZ : ClassId} {A : Nat → Prop} {g a : Nat → Nat} {G0 : va_W} {co : Nat → Nat} {pa : Nat → Int32} {wa : Nat → Int32} {ct : Nat → Int32} {be : Nat → Nat} {jn : Nat} {jp : Bool} {cl : Nat} {pp : Int32} (hD : va_D A G0) (w16 : G0[16]? = some (a 16, .inr (0, [.ref (a 17), .ref (a 18), .ref (a 19), .ref (a 20), .ref (a 21), .int (nI (jn)), .int (gB (jp))]))) (w17 : G0[17]? = some (a 17, .inl (cI, 8, .inl (fun j => nI ((co) j))))) (w18 : G0[18]? = some (a 18, .inl (cI, 8, .inl (pa)))) (w19 : G0[19]? = some (a 19, .inl (cI, 16, .inl (wa)))) (w20 : G0[20]? = some (a 20, .inl (cI, 1024, .inl (ct)))) (w21 : G0[21]? = some (a 21, .inl (cI, 7, .inl (fun j => nI ((be) j))))) (hj : jn < 7) : gMi l D cI cZ A g yX0_add wsX0_add ({ frames := 0, cells := 0, slots := 0, locals := 0 }) [.ref (a 16), .int (nI (cl)), .int (pp)] G0 (nI (jn)) (fun G1 => G1[16]? = some (a 16, .inr (0, [.ref (a 17), .ref (a 18), .ref (a 19), .ref (a 20), .ref (a 21), .int (nI (jn + 1)), .int (gB (false))])) ∧ G1[17]? = some (a 17, .inl (cI, 8, .inl (fun j => nI ((vf_upd co jn cl) j)))) ∧ G1[18]? = some (a 18, .inl (cI, 8, .inl (upd pa jn pp))) ∧ ∀ k, k ∉ [16, 17, 18] → G1[k]? = G0[k]?) := by
  refine gof_i (cc := cX0_add) (maxL := 3) (by decide) rfl (Nat.le_of_ble_eq_true rfl) hD ?_
  intro p e s m args below meth c Q hx hb hml hts hown hK hN hZ hP hS hret ls hl
  have hown : s.vm.findClass RX0 = some m.cls := hown
  have hl : lv_has ls 3 [(0, .ref (a 16)), (1, .int (nI (cl))), (2, .int (pp))] := hl
  obtain ⟨locs, elocs⟩ : ∃ q : List Loc, q = [] := ⟨_, rfl⟩
  rw [← elocs] at hS ⊢
  obtain ⟨H, eH⟩ : ∃ q : Heap, q = s.heap := ⟨_, rfl⟩
  have hP : va_P D vwCl G0 H := eH ▸ hP
  have hS : va_S A s.heap H locs := by rw [eH]; exact hS
  rw [← eH]
  clear elocs eH
  have hiX0 : ∀ w ∈ u_ws RX0 TX0 7, w ∈ wsX0_add := by decide +kernel
  have hk : ∀ k, k ∉ [16, 17, 18] → G0[k]? = G0[k]? := fun _ _ => rfl
  refine lv_aload_n (pc := 0) hx hb dX0_add_0 rfl (lv_at hl 0 rfl) ?_
  refine va_get (ci := 0) (C := RX0) (T := TX0) (N := 7) (pc := 1) hx hb hts hiX0 hown hK hP 16 w16 rfl 0 (by decide) (hts (.fieldLink RX0 11 "InkPress$Jobs" "colours" "[I") (by decide +kernel)) (fun _ h9 => h9) rfl dX0_add_1 ?_
  refine lv_aload_n (pc := 4) hx hb dX0_add_4 rfl (lv_at hl 0 rfl) ?_
  refine va_get (ci := 0) (C := RX0) (T := TX0) (N := 7) (pc := 5) hx hb hts hiX0 hown hK hP 16 w16 rfl 5 (by decide) (hts (.fieldLink RX0 31 "InkPress$Jobs" "count" "I") (by decide +kernel)) (fun _ h9 => h9) rfl dX0_add_5 ?_
  refine lv_iload_n (pc := 8) hx hb dX0_add_8 rfl (lv_at hl 1 rfl) ?_
  refine mx_iast (x := nI (cl)) (pc := 9) hx hb hK hP hD hS 17 w17 (jn) (by omega) (by decide) dX0_add_9 (fun H locs G hP hD hS w17 ho => ?_)
  rw [gUpdN] at w17
  have w16 := (ho 16 (by decide)).trans w16
  have w18 := (ho 18 (by decide)).trans w18
  have w19 := (ho 19 (by decide)).trans w19
  have w20 := (ho 20 (by decide)).trans w20
  have w21 := (ho 21 (by decide)).trans w21
  have w17 : G[17]? = some (a 17, .inl (cI, 8, .inl (fun j => nI ((vf_upd (co) (jn) (cl)) j)))) := w17
  have hk := gk_step hk ho (by decide)
  clear ho
  refine lv_aload_n (pc := 10) hx hb dX0_add_10 rfl (lv_at hl 0 rfl) ?_
  refine va_get (ci := 0) (C := RX0) (T := TX0) (N := 7) (pc := 11) hx hb hts hiX0 hown hK hP 16 w16 rfl 1 (by decide) (hts (.fieldLink RX0 15 "InkPress$Jobs" "papers" "[I") (by decide +kernel)) (fun _ h9 => h9) rfl dX0_add_11 ?_
  refine lv_aload_n (pc := 14) hx hb dX0_add_14 rfl (lv_at hl 0 rfl) ?_
  refine va_get (ci := 0) (C := RX0) (T := TX0) (N := 7) (pc := 15) hx hb hts hiX0 hown hK hP 16 w16 rfl 5 (by decide) (hts (.fieldLink RX0 31 "InkPress$Jobs" "count" "I") (by decide +kernel)) (fun _ h9 => h9) rfl dX0_add_15 ?_
  refine lv_iload_n (pc := 18) hx hb dX0_add_18 rfl (lv_at hl 2 rfl) ?_
  refine mx_iast (x := pp) (pc := 19) hx hb hK hP hD hS 18 w18 (jn) (by omega) (by decide) dX0_add_19 (fun H locs G hP hD hS w18 ho => ?_)
  have w16 := (ho 16 (by decide)).trans w16
  have w17 := (ho 17 (by decide)).trans w17
  have w19 := (ho 19 (by decide)).trans w19
  have w20 := (ho 20 (by decide)).trans w20
  have w21 := (ho 21 (by decide)).trans w21
  have w18 : G[18]? = some (a 18, .inl (cI, 8, .inl (upd (pa) (jn) (pp)))) := w18
  have hk := gk_step hk ho (by decide)
  clear ho
  refine lv_aload_n (pc := 20) hx hb dX0_add_20 rfl (lv_at hl 0 rfl) ?_
  refine lv_dup (pc := 21) hx hb dX0_add_21 rfl ?_
  refine va_get (ci := 0) (C := RX0) (T := TX0) (N := 7) (pc := 22) hx hb hts hiX0 hown hK hP 16 w16 rfl 5 (by decide) (hts (.fieldLink RX0 31 "InkPress$Jobs" "count" "I") (by decide +kernel)) (fun _ h9 => h9) rfl dX0_add_22 ?_
  refine lv_iconst (v := nI (1)) (pc := 25) hx hb dX0_add_25 (by decide) ?_
  refine mx_iadd (pc := 26) hx hb dX0_add_26 ?_
  refine mx_put (ci := 0) (v := .int (nI (jn + 1))) (ty := .int) (C := RX0) (T := TX0) (N := 7) (pc := 27) hx hb hts hiX0 tyX0 tyX0_ok nmX0 hown hK hP hD hS 16 w16 rfl 5 (by decide) (hts (.fieldLink RX0 31 "InkPress$Jobs" "count" "I") (by decide +kernel)) (fun _ h9 => h9) rfl (by decide +kernel) rfl rfl (Nat.le_of_ble_eq_true rfl) dX0_add_27 (fun H locs G hP hD hS w16 ho => ?_)
  have w17 := (ho 17 (by decide)).trans w17
  have w18 := (ho 18 (by decide)).trans w18
  have w19 := (ho 19 (by decide)).trans w19
  have w20 := (ho 20 (by decide)).trans w20
  have w21 := (ho 21 (by decide)).trans w21
  have w16 : G[16]? = some (a 16, .inr (0, [.ref (a 17), .ref (a 18), .ref (a 19), .ref (a 20), .ref (a 21), .int (nI (jn + 1)), .int (gB (jp))])) := w16
  have hk := gk_step hk ho (by decide)
  clear ho
  refine lv_aload_n (pc := 30) hx hb dX0_add_30 rfl (lv_at hl 0 rfl) ?_
  refine lv_iconst (v := nI (0)) (pc := 31) hx hb dX0_add_31 (by decide) ?_
  refine mx_put (ci := 0) (v := .int (nI (0))) (ty := .boolean) (C := RX0) (T := TX0) (N := 7) (pc := 32) hx hb hts hiX0 tyX0 tyX0_ok nmX0 hown hK hP hD hS 16 w16 rfl 6 (by decide) (hts (.fieldLink RX0 35 "InkPress$Jobs" "isPlanned" "Z") (by decide +kernel)) (fun _ h9 => h9) rfl (by decide +kernel) rfl rfl (Nat.le_of_ble_eq_true rfl) dX0_add_32 (fun H locs G hP hD hS w16 ho => ?_)
  have w17 := (ho 17 (by decide)).trans w17
  have w18 := (ho 18 (by decide)).trans w18
  have w19 := (ho 19 (by decide)).trans w19
  have w20 := (ho 20 (by decide)).trans w20
  have w21 := (ho 21 (by decide)).trans w21
  have w16 : G[16]? = some (a 16, .inr (0, [.ref (a 17), .ref (a 18), .ref (a 19), .ref (a 20), .ref (a 21), .int (nI (jn + 1)), .int (gB (false))])) := w16
  have hk := gk_step hk ho (by decide)
  clear ho
  refine lv_aload_n (pc := 35) hx hb dX0_add_35 rfl (lv_at hl 0 rfl) ?_
  refine va_get (ci := 0) (C := RX0) (T := TX0) (N := 7) (pc := 36) hx hb hts hiX0 hown hK hP 16 w16 rfl 5 (by decide) (hts (.fieldLink RX0 31 "InkPress$Jobs" "count" "I") (by decide +kernel)) (fun _ h9 => h9) rfl dX0_add_36 ?_
  refine lv_iconst (v := nI (1)) (pc := 39) hx hb dX0_add_39 (by decide) ?_
  refine mx_isub (pc := 40) hx hb (by omega) dX0_add_40 ?_
  exact hret _ _ _ _ _ _ hP hD hS (by rw [Nat.add_sub_cancel]) ⟨w16, w17, w18, hk⟩ dX0_add_41
set_option maxHeartbeats 4000000 in
set_option maxRecDepth 100000 in
theorem k_X0_removeAll {l : Launch} {D : va_G} {cI cZ : ClassId} {A : Nat → Prop} {g a : Nat → Nat} {G0 : va_W} {co : Nat → Nat} {pa : Nat → Int32} {wa : Nat → Int32} {ct : Nat → Int32} {be : Nat → Nat} {jn : Nat} {jp : Bool} (hD : va_D A G0) (w16 : G0[16]? = some (a 16, .inr (0, [.ref (a 17), .ref (a 18), .ref (a 19), .ref (a 20), .ref (a 21), .int (nI (jn)), .int (gB (jp))]))) (w17 : G0[17]? = some (a 17, .inl (cI, 8, .inl (fun j => nI ((co) j))))) (w18 : G0[18]? = some (a 18, .inl (cI, 8, .inl (pa)))) (w19 : G0[19]? = some (a 19, .inl (cI, 16, .inl (wa)))) (w20 : G0[20]? = some (a 20, .inl (cI, 1024, .inl (ct)))) (w21 : G0[21]? = some (a 21, .inl (cI, 7, .inl (fun j => nI ((be) j))))) : gMi l D cI cZ A g yX0_removeAll wsX0_removeAll ({ frames := 0, cells := 0, slots := 0, locals := 0 }) [.ref (a 16)] G0 (nI (jn)) (fun G1 => G1[16]? = some (a 16, .inr (0, [.ref (a 17), .ref (a 18), .ref (a 19), .ref (a 20), .ref (a 21), .int (nI (0)), .int (gB (false))])) ∧ ∀ k, k ∉ [16] → G1[k]? = G0[k]?) := by
  refine gof_i (cc := cX0_removeAll) (maxL := 2) (by decide) rfl (Nat.le_of_ble_eq_true rfl) hD ?_
  intro p e s m args below meth c Q hx hb hml hts hown hK hN hZ hP hS hret ls hl
  have hown : s.vm.findClass RX0 = some m.cls := hown
  have hl : lv_has ls 2 [(0, .ref (a 16))] := hl
  obtain ⟨locs, elocs⟩ : ∃ q : List Loc, q = [] := ⟨_, rfl⟩
  rw [← elocs] at hS ⊢
  obtain ⟨H, eH⟩ : ∃ q : Heap, q = s.heap := ⟨_, rfl⟩
  have hP : va_P D vwCl G0 H := eH ▸ hP
  have hS : va_S A s.heap H locs := by rw [eH]; exact hS
  rw [← eH]
  clear elocs eH
  have hiX0 : ∀ w ∈ u_ws RX0 TX0 7, w ∈ wsX0_removeAll := by decide +kernel
  have hk : ∀ k, k ∉ [16] → G0[k]? = G0[k]? := fun _ _ => rfl
  refine lv_aload_n (pc := 0) hx hb dX0_removeAll_0 rfl (lv_at hl 0 rfl) ?_
  refine va_get (ci := 0) (C := RX0) (T := TX0) (N := 7) (pc := 1) hx hb hts hiX0 hown hK hP 16 w16 rfl 5 (by decide) (hts (.fieldLink RX0 31 "InkPress$Jobs" "count" "I") (by decide +kernel)) (fun _ h9 => h9) rfl dX0_removeAll_1 ?_
  refine lv_istore_n (lv' := [(1, .int (nI (jn))), (0, .ref (a 16))]) (pc := 4) hx hb dX0_removeAll_4 rfl hl (by decide) rfl (fun ls hl => ?_)
  refine lv_aload_n (pc := 5) hx hb dX0_removeAll_5 rfl (lv_at hl 1 rfl) ?_
  refine lv_iconst (v := nI (0)) (pc := 6) hx hb dX0_removeAll_6 (by decide) ?_
  refine mx_put (ci := 0) (v := .int (nI (0))) (ty := .int) (C := RX0) (T := TX0) (N := 7) (pc := 7) hx hb hts hiX0 tyX0 tyX0_ok nmX0 hown hK hP hD hS 16 w16 rfl 5 (by decide) (hts (.fieldLink RX0 31 "InkPress$Jobs" "count" "I") (by decide +kernel)) (fun _ h9 => h9) rfl (by decide +kernel) rfl rfl (Nat.le_of_ble_eq_true rfl) dX0_removeAll_7 (fun H locs G hP hD hS w16 ho => ?_)
  have w17 := (ho 17 (by decide)).trans w17
  have w18 := (ho 18 (by decide)).trans w18
  have w19 := (ho 19 (by decide)).trans w19
  have w20 := (ho 20 (by decide)).trans w20
  have w21 := (ho 21 (by decide)).trans w21
  have w16 : G[16]? = some (a 16, .inr (0, [.ref (a 17), .ref (a 18), .ref (a 19), .ref (a 20), .ref (a 21), .int (nI (0)), .int (gB (jp))])) := w16
  have hk := gk_step hk ho (by decide)
  clear ho
  refine lv_aload_n (pc := 10) hx hb dX0_removeAll_10 rfl (lv_at hl 1 rfl) ?_
  refine lv_iconst (v := nI (0)) (pc := 11) hx hb dX0_removeAll_11 (by decide) ?_
  refine mx_put (ci := 0) (v := .int (nI (0))) (ty := .boolean) (C := RX0) (T := TX0) (N := 7) (pc := 12) hx hb hts hiX0 tyX0 tyX0_ok nmX0 hown hK hP hD hS 16 w16 rfl 6 (by decide) (hts (.fieldLink RX0 35 "InkPress$Jobs" "isPlanned" "Z") (by decide +kernel)) (fun _ h9 => h9) rfl (by decide +kernel) rfl rfl (Nat.le_of_ble_eq_true rfl) dX0_removeAll_12 (fun H locs G hP hD hS w16 ho => ?_)
  have w17 := (ho 17 (by decide)).trans w17
  have w18 := (ho 18 (by decide)).trans w18
  have w19 := (ho 19 (by decide)).trans w19
  have w20 := (ho 20 (by decide)).trans w20
  have w21 := (ho 21 (by decide)).trans w21
  have w16 : G[16]? = some (a 16, .inr (0, [.ref (a 17), .ref (a 18), .ref (a 19), .ref (a 20), .ref (a 21), .int (nI (0)), .int (gB (false))])) := w16
  have hk := gk_step hk ho (by decide)
  clear ho
  refine lv_iload_n (pc := 15) hx hb dX0_removeAll_15 rfl (lv_at hl 0 rfl) ?_
  exact hret _ _ _ _ _ _ hP hD hS rfl ⟨w16, hk⟩ dX0_removeAll_16
set_option maxHeartbeats 4000000 in
set_option maxRecDepth 100000 in
theorem k_X0_changeWash {l : Launch} {D : va_G} {cI cZ : ClassId} {A : Nat → Prop} {g a : Nat → Nat} {G0 : va_W} {co : Nat → Nat} {pa : Nat → Int32} {wa : Nat → Int32} {ct : Nat → Int32} {be : Nat → Nat} {jn : Nat} {jp : Bool} {fr : Nat} {to : Nat} {v : Int32} (hD : va_D A G0) (w16 : G0[16]? = some (a 16, .inr (0, [.ref (a 17), .ref (a 18), .ref (a 19), .ref (a 20), .ref (a 21), .int (nI (jn)), .int (gB (jp))]))) (w17 : G0[17]? = some (a 17, .inl (cI, 8, .inl (fun j => nI ((co) j))))) (w18 : G0[18]? = some (a 18, .inl (cI, 8, .inl (pa)))) (w19 : G0[19]? = some (a 19, .inl (cI, 16, .inl (wa)))) (w20 : G0[20]? = some (a 20, .inl (cI, 1024, .inl (ct)))) (w21 : G0[21]? = some (a 21, .inl (cI, 7, .inl (fun j => nI ((be) j))))) (hf : fr < 4) (ht : to < 4) : gMi l D cI cZ A g yX0_changeWash wsX0_changeWash ({ frames := 0, cells := 0, slots := 0, locals := 0 }) [.ref (a 16), .int (nI (fr)), .int (nI (to)), .int (v)] G0 (wa (fr * 4 + to)) (fun G1 => G1[16]? = some (a 16, .inr (0, [.ref (a 17), .ref (a 18), .ref (a 19), .ref (a 20), .ref (a 21), .int (nI (jn)), .int (gB (false))])) ∧ G1[19]? = some (a 19, .inl (cI, 16, .inl (upd wa (fr * 4 + to) v))) ∧ ∀ k, k ∉ [16, 19] → G1[k]? = G0[k]?) := by
  refine gof_i (cc := cX0_changeWash) (maxL := 6) (by decide) rfl (Nat.le_of_ble_eq_true rfl) hD ?_
  intro p e s m args below meth c Q hx hb hml hts hown hK hN hZ hP hS hret ls hl
  have hown : s.vm.findClass RX0 = some m.cls := hown
  have hl : lv_has ls 6 [(0, .ref (a 16)), (1, .int (nI (fr))), (2, .int (nI (to))), (3, .int (v))] := hl
  obtain ⟨locs, elocs⟩ : ∃ q : List Loc, q = [] := ⟨_, rfl⟩
  rw [← elocs] at hS ⊢
  obtain ⟨H, eH⟩ : ∃ q : Heap, q = s.heap := ⟨_, rfl⟩
  have hP : va_P D vwCl G0 H := eH ▸ hP
  have hS : va_S A s.heap H locs := by rw [eH]; exact hS
  rw [← eH]
  clear elocs eH
  have hiX0 : ∀ w ∈ u_ws RX0 TX0 7, w ∈ wsX0_changeWash := by decide +kernel
  have hk : ∀ k, k ∉ [16, 19] → G0[k]? = G0[k]? := fun _ _ => rfl
  refine lv_iload_n (pc := 0) hx hb dX0_changeWash_0 rfl (lv_at hl 1 rfl) ?_
  refine lv_iconst (v := nI (4)) (pc := 1) hx hb dX0_changeWash_1 (by decide) ?_
  refine mx_imul (pc := 2) hx hb dX0_changeWash_2 ?_
  refine lv_iload_n (pc := 3) hx hb dX0_changeWash_3 rfl (lv_at hl 2 rfl) ?_
  refine mx_iadd (pc := 4) hx hb dX0_changeWash_4 ?_
  refine lv_istore (lv' := [(4, .int (nI ((fr) * (4) + to))), (0, .ref (a 16)), (1, .int (nI (fr))), (2, .int (nI (to))), (3, .int (v))]) (pc := 5) hx hb dX0_changeWash_5 hl (by decide) rfl (fun ls hl => ?_)
  refine lv_aload_n (pc := 7) hx hb dX0_changeWash_7 rfl (lv_at hl 1 rfl) ?_
  refine va_get (ci := 0) (C := RX0) (T := TX0) (N := 7) (pc := 8) hx hb hts hiX0 hown hK hP 16 w16 rfl 2 (by decide) (hts (.fieldLink RX0 18 "InkPress$Jobs" "washes" "[I") (by decide +kernel)) (fun _ h9 => h9) rfl dX0_changeWash_8 ?_
  refine lv_iload (pc := 11) hx hb dX0_changeWash_11 (lv_at hl 0 rfl) ?_
  refine mx_iald (pc := 13) hx hb hK hP 19 w19 ((fr) * (4) + to) (by omega) (by decide) dX0_changeWash_13 ?_
  refine lv_istore (lv' := [(5, .int ((wa) ((fr) * (4) + to))), (4, .int (nI ((fr) * (4) + to))), (0, .ref (a 16)), (1, .int (nI (fr))), (2, .int (nI (to))), (3, .int (v))]) (pc := 14) hx hb dX0_changeWash_14 hl (by decide) rfl (fun ls hl => ?_)
  refine lv_aload_n (pc := 16) hx hb dX0_changeWash_16 rfl (lv_at hl 2 rfl) ?_
  refine va_get (ci := 0) (C := RX0) (T := TX0) (N := 7) (pc := 17) hx hb hts hiX0 hown hK hP 16 w16 rfl 2 (by decide) (hts (.fieldLink RX0 18 "InkPress$Jobs" "washes" "[I") (by decide +kernel)) (fun _ h9 => h9) rfl dX0_changeWash_17 ?_
  refine lv_iload (pc := 20) hx hb dX0_changeWash_20 (lv_at hl 1 rfl) ?_
  refine lv_iload_n (pc := 22) hx hb dX0_changeWash_22 rfl (lv_at hl 5 rfl) ?_
  refine mx_iast (x := v) (pc := 23) hx hb hK hP hD hS 19 w19 ((fr) * (4) + to) (by omega) (by decide) dX0_changeWash_23 (fun H locs G hP hD hS w19 ho => ?_)
  have w16 := (ho 16 (by decide)).trans w16
  have w17 := (ho 17 (by decide)).trans w17
  have w18 := (ho 18 (by decide)).trans w18
  have w20 := (ho 20 (by decide)).trans w20
  have w21 := (ho 21 (by decide)).trans w21
  have w19 : G[19]? = some (a 19, .inl (cI, 16, .inl (upd (wa) ((fr) * (4) + to) (v)))) := w19
  have hk := gk_step hk ho (by decide)
  clear ho
  refine lv_aload_n (pc := 24) hx hb dX0_changeWash_24 rfl (lv_at hl 2 rfl) ?_
  refine lv_iconst (v := nI (0)) (pc := 25) hx hb dX0_changeWash_25 (by decide) ?_
  refine mx_put (ci := 0) (v := .int (nI (0))) (ty := .boolean) (C := RX0) (T := TX0) (N := 7) (pc := 26) hx hb hts hiX0 tyX0 tyX0_ok nmX0 hown hK hP hD hS 16 w16 rfl 6 (by decide) (hts (.fieldLink RX0 35 "InkPress$Jobs" "isPlanned" "Z") (by decide +kernel)) (fun _ h9 => h9) rfl (by decide +kernel) rfl rfl (Nat.le_of_ble_eq_true rfl) dX0_changeWash_26 (fun H locs G hP hD hS w16 ho => ?_)
  have w17 := (ho 17 (by decide)).trans w17
  have w18 := (ho 18 (by decide)).trans w18
  have w19 := (ho 19 (by decide)).trans w19
  have w20 := (ho 20 (by decide)).trans w20
  have w21 := (ho 21 (by decide)).trans w21
  have w16 : G[16]? = some (a 16, .inr (0, [.ref (a 17), .ref (a 18), .ref (a 19), .ref (a 20), .ref (a 21), .int (nI (jn)), .int (gB (false))])) := w16
  have hk := gk_step hk ho (by decide)
  clear ho
  refine lv_iload (pc := 29) hx hb dX0_changeWash_29 (lv_at hl 0 rfl) ?_
  exact hret _ _ _ _ _ _ hP hD hS rfl ⟨w16, w19, hk⟩ dX0_changeWash_31
set_option maxHeartbeats 4000000 in
set_option maxRecDepth 100000 in
theorem k_X0_costsBy {l : Launch} {D : va_G} {cI cZ : ClassId} {A : Nat → Prop} {g a : Nat → Nat} {G0 : va_W} {co : Nat → Nat} {pa : Nat → Int32} {wa : Nat → Int32} {ct : Nat → Int32} {be : Nat → Nat} {jn : Nat} {jp : Bool} {d : Nat} {la : Nat} {nx : Nat} (hD : va_D A G0) (w16 : G0[16]? = some (a 16, .inr (0, [.ref (a 17), .ref (a 18), .ref (a 19), .ref (a 20), .ref (a 21), .int (nI (jn)), .int (gB (jp))]))) (w17 : G0[17]? = some (a 17, .inl (cI, 8, .inl (fun j => nI ((co) j))))) (w18 : G0[18]? = some (a 18, .inl (cI, 8, .inl (pa)))) (w19 : G0[19]? = some (a 19, .inl (cI, 16, .inl (wa)))) (w20 : G0[20]? = some (a 20, .inl (cI, 1024, .inl (ct)))) (w21 : G0[21]? = some (a 21, .inl (cI, 7, .inl (fun j => nI ((be) j))))) (hd : d < 128) (hla : la < 8) (hnx : nx < 7) (hco : ∀ j, co j < 4) : gMi l D cI cZ A g yX0_costsBy wsX0_costsBy ({ frames := 0, cells := 0, slots := 0, locals := 0 }) [.ref (a 16), .int (nI (d)), .int (nI (la)), .int (nI (nx))] G0 (gCost co pa wa ct d la nx) (fun G1 => G1 = G0) := by
  refine gof_i (cc := cX0_costsBy) (maxL := 6) (by decide) rfl (Nat.le_of_ble_eq_true rfl) hD ?_
  intro p e s m args below meth c Q hx hb hml hts hown hK hN hZ hP hS hret ls hl
  have hown : s.vm.findClass RX0 = some m.cls := hown
  have hl : lv_has ls 6 [(0, .ref (a 16)), (1, .int (nI (d))), (2, .int (nI (la))), (3, .int (nI (nx)))] := hl
  obtain ⟨locs, elocs⟩ : ∃ q : List Loc, q = [] := ⟨_, rfl⟩
  rw [← elocs] at hS ⊢
  obtain ⟨H, eH⟩ : ∃ q : Heap, q = s.heap := ⟨_, rfl⟩
  have hP : va_P D vwCl G0 H := eH ▸ hP
  have hS : va_S A s.heap H locs := by rw [eH]; exact hS
  rw [← eH]
  clear elocs eH
  have hiX0 : ∀ w ∈ u_ws RX0 TX0 7, w ∈ wsX0_costsBy := by decide +kernel
  have hk : ∀ k, k ∉ ([] : List Nat) → G0[k]? = G0[k]? := fun _ _ => rfl
  refine lv_aload_n (pc := 0) hx hb dX0_costsBy_0 rfl (lv_at hl 0 rfl) ?_
  refine va_get (ci := 0) (C := RX0) (T := TX0) (N := 7) (pc := 1) hx hb hts hiX0 hown hK hP 16 w16 rfl 2 (by decide) (hts (.fieldLink RX0 18 "InkPress$Jobs" "washes" "[I") (by decide +kernel)) (fun _ h9 => h9) rfl dX0_costsBy_1 ?_
  refine lv_aload_n (pc := 4) hx hb dX0_costsBy_4 rfl (lv_at hl 0 rfl) ?_
  refine va_get (ci := 0) (C := RX0) (T := TX0) (N := 7) (pc := 5) hx hb hts hiX0 hown hK hP 16 w16 rfl 0 (by decide) (hts (.fieldLink RX0 11 "InkPress$Jobs" "colours" "[I") (by decide +kernel)) (fun _ h9 => h9) rfl dX0_costsBy_5 ?_
  refine lv_iload_n (pc := 8) hx hb dX0_costsBy_8 rfl (lv_at hl 2 rfl) ?_
  refine mx_iald (pc := 9) hx hb hK hP 17 w17 (la) (by omega) (by decide) dX0_costsBy_9 ?_
  refine lv_iconst (v := nI (4)) (pc := 10) hx hb dX0_costsBy_10 (by decide) ?_
  refine mx_imul (pc := 11) hx hb dX0_costsBy_11 ?_
  refine lv_aload_n (pc := 12) hx hb dX0_costsBy_12 rfl (lv_at hl 0 rfl) ?_
  refine va_get (ci := 0) (C := RX0) (T := TX0) (N := 7) (pc := 13) hx hb hts hiX0 hown hK hP 16 w16 rfl 0 (by decide) (hts (.fieldLink RX0 11 "InkPress$Jobs" "colours" "[I") (by decide +kernel)) (fun _ h9 => h9) rfl dX0_costsBy_13 ?_
  refine lv_iload_n (pc := 16) hx hb dX0_costsBy_16 rfl (lv_at hl 3 rfl) ?_
  refine mx_iald (pc := 17) hx hb hK hP 17 w17 (nx) (by omega) (by decide) dX0_costsBy_17 ?_
  refine mx_iadd (pc := 18) hx hb dX0_costsBy_18 ?_
  refine mx_iald (pc := 19) hx hb hK hP 19 w19 (((co) (la)) * (4) + ((co) (nx))) (by have q1 := hco la; have q2 := hco nx; omega) (by decide) dX0_costsBy_19 ?_
  refine lv_istore (lv' := [(4, .int ((wa) (((co) (la)) * (4) + ((co) (nx))))), (0, .ref (a 16)), (1, .int (nI (d))), (2, .int (nI (la))), (3, .int (nI (nx)))]) (pc := 20) hx hb dX0_costsBy_20 hl (by decide) rfl (fun ls hl => ?_)
  refine lv_aload_n (pc := 22) hx hb dX0_costsBy_22 rfl (lv_at hl 1 rfl) ?_
  refine va_get (ci := 0) (C := RX0) (T := TX0) (N := 7) (pc := 23) hx hb hts hiX0 hown hK hP 16 w16 rfl 1 (by decide) (hts (.fieldLink RX0 15 "InkPress$Jobs" "papers" "[I") (by decide +kernel)) (fun _ h9 => h9) rfl dX0_costsBy_23 ?_
  refine lv_iload_n (pc := 26) hx hb dX0_costsBy_26 rfl (lv_at hl 3 rfl) ?_
  refine mx_iald (pc := 27) hx hb hK hP 18 w18 (la) (by omega) (by decide) dX0_costsBy_27 ?_
  refine lv_aload_n (pc := 28) hx hb dX0_costsBy_28 rfl (lv_at hl 1 rfl) ?_
  refine va_get (ci := 0) (C := RX0) (T := TX0) (N := 7) (pc := 29) hx hb hts hiX0 hown hK hP 16 w16 rfl 1 (by decide) (hts (.fieldLink RX0 15 "InkPress$Jobs" "papers" "[I") (by decide +kernel)) (fun _ h9 => h9) rfl dX0_costsBy_29 ?_
  refine lv_iload_n (pc := 32) hx hb dX0_costsBy_32 rfl (lv_at hl 4 rfl) ?_
  refine mx_iald (pc := 33) hx hb hK hP 18 w18 (nx) (by omega) (by decide) dX0_costsBy_33 ?_
  refine lv_icmp_ne (tgt := 41) (pc := 34) hx hb dX0_costsBy_34 (by decide) (fun c34 => ?_) (fun c34 => ?_)
  · skip
    refine lv_iconst (v := nI (5)) (pc := 41) hx hb dX0_costsBy_41 (by decide) ?_
    refine lv_istore (lv' := [(5, .int (nI (5))), (4, .int ((wa) (((co) (la)) * (4) + ((co) (nx))))), (0, .ref (a 16)), (1, .int (nI (d))), (2, .int (nI (la))), (3, .int (nI (nx)))]) (pc := 42) hx hb dX0_costsBy_42 hl (by decide) rfl (fun ls hl => ?_)
    refine lv_iload (pc := 44) hx hb dX0_costsBy_44 (lv_at hl 1 rfl) ?_
    refine lv_iload (pc := 46) hx hb dX0_costsBy_46 (lv_at hl 0 rfl) ?_
    refine lv_iadd (pc := 48) hx hb dX0_costsBy_48 ?_
    refine lv_aload_n (pc := 49) hx hb dX0_costsBy_49 rfl (lv_at hl 2 rfl) ?_
    refine va_get (ci := 0) (C := RX0) (T := TX0) (N := 7) (pc := 50) hx hb hts hiX0 hown hK hP 16 w16 rfl 3 (by decide) (hts (.fieldLink RX0 21 "InkPress$Jobs" "costsToCome" "[I") (by decide +kernel)) (fun _ h9 => h9) rfl dX0_costsBy_50 ?_
    refine lv_iload_n (pc := 53) hx hb dX0_costsBy_53 rfl (lv_at hl 3 rfl) ?_
    refine lv_iconst (v := nI (1)) (pc := 54) hx hb dX0_costsBy_54 (by decide) ?_
    refine lv_iload_n (pc := 55) hx hb dX0_costsBy_55 rfl (lv_at hl 5 rfl) ?_
    refine mx_ishl (pc := 56) hx hb (by omega) (gP2 (by omega)) dX0_costsBy_56 ?_
    refine mx_ior (pc := 57) hx hb dX0_costsBy_57 ?_
    refine lv_bipush (v := nI (8)) (pc := 58) hx hb dX0_costsBy_58 (by decide) ?_
    refine mx_imul (pc := 60) hx hb dX0_costsBy_60 ?_
    refine lv_iload_n (pc := 61) hx hb dX0_costsBy_61 rfl (lv_at hl 5 rfl) ?_
    refine mx_iadd (pc := 62) hx hb dX0_costsBy_62 ?_
    refine mx_iald (pc := 63) hx hb hK hP 20 w20 (((d) ||| ((1) * 2 ^ (nx))) * (8) + nx) (gIx hd hnx) (by decide) dX0_costsBy_63 ?_
    refine lv_iadd (pc := 64) hx hb dX0_costsBy_64 ?_
    exact hret _ _ _ _ _ _ hP hD hS (by first | exact (gCost_e c34).symm | exact (gCost_n c34).symm) rfl dX0_costsBy_65
  · skip
    refine lv_iconst (v := nI (0)) (pc := 37) hx hb dX0_costsBy_37 (by decide) ?_
    refine lv_goto (tgt := 42) (pc := 38) hx hb dX0_costsBy_38 (by decide) ?_
    refine lv_istore (lv' := [(5, .int (nI (0))), (4, .int ((wa) (((co) (la)) * (4) + ((co) (nx))))), (0, .ref (a 16)), (1, .int (nI (d))), (2, .int (nI (la))), (3, .int (nI (nx)))]) (pc := 42) hx hb dX0_costsBy_42 hl (by decide) rfl (fun ls hl => ?_)
    refine lv_iload (pc := 44) hx hb dX0_costsBy_44 (lv_at hl 1 rfl) ?_
    refine lv_iload (pc := 46) hx hb dX0_costsBy_46 (lv_at hl 0 rfl) ?_
    refine lv_iadd (pc := 48) hx hb dX0_costsBy_48 ?_
    refine lv_aload_n (pc := 49) hx hb dX0_costsBy_49 rfl (lv_at hl 2 rfl) ?_
    refine va_get (ci := 0) (C := RX0) (T := TX0) (N := 7) (pc := 50) hx hb hts hiX0 hown hK hP 16 w16 rfl 3 (by decide) (hts (.fieldLink RX0 21 "InkPress$Jobs" "costsToCome" "[I") (by decide +kernel)) (fun _ h9 => h9) rfl dX0_costsBy_50 ?_
    refine lv_iload_n (pc := 53) hx hb dX0_costsBy_53 rfl (lv_at hl 3 rfl) ?_
    refine lv_iconst (v := nI (1)) (pc := 54) hx hb dX0_costsBy_54 (by decide) ?_
    refine lv_iload_n (pc := 55) hx hb dX0_costsBy_55 rfl (lv_at hl 5 rfl) ?_
    refine mx_ishl (pc := 56) hx hb (by omega) (gP2 (by omega)) dX0_costsBy_56 ?_
    refine mx_ior (pc := 57) hx hb dX0_costsBy_57 ?_
    refine lv_bipush (v := nI (8)) (pc := 58) hx hb dX0_costsBy_58 (by decide) ?_
    refine mx_imul (pc := 60) hx hb dX0_costsBy_60 ?_
    refine lv_iload_n (pc := 61) hx hb dX0_costsBy_61 rfl (lv_at hl 5 rfl) ?_
    refine mx_iadd (pc := 62) hx hb dX0_costsBy_62 ?_
    refine mx_iald (pc := 63) hx hb hK hP 20 w20 (((d) ||| ((1) * 2 ^ (nx))) * (8) + nx) (gIx hd hnx) (by decide) dX0_costsBy_63 ?_
    refine lv_iadd (pc := 64) hx hb dX0_costsBy_64 ?_
    exact hret _ _ _ _ _ _ hP hD hS (by first | exact (gCost_e c34).symm | exact (gCost_n c34).symm) rfl dX0_costsBy_65
set_option maxHeartbeats 4000000 in
set_option maxRecDepth 100000 in
theorem k_X0_bestNext {l : Launch} {D : va_G} {cI cZ : ClassId} {A : Nat → Prop} {g a : Nat → Nat} {G0 : va_W} {co : Nat → Nat} {pa : Nat → Int32} {wa : Nat → Int32} {ct : Nat → Int32} {be : Nat → Nat} {jn : Nat} {jp : Bool} {d : Nat} {la : Nat} (hD : va_D A G0) (w16 : G0[16]? = some (a 16, .inr (0, [.ref (a 17), .ref (a 18), .ref (a 19), .ref (a 20), .ref (a 21), .int (nI (jn)), .int (gB (jp))]))) (w17 : G0[17]? = some (a 17, .inl (cI, 8, .inl (fun j => nI ((co) j))))) (w18 : G0[18]? = some (a 18, .inl (cI, 8, .inl (pa)))) (w19 : G0[19]? = some (a 19, .inl (cI, 16, .inl (wa)))) (w20 : G0[20]? = some (a 20, .inl (cI, 1024, .inl (ct)))) (w21 : G0[21]? = some (a 21, .inl (cI, 7, .inl (fun j => nI ((be) j))))) (hd : d < 128) (hla : la < 8) (hj : jn ≤ 7) (hco : ∀ j, co j < 4) : gMi l D cI cZ A g yX0_bestNext wsX0_bestNext ({ frames := 1, cells := 0, slots := 0, locals := 25 }) [.ref (a 16), .int (nI (d)), .int (nI (la))] G0 ((gBn (gCost co pa wa ct d la) d jn 0 (-6) (nI 0)).1) (fun G1 => G1 = G0) := by
  refine gof_i (cc := cX0_bestNext) (maxL := 7) (by decide) rfl (Nat.le_of_ble_eq_true rfl) hD ?_
  intro p e s m args below meth c Q hx hb hml hts hown hK hN hZ hP hS hret ls hl
  have hown : s.vm.findClass RX0 = some m.cls := hown
  have hl : lv_has ls 7 [(0, .ref (a 16)), (1, .int (nI (d))), (2, .int (nI (la)))] := hl
  obtain ⟨locs, elocs⟩ : ∃ q : List Loc, q = [] := ⟨_, rfl⟩
  rw [← elocs] at hS ⊢
  obtain ⟨H, eH⟩ : ∃ q : Heap, q = s.heap := ⟨_, rfl⟩
  have hP : va_P D vwCl G0 H := eH ▸ hP
  have hS : va_S A s.heap H locs := by rw [eH]; exact hS
  rw [← eH]
  clear elocs eH
  have hiX0 : ∀ w ∈ u_ws RX0 TX0 7, w ∈ wsX0_bestNext := by decide +kernel
  have hk : ∀ k, k ∉ ([] : List Nat) → G0[k]? = G0[k]? := fun _ _ => rfl
  refine lv_bipush (v := (-6)) (pc := 0) hx hb dX0_bestNext_0 (by decide) ?_
  refine lv_istore_n (lv' := [(3, .int ((-6))), (0, .ref (a 16)), (1, .int (nI (d))), (2, .int (nI (la)))]) (pc := 2) hx hb dX0_bestNext_2 rfl hl (by decide) rfl (fun ls hl => ?_)
  refine lv_iconst (v := nI (0)) (pc := 3) hx hb dX0_bestNext_3 (by decide) ?_
  refine lv_istore (lv' := [(4, .int (nI (0))), (3, .int ((-6))), (0, .ref (a 16)), (1, .int (nI (d))), (2, .int (nI (la)))]) (pc := 4) hx hb dX0_bestNext_4 hl (by decide) rfl (fun ls hl => ?_)
  refine lv_iconst (v := nI (0)) (pc := 6) hx hb dX0_bestNext_6 (by decide) ?_
  refine lv_istore (lv' := [(5, .int (nI (0))), (4, .int (nI (0))), (3, .int ((-6))), (0, .ref (a 16)), (1, .int (nI (d))), (2, .int (nI (la)))]) (pc := 7) hx hb dX0_bestNext_7 hl (by decide) rfl (fun ls hl => ?_)
  have LP : ∀ (k : Nat) (nx : Nat) (fo : Int32) (le : Int32), nx + k = jn → ∀ (H : Heap) (locs : List Loc) (ls : Array Slot), va_P D vwCl G0 H → va_D A G0 → va_S A s.heap H locs → (∀ j, j ∉ ([] : List Nat) → G0[j]? = G0[j]?) → G0[16]? = some (a 16, .inr (0, [.ref (a 17), .ref (a 18), .ref (a 19), .ref (a 20), .ref (a 21), .int (nI (jn)), .int (gB (jp))])) → G0[17]? = some (a 17, .inl (cI, 8, .inl (fun j => nI ((co) j)))) → G0[18]? = some (a 18, .inl (cI, 8, .inl (pa))) → G0[19]? = some (a 19, .inl (cI, 16, .inl (wa))) → G0[20]? = some (a 20, .inl (cI, 1024, .inl (ct))) → G0[21]? = some (a 21, .inl (cI, 7, .inl (fun j => nI ((be) j)))) → lv_has ls 7 [(0, .ref (a 16)), (1, .int (nI (d))), (2, .int (nI (la))), (3, .int (fo)), (4, .int (le)), (5, .int (nI (nx)))] → (∀ (H : Heap) (locs : List Loc) (ls : Array Slot), va_P D vwCl G0 H → va_D A G0 → va_S A s.heap H locs → (∀ j, j ∉ ([] : List Nat) → G0[j]? = G0[j]?) → G0[16]? = some (a 16, .inr (0, [.ref (a 17), .ref (a 18), .ref (a 19), .ref (a 20), .ref (a 21), .int (nI (jn)), .int (gB (jp))])) → G0[17]? = some (a 17, .inl (cI, 8, .inl (fun j => nI ((co) j)))) → G0[18]? = some (a 18, .inl (cI, 8, .inl (pa))) → G0[19]? = some (a 19, .inl (cI, 16, .inl (wa))) → G0[20]? = some (a 20, .inl (cI, 1024, .inl (ct))) → G0[21]? = some (a 21, .inl (cI, 7, .inl (fun j => nI ((be) j)))) → lv_has ls 7 [(0, .ref (a 16)), (3, .int ((gBn (gCost co pa wa ct d la) d k nx fo le).1))] → W p l e ({ frames := 1, cells := 0, slots := 0, locals := 25 } : Room) s m args below meth c H locs 0 0 Q (F0 m 63 ls [])) → W p l e ({ frames := 1, cells := 0, slots := 0, locals := 25 } : Room) s m args below meth c H locs 0 0 Q (F0 m 9 ls []) := by
    intro k
    induction k with
    | zero =>
      intro nx fo le hn H locs ls hP hD hS hk w16 w17 w18 w19 w20 w21 hl hcont
      refine lv_iload (pc := 9) hx hb dX0_bestNext_9 (lv_at hl 5 rfl) ?_
      refine lv_aload_n (pc := 11) hx hb dX0_bestNext_11 rfl (lv_at hl 0 rfl) ?_
      refine va_get (ci := 0) (C := RX0) (T := TX0) (N := 7) (pc := 12) hx hb hts hiX0 hown hK hP 16 w16 rfl 5 (by decide) (hts (.fieldLink RX0 31 "InkPress$Jobs" "count" "I") (by decide +kernel)) (fun _ h9 => h9) rfl dX0_bestNext_12 ?_
      refine mx_cge (tgt := 63) (pc := 15) hx hb (by omega) (by omega) dX0_bestNext_15 (by decide) (fun c15 => ?_) (fun c15 => absurd c15 (by omega))
      exact hcont H locs ls hP hD hS hk w16 w17 w18 w19 w20 w21 (lv_sub hl [0, 3] rfl)
    | succ k ih =>
      intro nx fo le hn H locs ls hP hD hS hk w16 w17 w18 w19 w20 w21 hl hcont
      refine lv_iload (pc := 9) hx hb dX0_bestNext_9 (lv_at hl 5 rfl) ?_
      refine lv_aload_n (pc := 11) hx hb dX0_bestNext_11 rfl (lv_at hl 0 rfl) ?_
      refine va_get (ci := 0) (C := RX0) (T := TX0) (N := 7) (pc := 12) hx hb hts hiX0 hown hK hP 16 w16 rfl 5 (by decide) (hts (.fieldLink RX0 31 "InkPress$Jobs" "count" "I") (by decide +kernel)) (fun _ h9 => h9) rfl dX0_bestNext_12 ?_
      refine mx_cge (tgt := 63) (pc := 15) hx hb (by omega) (by omega) dX0_bestNext_15 (by decide) (fun c15 => absurd c15 (by omega)) (fun c15 => ?_)
      refine lv_iload_n (pc := 18) hx hb dX0_bestNext_18 rfl (lv_at hl 1 rfl) ?_
      refine lv_iload (pc := 19) hx hb dX0_bestNext_19 (lv_at hl 5 rfl) ?_
      refine mx_cSi (As := [.int (nI (d)), .int (nI (nx))]) (rest := []) (pc := 21) ⟨hx, hb, hml, hown, hts⟩ (k_X0_holds (a := a) (d := nI (d)) (j := nI (nx)) hD  ) (va_cwS 2 hts gX0_bestNext_X0_holds rfl rfl rfl (by decide +kernel) ⟨Nat.le_of_ble_eq_true rfl, Nat.le_of_ble_eq_true rfl⟩) hK hN hZ hP hS rfl hl.1 rfl (Nat.le_of_ble_eq_true rfl) dX0_bestNext_21 ⟨Nat.zero_le _, Nat.zero_le _⟩ (fun G' H locs hP hD hS hB => ?_)
      rw [hB] at hP hD
      clear hB G'
      refine mx_bne (tgt := 57) (pc := 24) hx hb dX0_bestNext_24 (by decide) (fun c24 => ?_) (fun c24 => ?_)
      · skip
        refine lv_iinc (v := nI (nx + 1)) (lv' := [(5, .int (nI (nx + 1))), (0, .ref (a 16)), (1, .int (nI (d))), (2, .int (nI (la))), (3, .int (fo)), (4, .int (le))]) (pc := 57) hx hb dX0_bestNext_57 hl (k := 5) rfl (mx_inc1 _) (by decide) rfl (fun ls hl => ?_)
        refine lv_goto (tgt := 9) (pc := 60) hx hb dX0_bestNext_60 (by decide) ?_
        first | rw [gBn_h c24] at hcont | rw [gBn_n c24 c40] at hcont | rw [gBn_k c24 c40 c47] at hcont | rw [gBn_l c24 c40 c47] at hcont
        exact ih (nx + 1) (fo) (le) (by omega) H locs ls hP hD hS hk w16 w17 w18 w19 w20 w21 (lv_sub hl [1, 2, 3, 4, 5, 0] rfl) hcont
      · skip
        refine lv_aload_n (pc := 27) hx hb dX0_bestNext_27 rfl (lv_at hl 0 rfl) ?_
        refine lv_iload_n (pc := 28) hx hb dX0_bestNext_28 rfl (lv_at hl 1 rfl) ?_
        refine lv_iload_n (pc := 29) hx hb dX0_bestNext_29 rfl (lv_at hl 2 rfl) ?_
        refine lv_iload (pc := 30) hx hb dX0_bestNext_30 (lv_at hl 5 rfl) ?_
        refine mx_cVi (As := [.int (nI (d)), .int (nI (la)), .int (nI (nx))]) (rest := []) (pc := 32) ⟨hx, hb, hml, hown, hts⟩ (k_X0_costsBy (a := a) (co := co) (pa := pa) (wa := wa) (ct := ct) (be := be) (jn := jn) (jp := jp) (d := d) (la := la) (nx := nx) hD w16 w17 w18 w19 w20 w21 hd hla (by omega) hco) (cwV 3 hts gX0_bestNext_X0_costsBy rfl rfl rfl (by decide +kernel) ⟨Nat.le_of_ble_eq_true rfl, Nat.le_of_ble_eq_true rfl⟩) 16 rfl rfl w16 hK hN hZ hP hS rfl hl.1 rfl (Nat.le_of_ble_eq_true rfl) dX0_bestNext_32 ⟨Nat.zero_le _, Nat.zero_le _⟩ (fun G' H locs hP hD hS hB => ?_)
        rw [hB] at hP hD
        clear hB G'
        refine lv_istore (lv' := [(6, .int (gCost (co) (pa) (wa) (ct) (d) (la) (nx))), (0, .ref (a 16)), (1, .int (nI (d))), (2, .int (nI (la))), (3, .int (fo)), (4, .int (le)), (5, .int (nI (nx)))]) (pc := 35) hx hb dX0_bestNext_35 hl (by decide) rfl (fun ls hl => ?_)
        refine lv_iload_n (pc := 37) hx hb dX0_bestNext_37 rfl (lv_at hl 4 rfl) ?_
        refine lv_bipush (v := (-6)) (pc := 38) hx hb dX0_bestNext_38 (by decide) ?_
        refine lv_icmp_eq (tgt := 50) (pc := 40) hx hb dX0_bestNext_40 (by decide) (fun c40 => ?_) (fun c40 => ?_)
        · skip
          refine lv_iload (pc := 50) hx hb dX0_bestNext_50 (lv_at hl 6 rfl) ?_
          refine lv_istore_n (lv' := [(3, .int (nI (nx))), (6, .int (gCost (co) (pa) (wa) (ct) (d) (la) (nx))), (0, .ref (a 16)), (1, .int (nI (d))), (2, .int (nI (la))), (4, .int (le)), (5, .int (nI (nx)))]) (pc := 52) hx hb dX0_bestNext_52 rfl hl (by decide) rfl (fun ls hl => ?_)
          refine lv_iload (pc := 53) hx hb dX0_bestNext_53 (lv_at hl 1 rfl) ?_
          refine lv_istore (lv' := [(4, .int (gCost (co) (pa) (wa) (ct) (d) (la) (nx))), (3, .int (nI (nx))), (6, .int (gCost (co) (pa) (wa) (ct) (d) (la) (nx))), (0, .ref (a 16)), (1, .int (nI (d))), (2, .int (nI (la))), (5, .int (nI (nx)))]) (pc := 55) hx hb dX0_bestNext_55 hl (by decide) rfl (fun ls hl => ?_)
          refine lv_iinc (v := nI (nx + 1)) (lv' := [(5, .int (nI (nx + 1))), (4, .int (gCost (co) (pa) (wa) (ct) (d) (la) (nx))), (3, .int (nI (nx))), (6, .int (gCost (co) (pa) (wa) (ct) (d) (la) (nx))), (0, .ref (a 16)), (1, .int (nI (d))), (2, .int (nI (la)))]) (pc := 57) hx hb dX0_bestNext_57 hl (k := 6) rfl (mx_inc1 _) (by decide) rfl (fun ls hl => ?_)
          refine lv_goto (tgt := 9) (pc := 60) hx hb dX0_bestNext_60 (by decide) ?_
          first | rw [gBn_h c24] at hcont | rw [gBn_n c24 c40] at hcont | rw [gBn_k c24 c40 c47] at hcont | rw [gBn_l c24 c40 c47] at hcont
          exact ih (nx + 1) (nI (nx)) (gCost (co) (pa) (wa) (ct) (d) (la) (nx)) (by omega) H locs ls hP hD hS hk w16 w17 w18 w19 w20 w21 (lv_sub hl [4, 5, 6, 2, 1, 0] rfl) hcont
        · skip
          refine lv_iload (pc := 43) hx hb dX0_bestNext_43 (lv_at hl 0 rfl) ?_
          refine lv_iload (pc := 45) hx hb dX0_bestNext_45 (lv_at hl 5 rfl) ?_
          refine lv_icmp_ge (tgt := 57) (pc := 47) hx hb dX0_bestNext_47 (by decide) (fun c47 => ?_) (fun c47 => ?_)
          · skip
            refine lv_iinc (v := nI (nx + 1)) (lv' := [(5, .int (nI (nx + 1))), (6, .int (gCost (co) (pa) (wa) (ct) (d) (la) (nx))), (0, .ref (a 16)), (1, .int (nI (d))), (2, .int (nI (la))), (3, .int (fo)), (4, .int (le))]) (pc := 57) hx hb dX0_bestNext_57 hl (k := 6) rfl (mx_inc1 _) (by decide) rfl (fun ls hl => ?_)
            refine lv_goto (tgt := 9) (pc := 60) hx hb dX0_bestNext_60 (by decide) ?_
            first | rw [gBn_h c24] at hcont | rw [gBn_n c24 c40] at hcont | rw [gBn_k c24 c40 c47] at hcont | rw [gBn_l c24 c40 c47] at hcont
            exact ih (nx + 1) (fo) (le) (by omega) H locs ls hP hD hS hk w16 w17 w18 w19 w20 w21 (lv_sub hl [2, 3, 4, 5, 6, 0] rfl) hcont
          · skip
            refine lv_iload (pc := 50) hx hb dX0_bestNext_50 (lv_at hl 6 rfl) ?_
            refine lv_istore_n (lv' := [(3, .int (nI (nx))), (6, .int (gCost (co) (pa) (wa) (ct) (d) (la) (nx))), (0, .ref (a 16)), (1, .int (nI (d))), (2, .int (nI (la))), (4, .int (le)), (5, .int (nI (nx)))]) (pc := 52) hx hb dX0_bestNext_52 rfl hl (by decide) rfl (fun ls hl => ?_)
            refine lv_iload (pc := 53) hx hb dX0_bestNext_53 (lv_at hl 1 rfl) ?_
            refine lv_istore (lv' := [(4, .int (gCost (co) (pa) (wa) (ct) (d) (la) (nx))), (3, .int (nI (nx))), (6, .int (gCost (co) (pa) (wa) (ct) (d) (la) (nx))), (0, .ref (a 16)), (1, .int (nI (d))), (2, .int (nI (la))), (5, .int (nI (nx)))]) (pc := 55) hx hb dX0_bestNext_55 hl (by decide) rfl (fun ls hl => ?_)
            refine lv_iinc (v := nI (nx + 1)) (lv' := [(5, .int (nI (nx + 1))), (4, .int (gCost (co) (pa) (wa) (ct) (d) (la) (nx))), (3, .int (nI (nx))), (6, .int (gCost (co) (pa) (wa) (ct) (d) (la) (nx))), (0, .ref (a 16)), (1, .int (nI (d))), (2, .int (nI (la)))]) (pc := 57) hx hb dX0_bestNext_57 hl (k := 6) rfl (mx_inc1 _) (by decide) rfl (fun ls hl => ?_)
            refine lv_goto (tgt := 9) (pc := 60) hx hb dX0_bestNext_60 (by decide) ?_
            first | rw [gBn_h c24] at hcont | rw [gBn_n c24 c40] at hcont | rw [gBn_k c24 c40 c47] at hcont | rw [gBn_l c24 c40 c47] at hcont
            exact ih (nx + 1) (nI (nx)) (gCost (co) (pa) (wa) (ct) (d) (la) (nx)) (by omega) H locs ls hP hD hS hk w16 w17 w18 w19 w20 w21 (lv_sub hl [4, 5, 6, 2, 1, 0] rfl) hcont
  refine LP jn (0) ((-6)) (nI 0) (by omega)  H locs ls hP hD hS hk w16 w17 w18 w19 w20 w21 (lv_sub hl [3, 4, 5, 2, 1, 0] rfl) (fun H locs ls hP hD hS hk w16 w17 w18 w19 w20 w21 hl => ?_)
  refine lv_iload_n (pc := 63) hx hb dX0_bestNext_63 rfl (lv_at hl 1 rfl) ?_
  exact hret _ _ _ _ _ _ hP hD hS rfl rfl dX0_bestNext_64
set_option maxHeartbeats 4000000 in
set_option maxRecDepth 100000 in
theorem k_X0_weigh {l : Launch} {D : va_G} {cI cZ : ClassId} {A : Nat → Prop} {g a : Nat → Nat} {G0 : va_W} {co : Nat → Nat} {pa : Nat → Int32} {wa : Nat → Int32} {ct : Nat → Int32} {be : Nat → Nat} {jn : Nat} {jp : Bool} {d : Nat} {la : Nat} (hD : va_D A G0) (w16 : G0[16]? = some (a 16, .inr (0, [.ref (a 17), .ref (a 18), .ref (a 19), .ref (a 20), .ref (a 21), .int (nI (jn)), .int (gB (jp))]))) (w17 : G0[17]? = some (a 17, .inl (cI, 8, .inl (fun j => nI ((co) j))))) (w18 : G0[18]? = some (a 18, .inl (cI, 8, .inl (pa)))) (w19 : G0[19]? = some (a 19, .inl (cI, 16, .inl (wa)))) (w20 : G0[20]? = some (a 20, .inl (cI, 1024, .inl (ct)))) (w21 : G0[21]? = some (a 21, .inl (cI, 7, .inl (fun j => nI ((be) j))))) (hd : d < 128) (hla : la < 8) (hj : jn ≤ 7) (hco : ∀ j, co j < 4) : gMv l D cI cZ A g yX0_weigh wsX0_weigh ({ frames := 2, cells := 0, slots := 0, locals := 51 }) [.ref (a 16), .int (nI (d)), .int (nI (la))] G0 (fun G1 => G1[20]? = some (a 20, .inl (cI, 1024, .inl (upd ct (d * 8 + la) (gWv jn co pa wa ct d la)))) ∧ ∀ k, k ∉ [20] → G1[k]? = G0[k]?) := by
  refine gof_v (cc := cX0_weigh) (maxL := 4) (by decide) rfl (Nat.le_of_ble_eq_true rfl) hD ?_
  intro p e s m args below meth c Q hx hb hml hts hown hK hN hZ hP hS hret ls hl
  have hown : s.vm.findClass RX0 = some m.cls := hown
  have hl : lv_has ls 4 [(0, .ref (a 16)), (1, .int (nI (d))), (2, .int (nI (la)))] := hl
  obtain ⟨locs, elocs⟩ : ∃ q : List Loc, q = [] := ⟨_, rfl⟩
  rw [← elocs] at hS ⊢
  obtain ⟨H, eH⟩ : ∃ q : Heap, q = s.heap := ⟨_, rfl⟩
  have hP : va_P D vwCl G0 H := eH ▸ hP
  have hS : va_S A s.heap H locs := by rw [eH]; exact hS
  rw [← eH]
  clear elocs eH
  have hiX0 : ∀ w ∈ u_ws RX0 TX0 7, w ∈ wsX0_weigh := by decide +kernel
  have hk : ∀ k, k ∉ [20] → G0[k]? = G0[k]? := fun _ _ => rfl
  refine lv_aload_n (pc := 0) hx hb dX0_weigh_0 rfl (lv_at hl 0 rfl) ?_
  refine lv_iload_n (pc := 1) hx hb dX0_weigh_1 rfl (lv_at hl 1 rfl) ?_
  refine lv_iload_n (pc := 2) hx hb dX0_weigh_2 rfl (lv_at hl 2 rfl) ?_
  refine mx_cVi (As := [.int (nI (d)), .int (nI (la))]) (rest := []) (pc := 3) ⟨hx, hb, hml, hown, hts⟩ (k_X0_bestNext (a := a) (co := co) (pa := pa) (wa := wa) (ct := ct) (be := be) (jn := jn) (jp := jp) (d := d) (la := la) hD w16 w17 w18 w19 w20 w21 hd hla hj hco) (cwV 2 hts gX0_weigh_X0_bestNext rfl rfl rfl (by decide +kernel) ⟨Nat.le_of_ble_eq_true rfl, Nat.le_of_ble_eq_true rfl⟩) 16 rfl rfl w16 hK hN hZ hP hS rfl hl.1 rfl (Nat.le_of_ble_eq_true rfl) dX0_weigh_3 ⟨Nat.zero_le _, Nat.zero_le _⟩ (fun G' H locs hP hD hS hB => ?_)
  rw [hB] at hP hD
  clear hB G'
  refine lv_istore_n (lv' := [(3, .int ((gBn (gCost (co) (pa) (wa) (ct) (d) (la)) (d) (jn) 0 (-6) (nI 0)).1)), (0, .ref (a 16)), (1, .int (nI (d))), (2, .int (nI (la)))]) (pc := 6) hx hb dX0_weigh_6 rfl hl (by decide) rfl (fun ls hl => ?_)
  refine lv_aload_n (pc := 7) hx hb dX0_weigh_7 rfl (lv_at hl 1 rfl) ?_
  refine va_get (ci := 0) (C := RX0) (T := TX0) (N := 7) (pc := 8) hx hb hts hiX0 hown hK hP 16 w16 rfl 3 (by decide) (hts (.fieldLink RX0 21 "InkPress$Jobs" "costsToCome" "[I") (by decide +kernel)) (fun _ h9 => h9) rfl dX0_weigh_8 ?_
  refine lv_iload_n (pc := 11) hx hb dX0_weigh_11 rfl (lv_at hl 2 rfl) ?_
  refine lv_bipush (v := nI (8)) (pc := 12) hx hb dX0_weigh_12 (by decide) ?_
  refine mx_imul (pc := 14) hx hb dX0_weigh_14 ?_
  refine lv_iload_n (pc := 15) hx hb dX0_weigh_15 rfl (lv_at hl 3 rfl) ?_
  refine mx_iadd (pc := 16) hx hb dX0_weigh_16 ?_
  refine lv_iload_n (pc := 17) hx hb dX0_weigh_17 rfl (lv_at hl 0 rfl) ?_
  refine lv_bipush (v := (-6)) (pc := 18) hx hb dX0_weigh_18 (by decide) ?_
  refine lv_icmp_ne (tgt := 27) (pc := 20) hx hb dX0_weigh_20 (by decide) (fun c20 => ?_) (fun c20 => ?_)
  · skip
    obtain ⟨nx, hnx, enx⟩ := gBx_ne c20
    rw [enx] at hl
    refine lv_aload_n (pc := 27) hx hb dX0_weigh_27 rfl (lv_at hl 1 rfl) ?_
    refine lv_iload_n (pc := 28) hx hb dX0_weigh_28 rfl (lv_at hl 2 rfl) ?_
    refine lv_iload_n (pc := 29) hx hb dX0_weigh_29 rfl (lv_at hl 3 rfl) ?_
    refine lv_iload_n (pc := 30) hx hb dX0_weigh_30 rfl (lv_at hl 0 rfl) ?_
    refine mx_cVi (As := [.int (nI (d)), .int (nI (la)), .int (nI (nx))]) (rest := [.int (nI ((d) * (8) + la)), .ref (a 20)]) (pc := 31) ⟨hx, hb, hml, hown, hts⟩ (k_X0_costsBy (a := a) (co := co) (pa := pa) (wa := wa) (ct := ct) (be := be) (jn := jn) (jp := jp) (d := d) (la := la) (nx := nx) hD w16 w17 w18 w19 w20 w21 hd hla (by omega) hco) (cwV 3 hts gX0_weigh_X0_costsBy rfl rfl rfl (by decide +kernel) ⟨Nat.le_of_ble_eq_true rfl, Nat.le_of_ble_eq_true rfl⟩) 16 rfl rfl w16 hK hN hZ hP hS rfl hl.1 rfl (Nat.le_of_ble_eq_true rfl) dX0_weigh_31 ⟨Nat.zero_le _, Nat.zero_le _⟩ (fun G' H locs hP hD hS hB => ?_)
    rw [hB] at hP hD
    clear hB G'
    refine mx_iast (x := gCost (co) (pa) (wa) (ct) (d) (la) (nx)) (pc := 34) hx hb hK hP hD hS 20 w20 ((d) * (8) + la) (by omega) (by decide) dX0_weigh_34 (fun H locs G hP hD hS w20 ho => ?_)
    have w16 := (ho 16 (by decide)).trans w16
    have w17 := (ho 17 (by decide)).trans w17
    have w18 := (ho 18 (by decide)).trans w18
    have w19 := (ho 19 (by decide)).trans w19
    have w21 := (ho 21 (by decide)).trans w21
    have w20 : G[20]? = some (a 20, .inl (cI, 1024, .inl (upd (ct) ((d) * (8) + la) (gCost (co) (pa) (wa) (ct) (d) (la) (nx))))) := w20
    have hk := gk_step hk ho (by decide)
    clear ho
    exact hret _ _ _ _ _ hP hD hS ⟨(by first | (rw [gWv_0 c20]; exact w20) | (rw [gWv_n c20 enx (by omega)]; exact w20)), hk⟩ dX0_weigh_35
  · skip
    refine lv_iconst (v := nI (0)) (pc := 23) hx hb dX0_weigh_23 (by decide) ?_
    refine lv_goto (tgt := 34) (pc := 24) hx hb dX0_weigh_24 (by decide) ?_
    refine mx_iast (x := nI (0)) (pc := 34) hx hb hK hP hD hS 20 w20 ((d) * (8) + la) (by omega) (by decide) dX0_weigh_34 (fun H locs G hP hD hS w20 ho => ?_)
    have w16 := (ho 16 (by decide)).trans w16
    have w17 := (ho 17 (by decide)).trans w17
    have w18 := (ho 18 (by decide)).trans w18
    have w19 := (ho 19 (by decide)).trans w19
    have w21 := (ho 21 (by decide)).trans w21
    have w20 : G[20]? = some (a 20, .inl (cI, 1024, .inl (upd (ct) ((d) * (8) + la) (nI (0))))) := w20
    have hk := gk_step hk ho (by decide)
    clear ho
    exact hret _ _ _ _ _ hP hD hS ⟨(by first | (rw [gWv_0 c20]; exact w20) | (rw [gWv_n c20 enx (by omega)]; exact w20)), hk⟩ dX0_weigh_35
set_option maxHeartbeats 4000000 in
set_option maxRecDepth 100000 in
theorem k_X0_walk {l : Launch} {D : va_G} {cI cZ : ClassId} {A : Nat → Prop} {g a : Nat → Nat} {G0 : va_W} {co : Nat → Nat} {pa : Nat → Int32} {wa : Nat → Int32} {ct : Nat → Int32} {be : Nat → Nat} {jn : Nat} {jp : Bool} (hD : va_D A G0) (w16 : G0[16]? = some (a 16, .inr (0, [.ref (a 17), .ref (a 18), .ref (a 19), .ref (a 20), .ref (a 21), .int (nI (jn)), .int (gB (jp))]))) (w17 : G0[17]? = some (a 17, .inl (cI, 8, .inl (fun j => nI ((co) j))))) (w18 : G0[18]? = some (a 18, .inl (cI, 8, .inl (pa)))) (w19 : G0[19]? = some (a 19, .inl (cI, 16, .inl (wa)))) (w20 : G0[20]? = some (a 20, .inl (cI, 1024, .inl (ct)))) (w21 : G0[21]? = some (a 21, .inl (cI, 7, .inl (fun j => nI ((be) j))))) (hj : jn ≤ 7) (hco : ∀ j, co j < 4) : gMv l D cI cZ A g yX0_walk wsX0_walk ({ frames := 2, cells := 0, slots := 0, locals := 51 }) [.ref (a 16)] G0 (fun G1 => G1[21]? = some (a 21, .inl (cI, 7, .inl (fun j => nI ((gWk jn co pa wa ct jn 0 0 7 be) j)))) ∧ ∀ k, k ∉ [21] → G1[k]? = G0[k]?) := by
  refine gof_v (cc := cX0_walk) (maxL := 5) (by decide) rfl (Nat.le_of_ble_eq_true rfl) hD ?_
  intro p e s m args below meth c Q hx hb hml hts hown hK hN hZ hP hS hret ls hl
  have hown : s.vm.findClass RX0 = some m.cls := hown
  have hl : lv_has ls 5 [(0, .ref (a 16))] := hl
  obtain ⟨locs, elocs⟩ : ∃ q : List Loc, q = [] := ⟨_, rfl⟩
  rw [← elocs] at hS ⊢
  obtain ⟨H, eH⟩ : ∃ q : Heap, q = s.heap := ⟨_, rfl⟩
  have hP : va_P D vwCl G0 H := eH ▸ hP
  have hS : va_S A s.heap H locs := by rw [eH]; exact hS
  rw [← eH]
  clear elocs eH
  have hiX0 : ∀ w ∈ u_ws RX0 TX0 7, w ∈ wsX0_walk := by decide +kernel
  have hk : ∀ k, k ∉ [21] → G0[k]? = G0[k]? := fun _ _ => rfl
  refine lv_iconst (v := nI (0)) (pc := 0) hx hb dX0_walk_0 (by decide) ?_
  refine lv_istore_n (lv' := [(1, .int (nI (0))), (0, .ref (a 16))]) (pc := 1) hx hb dX0_walk_1 rfl hl (by decide) rfl (fun ls hl => ?_)
  refine lv_bipush (v := nI (7)) (pc := 2) hx hb dX0_walk_2 (by decide) ?_
  refine lv_istore_n (lv' := [(2, .int (nI (7))), (1, .int (nI (0))), (0, .ref (a 16))]) (pc := 4) hx hb dX0_walk_4 rfl hl (by decide) rfl (fun ls hl => ?_)
  refine lv_iconst (v := nI (0)) (pc := 5) hx hb dX0_walk_5 (by decide) ?_
  refine lv_istore_n (lv' := [(3, .int (nI (0))), (2, .int (nI (7))), (1, .int (nI (0))), (0, .ref (a 16))]) (pc := 6) hx hb dX0_walk_6 rfl hl (by decide) rfl (fun ls hl => ?_)
  have LP : ∀ (k : Nat) (pl : Nat) (d : Nat) (la : Nat) (bf : Nat → Nat), pl + k = jn → d < 128 → la < 8 → gWk jn co pa wa ct k pl d la bf = gWk jn co pa wa ct jn 0 0 7 be → ∀ (G : va_W) (H : Heap) (locs : List Loc) (ls : Array Slot), va_P D vwCl G H → va_D A G → va_S A s.heap H locs → (∀ j, j ∉ [21] → G[j]? = G0[j]?) → G[16]? = some (a 16, .inr (0, [.ref (a 17), .ref (a 18), .ref (a 19), .ref (a 20), .ref (a 21), .int (nI (jn)), .int (gB (jp))])) → G[17]? = some (a 17, .inl (cI, 8, .inl (fun j => nI ((co) j)))) → G[18]? = some (a 18, .inl (cI, 8, .inl (pa))) → G[19]? = some (a 19, .inl (cI, 16, .inl (wa))) → G[20]? = some (a 20, .inl (cI, 1024, .inl (ct))) → G[21]? = some (a 21, .inl (cI, 7, .inl (fun j => nI ((bf) j)))) → lv_has ls 5 [(0, .ref (a 16)), (1, .int (nI (d))), (2, .int (nI (la))), (3, .int (nI (pl)))] → (∀ (G : va_W) (H : Heap) (locs : List Loc) (ls : Array Slot), va_P D vwCl G H → va_D A G → va_S A s.heap H locs → (∀ j, j ∉ [21] → G[j]? = G0[j]?) → G[16]? = some (a 16, .inr (0, [.ref (a 17), .ref (a 18), .ref (a 19), .ref (a 20), .ref (a 21), .int (nI (jn)), .int (gB (jp))])) → G[17]? = some (a 17, .inl (cI, 8, .inl (fun j => nI ((co) j)))) → G[18]? = some (a 18, .inl (cI, 8, .inl (pa))) → G[19]? = some (a 19, .inl (cI, 16, .inl (wa))) → G[20]? = some (a 20, .inl (cI, 1024, .inl (ct))) → G[21]? = some (a 21, .inl (cI, 7, .inl (fun j => nI ((gWk jn co pa wa ct jn 0 0 7 be) j)))) → lv_has ls 5 [(0, .ref (a 16))] → W p l e ({ frames := 2, cells := 0, slots := 0, locals := 51 } : Room) s m args below meth c H locs 0 0 Q (F0 m 55 ls [])) → W p l e ({ frames := 2, cells := 0, slots := 0, locals := 51 } : Room) s m args below meth c H locs 0 0 Q (F0 m 7 ls []) := by
    intro k
    induction k with
    | zero =>
      intro pl d la bf hp hd hla hF G H locs ls hP hD hS hk w16 w17 w18 w19 w20 w21 hl hcont
      refine lv_iload_n (pc := 7) hx hb dX0_walk_7 rfl (lv_at hl 3 rfl) ?_
      refine lv_aload_n (pc := 8) hx hb dX0_walk_8 rfl (lv_at hl 0 rfl) ?_
      refine va_get (ci := 0) (C := RX0) (T := TX0) (N := 7) (pc := 9) hx hb hts hiX0 hown hK hP 16 w16 rfl 5 (by decide) (hts (.fieldLink RX0 31 "InkPress$Jobs" "count" "I") (by decide +kernel)) (fun _ h9 => h9) rfl dX0_walk_9 ?_
      refine mx_cge (tgt := 55) (pc := 12) hx hb (by omega) (by omega) dX0_walk_12 (by decide) (fun c12 => ?_) (fun c12 => absurd c12 (by omega))
      exact hcont G H locs ls hP hD hS hk w16 w17 w18 w19 w20 (by rw [← hF]; exact w21) (lv_sub hl [0] rfl)
    | succ k ih =>
      intro pl d la bf hp hd hla hF G H locs ls hP hD hS hk w16 w17 w18 w19 w20 w21 hl hcont
      refine lv_iload_n (pc := 7) hx hb dX0_walk_7 rfl (lv_at hl 3 rfl) ?_
      refine lv_aload_n (pc := 8) hx hb dX0_walk_8 rfl (lv_at hl 0 rfl) ?_
      refine va_get (ci := 0) (C := RX0) (T := TX0) (N := 7) (pc := 9) hx hb hts hiX0 hown hK hP 16 w16 rfl 5 (by decide) (hts (.fieldLink RX0 31 "InkPress$Jobs" "count" "I") (by decide +kernel)) (fun _ h9 => h9) rfl dX0_walk_9 ?_
      refine mx_cge (tgt := 55) (pc := 12) hx hb (by omega) (by omega) dX0_walk_12 (by decide) (fun c12 => absurd c12 (by omega)) (fun c12 => ?_)
      refine lv_aload_n (pc := 15) hx hb dX0_walk_15 rfl (lv_at hl 0 rfl) ?_
      refine lv_iload_n (pc := 16) hx hb dX0_walk_16 rfl (lv_at hl 1 rfl) ?_
      refine lv_iload_n (pc := 17) hx hb dX0_walk_17 rfl (lv_at hl 2 rfl) ?_
      refine mx_cVi (As := [.int (nI (d)), .int (nI (la))]) (rest := []) (pc := 18) ⟨hx, hb, hml, hown, hts⟩ (k_X0_bestNext (a := a) (co := co) (pa := pa) (wa := wa) (ct := ct) (be := bf) (jn := jn) (jp := jp) (d := d) (la := la) hD w16 w17 w18 w19 w20 w21 hd hla hj hco) (cwV 2 hts gX0_walk_X0_bestNext rfl rfl rfl (by decide +kernel) ⟨Nat.le_of_ble_eq_true rfl, Nat.le_of_ble_eq_true rfl⟩) 16 rfl rfl w16 hK hN hZ hP hS rfl hl.1 rfl (Nat.le_of_ble_eq_true rfl) dX0_walk_18 ⟨Nat.zero_le _, Nat.zero_le _⟩ (fun G' H locs hP hD hS hB => ?_)
      rw [hB] at hP hD
      clear hB G'
      refine lv_istore (lv' := [(4, .int ((gBn (gCost (co) (pa) (wa) (ct) (d) (la)) (d) (jn) 0 (-6) (nI 0)).1)), (0, .ref (a 16)), (1, .int (nI (d))), (2, .int (nI (la))), (3, .int (nI (pl)))]) (pc := 21) hx hb dX0_walk_21 hl (by decide) rfl (fun ls hl => ?_)
      refine lv_iload (pc := 23) hx hb dX0_walk_23 (lv_at hl 0 rfl) ?_
      refine lv_bipush (v := (-6)) (pc := 25) hx hb dX0_walk_25 (by decide) ?_
      refine lv_icmp_ne (tgt := 31) (pc := 27) hx hb dX0_walk_27 (by decide) (fun c27 => ?_) (fun c27 => ?_)
      · skip
        obtain ⟨nx, hnx, enx⟩ := gBx_ne c27
        rw [enx] at hl
        refine lv_aload_n (pc := 31) hx hb dX0_walk_31 rfl (lv_at hl 1 rfl) ?_
        refine va_get (ci := 0) (C := RX0) (T := TX0) (N := 7) (pc := 32) hx hb hts hiX0 hown hK hP 16 w16 rfl 4 (by decide) (hts (.fieldLink RX0 24 "InkPress$Jobs" "best" "[I") (by decide +kernel)) (fun _ h9 => h9) rfl dX0_walk_32 ?_
        refine lv_iload_n (pc := 35) hx hb dX0_walk_35 rfl (lv_at hl 4 rfl) ?_
        refine lv_iload (pc := 36) hx hb dX0_walk_36 (lv_at hl 0 rfl) ?_
        refine mx_iast (x := nI (nx)) (pc := 38) hx hb hK hP hD hS 21 w21 (pl) (by omega) (by decide) dX0_walk_38 (fun H locs G hP hD hS w21 ho => ?_)
        rw [gUpdN] at w21
        have w16 := (ho 16 (by decide)).trans w16
        have w17 := (ho 17 (by decide)).trans w17
        have w18 := (ho 18 (by decide)).trans w18
        have w19 := (ho 19 (by decide)).trans w19
        have w20 := (ho 20 (by decide)).trans w20
        have w21 : G[21]? = some (a 21, .inl (cI, 7, .inl (fun j => nI ((vf_upd (bf) (pl) (nx)) j)))) := w21
        have hk := gk_step hk ho (by decide)
        clear ho
        refine lv_iload_n (pc := 39) hx hb dX0_walk_39 rfl (lv_at hl 2 rfl) ?_
        refine lv_iconst (v := nI (1)) (pc := 40) hx hb dX0_walk_40 (by decide) ?_
        refine lv_iload (pc := 41) hx hb dX0_walk_41 (lv_at hl 0 rfl) ?_
        refine mx_ishl (pc := 43) hx hb (by omega) (gP2 (by omega)) dX0_walk_43 ?_
        refine mx_ior (pc := 44) hx hb dX0_walk_44 ?_
        refine lv_istore_n (lv' := [(1, .int (nI ((d) ||| ((1) * 2 ^ (nx))))), (4, .int (nI (nx))), (0, .ref (a 16)), (2, .int (nI (la))), (3, .int (nI (pl)))]) (pc := 45) hx hb dX0_walk_45 rfl hl (by decide) rfl (fun ls hl => ?_)
        refine lv_iload (pc := 46) hx hb dX0_walk_46 (lv_at hl 1 rfl) ?_
        refine lv_istore_n (lv' := [(2, .int (nI (nx))), (1, .int (nI ((d) ||| ((1) * 2 ^ (nx))))), (4, .int (nI (nx))), (0, .ref (a 16)), (3, .int (nI (pl)))]) (pc := 48) hx hb dX0_walk_48 rfl hl (by decide) rfl (fun ls hl => ?_)
        refine lv_iinc (v := nI (pl + 1)) (lv' := [(3, .int (nI (pl + 1))), (2, .int (nI (nx))), (1, .int (nI ((d) ||| ((1) * 2 ^ (nx))))), (4, .int (nI (nx))), (0, .ref (a 16))]) (pc := 49) hx hb dX0_walk_49 hl (k := 4) rfl (mx_inc1 _) (by decide) rfl (fun ls hl => ?_)
        refine lv_goto (tgt := 7) (pc := 52) hx hb dX0_walk_52 (by decide) ?_
        exact ih (pl + 1) (d ||| 1 * 2 ^ nx) (nx) (vf_upd bf pl nx) (by omega) (gOr hd (by omega)) (by omega) (by rw [← hF]; exact (gWk_1 c27 enx (by omega)).symm) G H locs ls hP hD hS hk w16 w17 w18 w19 w20 w21 (lv_sub hl [4, 2, 1, 0] rfl) hcont
      · skip
        exact hret _ _ _ _ _ hP hD hS ⟨(by rw [← hF, gWk_0 c27]; exact w21), hk⟩ dX0_walk_30
  refine LP jn (0) (0) (7) (be) (by omega) (by omega) (by omega) rfl G0 H locs ls hP hD hS hk w16 w17 w18 w19 w20 w21 (lv_sub hl [3, 2, 1, 0] rfl) (fun G H locs ls hP hD hS hk w16 w17 w18 w19 w20 w21 hl => ?_)
  have w21 : G[21]? = some (a 21, .inl (cI, 7, .inl (fun j => nI ((gWk jn co pa wa ct jn 0 0 7 be) j)))) := w21
  exact hret _ _ _ _ _ hP hD hS ⟨w21, hk⟩ dX0_walk_55
set_option maxHeartbeats 4000000 in
set_option maxRecDepth 100000 in
theorem k_X0_plan {l : Launch} {D : va_G} {cI cZ : ClassId} {A : Nat → Prop} {g a : Nat → Nat} {G0 : va_W} {co : Nat → Nat} {pa : Nat → Int32} {wa : Nat → Int32} {ct : Nat → Int32} {be : Nat → Nat} {jn : Nat} {jp : Bool} (hD : va_D A G0) (w16 : G0[16]? = some (a 16, .inr (0, [.ref (a 17), .ref (a 18), .ref (a 19), .ref (a 20), .ref (a 21), .int (nI (jn)), .int (gB (jp))]))) (w17 : G0[17]? = some (a 17, .inl (cI, 8, .inl (fun j => nI ((co) j))))) (w18 : G0[18]? = some (a 18, .inl (cI, 8, .inl (pa)))) (w19 : G0[19]? = some (a 19, .inl (cI, 16, .inl (wa)))) (w20 : G0[20]? = some (a 20, .inl (cI, 1024, .inl (ct)))) (w21 : G0[21]? = some (a 21, .inl (cI, 7, .inl (fun j => nI ((be) j))))) (hj : jn ≤ 7) (hco : ∀ j, co j < 4) : gMv l D cI cZ A g yX0_plan wsX0_plan ({ frames := 3, cells := 0, slots := 0, locals := 75 }) [.ref (a 16)] G0 (fun G1 => G1[16]? = some (a 16, .inr (0, [.ref (a 17), .ref (a 18), .ref (a 19), .ref (a 20), .ref (a 21), .int (nI (jn)), .int (gB (true))])) ∧ G1[20]? = some (a 20, .inl (cI, 1024, .inl (gPc jp jn co pa wa ct))) ∧ G1[21]? = some (a 21, .inl (cI, 7, .inl (fun j => nI ((gPb jp jn co pa wa ct be) j)))) ∧ ∀ k, k ∉ [16, 20, 21] → G1[k]? = G0[k]?) := by
  refine gof_v (cc := cX0_plan) (maxL := 3) (by decide) rfl (Nat.le_of_ble_eq_true rfl) hD ?_
  intro p e s m args below meth c Q hx hb hml hts hown hK hN hZ hP hS hret ls hl
  have hown : s.vm.findClass RX0 = some m.cls := hown
  have hl : lv_has ls 3 [(0, .ref (a 16))] := hl
  obtain ⟨locs, elocs⟩ : ∃ q : List Loc, q = [] := ⟨_, rfl⟩
  rw [← elocs] at hS ⊢
  obtain ⟨H, eH⟩ : ∃ q : Heap, q = s.heap := ⟨_, rfl⟩
  have hP : va_P D vwCl G0 H := eH ▸ hP
  have hS : va_S A s.heap H locs := by rw [eH]; exact hS
  rw [← eH]
  clear elocs eH
  have hiX0 : ∀ w ∈ u_ws RX0 TX0 7, w ∈ wsX0_plan := by decide +kernel
  have hk : ∀ k, k ∉ [16, 20, 21] → G0[k]? = G0[k]? := fun _ _ => rfl
  cases jp
  · skip
    refine lv_aload_n (pc := 0) hx hb dX0_plan_0 rfl (lv_at hl 0 rfl) ?_
    refine va_get (ci := 0) (C := RX0) (T := TX0) (N := 7) (pc := 1) hx hb hts hiX0 hown hK hP 16 w16 rfl 6 (by decide) (hts (.fieldLink RX0 35 "InkPress$Jobs" "isPlanned" "Z") (by decide +kernel)) (fun _ h9 => h9) rfl dX0_plan_1 ?_
    refine mx_beq (tgt := 8) (pc := 4) hx hb dX0_plan_4 (by decide) (fun c4 => ?_) (fun c4 => absurd c4 (by decide))
    refine lv_iconst (v := nI (1)) (pc := 8) hx hb dX0_plan_8 (by decide) ?_
    refine lv_aload_n (pc := 9) hx hb dX0_plan_9 rfl (lv_at hl 0 rfl) ?_
    refine va_get (ci := 0) (C := RX0) (T := TX0) (N := 7) (pc := 10) hx hb hts hiX0 hown hK hP 16 w16 rfl 5 (by decide) (hts (.fieldLink RX0 31 "InkPress$Jobs" "count" "I") (by decide +kernel)) (fun _ h9 => h9) rfl dX0_plan_10 ?_
    refine mx_ishl (pc := 13) hx hb (by omega) (gP2 (by omega)) dX0_plan_13 ?_
    refine lv_iconst (v := nI (1)) (pc := 14) hx hb dX0_plan_14 (by decide) ?_
    refine mx_isub (pc := 15) hx hb (by have q1 := Nat.two_pow_pos jn; omega) dX0_plan_15 ?_
    refine lv_istore_n (lv' := [(1, .int (nI (((1) * 2 ^ (jn)) - (1)))), (0, .ref (a 16))]) (pc := 16) hx hb dX0_plan_16 rfl hl (by decide) rfl (fun ls hl => ?_)
    have LP : ∀ (k : Nat) (ct : Nat → Int32), k < 128 → ∀ (G : va_W) (H : Heap) (locs : List Loc) (ls : Array Slot), va_P D vwCl G H → va_D A G → va_S A s.heap H locs → (∀ j, j ∉ [16, 20, 21] → G[j]? = G0[j]?) → G[16]? = some (a 16, .inr (0, [.ref (a 17), .ref (a 18), .ref (a 19), .ref (a 20), .ref (a 21), .int (nI (jn)), .int (gB (false))])) → G[17]? = some (a 17, .inl (cI, 8, .inl (fun j => nI ((co) j)))) → G[18]? = some (a 18, .inl (cI, 8, .inl (pa))) → G[19]? = some (a 19, .inl (cI, 16, .inl (wa))) → G[20]? = some (a 20, .inl (cI, 1024, .inl (ct))) → G[21]? = some (a 21, .inl (cI, 7, .inl (fun j => nI ((be) j)))) → lv_has ls 3 [(0, .ref (a 16)), (1, .int (nI (k)))] → (∀ (G : va_W) (H : Heap) (locs : List Loc) (ls : Array Slot), va_P D vwCl G H → va_D A G → va_S A s.heap H locs → (∀ j, j ∉ [16, 20, 21] → G[j]? = G0[j]?) → G[16]? = some (a 16, .inr (0, [.ref (a 17), .ref (a 18), .ref (a 19), .ref (a 20), .ref (a 21), .int (nI (jn)), .int (gB (false))])) → G[17]? = some (a 17, .inl (cI, 8, .inl (fun j => nI ((co) j)))) → G[18]? = some (a 18, .inl (cI, 8, .inl (pa))) → G[19]? = some (a 19, .inl (cI, 16, .inl (wa))) → G[20]? = some (a 20, .inl (cI, 1024, .inl (gWd jn co pa wa k ct))) → G[21]? = some (a 21, .inl (cI, 7, .inl (fun j => nI ((be) j)))) → lv_has ls 3 [(0, .ref (a 16))] → W p l e ({ frames := 3, cells := 0, slots := 0, locals := 75 } : Room) s m args below meth c H locs 0 0 Q (F0 m 57 ls [])) → W p l e ({ frames := 3, cells := 0, slots := 0, locals := 75 } : Room) s m args below meth c H locs 0 0 Q (F0 m 17 ls []) := by
      intro k
      induction k with
      | zero =>
        intro ct hd G H locs ls hP hD hS hk w16 w17 w18 w19 w20 w21 hl hcont
        refine lv_iload_n (pc := 17) hx hb dX0_plan_17 rfl (lv_at hl 1 rfl) ?_
        refine lv_if_le (tgt := 57) (pc := 18) hx hb dX0_plan_18 (by decide) (fun c18 => ?_) (fun c18 => absurd (by decide) c18)
        exact hcont G H locs ls hP hD hS hk w16 w17 w18 w19 w20 w21 (lv_sub hl [0] rfl)
      | succ k ih =>
        intro ct hd G H locs ls hP hD hS hk w16 w17 w18 w19 w20 w21 hl hcont
        refine lv_iload_n (pc := 17) hx hb dX0_plan_17 rfl (lv_at hl 1 rfl) ?_
        refine mx_nle (tgt := 57) (pc := 18) hx hb (by omega) dX0_plan_18 (by decide) (fun c18 => absurd c18 (by omega)) (fun c18 => ?_)
        refine lv_iconst (v := nI (0)) (pc := 21) hx hb dX0_plan_21 (by decide) ?_
        refine lv_istore_n (lv' := [(2, .int (nI (0))), (0, .ref (a 16)), (1, .int (nI (k + 1)))]) (pc := 22) hx hb dX0_plan_22 rfl hl (by decide) rfl (fun ls hl => ?_)
        have LZ : ∀ (j : Nat) (la : Nat) (ct : Nat → Int32), la + j = jn → ∀ (G : va_W) (H : Heap) (locs : List Loc) (ls : Array Slot), va_P D vwCl G H → va_D A G → va_S A s.heap H locs → (∀ j, j ∉ [16, 20, 21] → G[j]? = G0[j]?) → G[16]? = some (a 16, .inr (0, [.ref (a 17), .ref (a 18), .ref (a 19), .ref (a 20), .ref (a 21), .int (nI (jn)), .int (gB (false))])) → G[17]? = some (a 17, .inl (cI, 8, .inl (fun j => nI ((co) j)))) → G[18]? = some (a 18, .inl (cI, 8, .inl (pa))) → G[19]? = some (a 19, .inl (cI, 16, .inl (wa))) → G[20]? = some (a 20, .inl (cI, 1024, .inl (ct))) → G[21]? = some (a 21, .inl (cI, 7, .inl (fun j => nI ((be) j)))) → lv_has ls 3 [(0, .ref (a 16)), (1, .int (nI (k + 1))), (2, .int (nI (la)))] → (∀ (G : va_W) (H : Heap) (locs : List Loc) (ls : Array Slot), va_P D vwCl G H → va_D A G → va_S A s.heap H locs → (∀ j, j ∉ [16, 20, 21] → G[j]? = G0[j]?) → G[16]? = some (a 16, .inr (0, [.ref (a 17), .ref (a 18), .ref (a 19), .ref (a 20), .ref (a 21), .int (nI (jn)), .int (gB (false))])) → G[17]? = some (a 17, .inl (cI, 8, .inl (fun j => nI ((co) j)))) → G[18]? = some (a 18, .inl (cI, 8, .inl (pa))) → G[19]? = some (a 19, .inl (cI, 16, .inl (wa))) → G[20]? = some (a 20, .inl (cI, 1024, .inl (gWz jn co pa wa (k + 1) j la ct))) → G[21]? = some (a 21, .inl (cI, 7, .inl (fun j => nI ((be) j)))) → lv_has ls 3 [(0, .ref (a 16)), (1, .int (nI (k + 1)))] → W p l e ({ frames := 3, cells := 0, slots := 0, locals := 75 } : Room) s m args below meth c H locs 0 0 Q (F0 m 51 ls [])) → W p l e ({ frames := 3, cells := 0, slots := 0, locals := 75 } : Room) s m args below meth c H locs 0 0 Q (F0 m 23 ls []) := by
          intro j
          induction j with
          | zero =>
            intro la ct hla G H locs ls hP hD hS hk w16 w17 w18 w19 w20 w21 hl hcont
            refine lv_iload_n (pc := 23) hx hb dX0_plan_23 rfl (lv_at hl 2 rfl) ?_
            refine lv_aload_n (pc := 24) hx hb dX0_plan_24 rfl (lv_at hl 0 rfl) ?_
            refine va_get (ci := 0) (C := RX0) (T := TX0) (N := 7) (pc := 25) hx hb hts hiX0 hown hK hP 16 w16 rfl 5 (by decide) (hts (.fieldLink RX0 31 "InkPress$Jobs" "count" "I") (by decide +kernel)) (fun _ h9 => h9) rfl dX0_plan_25 ?_
            refine mx_cge (tgt := 51) (pc := 28) hx hb (by omega) (by omega) dX0_plan_28 (by decide) (fun c28 => ?_) (fun c28 => absurd c28 (by omega))
            exact hcont G H locs ls hP hD hS hk w16 w17 w18 w19 w20 w21 (lv_sub hl [0, 1] rfl)
          | succ j ih =>
            intro la ct hla G H locs ls hP hD hS hk w16 w17 w18 w19 w20 w21 hl hcont
            refine lv_iload_n (pc := 23) hx hb dX0_plan_23 rfl (lv_at hl 2 rfl) ?_
            refine lv_aload_n (pc := 24) hx hb dX0_plan_24 rfl (lv_at hl 0 rfl) ?_
            refine va_get (ci := 0) (C := RX0) (T := TX0) (N := 7) (pc := 25) hx hb hts hiX0 hown hK hP 16 w16 rfl 5 (by decide) (hts (.fieldLink RX0 31 "InkPress$Jobs" "count" "I") (by decide +kernel)) (fun _ h9 => h9) rfl dX0_plan_25 ?_
            refine mx_cge (tgt := 51) (pc := 28) hx hb (by omega) (by omega) dX0_plan_28 (by decide) (fun c28 => absurd c28 (by omega)) (fun c28 => ?_)
            refine lv_iload_n (pc := 31) hx hb dX0_plan_31 rfl (lv_at hl 1 rfl) ?_
            refine lv_iload_n (pc := 32) hx hb dX0_plan_32 rfl (lv_at hl 2 rfl) ?_
            refine mx_cSi (As := [.int (nI (k + 1)), .int (nI (la))]) (rest := []) (pc := 33) ⟨hx, hb, hml, hown, hts⟩ (k_X0_holds (a := a) (d := nI (k + 1)) (j := nI (la)) hD  ) (va_cwS 2 hts gX0_plan_X0_holds rfl rfl rfl (by decide +kernel) ⟨Nat.le_of_ble_eq_true rfl, Nat.le_of_ble_eq_true rfl⟩) hK hN hZ hP hS rfl hl.1 rfl (Nat.le_of_ble_eq_true rfl) dX0_plan_33 ⟨Nat.zero_le _, Nat.zero_le _⟩ (fun G' H locs hP hD hS hB => ?_)
            rw [hB] at hP hD
            clear hB G'
            refine mx_beq (tgt := 45) (pc := 36) hx hb dX0_plan_36 (by decide) (fun c36 => ?_) (fun c36 => ?_)
            · skip
              refine lv_iinc (v := nI (la + 1)) (lv' := [(2, .int (nI (la + 1))), (0, .ref (a 16)), (1, .int (nI (k + 1)))]) (pc := 45) hx hb dX0_plan_45 hl (k := 2) rfl (mx_inc1 _) (by decide) rfl (fun ls hl => ?_)
              refine lv_goto (tgt := 23) (pc := 48) hx hb dX0_plan_48 (by decide) ?_
              first | rw [gWz_f c36] at hcont | rw [gWz_t c36] at hcont
              exact ih (la + 1) (ct) (by omega) G H locs ls hP hD hS hk w16 w17 w18 w19 w20 w21 (lv_sub hl [1, 2, 0] rfl) hcont
            · skip
              refine lv_aload_n (pc := 39) hx hb dX0_plan_39 rfl (lv_at hl 0 rfl) ?_
              refine lv_iload_n (pc := 40) hx hb dX0_plan_40 rfl (lv_at hl 1 rfl) ?_
              refine lv_iload_n (pc := 41) hx hb dX0_plan_41 rfl (lv_at hl 2 rfl) ?_
              refine mx_cVv (As := [.int (nI (k + 1)), .int (nI (la))]) (rest := []) (pc := 42) ⟨hx, hb, hml, hown, hts⟩ (k_X0_weigh (a := a) (co := co) (pa := pa) (wa := wa) (ct := ct) (be := be) (jn := jn) (jp := false) (d := k + 1) (la := la) hD w16 w17 w18 w19 w20 w21 hd (by omega) hj hco) (cwV 2 hts gX0_plan_X0_weigh rfl rfl rfl (by decide +kernel) ⟨Nat.le_of_ble_eq_true rfl, Nat.le_of_ble_eq_true rfl⟩) 16 rfl rfl w16 hK hN hZ hP hS rfl hl.1 rfl (Nat.le_of_ble_eq_true rfl) dX0_plan_42 ⟨Nat.zero_le _, Nat.zero_le _⟩ (fun G H locs hP hD hS hB => ?_)
              obtain ⟨w20, ho⟩ := hB
              have w16 := (ho 16 (by decide)).trans w16
              have w17 := (ho 17 (by decide)).trans w17
              have w18 := (ho 18 (by decide)).trans w18
              have w19 := (ho 19 (by decide)).trans w19
              have w20 : G[20]? = some (a 20, .inl (cI, 1024, .inl (upd (ct) ((k + 1) * 8 + (la)) (gWv (jn) (co) (pa) (wa) (ct) (k + 1) (la))))) := w20
              have w21 := (ho 21 (by decide)).trans w21
              have hk := gk_call hk ho (by decide)
              clear ho
              refine lv_iinc (v := nI (la + 1)) (lv' := [(2, .int (nI (la + 1))), (0, .ref (a 16)), (1, .int (nI (k + 1)))]) (pc := 45) hx hb dX0_plan_45 hl (k := 2) rfl (mx_inc1 _) (by decide) rfl (fun ls hl => ?_)
              refine lv_goto (tgt := 23) (pc := 48) hx hb dX0_plan_48 (by decide) ?_
              first | rw [gWz_f c36] at hcont | rw [gWz_t c36] at hcont
              exact ih (la + 1) (upd (ct) ((k + 1) * 8 + (la)) (gWv (jn) (co) (pa) (wa) (ct) (k + 1) (la))) (by omega) G H locs ls hP hD hS hk w16 w17 w18 w19 w20 w21 (lv_sub hl [1, 2, 0] rfl) hcont
        refine LZ jn (0) (ct) (by omega) G H locs ls hP hD hS hk w16 w17 w18 w19 w20 w21 (lv_sub hl [1, 2, 0] rfl) (fun G H locs ls hP hD hS hk w16 w17 w18 w19 w20 w21 hl => ?_)
        have w20 : G[20]? = some (a 20, .inl (cI, 1024, .inl (gWz jn co pa wa (k + 1) (jn) (0) (ct)))) := w20
        refine lv_iinc (v := nI (k)) (lv' := [(1, .int (nI (k))), (0, .ref (a 16))]) (pc := 51) hx hb dX0_plan_51 hl (k := 1) rfl (pk_m1 _) (by decide) rfl (fun ls hl => ?_)
        refine lv_goto (tgt := 17) (pc := 54) hx hb dX0_plan_54 (by decide) ?_
        exact ih (gWz jn co pa wa (k + 1) (jn) (0) (ct)) (by omega) G H locs ls hP hD hS hk w16 w17 w18 w19 w20 w21 (lv_sub hl [1, 0] rfl) hcont
    refine LP ((1) * 2 ^ (jn) - (1)) (ct) (gP128 hj) G0 H locs ls hP hD hS hk w16 w17 w18 w19 w20 w21 (lv_sub hl [1, 0] rfl) (fun G H locs ls hP hD hS hk w16 w17 w18 w19 w20 w21 hl => ?_)
    have w20 : G[20]? = some (a 20, .inl (cI, 1024, .inl (gWd jn co pa wa (((1) * 2 ^ (jn) - (1))) (ct)))) := w20
    refine lv_aload_n (pc := 57) hx hb dX0_plan_57 rfl (lv_at hl 0 rfl) ?_
    refine lv_iconst (v := nI (0)) (pc := 58) hx hb dX0_plan_58 (by decide) ?_
    refine lv_bipush (v := nI (7)) (pc := 59) hx hb dX0_plan_59 (by decide) ?_
    refine mx_cVv (As := [.int (nI (0)), .int (nI (7))]) (rest := []) (pc := 61) ⟨hx, hb, hml, hown, hts⟩ (k_X0_weigh (a := a) (co := co) (pa := pa) (wa := wa) (ct := gWd jn co pa wa (((1) * 2 ^ (jn) - (1))) (ct)) (be := be) (jn := jn) (jp := false) (d := 0) (la := 7) hD w16 w17 w18 w19 w20 w21 (by omega) (by omega) hj hco) (cwV 2 hts gX0_plan_X0_weigh rfl rfl rfl (by decide +kernel) ⟨Nat.le_of_ble_eq_true rfl, Nat.le_of_ble_eq_true rfl⟩) 16 rfl rfl w16 hK hN hZ hP hS rfl hl.1 rfl (Nat.le_of_ble_eq_true rfl) dX0_plan_61 ⟨Nat.zero_le _, Nat.zero_le _⟩ (fun G H locs hP hD hS hB => ?_)
    obtain ⟨w20, ho⟩ := hB
    have w16 := (ho 16 (by decide)).trans w16
    have w17 := (ho 17 (by decide)).trans w17
    have w18 := (ho 18 (by decide)).trans w18
    have w19 := (ho 19 (by decide)).trans w19
    have w20 : G[20]? = some (a 20, .inl (cI, 1024, .inl (upd (gWd jn co pa wa (((1) * 2 ^ (jn) - (1))) (ct)) ((0) * 8 + (7)) (gWv (jn) (co) (pa) (wa) (gWd jn co pa wa (((1) * 2 ^ (jn) - (1))) (ct)) (0) (7))))) := w20
    have w21 := (ho 21 (by decide)).trans w21
    have hk := gk_call hk ho (by decide)
    clear ho
    refine lv_aload_n (pc := 64) hx hb dX0_plan_64 rfl (lv_at hl 0 rfl) ?_
    refine mx_cVv (As := []) (rest := []) (pc := 65) ⟨hx, hb, hml, hown, hts⟩ (k_X0_walk (a := a) (co := co) (pa := pa) (wa := wa) (ct := upd (gWd jn co pa wa (((1) * 2 ^ (jn) - (1))) (ct)) ((0) * 8 + (7)) (gWv (jn) (co) (pa) (wa) (gWd jn co pa wa (((1) * 2 ^ (jn) - (1))) (ct)) (0) (7))) (be := be) (jn := jn) (jp := false) hD w16 w17 w18 w19 w20 w21 hj hco) (cwV 0 hts gX0_plan_X0_walk rfl rfl rfl (by decide +kernel) ⟨Nat.le_of_ble_eq_true rfl, Nat.le_of_ble_eq_true rfl⟩) 16 rfl rfl w16 hK hN hZ hP hS rfl hl.1 rfl (Nat.le_of_ble_eq_true rfl) dX0_plan_65 ⟨Nat.zero_le _, Nat.zero_le _⟩ (fun G H locs hP hD hS hB => ?_)
    obtain ⟨w21, ho⟩ := hB
    have w16 := (ho 16 (by decide)).trans w16
    have w17 := (ho 17 (by decide)).trans w17
    have w18 := (ho 18 (by decide)).trans w18
    have w19 := (ho 19 (by decide)).trans w19
    have w20 := (ho 20 (by decide)).trans w20
    have w21 : G[21]? = some (a 21, .inl (cI, 7, .inl (fun j => nI ((gWk (jn) (co) (pa) (wa) (upd (gWd jn co pa wa (((1) * 2 ^ (jn) - (1))) (ct)) ((0) * 8 + (7)) (gWv (jn) (co) (pa) (wa) (gWd jn co pa wa (((1) * 2 ^ (jn) - (1))) (ct)) (0) (7))) (jn) 0 0 7 (be)) j)))) := w21
    have hk := gk_call hk ho (by decide)
    clear ho
    refine lv_aload_n (pc := 68) hx hb dX0_plan_68 rfl (lv_at hl 0 rfl) ?_
    refine lv_iconst (v := nI (1)) (pc := 69) hx hb dX0_plan_69 (by decide) ?_
    refine mx_put (ci := 0) (v := .int (nI (1))) (ty := .boolean) (C := RX0) (T := TX0) (N := 7) (pc := 70) hx hb hts hiX0 tyX0 tyX0_ok nmX0 hown hK hP hD hS 16 w16 rfl 6 (by decide) (hts (.fieldLink RX0 35 "InkPress$Jobs" "isPlanned" "Z") (by decide +kernel)) (fun _ h9 => h9) rfl (by decide +kernel) rfl rfl (Nat.le_of_ble_eq_true rfl) dX0_plan_70 (fun H locs G hP hD hS w16 ho => ?_)
    have w17 := (ho 17 (by decide)).trans w17
    have w18 := (ho 18 (by decide)).trans w18
    have w19 := (ho 19 (by decide)).trans w19
    have w20 := (ho 20 (by decide)).trans w20
    have w21 := (ho 21 (by decide)).trans w21
    have w16 : G[16]? = some (a 16, .inr (0, [.ref (a 17), .ref (a 18), .ref (a 19), .ref (a 20), .ref (a 21), .int (nI (jn)), .int (gB (true))])) := w16
    have hk := gk_step hk ho (by decide)
    clear ho
    exact hret _ _ _ _ _ hP hD hS ⟨w16, w20, w21, hk⟩ dX0_plan_73
  · skip
    refine lv_aload_n (pc := 0) hx hb dX0_plan_0 rfl (lv_at hl 0 rfl) ?_
    refine va_get (ci := 0) (C := RX0) (T := TX0) (N := 7) (pc := 1) hx hb hts hiX0 hown hK hP 16 w16 rfl 6 (by decide) (hts (.fieldLink RX0 35 "InkPress$Jobs" "isPlanned" "Z") (by decide +kernel)) (fun _ h9 => h9) rfl dX0_plan_1 ?_
    refine mx_beq (tgt := 8) (pc := 4) hx hb dX0_plan_4 (by decide) (fun c4 => absurd c4 (by decide)) (fun c4 => ?_)
    exact hret _ _ _ _ _ hP hD hS ⟨w16, w20, w21, hk⟩ dX0_plan_7
set_option maxHeartbeats 4000000 in
set_option maxRecDepth 100000 in
theorem k_X0_leastCosts {l : Launch} {D : va_G} {cI cZ : ClassId} {A : Nat → Prop} {g a : Nat → Nat} {G0 : va_W} {co : Nat → Nat} {pa : Nat → Int32} {wa : Nat → Int32} {ct : Nat → Int32} {be : Nat → Nat} {jn : Nat} {jp : Bool} (hD : va_D A G0) (w16 : G0[16]? = some (a 16, .inr (0, [.ref (a 17), .ref (a 18), .ref (a 19), .ref (a 20), .ref (a 21), .int (nI (jn)), .int (gB (jp))]))) (w17 : G0[17]? = some (a 17, .inl (cI, 8, .inl (fun j => nI ((co) j))))) (w18 : G0[18]? = some (a 18, .inl (cI, 8, .inl (pa)))) (w19 : G0[19]? = some (a 19, .inl (cI, 16, .inl (wa)))) (w20 : G0[20]? = some (a 20, .inl (cI, 1024, .inl (ct)))) (w21 : G0[21]? = some (a 21, .inl (cI, 7, .inl (fun j => nI ((be) j))))) (hj : jn ≤ 7) (hco : ∀ j, co j < 4) : gMi l D cI cZ A g yX0_leastCosts wsX0_leastCosts ({ frames := 4, cells := 0, slots := 0, locals := 97 }) [.ref (a 16)] G0 (gPc jp jn co pa wa ct 7) (fun G1 => G1[16]? = some (a 16, .inr (0, [.ref (a 17), .ref (a 18), .ref (a 19), .ref (a 20), .ref (a 21), .int (nI (jn)), .int (gB (true))])) ∧ G1[20]? = some (a 20, .inl (cI, 1024, .inl (gPc jp jn co pa wa ct))) ∧ G1[21]? = some (a 21, .inl (cI, 7, .inl (fun j => nI ((gPb jp jn co pa wa ct be) j)))) ∧ ∀ k, k ∉ [16, 20, 21] → G1[k]? = G0[k]?) := by
  refine gof_i (cc := cX0_leastCosts) (maxL := 1) (by decide) rfl (Nat.le_of_ble_eq_true rfl) hD ?_
  intro p e s m args below meth c Q hx hb hml hts hown hK hN hZ hP hS hret ls hl
  have hown : s.vm.findClass RX0 = some m.cls := hown
  have hl : lv_has ls 1 [(0, .ref (a 16))] := hl
  obtain ⟨locs, elocs⟩ : ∃ q : List Loc, q = [] := ⟨_, rfl⟩
  rw [← elocs] at hS ⊢
  obtain ⟨H, eH⟩ : ∃ q : Heap, q = s.heap := ⟨_, rfl⟩
  have hP : va_P D vwCl G0 H := eH ▸ hP
  have hS : va_S A s.heap H locs := by rw [eH]; exact hS
  rw [← eH]
  clear elocs eH
  have hiX0 : ∀ w ∈ u_ws RX0 TX0 7, w ∈ wsX0_leastCosts := by decide +kernel
  have hk : ∀ k, k ∉ [16, 20, 21] → G0[k]? = G0[k]? := fun _ _ => rfl
  refine lv_aload_n (pc := 0) hx hb dX0_leastCosts_0 rfl (lv_at hl 0 rfl) ?_
  refine mx_cVv (As := []) (rest := []) (pc := 1) ⟨hx, hb, hml, hown, hts⟩ (k_X0_plan (a := a) (co := co) (pa := pa) (wa := wa) (ct := ct) (be := be) (jn := jn) (jp := jp) hD w16 w17 w18 w19 w20 w21 hj hco) (cwV 0 hts gX0_leastCosts_X0_plan rfl rfl rfl (by decide +kernel) ⟨Nat.le_of_ble_eq_true rfl, Nat.le_of_ble_eq_true rfl⟩) 16 rfl rfl w16 hK hN hZ hP hS rfl hl.1 rfl (Nat.le_of_ble_eq_true rfl) dX0_leastCosts_1 ⟨Nat.zero_le _, Nat.zero_le _⟩ (fun G H locs hP hD hS hB => ?_)
  obtain ⟨w16, w20, w21, ho⟩ := hB
  have w16 : G[16]? = some (a 16, .inr (0, [.ref (a 17), .ref (a 18), .ref (a 19), .ref (a 20), .ref (a 21), .int (nI ((jn))), .int (gB (true))])) := w16
  have w17 := (ho 17 (by decide)).trans w17
  have w18 := (ho 18 (by decide)).trans w18
  have w19 := (ho 19 (by decide)).trans w19
  have w20 : G[20]? = some (a 20, .inl (cI, 1024, .inl (gPc (jp) (jn) (co) (pa) (wa) (ct)))) := w20
  have w21 : G[21]? = some (a 21, .inl (cI, 7, .inl (fun j => nI ((gPb (jp) (jn) (co) (pa) (wa) (ct) (be)) j)))) := w21
  have hk := gk_call hk ho (by decide)
  clear ho
  refine lv_aload_n (pc := 4) hx hb dX0_leastCosts_4 rfl (lv_at hl 0 rfl) ?_
  refine va_get (ci := 0) (C := RX0) (T := TX0) (N := 7) (pc := 5) hx hb hts hiX0 hown hK hP 16 w16 rfl 3 (by decide) (hts (.fieldLink RX0 21 "InkPress$Jobs" "costsToCome" "[I") (by decide +kernel)) (fun _ h9 => h9) rfl dX0_leastCosts_5 ?_
  refine lv_bipush (v := nI (7)) (pc := 8) hx hb dX0_leastCosts_8 (by decide) ?_
  refine mx_iald (pc := 10) hx hb hK hP 20 w20 (7) (by omega) (by decide) dX0_leastCosts_10 ?_
  exact hret _ _ _ _ _ _ hP hD hS rfl ⟨w16, w20, w21, hk⟩ dX0_leastCosts_11
set_option maxHeartbeats 4000000 in
set_option maxRecDepth 100000 in
theorem k_X0_inOrder {l : Launch} {D : va_G} {cI cZ : ClassId} {A : Nat → Prop} {g a : Nat → Nat} {G0 : va_W} {co : Nat → Nat} {pa : Nat → Int32} {wa : Nat → Int32} {ct : Nat → Int32} {be : Nat → Nat} {jn : Nat} {jp : Bool} {i : Nat} (hD : va_D A G0) (w16 : G0[16]? = some (a 16, .inr (0, [.ref (a 17), .ref (a 18), .ref (a 19), .ref (a 20), .ref (a 21), .int (nI (jn)), .int (gB (jp))]))) (w17 : G0[17]? = some (a 17, .inl (cI, 8, .inl (fun j => nI ((co) j))))) (w18 : G0[18]? = some (a 18, .inl (cI, 8, .inl (pa)))) (w19 : G0[19]? = some (a 19, .inl (cI, 16, .inl (wa)))) (w20 : G0[20]? = some (a 20, .inl (cI, 1024, .inl (ct)))) (w21 : G0[21]? = some (a 21, .inl (cI, 7, .inl (fun j => nI ((be) j))))) (hj : jn ≤ 7) (hco : ∀ j, co j < 4) (hi : i < 7) : gMi l D cI cZ A g yX0_inOrder wsX0_inOrder ({ frames := 4, cells := 0, slots := 0, locals := 97 }) [.ref (a 16), .int (nI (i))] G0 (nI (gPb jp jn co pa wa ct be i)) (fun G1 => G1[16]? = some (a 16, .inr (0, [.ref (a 17), .ref (a 18), .ref (a 19), .ref (a 20), .ref (a 21), .int (nI (jn)), .int (gB (true))])) ∧ G1[20]? = some (a 20, .inl (cI, 1024, .inl (gPc jp jn co pa wa ct))) ∧ G1[21]? = some (a 21, .inl (cI, 7, .inl (fun j => nI ((gPb jp jn co pa wa ct be) j)))) ∧ ∀ k, k ∉ [16, 20, 21] → G1[k]? = G0[k]?) := by
  refine gof_i (cc := cX0_inOrder) (maxL := 2) (by decide) rfl (Nat.le_of_ble_eq_true rfl) hD ?_
  intro p e s m args below meth c Q hx hb hml hts hown hK hN hZ hP hS hret ls hl
  have hown : s.vm.findClass RX0 = some m.cls := hown
  have hl : lv_has ls 2 [(0, .ref (a 16)), (1, .int (nI (i)))] := hl
  obtain ⟨locs, elocs⟩ : ∃ q : List Loc, q = [] := ⟨_, rfl⟩
  rw [← elocs] at hS ⊢
  obtain ⟨H, eH⟩ : ∃ q : Heap, q = s.heap := ⟨_, rfl⟩
  have hP : va_P D vwCl G0 H := eH ▸ hP
  have hS : va_S A s.heap H locs := by rw [eH]; exact hS
  rw [← eH]
  clear elocs eH
  have hiX0 : ∀ w ∈ u_ws RX0 TX0 7, w ∈ wsX0_inOrder := by decide +kernel
  have hk : ∀ k, k ∉ [16, 20, 21] → G0[k]? = G0[k]? := fun _ _ => rfl
  refine lv_aload_n (pc := 0) hx hb dX0_inOrder_0 rfl (lv_at hl 0 rfl) ?_
  refine mx_cVv (As := []) (rest := []) (pc := 1) ⟨hx, hb, hml, hown, hts⟩ (k_X0_plan (a := a) (co := co) (pa := pa) (wa := wa) (ct := ct) (be := be) (jn := jn) (jp := jp) hD w16 w17 w18 w19 w20 w21 hj hco) (cwV 0 hts gX0_inOrder_X0_plan rfl rfl rfl (by decide +kernel) ⟨Nat.le_of_ble_eq_true rfl, Nat.le_of_ble_eq_true rfl⟩) 16 rfl rfl w16 hK hN hZ hP hS rfl hl.1 rfl (Nat.le_of_ble_eq_true rfl) dX0_inOrder_1 ⟨Nat.zero_le _, Nat.zero_le _⟩ (fun G H locs hP hD hS hB => ?_)
  obtain ⟨w16, w20, w21, ho⟩ := hB
  have w16 : G[16]? = some (a 16, .inr (0, [.ref (a 17), .ref (a 18), .ref (a 19), .ref (a 20), .ref (a 21), .int (nI ((jn))), .int (gB (true))])) := w16
  have w17 := (ho 17 (by decide)).trans w17
  have w18 := (ho 18 (by decide)).trans w18
  have w19 := (ho 19 (by decide)).trans w19
  have w20 : G[20]? = some (a 20, .inl (cI, 1024, .inl (gPc (jp) (jn) (co) (pa) (wa) (ct)))) := w20
  have w21 : G[21]? = some (a 21, .inl (cI, 7, .inl (fun j => nI ((gPb (jp) (jn) (co) (pa) (wa) (ct) (be)) j)))) := w21
  have hk := gk_call hk ho (by decide)
  clear ho
  refine lv_aload_n (pc := 4) hx hb dX0_inOrder_4 rfl (lv_at hl 0 rfl) ?_
  refine va_get (ci := 0) (C := RX0) (T := TX0) (N := 7) (pc := 5) hx hb hts hiX0 hown hK hP 16 w16 rfl 4 (by decide) (hts (.fieldLink RX0 24 "InkPress$Jobs" "best" "[I") (by decide +kernel)) (fun _ h9 => h9) rfl dX0_inOrder_5 ?_
  refine lv_iload_n (pc := 8) hx hb dX0_inOrder_8 rfl (lv_at hl 1 rfl) ?_
  refine mx_iald (pc := 9) hx hb hK hP 21 w21 (i) (by omega) (by decide) dX0_inOrder_9 ?_
  exact hret _ _ _ _ _ _ hP hD hS rfl ⟨w16, w20, w21, hk⟩ dX0_inOrder_10
