/-! the constructor of the reference -/
def gVb (i : Nat) : Nat → Nat → (Nat → Int32) → Nat → Int32
  | 0, _, f => f
  | k + 1, j, f => gVb i k (j + 1) (upd f (4 * i + j) (if i = j then nI 0 else nI 10))
theorem gVb_s {k i j : Nat} {f : Nat → Int32} : gVb i (k + 1) j f = gVb i k (j + 1) (upd f (4 * i + j) (if i = j then nI 0 else nI 10)) := rfl
theorem gVb_e {k i j : Nat} {f : Nat → Int32} (h : i = j) : gVb i (k + 1) j f = gVb i k (j + 1) (upd f (4 * i + j) (nI 0)) := by rw [gVb_s, if_pos h]
theorem gVb_n {k i j : Nat} {f : Nat → Int32} (h : ¬ i = j) : gVb i (k + 1) j f = gVb i k (j + 1) (upd f (4 * i + j) (nI 10)) := by rw [gVb_s, if_neg h]
def gVa : Nat → Nat → (Nat → Int32) → Nat → Int32
  | 0, _, f => f
  | k + 1, i, f => gVa k (i + 1) (gVb i 4 0 f)
set_option maxHeartbeats 4000000 in
set_option maxRecDepth 100000 in
theorem k_X8_init {l : Launch} {D : va_G} {cI cZ : ClassId} {A : Nat → Prop} {g : Nat → Nat} {G0 : va_W} {x22 : Nat} (hD : va_D A G0) (w22 : G0[22]? = some (x22, .inr (8, [.int (nI (0)), .int (nI (0)), .null, .null, .null, .null, .null, .null, .null, .int (nI (0)), .int (nI (0)), .int (nI (0)), .int (nI (0)), .int (nI (0)), .int (nI (0)), .int (nI (0)), .int (gB (false)), .null, .null, .null, .int (nI (0)), .null, .null, .null, .null, .int (nI (0)), .long (0), .long (0), .long (0), .long (0), .long (0), .null, .null, .null, .int (nI (0)), .null, .null]))) (hn : ∀ k, 23 ≤ k → G0[k]? = none) : gNv l D cI cZ A g yX8_init wsX8_init ({ frames := 1, cells := 19, slots := 9217, locals := 21 }) [.ref x22] G0 (fun G1 => ∃ x23 : Nat, ∃ x24 : Nat, ∃ x25 : Nat, ∃ x26 : Nat, ∃ x27 : Nat, ∃ x28 : Nat, ∃ x29 : Nat, ∃ x30 : Nat, ∃ x31 : Nat, ∃ x32 : Nat, ∃ x33 : Nat, ∃ x34 : Nat, ∃ x35 : Nat, ∃ x36 : Nat, ∃ x37 : Nat, ∃ x38 : Nat, ∃ x39 : Nat, ∃ x40 : Nat, ∃ x41 : Nat, G1[22]? = some (x22, .inr (8, [.int (nI ((4))), .int (nI ((3))), .ref x23, .ref x24, .ref x25, .ref x26, .ref x27, .ref x28, .ref x29, .int (nI (0)), .int (nI (0)), .int (nI (0)), .int ((-6)), .int (nI (0)), .int (nI (0)), .int (nI (0)), .int (gB (false)), .ref x30, .ref x31, .ref x32, .int (nI ((0))), .ref x33, .ref x34, .ref x35, .ref x36, .int (nI ((0))), .long ((0)), .long ((0)), .long ((0)), .long ((0)), .long ((0)), .ref x37, .ref x38, .ref x39, .int (nI ((0))), .ref x40, .ref x41])) ∧ G1[23]? = some (x23, .inl (cI, 9, .inl (upd (upd (upd (upd (upd (upd (upd (upd (upd (fun _ => 0) (0) (nI (10))) (1) (nI (50))) (2) (nI (10))) (3) (nI (40))) (4) (nI (50))) (5) (nI (10))) (6) (nI (10))) (7) (nI (5))) (8) (nI (2))))) ∧ G1[24]? = some (x24, .inl (cI, 8, .inl (gFil (nI 0) 8 0 (fun _ => 0)))) ∧ G1[25]? = some (x25, .inl (cI, 8, .inl (gFil (nI 20) 8 0 (fun _ => 0)))) ∧ G1[26]? = some (x26, .inl (cI, 8, .inl (gFil (nI 100) 8 0 (fun _ => 0)))) ∧ G1[27]? = some (x27, .inl (cI, 40, .inl (gClr 40 0 (fun _ => 0)))) ∧ G1[28]? = some (x28, .inl (cI, 8000, .inl (fun _ => 0))) ∧ G1[29]? = some (x29, .inl (cZ, 1000, .inl (fun j => gB ((fun _ => false) j)))) ∧ G1[30]? = some (x30, .inl (cI, 8, .inl (fun _ => 0))) ∧ G1[31]? = some (x31, .inl (cI, 30, .inl (fun _ => 0))) ∧ G1[32]? = some (x32, .inl (cI, 30, .inl (fun _ => 0))) ∧ G1[33]? = some (x33, .inl (cI, 8, .inl (fun _ => 0))) ∧ G1[34]? = some (x34, .inl (cI, 8, .inl (fun _ => 0))) ∧ G1[35]? = some (x35, .inl (cI, 8, .inl (fun _ => 0))) ∧ G1[36]? = some (x36, .inl (cI, 8, .inl (fun _ => 0))) ∧ G1[37]? = some (x37, .inl (cI, 7, .inl (fun j => nI ((fun _ => 0) j)))) ∧ G1[38]? = some (x38, .inl (cI, 7, .inl (fun _ => 0))) ∧ G1[39]? = some (x39, .inl (cI, 16, .inl (gVa (4) (0) ((fun _ => 0))))) ∧ G1[40]? = some (x40, .inl (cI, 7, .inl (fun j => nI ((fun _ => 0) j)))) ∧ G1[41]? = some (x41, .inl (cI, 7, .inl (fun j => nI ((fun _ => 0) j)))) ∧ ∀ k, k ∉ [22, 23, 24, 25, 26, 27, 28, 29, 30, 31, 32, 33, 34, 35, 36, 37, 38, 39, 40, 41] → G1[k]? = G0[k]?) 19 9217 := by
  refine gofN (cc := cX8_init) (maxL := 3) (by decide) rfl rfl (Nat.le_of_ble_eq_true rfl) ?_
  intro p e s m args below meth c Q hx hb hml hts hown hin hK hN hZ hA hE hP hS hret ls hl
  have hown : s.vm.findClass RX8 = some m.cls := hown
  have hl : lv_has ls 3 [(0, .ref x22)] := hl
  obtain ⟨locs, elocs⟩ : ∃ q : List Loc, q = [] := ⟨_, rfl⟩
  rw [← elocs] at hS ⊢
  obtain ⟨H, eH⟩ : ∃ q : Heap, q = s.heap := ⟨_, rfl⟩
  have hP : va_P D vwCl G0 H := eH ▸ hP
  have hS : va_S A s.heap H locs := by rw [eH]; exact hS
  rw [← eH]
  clear elocs eH
  have hobj : Cond.code objectInit ⟨#[0xb1]⟩ 1 none ∈ wsX8_init := List.mem_of_getElem? (i := 3) rfl
  have hiX8 : ∀ w ∈ u_ws RX8 TX8 37, w ∈ wsX8_init := by decide +kernel
  have hk : ∀ k, k ∉ [22, 23, 24, 25, 26, 27, 28, 29, 30, 31, 32, 33, 34, 35, 36, 37, 38, 39, 40, 41] → G0[k]? = G0[k]? := fun _ _ => rfl
  refine lv_aload_n (pc := 0) hx hb dX8_init_0 rfl (lv_at hl 0 rfl) ?_
  refine W.objInit hx hb hown (hts (.methodLink RX8 1 objectInit) (by decide +kernel)) (hts (.instanceMethod objectInit) (by decide +kernel)) (hts _ hobj) rfl (by rw [hml]; exact hl.1) rfl dX8_init_1 (Nat.le_of_ble_eq_true rfl) (Nat.le_of_ble_eq_true rfl) ?_
  refine W.eq (g2 := F0 m 4 ls []) rfl ?_
  refine lv_aload_n (pc := 4) hx hb dX8_init_4 rfl (lv_at hl 0 rfl) ?_
  refine lv_iconst (v := nI (4)) (pc := 5) hx hb dX8_init_5 (by decide) ?_
  refine mx_put (ci := 8) (v := .int (nI (4))) (ty := .int) (C := RX8) (T := TX8) (N := 37) (pc := 6) hx hb hts hiX8 tyX8 tyX8_ok nmX8 hown hK hP hD hS 22 w22 rfl 0 (by decide) (hts (.fieldLink RX8 7 "InkPressModel" "zones" "I") (by decide +kernel)) (fun _ h9 => h9) rfl (by decide +kernel) rfl rfl (Nat.le_of_ble_eq_true rfl) dX8_init_6 (fun H locs G hP hD hS w22 ho => ?_)
  have w22 : G[22]? = some (x22, .inr (8, [.int (nI (4)), .int (nI (0)), .null, .null, .null, .null, .null, .null, .null, .int (nI (0)), .int (nI (0)), .int (nI (0)), .int (nI (0)), .int (nI (0)), .int (nI (0)), .int (nI (0)), .int (gB (false)), .null, .null, .null, .int (nI (0)), .null, .null, .null, .null, .int (nI (0)), .long (0), .long (0), .long (0), .long (0), .long (0), .null, .null, .null, .int (nI (0)), .null, .null])) := w22
  have hk := gk_step hk ho (by decide)
  have hn : ∀ k, 23 ≤ k → G[k]? = none := fun k q => (ho k (by omega)).trans (hn k (by omega))
  clear ho
  refine lv_aload_n (pc := 9) hx hb dX8_init_9 rfl (lv_at hl 0 rfl) ?_
  refine lv_iconst (v := nI (3)) (pc := 10) hx hb dX8_init_10 (by decide) ?_
  refine mx_put (ci := 8) (v := .int (nI (3))) (ty := .int) (C := RX8) (T := TX8) (N := 37) (pc := 11) hx hb hts hiX8 tyX8 tyX8_ok nmX8 hown hK hP hD hS 22 w22 rfl 1 (by decide) (hts (.fieldLink RX8 13 "InkPressModel" "rollers" "I") (by decide +kernel)) (fun _ h9 => h9) rfl (by decide +kernel) rfl rfl (Nat.le_of_ble_eq_true rfl) dX8_init_11 (fun H locs G hP hD hS w22 ho => ?_)
  have w22 : G[22]? = some (x22, .inr (8, [.int (nI (4)), .int (nI (3)), .null, .null, .null, .null, .null, .null, .null, .int (nI (0)), .int (nI (0)), .int (nI (0)), .int (nI (0)), .int (nI (0)), .int (nI (0)), .int (nI (0)), .int (gB (false)), .null, .null, .null, .int (nI (0)), .null, .null, .null, .null, .int (nI (0)), .long (0), .long (0), .long (0), .long (0), .long (0), .null, .null, .null, .int (nI (0)), .null, .null])) := w22
  have hk := gk_step hk ho (by decide)
  have hn : ∀ k, 23 ≤ k → G[k]? = none := fun k q => (ho k (by omega)).trans (hn k (by omega))
  clear ho
  refine lv_aload_n (pc := 14) hx hb dX8_init_14 rfl (lv_at hl 0 rfl) ?_
  refine lv_bipush (v := nI (9)) (pc := 15) hx hb dX8_init_15 (by decide) ?_
  refine mx_newa (atype := .int) (ty := .int) (f := (fun _ => 0)) (pc := 17) hx hb (hts (.arrayClass .int) (by decide +kernel)) rfl (by decide) 0 rfl hK hP hD hS hA 9 (fun cA => gHf_I cA 9) (by decide) (by decide) (Nat.le_of_ble_eq_true rfl) (Nat.le_of_ble_eq_true rfl) 23 (glen w22 (hn 23 (by omega))) dX8_init_17 (fun x23 H G hP hD hS w23 ho => ?_)
  refine W.widen (k := 1) (n := 9) (Nat.le_of_ble_eq_true rfl) (Nat.le_of_ble_eq_true rfl) ?_
  have w22 := (ho 22 (by decide)).trans w22
  have w23 : G[23]? = some (x23, .inl (cI, 9, .inl (fun _ => 0))) := w23
  have hk := gk_step hk ho (by decide)
  have hn : ∀ k, 24 ≤ k → G[k]? = none := fun k q => (ho k (by omega)).trans (hn k (by omega))
  clear ho
  refine mx_putF (ci := 8) (v := .ref x23) (ty := .array .int) (C := RX8) (T := TX8) (N := 37) (pc := 19) hx hb hts hiX8 tyX8 tyX8_ok nmX8 hown hK hP hD hS 22 w22 rfl 2 (by decide) (hts (.fieldLink RX8 16 "InkPressModel" "rules" "[I") (by decide +kernel)) (fun _ h9 => h9) rfl hin rfl (by decide +kernel) rfl rfl (Nat.le_of_ble_eq_true rfl) dX8_init_19 (fun H locs G hP hD hS w22 ho => ?_)
  have w23 := (ho 23 (by decide)).trans w23
  have w22 : G[22]? = some (x22, .inr (8, [.int (nI (4)), .int (nI (3)), .ref x23, .null, .null, .null, .null, .null, .null, .int (nI (0)), .int (nI (0)), .int (nI (0)), .int (nI (0)), .int (nI (0)), .int (nI (0)), .int (nI (0)), .int (gB (false)), .null, .null, .null, .int (nI (0)), .null, .null, .null, .null, .int (nI (0)), .long (0), .long (0), .long (0), .long (0), .long (0), .null, .null, .null, .int (nI (0)), .null, .null])) := w22
  have hk := gk_step hk ho (by decide)
  have hn : ∀ k, 24 ≤ k → G[k]? = none := fun k q => (ho k (by omega)).trans (hn k (by omega))
  clear ho
  refine lv_aload_n (pc := 22) hx hb dX8_init_22 rfl (lv_at hl 0 rfl) ?_
  refine lv_bipush (v := nI (8)) (pc := 23) hx hb dX8_init_23 (by decide) ?_
  refine mx_newa (atype := .int) (ty := .int) (f := (fun _ => 0)) (pc := 25) hx hb (hts (.arrayClass .int) (by decide +kernel)) rfl (by decide) 0 rfl hK hP hD hS hA 8 (fun cA => gHf_I cA 8) (by decide) (by decide) (Nat.le_of_ble_eq_true rfl) (Nat.le_of_ble_eq_true rfl) 24 (glen w23 (hn 24 (by omega))) dX8_init_25 (fun x24 H G hP hD hS w24 ho => ?_)
  refine W.widen (k := 2) (n := 17) (Nat.le_of_ble_eq_true rfl) (Nat.le_of_ble_eq_true rfl) ?_
  have w22 := (ho 22 (by decide)).trans w22
  have w23 := (ho 23 (by decide)).trans w23
  have w24 : G[24]? = some (x24, .inl (cI, 8, .inl (fun _ => 0))) := w24
  have hk := gk_step hk ho (by decide)
  have hn : ∀ k, 25 ≤ k → G[k]? = none := fun k q => (ho k (by omega)).trans (hn k (by omega))
  clear ho
  refine mx_putF (ci := 8) (v := .ref x24) (ty := .array .int) (C := RX8) (T := TX8) (N := 37) (pc := 27) hx hb hts hiX8 tyX8 tyX8_ok nmX8 hown hK hP hD hS 22 w22 rfl 3 (by decide) (hts (.fieldLink RX8 20 "InkPressModel" "key" "[I") (by decide +kernel)) (fun _ h9 => h9) rfl hin rfl (by decide +kernel) rfl rfl (Nat.le_of_ble_eq_true rfl) dX8_init_27 (fun H locs G hP hD hS w22 ho => ?_)
  have w23 := (ho 23 (by decide)).trans w23
  have w24 := (ho 24 (by decide)).trans w24
  have w22 : G[22]? = some (x22, .inr (8, [.int (nI (4)), .int (nI (3)), .ref x23, .ref x24, .null, .null, .null, .null, .null, .int (nI (0)), .int (nI (0)), .int (nI (0)), .int (nI (0)), .int (nI (0)), .int (nI (0)), .int (nI (0)), .int (gB (false)), .null, .null, .null, .int (nI (0)), .null, .null, .null, .null, .int (nI (0)), .long (0), .long (0), .long (0), .long (0), .long (0), .null, .null, .null, .int (nI (0)), .null, .null])) := w22
  have hk := gk_step hk ho (by decide)
  have hn : ∀ k, 25 ≤ k → G[k]? = none := fun k q => (ho k (by omega)).trans (hn k (by omega))
  clear ho
  refine lv_aload_n (pc := 30) hx hb dX8_init_30 rfl (lv_at hl 0 rfl) ?_
  refine lv_bipush (v := nI (8)) (pc := 31) hx hb dX8_init_31 (by decide) ?_
  refine mx_newa (atype := .int) (ty := .int) (f := (fun _ => 0)) (pc := 33) hx hb (hts (.arrayClass .int) (by decide +kernel)) rfl (by decide) 0 rfl hK hP hD hS hA 8 (fun cA => gHf_I cA 8) (by decide) (by decide) (Nat.le_of_ble_eq_true rfl) (Nat.le_of_ble_eq_true rfl) 25 (glen w24 (hn 25 (by omega))) dX8_init_33 (fun x25 H G hP hD hS w25 ho => ?_)
  refine W.widen (k := 3) (n := 25) (Nat.le_of_ble_eq_true rfl) (Nat.le_of_ble_eq_true rfl) ?_
  have w22 := (ho 22 (by decide)).trans w22
  have w23 := (ho 23 (by decide)).trans w23
  have w24 := (ho 24 (by decide)).trans w24
  have w25 : G[25]? = some (x25, .inl (cI, 8, .inl (fun _ => 0))) := w25
  have hk := gk_step hk ho (by decide)
  have hn : ∀ k, 26 ≤ k → G[k]? = none := fun k q => (ho k (by omega)).trans (hn k (by omega))
  clear ho
  refine mx_putF (ci := 8) (v := .ref x25) (ty := .array .int) (C := RX8) (T := TX8) (N := 37) (pc := 35) hx hb hts hiX8 tyX8 tyX8_ok nmX8 hown hK hP hD hS 22 w22 rfl 4 (by decide) (hts (.fieldLink RX8 23 "InkPressModel" "cover" "[I") (by decide +kernel)) (fun _ h9 => h9) rfl hin rfl (by decide +kernel) rfl rfl (Nat.le_of_ble_eq_true rfl) dX8_init_35 (fun H locs G hP hD hS w22 ho => ?_)
  have w23 := (ho 23 (by decide)).trans w23
  have w24 := (ho 24 (by decide)).trans w24
  have w25 := (ho 25 (by decide)).trans w25
  have w22 : G[22]? = some (x22, .inr (8, [.int (nI (4)), .int (nI (3)), .ref x23, .ref x24, .ref x25, .null, .null, .null, .null, .int (nI (0)), .int (nI (0)), .int (nI (0)), .int (nI (0)), .int (nI (0)), .int (nI (0)), .int (nI (0)), .int (gB (false)), .null, .null, .null, .int (nI (0)), .null, .null, .null, .null, .int (nI (0)), .long (0), .long (0), .long (0), .long (0), .long (0), .null, .null, .null, .int (nI (0)), .null, .null])) := w22
  have hk := gk_step hk ho (by decide)
  have hn : ∀ k, 26 ≤ k → G[k]? = none := fun k q => (ho k (by omega)).trans (hn k (by omega))
  clear ho
  refine lv_aload_n (pc := 38) hx hb dX8_init_38 rfl (lv_at hl 0 rfl) ?_
  refine lv_bipush (v := nI (8)) (pc := 39) hx hb dX8_init_39 (by decide) ?_
  refine mx_newa (atype := .int) (ty := .int) (f := (fun _ => 0)) (pc := 41) hx hb (hts (.arrayClass .int) (by decide +kernel)) rfl (by decide) 0 rfl hK hP hD hS hA 8 (fun cA => gHf_I cA 8) (by decide) (by decide) (Nat.le_of_ble_eq_true rfl) (Nat.le_of_ble_eq_true rfl) 26 (glen w25 (hn 26 (by omega))) dX8_init_41 (fun x26 H G hP hD hS w26 ho => ?_)
  refine W.widen (k := 4) (n := 33) (Nat.le_of_ble_eq_true rfl) (Nat.le_of_ble_eq_true rfl) ?_
  have w22 := (ho 22 (by decide)).trans w22
  have w23 := (ho 23 (by decide)).trans w23
  have w24 := (ho 24 (by decide)).trans w24
  have w25 := (ho 25 (by decide)).trans w25
  have w26 : G[26]? = some (x26, .inl (cI, 8, .inl (fun _ => 0))) := w26
  have hk := gk_step hk ho (by decide)
  have hn : ∀ k, 27 ≤ k → G[k]? = none := fun k q => (ho k (by omega)).trans (hn k (by omega))
  clear ho
  refine mx_putF (ci := 8) (v := .ref x26) (ty := .array .int) (C := RX8) (T := TX8) (N := 37) (pc := 43) hx hb hts hiX8 tyX8 tyX8_ok nmX8 hown hK hP hD hS 22 w22 rfl 5 (by decide) (hts (.fieldLink RX8 26 "InkPressModel" "target" "[I") (by decide +kernel)) (fun _ h9 => h9) rfl hin rfl (by decide +kernel) rfl rfl (Nat.le_of_ble_eq_true rfl) dX8_init_43 (fun H locs G hP hD hS w22 ho => ?_)
  have w23 := (ho 23 (by decide)).trans w23
  have w24 := (ho 24 (by decide)).trans w24
  have w25 := (ho 25 (by decide)).trans w25
  have w26 := (ho 26 (by decide)).trans w26
  have w22 : G[22]? = some (x22, .inr (8, [.int (nI (4)), .int (nI (3)), .ref x23, .ref x24, .ref x25, .ref x26, .null, .null, .null, .int (nI (0)), .int (nI (0)), .int (nI (0)), .int (nI (0)), .int (nI (0)), .int (nI (0)), .int (nI (0)), .int (gB (false)), .null, .null, .null, .int (nI (0)), .null, .null, .null, .null, .int (nI (0)), .long (0), .long (0), .long (0), .long (0), .long (0), .null, .null, .null, .int (nI (0)), .null, .null])) := w22
  have hk := gk_step hk ho (by decide)
  have hn : ∀ k, 27 ≤ k → G[k]? = none := fun k q => (ho k (by omega)).trans (hn k (by omega))
  clear ho
  refine lv_aload_n (pc := 46) hx hb dX8_init_46 rfl (lv_at hl 0 rfl) ?_
  refine lv_bipush (v := nI (40)) (pc := 47) hx hb dX8_init_47 (by decide) ?_
  refine mx_newa (atype := .int) (ty := .int) (f := (fun _ => 0)) (pc := 49) hx hb (hts (.arrayClass .int) (by decide +kernel)) rfl (by decide) 0 rfl hK hP hD hS hA 40 (fun cA => gHf_I cA 40) (by decide) (by decide) (Nat.le_of_ble_eq_true rfl) (Nat.le_of_ble_eq_true rfl) 27 (glen w26 (hn 27 (by omega))) dX8_init_49 (fun x27 H G hP hD hS w27 ho => ?_)
  refine W.widen (k := 5) (n := 73) (Nat.le_of_ble_eq_true rfl) (Nat.le_of_ble_eq_true rfl) ?_
  have w22 := (ho 22 (by decide)).trans w22
  have w23 := (ho 23 (by decide)).trans w23
  have w24 := (ho 24 (by decide)).trans w24
  have w25 := (ho 25 (by decide)).trans w25
  have w26 := (ho 26 (by decide)).trans w26
  have w27 : G[27]? = some (x27, .inl (cI, 40, .inl (fun _ => 0))) := w27
  have hk := gk_step hk ho (by decide)
  have hn : ∀ k, 28 ≤ k → G[k]? = none := fun k q => (ho k (by omega)).trans (hn k (by omega))
  clear ho
  refine mx_putF (ci := 8) (v := .ref x27) (ty := .array .int) (C := RX8) (T := TX8) (N := 37) (pc := 51) hx hb hts hiX8 tyX8 tyX8_ok nmX8 hown hK hP hD hS 22 w22 rfl 6 (by decide) (hts (.fieldLink RX8 29 "InkPressModel" "ink" "[I") (by decide +kernel)) (fun _ h9 => h9) rfl hin rfl (by decide +kernel) rfl rfl (Nat.le_of_ble_eq_true rfl) dX8_init_51 (fun H locs G hP hD hS w22 ho => ?_)
  have w23 := (ho 23 (by decide)).trans w23
  have w24 := (ho 24 (by decide)).trans w24
  have w25 := (ho 25 (by decide)).trans w25
  have w26 := (ho 26 (by decide)).trans w26
  have w27 := (ho 27 (by decide)).trans w27
  have w22 : G[22]? = some (x22, .inr (8, [.int (nI (4)), .int (nI (3)), .ref x23, .ref x24, .ref x25, .ref x26, .ref x27, .null, .null, .int (nI (0)), .int (nI (0)), .int (nI (0)), .int (nI (0)), .int (nI (0)), .int (nI (0)), .int (nI (0)), .int (gB (false)), .null, .null, .null, .int (nI (0)), .null, .null, .null, .null, .int (nI (0)), .long (0), .long (0), .long (0), .long (0), .long (0), .null, .null, .null, .int (nI (0)), .null, .null])) := w22
  have hk := gk_step hk ho (by decide)
  have hn : ∀ k, 28 ≤ k → G[k]? = none := fun k q => (ho k (by omega)).trans (hn k (by omega))
  clear ho
  refine lv_aload_n (pc := 54) hx hb dX8_init_54 rfl (lv_at hl 0 rfl) ?_
  refine lv_sipush (v := nI (8000)) (pc := 55) hx hb dX8_init_55 (by decide) ?_
  refine mx_newa (atype := .int) (ty := .int) (f := (fun _ => 0)) (pc := 58) hx hb (hts (.arrayClass .int) (by decide +kernel)) rfl (by decide) 0 rfl hK hP hD hS hA 8000 (fun cA => gHf_I cA 8000) (by decide) (by decide) (Nat.le_of_ble_eq_true rfl) (Nat.le_of_ble_eq_true rfl) 28 (glen w27 (hn 28 (by omega))) dX8_init_58 (fun x28 H G hP hD hS w28 ho => ?_)
  refine W.widen (k := 6) (n := 8073) (Nat.le_of_ble_eq_true rfl) (Nat.le_of_ble_eq_true rfl) ?_
  have w22 := (ho 22 (by decide)).trans w22
  have w23 := (ho 23 (by decide)).trans w23
  have w24 := (ho 24 (by decide)).trans w24
  have w25 := (ho 25 (by decide)).trans w25
  have w26 := (ho 26 (by decide)).trans w26
  have w27 := (ho 27 (by decide)).trans w27
  have w28 : G[28]? = some (x28, .inl (cI, 8000, .inl (fun _ => 0))) := w28
  have hk := gk_step hk ho (by decide)
  have hn : ∀ k, 29 ≤ k → G[k]? = none := fun k q => (ho k (by omega)).trans (hn k (by omega))
  clear ho
  refine mx_putF (ci := 8) (v := .ref x28) (ty := .array .int) (C := RX8) (T := TX8) (N := 37) (pc := 60) hx hb hts hiX8 tyX8 tyX8_ok nmX8 hown hK hP hD hS 22 w22 rfl 7 (by decide) (hts (.fieldLink RX8 32 "InkPressModel" "density" "[I") (by decide +kernel)) (fun _ h9 => h9) rfl hin rfl (by decide +kernel) rfl rfl (Nat.le_of_ble_eq_true rfl) dX8_init_60 (fun H locs G hP hD hS w22 ho => ?_)
  have w23 := (ho 23 (by decide)).trans w23
  have w24 := (ho 24 (by decide)).trans w24
  have w25 := (ho 25 (by decide)).trans w25
  have w26 := (ho 26 (by decide)).trans w26
  have w27 := (ho 27 (by decide)).trans w27
  have w28 := (ho 28 (by decide)).trans w28
  have w22 : G[22]? = some (x22, .inr (8, [.int (nI (4)), .int (nI (3)), .ref x23, .ref x24, .ref x25, .ref x26, .ref x27, .ref x28, .null, .int (nI (0)), .int (nI (0)), .int (nI (0)), .int (nI (0)), .int (nI (0)), .int (nI (0)), .int (nI (0)), .int (gB (false)), .null, .null, .null, .int (nI (0)), .null, .null, .null, .null, .int (nI (0)), .long (0), .long (0), .long (0), .long (0), .long (0), .null, .null, .null, .int (nI (0)), .null, .null])) := w22
  have hk := gk_step hk ho (by decide)
  have hn : ∀ k, 29 ≤ k → G[k]? = none := fun k q => (ho k (by omega)).trans (hn k (by omega))
  clear ho
  refine lv_aload_n (pc := 63) hx hb dX8_init_63 rfl (lv_at hl 0 rfl) ?_
  refine lv_sipush (v := nI (1000)) (pc := 64) hx hb dX8_init_64 (by decide) ?_
  refine mx_newa (atype := .boolean) (ty := .boolean) (f := (fun j => gB ((fun _ => false) j))) (pc := 67) hx hb (hts (.arrayClass .boolean) (by decide +kernel)) rfl (by decide) 1 rfl hK hP hD hS hA 1000 (fun cA => gHf_Z cA 1000) (by decide) (by decide) (Nat.le_of_ble_eq_true rfl) (Nat.le_of_ble_eq_true rfl) 29 (glen w28 (hn 29 (by omega))) dX8_init_67 (fun x29 H G hP hD hS w29 ho => ?_)
  refine W.widen (k := 7) (n := 9073) (Nat.le_of_ble_eq_true rfl) (Nat.le_of_ble_eq_true rfl) ?_
  have w22 := (ho 22 (by decide)).trans w22
  have w23 := (ho 23 (by decide)).trans w23
  have w24 := (ho 24 (by decide)).trans w24
  have w25 := (ho 25 (by decide)).trans w25
  have w26 := (ho 26 (by decide)).trans w26
  have w27 := (ho 27 (by decide)).trans w27
  have w28 := (ho 28 (by decide)).trans w28
  have w29 : G[29]? = some (x29, .inl (cZ, 1000, .inl (fun j => gB ((fun _ => false) j)))) := w29
  have hk := gk_step hk ho (by decide)
  have hn : ∀ k, 30 ≤ k → G[k]? = none := fun k q => (ho k (by omega)).trans (hn k (by omega))
  clear ho
  refine mx_putF (ci := 8) (v := .ref x29) (ty := .array .boolean) (C := RX8) (T := TX8) (N := 37) (pc := 69) hx hb hts hiX8 tyX8 tyX8_ok nmX8 hown hK hP hD hS 22 w22 rfl 8 (by decide) (hts (.fieldLink RX8 35 "InkPressModel" "isGood" "[Z") (by decide +kernel)) (fun _ h9 => h9) rfl hin rfl (by decide +kernel) rfl rfl (Nat.le_of_ble_eq_true rfl) dX8_init_69 (fun H locs G hP hD hS w22 ho => ?_)
  have w23 := (ho 23 (by decide)).trans w23
  have w24 := (ho 24 (by decide)).trans w24
  have w25 := (ho 25 (by decide)).trans w25
  have w26 := (ho 26 (by decide)).trans w26
  have w27 := (ho 27 (by decide)).trans w27
  have w28 := (ho 28 (by decide)).trans w28
  have w29 := (ho 29 (by decide)).trans w29
  have w22 : G[22]? = some (x22, .inr (8, [.int (nI (4)), .int (nI (3)), .ref x23, .ref x24, .ref x25, .ref x26, .ref x27, .ref x28, .ref x29, .int (nI (0)), .int (nI (0)), .int (nI (0)), .int (nI (0)), .int (nI (0)), .int (nI (0)), .int (nI (0)), .int (gB (false)), .null, .null, .null, .int (nI (0)), .null, .null, .null, .null, .int (nI (0)), .long (0), .long (0), .long (0), .long (0), .long (0), .null, .null, .null, .int (nI (0)), .null, .null])) := w22
  have hk := gk_step hk ho (by decide)
  have hn : ∀ k, 30 ≤ k → G[k]? = none := fun k q => (ho k (by omega)).trans (hn k (by omega))
  clear ho
  refine lv_aload_n (pc := 72) hx hb dX8_init_72 rfl (lv_at hl 0 rfl) ?_
  refine lv_bipush (v := (-6)) (pc := 73) hx hb dX8_init_73 (by decide) ?_
  refine mx_put (ci := 8) (v := .int ((-6))) (ty := .int) (C := RX8) (T := TX8) (N := 37) (pc := 75) hx hb hts hiX8 tyX8 tyX8_ok nmX8 hown hK hP hD hS 22 w22 rfl 12 (by decide) (hts (.fieldLink RX8 39 "InkPressModel" "start" "I") (by decide +kernel)) (fun _ h9 => h9) rfl (by decide +kernel) rfl rfl (Nat.le_of_ble_eq_true rfl) dX8_init_75 (fun H locs G hP hD hS w22 ho => ?_)
  have w23 := (ho 23 (by decide)).trans w23
  have w24 := (ho 24 (by decide)).trans w24
  have w25 := (ho 25 (by decide)).trans w25
  have w26 := (ho 26 (by decide)).trans w26
  have w27 := (ho 27 (by decide)).trans w27
  have w28 := (ho 28 (by decide)).trans w28
  have w29 := (ho 29 (by decide)).trans w29
  have w22 : G[22]? = some (x22, .inr (8, [.int (nI (4)), .int (nI (3)), .ref x23, .ref x24, .ref x25, .ref x26, .ref x27, .ref x28, .ref x29, .int (nI (0)), .int (nI (0)), .int (nI (0)), .int ((-6)), .int (nI (0)), .int (nI (0)), .int (nI (0)), .int (gB (false)), .null, .null, .null, .int (nI (0)), .null, .null, .null, .null, .int (nI (0)), .long (0), .long (0), .long (0), .long (0), .long (0), .null, .null, .null, .int (nI (0)), .null, .null])) := w22
  have hk := gk_step hk ho (by decide)
  have hn : ∀ k, 30 ≤ k → G[k]? = none := fun k q => (ho k (by omega)).trans (hn k (by omega))
  clear ho
  refine lv_aload_n (pc := 78) hx hb dX8_init_78 rfl (lv_at hl 0 rfl) ?_
  refine lv_bipush (v := nI (8)) (pc := 79) hx hb dX8_init_79 (by decide) ?_
  refine mx_newa (atype := .int) (ty := .int) (f := (fun _ => 0)) (pc := 81) hx hb (hts (.arrayClass .int) (by decide +kernel)) rfl (by decide) 0 rfl hK hP hD hS hA 8 (fun cA => gHf_I cA 8) (by decide) (by decide) (Nat.le_of_ble_eq_true rfl) (Nat.le_of_ble_eq_true rfl) 30 (glen w29 (hn 30 (by omega))) dX8_init_81 (fun x30 H G hP hD hS w30 ho => ?_)
  refine W.widen (k := 8) (n := 9081) (Nat.le_of_ble_eq_true rfl) (Nat.le_of_ble_eq_true rfl) ?_
  have w22 := (ho 22 (by decide)).trans w22
  have w23 := (ho 23 (by decide)).trans w23
  have w24 := (ho 24 (by decide)).trans w24
  have w25 := (ho 25 (by decide)).trans w25
  have w26 := (ho 26 (by decide)).trans w26
  have w27 := (ho 27 (by decide)).trans w27
  have w28 := (ho 28 (by decide)).trans w28
  have w29 := (ho 29 (by decide)).trans w29
  have w30 : G[30]? = some (x30, .inl (cI, 8, .inl (fun _ => 0))) := w30
  have hk := gk_step hk ho (by decide)
  have hn : ∀ k, 31 ≤ k → G[k]? = none := fun k q => (ho k (by omega)).trans (hn k (by omega))
  clear ho
  refine mx_putF (ci := 8) (v := .ref x30) (ty := .array .int) (C := RX8) (T := TX8) (N := 37) (pc := 83) hx hb hts hiX8 tyX8 tyX8_ok nmX8 hown hK hP hD hS 22 w22 rfl 17 (by decide) (hts (.fieldLink RX8 42 "InkPressModel" "aside" "[I") (by decide +kernel)) (fun _ h9 => h9) rfl hin rfl (by decide +kernel) rfl rfl (Nat.le_of_ble_eq_true rfl) dX8_init_83 (fun H locs G hP hD hS w22 ho => ?_)
  have w23 := (ho 23 (by decide)).trans w23
  have w24 := (ho 24 (by decide)).trans w24
  have w25 := (ho 25 (by decide)).trans w25
  have w26 := (ho 26 (by decide)).trans w26
  have w27 := (ho 27 (by decide)).trans w27
  have w28 := (ho 28 (by decide)).trans w28
  have w29 := (ho 29 (by decide)).trans w29
  have w30 := (ho 30 (by decide)).trans w30
  have w22 : G[22]? = some (x22, .inr (8, [.int (nI (4)), .int (nI (3)), .ref x23, .ref x24, .ref x25, .ref x26, .ref x27, .ref x28, .ref x29, .int (nI (0)), .int (nI (0)), .int (nI (0)), .int ((-6)), .int (nI (0)), .int (nI (0)), .int (nI (0)), .int (gB (false)), .ref x30, .null, .null, .int (nI (0)), .null, .null, .null, .null, .int (nI (0)), .long (0), .long (0), .long (0), .long (0), .long (0), .null, .null, .null, .int (nI (0)), .null, .null])) := w22
  have hk := gk_step hk ho (by decide)
  have hn : ∀ k, 31 ≤ k → G[k]? = none := fun k q => (ho k (by omega)).trans (hn k (by omega))
  clear ho
  refine lv_aload_n (pc := 86) hx hb dX8_init_86 rfl (lv_at hl 0 rfl) ?_
  refine lv_bipush (v := nI (30)) (pc := 87) hx hb dX8_init_87 (by decide) ?_
  refine mx_newa (atype := .int) (ty := .int) (f := (fun _ => 0)) (pc := 89) hx hb (hts (.arrayClass .int) (by decide +kernel)) rfl (by decide) 0 rfl hK hP hD hS hA 30 (fun cA => gHf_I cA 30) (by decide) (by decide) (Nat.le_of_ble_eq_true rfl) (Nat.le_of_ble_eq_true rfl) 31 (glen w30 (hn 31 (by omega))) dX8_init_89 (fun x31 H G hP hD hS w31 ho => ?_)
  refine W.widen (k := 9) (n := 9111) (Nat.le_of_ble_eq_true rfl) (Nat.le_of_ble_eq_true rfl) ?_
  have w22 := (ho 22 (by decide)).trans w22
  have w23 := (ho 23 (by decide)).trans w23
  have w24 := (ho 24 (by decide)).trans w24
  have w25 := (ho 25 (by decide)).trans w25
  have w26 := (ho 26 (by decide)).trans w26
  have w27 := (ho 27 (by decide)).trans w27
  have w28 := (ho 28 (by decide)).trans w28
  have w29 := (ho 29 (by decide)).trans w29
  have w30 := (ho 30 (by decide)).trans w30
  have w31 : G[31]? = some (x31, .inl (cI, 30, .inl (fun _ => 0))) := w31
  have hk := gk_step hk ho (by decide)
  have hn : ∀ k, 32 ≤ k → G[k]? = none := fun k q => (ho k (by omega)).trans (hn k (by omega))
  clear ho
  refine mx_putF (ci := 8) (v := .ref x31) (ty := .array .int) (C := RX8) (T := TX8) (N := 37) (pc := 91) hx hb hts hiX8 tyX8 tyX8_ok nmX8 hown hK hP hD hS 22 w22 rfl 18 (by decide) (hts (.fieldLink RX8 45 "InkPressModel" "pastCover" "[I") (by decide +kernel)) (fun _ h9 => h9) rfl hin rfl (by decide +kernel) rfl rfl (Nat.le_of_ble_eq_true rfl) dX8_init_91 (fun H locs G hP hD hS w22 ho => ?_)
  have w23 := (ho 23 (by decide)).trans w23
  have w24 := (ho 24 (by decide)).trans w24
  have w25 := (ho 25 (by decide)).trans w25
  have w26 := (ho 26 (by decide)).trans w26
  have w27 := (ho 27 (by decide)).trans w27
  have w28 := (ho 28 (by decide)).trans w28
  have w29 := (ho 29 (by decide)).trans w29
  have w30 := (ho 30 (by decide)).trans w30
  have w31 := (ho 31 (by decide)).trans w31
  have w22 : G[22]? = some (x22, .inr (8, [.int (nI (4)), .int (nI (3)), .ref x23, .ref x24, .ref x25, .ref x26, .ref x27, .ref x28, .ref x29, .int (nI (0)), .int (nI (0)), .int (nI (0)), .int ((-6)), .int (nI (0)), .int (nI (0)), .int (nI (0)), .int (gB (false)), .ref x30, .ref x31, .null, .int (nI (0)), .null, .null, .null, .null, .int (nI (0)), .long (0), .long (0), .long (0), .long (0), .long (0), .null, .null, .null, .int (nI (0)), .null, .null])) := w22
  have hk := gk_step hk ho (by decide)
  have hn : ∀ k, 32 ≤ k → G[k]? = none := fun k q => (ho k (by omega)).trans (hn k (by omega))
  clear ho
  refine lv_aload_n (pc := 94) hx hb dX8_init_94 rfl (lv_at hl 0 rfl) ?_
  refine lv_bipush (v := nI (30)) (pc := 95) hx hb dX8_init_95 (by decide) ?_
  refine mx_newa (atype := .int) (ty := .int) (f := (fun _ => 0)) (pc := 97) hx hb (hts (.arrayClass .int) (by decide +kernel)) rfl (by decide) 0 rfl hK hP hD hS hA 30 (fun cA => gHf_I cA 30) (by decide) (by decide) (Nat.le_of_ble_eq_true rfl) (Nat.le_of_ble_eq_true rfl) 32 (glen w31 (hn 32 (by omega))) dX8_init_97 (fun x32 H G hP hD hS w32 ho => ?_)
  refine W.widen (k := 10) (n := 9141) (Nat.le_of_ble_eq_true rfl) (Nat.le_of_ble_eq_true rfl) ?_
  have w22 := (ho 22 (by decide)).trans w22
  have w23 := (ho 23 (by decide)).trans w23
  have w24 := (ho 24 (by decide)).trans w24
  have w25 := (ho 25 (by decide)).trans w25
  have w26 := (ho 26 (by decide)).trans w26
  have w27 := (ho 27 (by decide)).trans w27
  have w28 := (ho 28 (by decide)).trans w28
  have w29 := (ho 29 (by decide)).trans w29
  have w30 := (ho 30 (by decide)).trans w30
  have w31 := (ho 31 (by decide)).trans w31
  have w32 : G[32]? = some (x32, .inl (cI, 30, .inl (fun _ => 0))) := w32
  have hk := gk_step hk ho (by decide)
  have hn : ∀ k, 33 ≤ k → G[k]? = none := fun k q => (ho k (by omega)).trans (hn k (by omega))
  clear ho
  refine mx_putF (ci := 8) (v := .ref x32) (ty := .array .int) (C := RX8) (T := TX8) (N := 37) (pc := 99) hx hb hts hiX8 tyX8 tyX8_ok nmX8 hown hK hP hD hS 22 w22 rfl 19 (by decide) (hts (.fieldLink RX8 48 "InkPressModel" "pastKey" "[I") (by decide +kernel)) (fun _ h9 => h9) rfl hin rfl (by decide +kernel) rfl rfl (Nat.le_of_ble_eq_true rfl) dX8_init_99 (fun H locs G hP hD hS w22 ho => ?_)
  have w23 := (ho 23 (by decide)).trans w23
  have w24 := (ho 24 (by decide)).trans w24
  have w25 := (ho 25 (by decide)).trans w25
  have w26 := (ho 26 (by decide)).trans w26
  have w27 := (ho 27 (by decide)).trans w27
  have w28 := (ho 28 (by decide)).trans w28
  have w29 := (ho 29 (by decide)).trans w29
  have w30 := (ho 30 (by decide)).trans w30
  have w31 := (ho 31 (by decide)).trans w31
  have w32 := (ho 32 (by decide)).trans w32
  have w22 : G[22]? = some (x22, .inr (8, [.int (nI (4)), .int (nI (3)), .ref x23, .ref x24, .ref x25, .ref x26, .ref x27, .ref x28, .ref x29, .int (nI (0)), .int (nI (0)), .int (nI (0)), .int ((-6)), .int (nI (0)), .int (nI (0)), .int (nI (0)), .int (gB (false)), .ref x30, .ref x31, .ref x32, .int (nI (0)), .null, .null, .null, .null, .int (nI (0)), .long (0), .long (0), .long (0), .long (0), .long (0), .null, .null, .null, .int (nI (0)), .null, .null])) := w22
  have hk := gk_step hk ho (by decide)
  have hn : ∀ k, 33 ≤ k → G[k]? = none := fun k q => (ho k (by omega)).trans (hn k (by omega))
  clear ho
  refine lv_aload_n (pc := 102) hx hb dX8_init_102 rfl (lv_at hl 0 rfl) ?_
  refine lv_bipush (v := nI (8)) (pc := 103) hx hb dX8_init_103 (by decide) ?_
  refine mx_newa (atype := .int) (ty := .int) (f := (fun _ => 0)) (pc := 105) hx hb (hts (.arrayClass .int) (by decide +kernel)) rfl (by decide) 0 rfl hK hP hD hS hA 8 (fun cA => gHf_I cA 8) (by decide) (by decide) (Nat.le_of_ble_eq_true rfl) (Nat.le_of_ble_eq_true rfl) 33 (glen w32 (hn 33 (by omega))) dX8_init_105 (fun x33 H G hP hD hS w33 ho => ?_)
  refine W.widen (k := 11) (n := 9149) (Nat.le_of_ble_eq_true rfl) (Nat.le_of_ble_eq_true rfl) ?_
  have w22 := (ho 22 (by decide)).trans w22
  have w23 := (ho 23 (by decide)).trans w23
  have w24 := (ho 24 (by decide)).trans w24
  have w25 := (ho 25 (by decide)).trans w25
  have w26 := (ho 26 (by decide)).trans w26
  have w27 := (ho 27 (by decide)).trans w27
  have w28 := (ho 28 (by decide)).trans w28
  have w29 := (ho 29 (by decide)).trans w29
  have w30 := (ho 30 (by decide)).trans w30
  have w31 := (ho 31 (by decide)).trans w31
  have w32 := (ho 32 (by decide)).trans w32
  have w33 : G[33]? = some (x33, .inl (cI, 8, .inl (fun _ => 0))) := w33
  have hk := gk_step hk ho (by decide)
  have hn : ∀ k, 34 ≤ k → G[k]? = none := fun k q => (ho k (by omega)).trans (hn k (by omega))
  clear ho
  refine mx_putF (ci := 8) (v := .ref x33) (ty := .array .int) (C := RX8) (T := TX8) (N := 37) (pc := 107) hx hb hts hiX8 tyX8 tyX8_ok nmX8 hown hK hP hD hS 22 w22 rfl 21 (by decide) (hts (.fieldLink RX8 51 "InkPressModel" "markX" "[I") (by decide +kernel)) (fun _ h9 => h9) rfl hin rfl (by decide +kernel) rfl rfl (Nat.le_of_ble_eq_true rfl) dX8_init_107 (fun H locs G hP hD hS w22 ho => ?_)
  have w23 := (ho 23 (by decide)).trans w23
  have w24 := (ho 24 (by decide)).trans w24
  have w25 := (ho 25 (by decide)).trans w25
  have w26 := (ho 26 (by decide)).trans w26
  have w27 := (ho 27 (by decide)).trans w27
  have w28 := (ho 28 (by decide)).trans w28
  have w29 := (ho 29 (by decide)).trans w29
  have w30 := (ho 30 (by decide)).trans w30
  have w31 := (ho 31 (by decide)).trans w31
  have w32 := (ho 32 (by decide)).trans w32
  have w33 := (ho 33 (by decide)).trans w33
  have w22 : G[22]? = some (x22, .inr (8, [.int (nI (4)), .int (nI (3)), .ref x23, .ref x24, .ref x25, .ref x26, .ref x27, .ref x28, .ref x29, .int (nI (0)), .int (nI (0)), .int (nI (0)), .int ((-6)), .int (nI (0)), .int (nI (0)), .int (nI (0)), .int (gB (false)), .ref x30, .ref x31, .ref x32, .int (nI (0)), .ref x33, .null, .null, .null, .int (nI (0)), .long (0), .long (0), .long (0), .long (0), .long (0), .null, .null, .null, .int (nI (0)), .null, .null])) := w22
  have hk := gk_step hk ho (by decide)
  have hn : ∀ k, 34 ≤ k → G[k]? = none := fun k q => (ho k (by omega)).trans (hn k (by omega))
  clear ho
  refine lv_aload_n (pc := 110) hx hb dX8_init_110 rfl (lv_at hl 0 rfl) ?_
  refine lv_bipush (v := nI (8)) (pc := 111) hx hb dX8_init_111 (by decide) ?_
  refine mx_newa (atype := .int) (ty := .int) (f := (fun _ => 0)) (pc := 113) hx hb (hts (.arrayClass .int) (by decide +kernel)) rfl (by decide) 0 rfl hK hP hD hS hA 8 (fun cA => gHf_I cA 8) (by decide) (by decide) (Nat.le_of_ble_eq_true rfl) (Nat.le_of_ble_eq_true rfl) 34 (glen w33 (hn 34 (by omega))) dX8_init_113 (fun x34 H G hP hD hS w34 ho => ?_)
  refine W.widen (k := 12) (n := 9157) (Nat.le_of_ble_eq_true rfl) (Nat.le_of_ble_eq_true rfl) ?_
  have w22 := (ho 22 (by decide)).trans w22
  have w23 := (ho 23 (by decide)).trans w23
  have w24 := (ho 24 (by decide)).trans w24
  have w25 := (ho 25 (by decide)).trans w25
  have w26 := (ho 26 (by decide)).trans w26
  have w27 := (ho 27 (by decide)).trans w27
  have w28 := (ho 28 (by decide)).trans w28
  have w29 := (ho 29 (by decide)).trans w29
  have w30 := (ho 30 (by decide)).trans w30
  have w31 := (ho 31 (by decide)).trans w31
  have w32 := (ho 32 (by decide)).trans w32
  have w33 := (ho 33 (by decide)).trans w33
  have w34 : G[34]? = some (x34, .inl (cI, 8, .inl (fun _ => 0))) := w34
  have hk := gk_step hk ho (by decide)
  have hn : ∀ k, 35 ≤ k → G[k]? = none := fun k q => (ho k (by omega)).trans (hn k (by omega))
  clear ho
  refine mx_putF (ci := 8) (v := .ref x34) (ty := .array .int) (C := RX8) (T := TX8) (N := 37) (pc := 115) hx hb hts hiX8 tyX8 tyX8_ok nmX8 hown hK hP hD hS 22 w22 rfl 22 (by decide) (hts (.fieldLink RX8 54 "InkPressModel" "markY" "[I") (by decide +kernel)) (fun _ h9 => h9) rfl hin rfl (by decide +kernel) rfl rfl (Nat.le_of_ble_eq_true rfl) dX8_init_115 (fun H locs G hP hD hS w22 ho => ?_)
  have w23 := (ho 23 (by decide)).trans w23
  have w24 := (ho 24 (by decide)).trans w24
  have w25 := (ho 25 (by decide)).trans w25
  have w26 := (ho 26 (by decide)).trans w26
  have w27 := (ho 27 (by decide)).trans w27
  have w28 := (ho 28 (by decide)).trans w28
  have w29 := (ho 29 (by decide)).trans w29
  have w30 := (ho 30 (by decide)).trans w30
  have w31 := (ho 31 (by decide)).trans w31
  have w32 := (ho 32 (by decide)).trans w32
  have w33 := (ho 33 (by decide)).trans w33
  have w34 := (ho 34 (by decide)).trans w34
  have w22 : G[22]? = some (x22, .inr (8, [.int (nI (4)), .int (nI (3)), .ref x23, .ref x24, .ref x25, .ref x26, .ref x27, .ref x28, .ref x29, .int (nI (0)), .int (nI (0)), .int (nI (0)), .int ((-6)), .int (nI (0)), .int (nI (0)), .int (nI (0)), .int (gB (false)), .ref x30, .ref x31, .ref x32, .int (nI (0)), .ref x33, .ref x34, .null, .null, .int (nI (0)), .long (0), .long (0), .long (0), .long (0), .long (0), .null, .null, .null, .int (nI (0)), .null, .null])) := w22
  have hk := gk_step hk ho (by decide)
  have hn : ∀ k, 35 ≤ k → G[k]? = none := fun k q => (ho k (by omega)).trans (hn k (by omega))
  clear ho
  refine lv_aload_n (pc := 118) hx hb dX8_init_118 rfl (lv_at hl 0 rfl) ?_
  refine lv_bipush (v := nI (8)) (pc := 119) hx hb dX8_init_119 (by decide) ?_
  refine mx_newa (atype := .int) (ty := .int) (f := (fun _ => 0)) (pc := 121) hx hb (hts (.arrayClass .int) (by decide +kernel)) rfl (by decide) 0 rfl hK hP hD hS hA 8 (fun cA => gHf_I cA 8) (by decide) (by decide) (Nat.le_of_ble_eq_true rfl) (Nat.le_of_ble_eq_true rfl) 35 (glen w34 (hn 35 (by omega))) dX8_init_121 (fun x35 H G hP hD hS w35 ho => ?_)
  refine W.widen (k := 13) (n := 9165) (Nat.le_of_ble_eq_true rfl) (Nat.le_of_ble_eq_true rfl) ?_
  have w22 := (ho 22 (by decide)).trans w22
  have w23 := (ho 23 (by decide)).trans w23
  have w24 := (ho 24 (by decide)).trans w24
  have w25 := (ho 25 (by decide)).trans w25
  have w26 := (ho 26 (by decide)).trans w26
  have w27 := (ho 27 (by decide)).trans w27
  have w28 := (ho 28 (by decide)).trans w28
  have w29 := (ho 29 (by decide)).trans w29
  have w30 := (ho 30 (by decide)).trans w30
  have w31 := (ho 31 (by decide)).trans w31
  have w32 := (ho 32 (by decide)).trans w32
  have w33 := (ho 33 (by decide)).trans w33
  have w34 := (ho 34 (by decide)).trans w34
  have w35 : G[35]? = some (x35, .inl (cI, 8, .inl (fun _ => 0))) := w35
  have hk := gk_step hk ho (by decide)
  have hn : ∀ k, 36 ≤ k → G[k]? = none := fun k q => (ho k (by omega)).trans (hn k (by omega))
  clear ho
  refine mx_putF (ci := 8) (v := .ref x35) (ty := .array .int) (C := RX8) (T := TX8) (N := 37) (pc := 123) hx hb hts hiX8 tyX8 tyX8_ok nmX8 hown hK hP hD hS 22 w22 rfl 23 (by decide) (hts (.fieldLink RX8 57 "InkPressModel" "markDx" "[I") (by decide +kernel)) (fun _ h9 => h9) rfl hin rfl (by decide +kernel) rfl rfl (Nat.le_of_ble_eq_true rfl) dX8_init_123 (fun H locs G hP hD hS w22 ho => ?_)
  have w23 := (ho 23 (by decide)).trans w23
  have w24 := (ho 24 (by decide)).trans w24
  have w25 := (ho 25 (by decide)).trans w25
  have w26 := (ho 26 (by decide)).trans w26
  have w27 := (ho 27 (by decide)).trans w27
  have w28 := (ho 28 (by decide)).trans w28
  have w29 := (ho 29 (by decide)).trans w29
  have w30 := (ho 30 (by decide)).trans w30
  have w31 := (ho 31 (by decide)).trans w31
  have w32 := (ho 32 (by decide)).trans w32
  have w33 := (ho 33 (by decide)).trans w33
  have w34 := (ho 34 (by decide)).trans w34
  have w35 := (ho 35 (by decide)).trans w35
  have w22 : G[22]? = some (x22, .inr (8, [.int (nI (4)), .int (nI (3)), .ref x23, .ref x24, .ref x25, .ref x26, .ref x27, .ref x28, .ref x29, .int (nI (0)), .int (nI (0)), .int (nI (0)), .int ((-6)), .int (nI (0)), .int (nI (0)), .int (nI (0)), .int (gB (false)), .ref x30, .ref x31, .ref x32, .int (nI (0)), .ref x33, .ref x34, .ref x35, .null, .int (nI (0)), .long (0), .long (0), .long (0), .long (0), .long (0), .null, .null, .null, .int (nI (0)), .null, .null])) := w22
  have hk := gk_step hk ho (by decide)
  have hn : ∀ k, 36 ≤ k → G[k]? = none := fun k q => (ho k (by omega)).trans (hn k (by omega))
  clear ho
  refine lv_aload_n (pc := 126) hx hb dX8_init_126 rfl (lv_at hl 0 rfl) ?_
  refine lv_bipush (v := nI (8)) (pc := 127) hx hb dX8_init_127 (by decide) ?_
  refine mx_newa (atype := .int) (ty := .int) (f := (fun _ => 0)) (pc := 129) hx hb (hts (.arrayClass .int) (by decide +kernel)) rfl (by decide) 0 rfl hK hP hD hS hA 8 (fun cA => gHf_I cA 8) (by decide) (by decide) (Nat.le_of_ble_eq_true rfl) (Nat.le_of_ble_eq_true rfl) 36 (glen w35 (hn 36 (by omega))) dX8_init_129 (fun x36 H G hP hD hS w36 ho => ?_)
  refine W.widen (k := 14) (n := 9173) (Nat.le_of_ble_eq_true rfl) (Nat.le_of_ble_eq_true rfl) ?_
  have w22 := (ho 22 (by decide)).trans w22
  have w23 := (ho 23 (by decide)).trans w23
  have w24 := (ho 24 (by decide)).trans w24
  have w25 := (ho 25 (by decide)).trans w25
  have w26 := (ho 26 (by decide)).trans w26
  have w27 := (ho 27 (by decide)).trans w27
  have w28 := (ho 28 (by decide)).trans w28
  have w29 := (ho 29 (by decide)).trans w29
  have w30 := (ho 30 (by decide)).trans w30
  have w31 := (ho 31 (by decide)).trans w31
  have w32 := (ho 32 (by decide)).trans w32
  have w33 := (ho 33 (by decide)).trans w33
  have w34 := (ho 34 (by decide)).trans w34
  have w35 := (ho 35 (by decide)).trans w35
  have w36 : G[36]? = some (x36, .inl (cI, 8, .inl (fun _ => 0))) := w36
  have hk := gk_step hk ho (by decide)
  have hn : ∀ k, 37 ≤ k → G[k]? = none := fun k q => (ho k (by omega)).trans (hn k (by omega))
  clear ho
  refine mx_putF (ci := 8) (v := .ref x36) (ty := .array .int) (C := RX8) (T := TX8) (N := 37) (pc := 131) hx hb hts hiX8 tyX8 tyX8_ok nmX8 hown hK hP hD hS 22 w22 rfl 24 (by decide) (hts (.fieldLink RX8 60 "InkPressModel" "markDy" "[I") (by decide +kernel)) (fun _ h9 => h9) rfl hin rfl (by decide +kernel) rfl rfl (Nat.le_of_ble_eq_true rfl) dX8_init_131 (fun H locs G hP hD hS w22 ho => ?_)
  have w23 := (ho 23 (by decide)).trans w23
  have w24 := (ho 24 (by decide)).trans w24
  have w25 := (ho 25 (by decide)).trans w25
  have w26 := (ho 26 (by decide)).trans w26
  have w27 := (ho 27 (by decide)).trans w27
  have w28 := (ho 28 (by decide)).trans w28
  have w29 := (ho 29 (by decide)).trans w29
  have w30 := (ho 30 (by decide)).trans w30
  have w31 := (ho 31 (by decide)).trans w31
  have w32 := (ho 32 (by decide)).trans w32
  have w33 := (ho 33 (by decide)).trans w33
  have w34 := (ho 34 (by decide)).trans w34
  have w35 := (ho 35 (by decide)).trans w35
  have w36 := (ho 36 (by decide)).trans w36
  have w22 : G[22]? = some (x22, .inr (8, [.int (nI (4)), .int (nI (3)), .ref x23, .ref x24, .ref x25, .ref x26, .ref x27, .ref x28, .ref x29, .int (nI (0)), .int (nI (0)), .int (nI (0)), .int ((-6)), .int (nI (0)), .int (nI (0)), .int (nI (0)), .int (gB (false)), .ref x30, .ref x31, .ref x32, .int (nI (0)), .ref x33, .ref x34, .ref x35, .ref x36, .int (nI (0)), .long (0), .long (0), .long (0), .long (0), .long (0), .null, .null, .null, .int (nI (0)), .null, .null])) := w22
  have hk := gk_step hk ho (by decide)
  have hn : ∀ k, 37 ≤ k → G[k]? = none := fun k q => (ho k (by omega)).trans (hn k (by omega))
  clear ho
  refine lv_aload_n (pc := 134) hx hb dX8_init_134 rfl (lv_at hl 0 rfl) ?_
  refine lv_bipush (v := nI (7)) (pc := 135) hx hb dX8_init_135 (by decide) ?_
  refine mx_newa (atype := .int) (ty := .int) (f := (fun j => nI ((fun _ => 0) j))) (pc := 137) hx hb (hts (.arrayClass .int) (by decide +kernel)) rfl (by decide) 0 rfl hK hP hD hS hA 7 (fun cA => gHf_n cA 7) (by decide) (by decide) (Nat.le_of_ble_eq_true rfl) (Nat.le_of_ble_eq_true rfl) 37 (glen w36 (hn 37 (by omega))) dX8_init_137 (fun x37 H G hP hD hS w37 ho => ?_)
  refine W.widen (k := 15) (n := 9180) (Nat.le_of_ble_eq_true rfl) (Nat.le_of_ble_eq_true rfl) ?_
  have w22 := (ho 22 (by decide)).trans w22
  have w23 := (ho 23 (by decide)).trans w23
  have w24 := (ho 24 (by decide)).trans w24
  have w25 := (ho 25 (by decide)).trans w25
  have w26 := (ho 26 (by decide)).trans w26
  have w27 := (ho 27 (by decide)).trans w27
  have w28 := (ho 28 (by decide)).trans w28
  have w29 := (ho 29 (by decide)).trans w29
  have w30 := (ho 30 (by decide)).trans w30
  have w31 := (ho 31 (by decide)).trans w31
  have w32 := (ho 32 (by decide)).trans w32
  have w33 := (ho 33 (by decide)).trans w33
  have w34 := (ho 34 (by decide)).trans w34
  have w35 := (ho 35 (by decide)).trans w35
  have w36 := (ho 36 (by decide)).trans w36
  have w37 : G[37]? = some (x37, .inl (cI, 7, .inl (fun j => nI ((fun _ => 0) j)))) := w37
  have hk := gk_step hk ho (by decide)
  have hn : ∀ k, 38 ≤ k → G[k]? = none := fun k q => (ho k (by omega)).trans (hn k (by omega))
  clear ho
  refine mx_putF (ci := 8) (v := .ref x37) (ty := .array .int) (C := RX8) (T := TX8) (N := 37) (pc := 139) hx hb hts hiX8 tyX8 tyX8_ok nmX8 hown hK hP hD hS 22 w22 rfl 31 (by decide) (hts (.fieldLink RX8 63 "InkPressModel" "colour" "[I") (by decide +kernel)) (fun _ h9 => h9) rfl hin rfl (by decide +kernel) rfl rfl (Nat.le_of_ble_eq_true rfl) dX8_init_139 (fun H locs G hP hD hS w22 ho => ?_)
  have w23 := (ho 23 (by decide)).trans w23
  have w24 := (ho 24 (by decide)).trans w24
  have w25 := (ho 25 (by decide)).trans w25
  have w26 := (ho 26 (by decide)).trans w26
  have w27 := (ho 27 (by decide)).trans w27
  have w28 := (ho 28 (by decide)).trans w28
  have w29 := (ho 29 (by decide)).trans w29
  have w30 := (ho 30 (by decide)).trans w30
  have w31 := (ho 31 (by decide)).trans w31
  have w32 := (ho 32 (by decide)).trans w32
  have w33 := (ho 33 (by decide)).trans w33
  have w34 := (ho 34 (by decide)).trans w34
  have w35 := (ho 35 (by decide)).trans w35
  have w36 := (ho 36 (by decide)).trans w36
  have w37 := (ho 37 (by decide)).trans w37
  have w22 : G[22]? = some (x22, .inr (8, [.int (nI (4)), .int (nI (3)), .ref x23, .ref x24, .ref x25, .ref x26, .ref x27, .ref x28, .ref x29, .int (nI (0)), .int (nI (0)), .int (nI (0)), .int ((-6)), .int (nI (0)), .int (nI (0)), .int (nI (0)), .int (gB (false)), .ref x30, .ref x31, .ref x32, .int (nI (0)), .ref x33, .ref x34, .ref x35, .ref x36, .int (nI (0)), .long (0), .long (0), .long (0), .long (0), .long (0), .ref x37, .null, .null, .int (nI (0)), .null, .null])) := w22
  have hk := gk_step hk ho (by decide)
  have hn : ∀ k, 38 ≤ k → G[k]? = none := fun k q => (ho k (by omega)).trans (hn k (by omega))
  clear ho
  refine lv_aload_n (pc := 142) hx hb dX8_init_142 rfl (lv_at hl 0 rfl) ?_
  refine lv_bipush (v := nI (7)) (pc := 143) hx hb dX8_init_143 (by decide) ?_
  refine mx_newa (atype := .int) (ty := .int) (f := (fun _ => 0)) (pc := 145) hx hb (hts (.arrayClass .int) (by decide +kernel)) rfl (by decide) 0 rfl hK hP hD hS hA 7 (fun cA => gHf_I cA 7) (by decide) (by decide) (Nat.le_of_ble_eq_true rfl) (Nat.le_of_ble_eq_true rfl) 38 (glen w37 (hn 38 (by omega))) dX8_init_145 (fun x38 H G hP hD hS w38 ho => ?_)
  refine W.widen (k := 16) (n := 9187) (Nat.le_of_ble_eq_true rfl) (Nat.le_of_ble_eq_true rfl) ?_
  have w22 := (ho 22 (by decide)).trans w22
  have w23 := (ho 23 (by decide)).trans w23
  have w24 := (ho 24 (by decide)).trans w24
  have w25 := (ho 25 (by decide)).trans w25
  have w26 := (ho 26 (by decide)).trans w26
  have w27 := (ho 27 (by decide)).trans w27
  have w28 := (ho 28 (by decide)).trans w28
  have w29 := (ho 29 (by decide)).trans w29
  have w30 := (ho 30 (by decide)).trans w30
  have w31 := (ho 31 (by decide)).trans w31
  have w32 := (ho 32 (by decide)).trans w32
  have w33 := (ho 33 (by decide)).trans w33
  have w34 := (ho 34 (by decide)).trans w34
  have w35 := (ho 35 (by decide)).trans w35
  have w36 := (ho 36 (by decide)).trans w36
  have w37 := (ho 37 (by decide)).trans w37
  have w38 : G[38]? = some (x38, .inl (cI, 7, .inl (fun _ => 0))) := w38
  have hk := gk_step hk ho (by decide)
  have hn : ∀ k, 39 ≤ k → G[k]? = none := fun k q => (ho k (by omega)).trans (hn k (by omega))
  clear ho
  refine mx_putF (ci := 8) (v := .ref x38) (ty := .array .int) (C := RX8) (T := TX8) (N := 37) (pc := 147) hx hb hts hiX8 tyX8 tyX8_ok nmX8 hown hK hP hD hS 22 w22 rfl 32 (by decide) (hts (.fieldLink RX8 66 "InkPressModel" "sheetOf" "[I") (by decide +kernel)) (fun _ h9 => h9) rfl hin rfl (by decide +kernel) rfl rfl (Nat.le_of_ble_eq_true rfl) dX8_init_147 (fun H locs G hP hD hS w22 ho => ?_)
  have w23 := (ho 23 (by decide)).trans w23
  have w24 := (ho 24 (by decide)).trans w24
  have w25 := (ho 25 (by decide)).trans w25
  have w26 := (ho 26 (by decide)).trans w26
  have w27 := (ho 27 (by decide)).trans w27
  have w28 := (ho 28 (by decide)).trans w28
  have w29 := (ho 29 (by decide)).trans w29
  have w30 := (ho 30 (by decide)).trans w30
  have w31 := (ho 31 (by decide)).trans w31
  have w32 := (ho 32 (by decide)).trans w32
  have w33 := (ho 33 (by decide)).trans w33
  have w34 := (ho 34 (by decide)).trans w34
  have w35 := (ho 35 (by decide)).trans w35
  have w36 := (ho 36 (by decide)).trans w36
  have w37 := (ho 37 (by decide)).trans w37
  have w38 := (ho 38 (by decide)).trans w38
  have w22 : G[22]? = some (x22, .inr (8, [.int (nI (4)), .int (nI (3)), .ref x23, .ref x24, .ref x25, .ref x26, .ref x27, .ref x28, .ref x29, .int (nI (0)), .int (nI (0)), .int (nI (0)), .int ((-6)), .int (nI (0)), .int (nI (0)), .int (nI (0)), .int (gB (false)), .ref x30, .ref x31, .ref x32, .int (nI (0)), .ref x33, .ref x34, .ref x35, .ref x36, .int (nI (0)), .long (0), .long (0), .long (0), .long (0), .long (0), .ref x37, .ref x38, .null, .int (nI (0)), .null, .null])) := w22
  have hk := gk_step hk ho (by decide)
  have hn : ∀ k, 39 ≤ k → G[k]? = none := fun k q => (ho k (by omega)).trans (hn k (by omega))
  clear ho
  refine lv_aload_n (pc := 150) hx hb dX8_init_150 rfl (lv_at hl 0 rfl) ?_
  refine lv_bipush (v := nI (16)) (pc := 151) hx hb dX8_init_151 (by decide) ?_
  refine mx_newa (atype := .int) (ty := .int) (f := (fun _ => 0)) (pc := 153) hx hb (hts (.arrayClass .int) (by decide +kernel)) rfl (by decide) 0 rfl hK hP hD hS hA 16 (fun cA => gHf_I cA 16) (by decide) (by decide) (Nat.le_of_ble_eq_true rfl) (Nat.le_of_ble_eq_true rfl) 39 (glen w38 (hn 39 (by omega))) dX8_init_153 (fun x39 H G hP hD hS w39 ho => ?_)
  refine W.widen (k := 17) (n := 9203) (Nat.le_of_ble_eq_true rfl) (Nat.le_of_ble_eq_true rfl) ?_
  have w22 := (ho 22 (by decide)).trans w22
  have w23 := (ho 23 (by decide)).trans w23
  have w24 := (ho 24 (by decide)).trans w24
  have w25 := (ho 25 (by decide)).trans w25
  have w26 := (ho 26 (by decide)).trans w26
  have w27 := (ho 27 (by decide)).trans w27
  have w28 := (ho 28 (by decide)).trans w28
  have w29 := (ho 29 (by decide)).trans w29
  have w30 := (ho 30 (by decide)).trans w30
  have w31 := (ho 31 (by decide)).trans w31
  have w32 := (ho 32 (by decide)).trans w32
  have w33 := (ho 33 (by decide)).trans w33
  have w34 := (ho 34 (by decide)).trans w34
  have w35 := (ho 35 (by decide)).trans w35
  have w36 := (ho 36 (by decide)).trans w36
  have w37 := (ho 37 (by decide)).trans w37
  have w38 := (ho 38 (by decide)).trans w38
  have w39 : G[39]? = some (x39, .inl (cI, 16, .inl (fun _ => 0))) := w39
  have hk := gk_step hk ho (by decide)
  have hn : ∀ k, 40 ≤ k → G[k]? = none := fun k q => (ho k (by omega)).trans (hn k (by omega))
  clear ho
  refine mx_putF (ci := 8) (v := .ref x39) (ty := .array .int) (C := RX8) (T := TX8) (N := 37) (pc := 155) hx hb hts hiX8 tyX8 tyX8_ok nmX8 hown hK hP hD hS 22 w22 rfl 33 (by decide) (hts (.fieldLink RX8 69 "InkPressModel" "washes" "[I") (by decide +kernel)) (fun _ h9 => h9) rfl hin rfl (by decide +kernel) rfl rfl (Nat.le_of_ble_eq_true rfl) dX8_init_155 (fun H locs G hP hD hS w22 ho => ?_)
  have w23 := (ho 23 (by decide)).trans w23
  have w24 := (ho 24 (by decide)).trans w24
  have w25 := (ho 25 (by decide)).trans w25
  have w26 := (ho 26 (by decide)).trans w26
  have w27 := (ho 27 (by decide)).trans w27
  have w28 := (ho 28 (by decide)).trans w28
  have w29 := (ho 29 (by decide)).trans w29
  have w30 := (ho 30 (by decide)).trans w30
  have w31 := (ho 31 (by decide)).trans w31
  have w32 := (ho 32 (by decide)).trans w32
  have w33 := (ho 33 (by decide)).trans w33
  have w34 := (ho 34 (by decide)).trans w34
  have w35 := (ho 35 (by decide)).trans w35
  have w36 := (ho 36 (by decide)).trans w36
  have w37 := (ho 37 (by decide)).trans w37
  have w38 := (ho 38 (by decide)).trans w38
  have w39 := (ho 39 (by decide)).trans w39
  have w22 : G[22]? = some (x22, .inr (8, [.int (nI (4)), .int (nI (3)), .ref x23, .ref x24, .ref x25, .ref x26, .ref x27, .ref x28, .ref x29, .int (nI (0)), .int (nI (0)), .int (nI (0)), .int ((-6)), .int (nI (0)), .int (nI (0)), .int (nI (0)), .int (gB (false)), .ref x30, .ref x31, .ref x32, .int (nI (0)), .ref x33, .ref x34, .ref x35, .ref x36, .int (nI (0)), .long (0), .long (0), .long (0), .long (0), .long (0), .ref x37, .ref x38, .ref x39, .int (nI (0)), .null, .null])) := w22
  have hk := gk_step hk ho (by decide)
  have hn : ∀ k, 40 ≤ k → G[k]? = none := fun k q => (ho k (by omega)).trans (hn k (by omega))
  clear ho
  refine lv_aload_n (pc := 158) hx hb dX8_init_158 rfl (lv_at hl 0 rfl) ?_
  refine lv_bipush (v := nI (7)) (pc := 159) hx hb dX8_init_159 (by decide) ?_
  refine mx_newa (atype := .int) (ty := .int) (f := (fun j => nI ((fun _ => 0) j))) (pc := 161) hx hb (hts (.arrayClass .int) (by decide +kernel)) rfl (by decide) 0 rfl hK hP hD hS hA 7 (fun cA => gHf_n cA 7) (by decide) (by decide) (Nat.le_of_ble_eq_true rfl) (Nat.le_of_ble_eq_true rfl) 40 (glen w39 (hn 40 (by omega))) dX8_init_161 (fun x40 H G hP hD hS w40 ho => ?_)
  refine W.widen (k := 18) (n := 9210) (Nat.le_of_ble_eq_true rfl) (Nat.le_of_ble_eq_true rfl) ?_
  have w22 := (ho 22 (by decide)).trans w22
  have w23 := (ho 23 (by decide)).trans w23
  have w24 := (ho 24 (by decide)).trans w24
  have w25 := (ho 25 (by decide)).trans w25
  have w26 := (ho 26 (by decide)).trans w26
  have w27 := (ho 27 (by decide)).trans w27
  have w28 := (ho 28 (by decide)).trans w28
  have w29 := (ho 29 (by decide)).trans w29
  have w30 := (ho 30 (by decide)).trans w30
  have w31 := (ho 31 (by decide)).trans w31
  have w32 := (ho 32 (by decide)).trans w32
  have w33 := (ho 33 (by decide)).trans w33
  have w34 := (ho 34 (by decide)).trans w34
  have w35 := (ho 35 (by decide)).trans w35
  have w36 := (ho 36 (by decide)).trans w36
  have w37 := (ho 37 (by decide)).trans w37
  have w38 := (ho 38 (by decide)).trans w38
  have w39 := (ho 39 (by decide)).trans w39
  have w40 : G[40]? = some (x40, .inl (cI, 7, .inl (fun j => nI ((fun _ => 0) j)))) := w40
  have hk := gk_step hk ho (by decide)
  have hn : ∀ k, 41 ≤ k → G[k]? = none := fun k q => (ho k (by omega)).trans (hn k (by omega))
  clear ho
  refine mx_putF (ci := 8) (v := .ref x40) (ty := .array .int) (C := RX8) (T := TX8) (N := 37) (pc := 163) hx hb hts hiX8 tyX8 tyX8_ok nmX8 hown hK hP hD hS 22 w22 rfl 35 (by decide) (hts (.fieldLink RX8 72 "InkPressModel" "row" "[I") (by decide +kernel)) (fun _ h9 => h9) rfl hin rfl (by decide +kernel) rfl rfl (Nat.le_of_ble_eq_true rfl) dX8_init_163 (fun H locs G hP hD hS w22 ho => ?_)
  have w23 := (ho 23 (by decide)).trans w23
  have w24 := (ho 24 (by decide)).trans w24
  have w25 := (ho 25 (by decide)).trans w25
  have w26 := (ho 26 (by decide)).trans w26
  have w27 := (ho 27 (by decide)).trans w27
  have w28 := (ho 28 (by decide)).trans w28
  have w29 := (ho 29 (by decide)).trans w29
  have w30 := (ho 30 (by decide)).trans w30
  have w31 := (ho 31 (by decide)).trans w31
  have w32 := (ho 32 (by decide)).trans w32
  have w33 := (ho 33 (by decide)).trans w33
  have w34 := (ho 34 (by decide)).trans w34
  have w35 := (ho 35 (by decide)).trans w35
  have w36 := (ho 36 (by decide)).trans w36
  have w37 := (ho 37 (by decide)).trans w37
  have w38 := (ho 38 (by decide)).trans w38
  have w39 := (ho 39 (by decide)).trans w39
  have w40 := (ho 40 (by decide)).trans w40
  have w22 : G[22]? = some (x22, .inr (8, [.int (nI (4)), .int (nI (3)), .ref x23, .ref x24, .ref x25, .ref x26, .ref x27, .ref x28, .ref x29, .int (nI (0)), .int (nI (0)), .int (nI (0)), .int ((-6)), .int (nI (0)), .int (nI (0)), .int (nI (0)), .int (gB (false)), .ref x30, .ref x31, .ref x32, .int (nI (0)), .ref x33, .ref x34, .ref x35, .ref x36, .int (nI (0)), .long (0), .long (0), .long (0), .long (0), .long (0), .ref x37, .ref x38, .ref x39, .int (nI (0)), .ref x40, .null])) := w22
  have hk := gk_step hk ho (by decide)
  have hn : ∀ k, 41 ≤ k → G[k]? = none := fun k q => (ho k (by omega)).trans (hn k (by omega))
  clear ho
  refine lv_aload_n (pc := 166) hx hb dX8_init_166 rfl (lv_at hl 0 rfl) ?_
  refine lv_bipush (v := nI (7)) (pc := 167) hx hb dX8_init_167 (by decide) ?_
  refine mx_newa (atype := .int) (ty := .int) (f := (fun j => nI ((fun _ => 0) j))) (pc := 169) hx hb (hts (.arrayClass .int) (by decide +kernel)) rfl (by decide) 0 rfl hK hP hD hS hA 7 (fun cA => gHf_n cA 7) (by decide) (by decide) (Nat.le_of_ble_eq_true rfl) (Nat.le_of_ble_eq_true rfl) 41 (glen w40 (hn 41 (by omega))) dX8_init_169 (fun x41 H G hP hD hS w41 ho => ?_)
  refine W.widen (k := 19) (n := 9217) (Nat.le_of_ble_eq_true rfl) (Nat.le_of_ble_eq_true rfl) ?_
  have w22 := (ho 22 (by decide)).trans w22
  have w23 := (ho 23 (by decide)).trans w23
  have w24 := (ho 24 (by decide)).trans w24
  have w25 := (ho 25 (by decide)).trans w25
  have w26 := (ho 26 (by decide)).trans w26
  have w27 := (ho 27 (by decide)).trans w27
  have w28 := (ho 28 (by decide)).trans w28
  have w29 := (ho 29 (by decide)).trans w29
  have w30 := (ho 30 (by decide)).trans w30
  have w31 := (ho 31 (by decide)).trans w31
  have w32 := (ho 32 (by decide)).trans w32
  have w33 := (ho 33 (by decide)).trans w33
  have w34 := (ho 34 (by decide)).trans w34
  have w35 := (ho 35 (by decide)).trans w35
  have w36 := (ho 36 (by decide)).trans w36
  have w37 := (ho 37 (by decide)).trans w37
  have w38 := (ho 38 (by decide)).trans w38
  have w39 := (ho 39 (by decide)).trans w39
  have w40 := (ho 40 (by decide)).trans w40
  have w41 : G[41]? = some (x41, .inl (cI, 7, .inl (fun j => nI ((fun _ => 0) j)))) := w41
  have hk := gk_step hk ho (by decide)
  have hn : ∀ k, 42 ≤ k → G[k]? = none := fun k q => (ho k (by omega)).trans (hn k (by omega))
  clear ho
  refine mx_putF (ci := 8) (v := .ref x41) (ty := .array .int) (C := RX8) (T := TX8) (N := 37) (pc := 171) hx hb hts hiX8 tyX8 tyX8_ok nmX8 hown hK hP hD hS 22 w22 rfl 36 (by decide) (hts (.fieldLink RX8 75 "InkPressModel" "best" "[I") (by decide +kernel)) (fun _ h9 => h9) rfl hin rfl (by decide +kernel) rfl rfl (Nat.le_of_ble_eq_true rfl) dX8_init_171 (fun H locs G hP hD hS w22 ho => ?_)
  have w23 := (ho 23 (by decide)).trans w23
  have w24 := (ho 24 (by decide)).trans w24
  have w25 := (ho 25 (by decide)).trans w25
  have w26 := (ho 26 (by decide)).trans w26
  have w27 := (ho 27 (by decide)).trans w27
  have w28 := (ho 28 (by decide)).trans w28
  have w29 := (ho 29 (by decide)).trans w29
  have w30 := (ho 30 (by decide)).trans w30
  have w31 := (ho 31 (by decide)).trans w31
  have w32 := (ho 32 (by decide)).trans w32
  have w33 := (ho 33 (by decide)).trans w33
  have w34 := (ho 34 (by decide)).trans w34
  have w35 := (ho 35 (by decide)).trans w35
  have w36 := (ho 36 (by decide)).trans w36
  have w37 := (ho 37 (by decide)).trans w37
  have w38 := (ho 38 (by decide)).trans w38
  have w39 := (ho 39 (by decide)).trans w39
  have w40 := (ho 40 (by decide)).trans w40
  have w41 := (ho 41 (by decide)).trans w41
  have w22 : G[22]? = some (x22, .inr (8, [.int (nI (4)), .int (nI (3)), .ref x23, .ref x24, .ref x25, .ref x26, .ref x27, .ref x28, .ref x29, .int (nI (0)), .int (nI (0)), .int (nI (0)), .int ((-6)), .int (nI (0)), .int (nI (0)), .int (nI (0)), .int (gB (false)), .ref x30, .ref x31, .ref x32, .int (nI (0)), .ref x33, .ref x34, .ref x35, .ref x36, .int (nI (0)), .long (0), .long (0), .long (0), .long (0), .long (0), .ref x37, .ref x38, .ref x39, .int (nI (0)), .ref x40, .ref x41])) := w22
  have hk := gk_step hk ho (by decide)
  have hn : ∀ k, 42 ≤ k → G[k]? = none := fun k q => (ho k (by omega)).trans (hn k (by omega))
  clear ho
  refine lv_aload_n (pc := 174) hx hb dX8_init_174 rfl (lv_at hl 0 rfl) ?_
  refine va_get (ci := 8) (C := RX8) (T := TX8) (N := 37) (pc := 175) hx hb hts hiX8 hown hK hP 22 w22 rfl 2 (by decide) (hts (.fieldLink RX8 16 "InkPressModel" "rules" "[I") (by decide +kernel)) (fun _ h9 => h9) rfl dX8_init_175 ?_
  refine lv_iconst (v := nI (0)) (pc := 178) hx hb dX8_init_178 (by decide) ?_
  refine lv_bipush (v := nI (10)) (pc := 179) hx hb dX8_init_179 (by decide) ?_
  refine mx_iast (x := nI (10)) (pc := 181) hx hb hK hP hD hS 23 w23 (0) (by omega) (by decide) dX8_init_181 (fun H locs G hP hD hS w23 ho => ?_)
  have w22 := (ho 22 (by decide)).trans w22
  have w24 := (ho 24 (by decide)).trans w24
  have w25 := (ho 25 (by decide)).trans w25
  have w26 := (ho 26 (by decide)).trans w26
  have w27 := (ho 27 (by decide)).trans w27
  have w28 := (ho 28 (by decide)).trans w28
  have w29 := (ho 29 (by decide)).trans w29
  have w30 := (ho 30 (by decide)).trans w30
  have w31 := (ho 31 (by decide)).trans w31
  have w32 := (ho 32 (by decide)).trans w32
  have w33 := (ho 33 (by decide)).trans w33
  have w34 := (ho 34 (by decide)).trans w34
  have w35 := (ho 35 (by decide)).trans w35
  have w36 := (ho 36 (by decide)).trans w36
  have w37 := (ho 37 (by decide)).trans w37
  have w38 := (ho 38 (by decide)).trans w38
  have w39 := (ho 39 (by decide)).trans w39
  have w40 := (ho 40 (by decide)).trans w40
  have w41 := (ho 41 (by decide)).trans w41
  have w23 : G[23]? = some (x23, .inl (cI, 9, .inl (upd (fun _ => 0) (0) (nI (10))))) := w23
  have hk := gk_step hk ho (by decide)
  have hn : ∀ k, 42 ≤ k → G[k]? = none := fun k q => (ho k (by omega)).trans (hn k (by omega))
  clear ho
  refine lv_aload_n (pc := 182) hx hb dX8_init_182 rfl (lv_at hl 0 rfl) ?_
  refine va_get (ci := 8) (C := RX8) (T := TX8) (N := 37) (pc := 183) hx hb hts hiX8 hown hK hP 22 w22 rfl 2 (by decide) (hts (.fieldLink RX8 16 "InkPressModel" "rules" "[I") (by decide +kernel)) (fun _ h9 => h9) rfl dX8_init_183 ?_
  refine lv_iconst (v := nI (1)) (pc := 186) hx hb dX8_init_186 (by decide) ?_
  refine lv_bipush (v := nI (50)) (pc := 187) hx hb dX8_init_187 (by decide) ?_
  refine mx_iast (x := nI (50)) (pc := 189) hx hb hK hP hD hS 23 w23 (1) (by omega) (by decide) dX8_init_189 (fun H locs G hP hD hS w23 ho => ?_)
  have w22 := (ho 22 (by decide)).trans w22
  have w24 := (ho 24 (by decide)).trans w24
  have w25 := (ho 25 (by decide)).trans w25
  have w26 := (ho 26 (by decide)).trans w26
  have w27 := (ho 27 (by decide)).trans w27
  have w28 := (ho 28 (by decide)).trans w28
  have w29 := (ho 29 (by decide)).trans w29
  have w30 := (ho 30 (by decide)).trans w30
  have w31 := (ho 31 (by decide)).trans w31
  have w32 := (ho 32 (by decide)).trans w32
  have w33 := (ho 33 (by decide)).trans w33
  have w34 := (ho 34 (by decide)).trans w34
  have w35 := (ho 35 (by decide)).trans w35
  have w36 := (ho 36 (by decide)).trans w36
  have w37 := (ho 37 (by decide)).trans w37
  have w38 := (ho 38 (by decide)).trans w38
  have w39 := (ho 39 (by decide)).trans w39
  have w40 := (ho 40 (by decide)).trans w40
  have w41 := (ho 41 (by decide)).trans w41
  have w23 : G[23]? = some (x23, .inl (cI, 9, .inl (upd (upd (fun _ => 0) (0) (nI (10))) (1) (nI (50))))) := w23
  have hk := gk_step hk ho (by decide)
  have hn : ∀ k, 42 ≤ k → G[k]? = none := fun k q => (ho k (by omega)).trans (hn k (by omega))
  clear ho
  refine lv_aload_n (pc := 190) hx hb dX8_init_190 rfl (lv_at hl 0 rfl) ?_
  refine va_get (ci := 8) (C := RX8) (T := TX8) (N := 37) (pc := 191) hx hb hts hiX8 hown hK hP 22 w22 rfl 2 (by decide) (hts (.fieldLink RX8 16 "InkPressModel" "rules" "[I") (by decide +kernel)) (fun _ h9 => h9) rfl dX8_init_191 ?_
  refine lv_iconst (v := nI (2)) (pc := 194) hx hb dX8_init_194 (by decide) ?_
  refine lv_bipush (v := nI (10)) (pc := 195) hx hb dX8_init_195 (by decide) ?_
  refine mx_iast (x := nI (10)) (pc := 197) hx hb hK hP hD hS 23 w23 (2) (by omega) (by decide) dX8_init_197 (fun H locs G hP hD hS w23 ho => ?_)
  have w22 := (ho 22 (by decide)).trans w22
  have w24 := (ho 24 (by decide)).trans w24
  have w25 := (ho 25 (by decide)).trans w25
  have w26 := (ho 26 (by decide)).trans w26
  have w27 := (ho 27 (by decide)).trans w27
  have w28 := (ho 28 (by decide)).trans w28
  have w29 := (ho 29 (by decide)).trans w29
  have w30 := (ho 30 (by decide)).trans w30
  have w31 := (ho 31 (by decide)).trans w31
  have w32 := (ho 32 (by decide)).trans w32
  have w33 := (ho 33 (by decide)).trans w33
  have w34 := (ho 34 (by decide)).trans w34
  have w35 := (ho 35 (by decide)).trans w35
  have w36 := (ho 36 (by decide)).trans w36
  have w37 := (ho 37 (by decide)).trans w37
  have w38 := (ho 38 (by decide)).trans w38
  have w39 := (ho 39 (by decide)).trans w39
  have w40 := (ho 40 (by decide)).trans w40
  have w41 := (ho 41 (by decide)).trans w41
  have w23 : G[23]? = some (x23, .inl (cI, 9, .inl (upd (upd (upd (fun _ => 0) (0) (nI (10))) (1) (nI (50))) (2) (nI (10))))) := w23
  have hk := gk_step hk ho (by decide)
  have hn : ∀ k, 42 ≤ k → G[k]? = none := fun k q => (ho k (by omega)).trans (hn k (by omega))
  clear ho
  refine lv_aload_n (pc := 198) hx hb dX8_init_198 rfl (lv_at hl 0 rfl) ?_
  refine va_get (ci := 8) (C := RX8) (T := TX8) (N := 37) (pc := 199) hx hb hts hiX8 hown hK hP 22 w22 rfl 2 (by decide) (hts (.fieldLink RX8 16 "InkPressModel" "rules" "[I") (by decide +kernel)) (fun _ h9 => h9) rfl dX8_init_199 ?_
  refine lv_iconst (v := nI (3)) (pc := 202) hx hb dX8_init_202 (by decide) ?_
  refine lv_bipush (v := nI (40)) (pc := 203) hx hb dX8_init_203 (by decide) ?_
  refine mx_iast (x := nI (40)) (pc := 205) hx hb hK hP hD hS 23 w23 (3) (by omega) (by decide) dX8_init_205 (fun H locs G hP hD hS w23 ho => ?_)
  have w22 := (ho 22 (by decide)).trans w22
  have w24 := (ho 24 (by decide)).trans w24
  have w25 := (ho 25 (by decide)).trans w25
  have w26 := (ho 26 (by decide)).trans w26
  have w27 := (ho 27 (by decide)).trans w27
  have w28 := (ho 28 (by decide)).trans w28
  have w29 := (ho 29 (by decide)).trans w29
  have w30 := (ho 30 (by decide)).trans w30
  have w31 := (ho 31 (by decide)).trans w31
  have w32 := (ho 32 (by decide)).trans w32
  have w33 := (ho 33 (by decide)).trans w33
  have w34 := (ho 34 (by decide)).trans w34
  have w35 := (ho 35 (by decide)).trans w35
  have w36 := (ho 36 (by decide)).trans w36
  have w37 := (ho 37 (by decide)).trans w37
  have w38 := (ho 38 (by decide)).trans w38
  have w39 := (ho 39 (by decide)).trans w39
  have w40 := (ho 40 (by decide)).trans w40
  have w41 := (ho 41 (by decide)).trans w41
  have w23 : G[23]? = some (x23, .inl (cI, 9, .inl (upd (upd (upd (upd (fun _ => 0) (0) (nI (10))) (1) (nI (50))) (2) (nI (10))) (3) (nI (40))))) := w23
  have hk := gk_step hk ho (by decide)
  have hn : ∀ k, 42 ≤ k → G[k]? = none := fun k q => (ho k (by omega)).trans (hn k (by omega))
  clear ho
  refine lv_aload_n (pc := 206) hx hb dX8_init_206 rfl (lv_at hl 0 rfl) ?_
  refine va_get (ci := 8) (C := RX8) (T := TX8) (N := 37) (pc := 207) hx hb hts hiX8 hown hK hP 22 w22 rfl 2 (by decide) (hts (.fieldLink RX8 16 "InkPressModel" "rules" "[I") (by decide +kernel)) (fun _ h9 => h9) rfl dX8_init_207 ?_
  refine lv_iconst (v := nI (4)) (pc := 210) hx hb dX8_init_210 (by decide) ?_
  refine lv_bipush (v := nI (50)) (pc := 211) hx hb dX8_init_211 (by decide) ?_
  refine mx_iast (x := nI (50)) (pc := 213) hx hb hK hP hD hS 23 w23 (4) (by omega) (by decide) dX8_init_213 (fun H locs G hP hD hS w23 ho => ?_)
  have w22 := (ho 22 (by decide)).trans w22
  have w24 := (ho 24 (by decide)).trans w24
  have w25 := (ho 25 (by decide)).trans w25
  have w26 := (ho 26 (by decide)).trans w26
  have w27 := (ho 27 (by decide)).trans w27
  have w28 := (ho 28 (by decide)).trans w28
  have w29 := (ho 29 (by decide)).trans w29
  have w30 := (ho 30 (by decide)).trans w30
  have w31 := (ho 31 (by decide)).trans w31
  have w32 := (ho 32 (by decide)).trans w32
  have w33 := (ho 33 (by decide)).trans w33
  have w34 := (ho 34 (by decide)).trans w34
  have w35 := (ho 35 (by decide)).trans w35
  have w36 := (ho 36 (by decide)).trans w36
  have w37 := (ho 37 (by decide)).trans w37
  have w38 := (ho 38 (by decide)).trans w38
  have w39 := (ho 39 (by decide)).trans w39
  have w40 := (ho 40 (by decide)).trans w40
  have w41 := (ho 41 (by decide)).trans w41
  have w23 : G[23]? = some (x23, .inl (cI, 9, .inl (upd (upd (upd (upd (upd (fun _ => 0) (0) (nI (10))) (1) (nI (50))) (2) (nI (10))) (3) (nI (40))) (4) (nI (50))))) := w23
  have hk := gk_step hk ho (by decide)
  have hn : ∀ k, 42 ≤ k → G[k]? = none := fun k q => (ho k (by omega)).trans (hn k (by omega))
  clear ho
  refine lv_aload_n (pc := 214) hx hb dX8_init_214 rfl (lv_at hl 0 rfl) ?_
  refine va_get (ci := 8) (C := RX8) (T := TX8) (N := 37) (pc := 215) hx hb hts hiX8 hown hK hP 22 w22 rfl 2 (by decide) (hts (.fieldLink RX8 16 "InkPressModel" "rules" "[I") (by decide +kernel)) (fun _ h9 => h9) rfl dX8_init_215 ?_
  refine lv_iconst (v := nI (5)) (pc := 218) hx hb dX8_init_218 (by decide) ?_
  refine lv_bipush (v := nI (10)) (pc := 219) hx hb dX8_init_219 (by decide) ?_
  refine mx_iast (x := nI (10)) (pc := 221) hx hb hK hP hD hS 23 w23 (5) (by omega) (by decide) dX8_init_221 (fun H locs G hP hD hS w23 ho => ?_)
  have w22 := (ho 22 (by decide)).trans w22
  have w24 := (ho 24 (by decide)).trans w24
  have w25 := (ho 25 (by decide)).trans w25
  have w26 := (ho 26 (by decide)).trans w26
  have w27 := (ho 27 (by decide)).trans w27
  have w28 := (ho 28 (by decide)).trans w28
  have w29 := (ho 29 (by decide)).trans w29
  have w30 := (ho 30 (by decide)).trans w30
  have w31 := (ho 31 (by decide)).trans w31
  have w32 := (ho 32 (by decide)).trans w32
  have w33 := (ho 33 (by decide)).trans w33
  have w34 := (ho 34 (by decide)).trans w34
  have w35 := (ho 35 (by decide)).trans w35
  have w36 := (ho 36 (by decide)).trans w36
  have w37 := (ho 37 (by decide)).trans w37
  have w38 := (ho 38 (by decide)).trans w38
  have w39 := (ho 39 (by decide)).trans w39
  have w40 := (ho 40 (by decide)).trans w40
  have w41 := (ho 41 (by decide)).trans w41
  have w23 : G[23]? = some (x23, .inl (cI, 9, .inl (upd (upd (upd (upd (upd (upd (fun _ => 0) (0) (nI (10))) (1) (nI (50))) (2) (nI (10))) (3) (nI (40))) (4) (nI (50))) (5) (nI (10))))) := w23
  have hk := gk_step hk ho (by decide)
  have hn : ∀ k, 42 ≤ k → G[k]? = none := fun k q => (ho k (by omega)).trans (hn k (by omega))
  clear ho
  refine lv_aload_n (pc := 222) hx hb dX8_init_222 rfl (lv_at hl 0 rfl) ?_
  refine va_get (ci := 8) (C := RX8) (T := TX8) (N := 37) (pc := 223) hx hb hts hiX8 hown hK hP 22 w22 rfl 2 (by decide) (hts (.fieldLink RX8 16 "InkPressModel" "rules" "[I") (by decide +kernel)) (fun _ h9 => h9) rfl dX8_init_223 ?_
  refine lv_bipush (v := nI (6)) (pc := 226) hx hb dX8_init_226 (by decide) ?_
  refine lv_bipush (v := nI (10)) (pc := 228) hx hb dX8_init_228 (by decide) ?_
  refine mx_iast (x := nI (10)) (pc := 230) hx hb hK hP hD hS 23 w23 (6) (by omega) (by decide) dX8_init_230 (fun H locs G hP hD hS w23 ho => ?_)
  have w22 := (ho 22 (by decide)).trans w22
  have w24 := (ho 24 (by decide)).trans w24
  have w25 := (ho 25 (by decide)).trans w25
  have w26 := (ho 26 (by decide)).trans w26
  have w27 := (ho 27 (by decide)).trans w27
  have w28 := (ho 28 (by decide)).trans w28
  have w29 := (ho 29 (by decide)).trans w29
  have w30 := (ho 30 (by decide)).trans w30
  have w31 := (ho 31 (by decide)).trans w31
  have w32 := (ho 32 (by decide)).trans w32
  have w33 := (ho 33 (by decide)).trans w33
  have w34 := (ho 34 (by decide)).trans w34
  have w35 := (ho 35 (by decide)).trans w35
  have w36 := (ho 36 (by decide)).trans w36
  have w37 := (ho 37 (by decide)).trans w37
  have w38 := (ho 38 (by decide)).trans w38
  have w39 := (ho 39 (by decide)).trans w39
  have w40 := (ho 40 (by decide)).trans w40
  have w41 := (ho 41 (by decide)).trans w41
  have w23 : G[23]? = some (x23, .inl (cI, 9, .inl (upd (upd (upd (upd (upd (upd (upd (fun _ => 0) (0) (nI (10))) (1) (nI (50))) (2) (nI (10))) (3) (nI (40))) (4) (nI (50))) (5) (nI (10))) (6) (nI (10))))) := w23
  have hk := gk_step hk ho (by decide)
  have hn : ∀ k, 42 ≤ k → G[k]? = none := fun k q => (ho k (by omega)).trans (hn k (by omega))
  clear ho
  refine lv_aload_n (pc := 231) hx hb dX8_init_231 rfl (lv_at hl 0 rfl) ?_
  refine va_get (ci := 8) (C := RX8) (T := TX8) (N := 37) (pc := 232) hx hb hts hiX8 hown hK hP 22 w22 rfl 2 (by decide) (hts (.fieldLink RX8 16 "InkPressModel" "rules" "[I") (by decide +kernel)) (fun _ h9 => h9) rfl dX8_init_232 ?_
  refine lv_bipush (v := nI (7)) (pc := 235) hx hb dX8_init_235 (by decide) ?_
  refine lv_iconst (v := nI (5)) (pc := 237) hx hb dX8_init_237 (by decide) ?_
  refine mx_iast (x := nI (5)) (pc := 238) hx hb hK hP hD hS 23 w23 (7) (by omega) (by decide) dX8_init_238 (fun H locs G hP hD hS w23 ho => ?_)
  have w22 := (ho 22 (by decide)).trans w22
  have w24 := (ho 24 (by decide)).trans w24
  have w25 := (ho 25 (by decide)).trans w25
  have w26 := (ho 26 (by decide)).trans w26
  have w27 := (ho 27 (by decide)).trans w27
  have w28 := (ho 28 (by decide)).trans w28
  have w29 := (ho 29 (by decide)).trans w29
  have w30 := (ho 30 (by decide)).trans w30
  have w31 := (ho 31 (by decide)).trans w31
  have w32 := (ho 32 (by decide)).trans w32
  have w33 := (ho 33 (by decide)).trans w33
  have w34 := (ho 34 (by decide)).trans w34
  have w35 := (ho 35 (by decide)).trans w35
  have w36 := (ho 36 (by decide)).trans w36
  have w37 := (ho 37 (by decide)).trans w37
  have w38 := (ho 38 (by decide)).trans w38
  have w39 := (ho 39 (by decide)).trans w39
  have w40 := (ho 40 (by decide)).trans w40
  have w41 := (ho 41 (by decide)).trans w41
  have w23 : G[23]? = some (x23, .inl (cI, 9, .inl (upd (upd (upd (upd (upd (upd (upd (upd (fun _ => 0) (0) (nI (10))) (1) (nI (50))) (2) (nI (10))) (3) (nI (40))) (4) (nI (50))) (5) (nI (10))) (6) (nI (10))) (7) (nI (5))))) := w23
  have hk := gk_step hk ho (by decide)
  have hn : ∀ k, 42 ≤ k → G[k]? = none := fun k q => (ho k (by omega)).trans (hn k (by omega))
  clear ho
  refine lv_aload_n (pc := 239) hx hb dX8_init_239 rfl (lv_at hl 0 rfl) ?_
  refine va_get (ci := 8) (C := RX8) (T := TX8) (N := 37) (pc := 240) hx hb hts hiX8 hown hK hP 22 w22 rfl 2 (by decide) (hts (.fieldLink RX8 16 "InkPressModel" "rules" "[I") (by decide +kernel)) (fun _ h9 => h9) rfl dX8_init_240 ?_
  refine lv_bipush (v := nI (8)) (pc := 243) hx hb dX8_init_243 (by decide) ?_
  refine lv_iconst (v := nI (2)) (pc := 245) hx hb dX8_init_245 (by decide) ?_
  refine mx_iast (x := nI (2)) (pc := 246) hx hb hK hP hD hS 23 w23 (8) (by omega) (by decide) dX8_init_246 (fun H locs G hP hD hS w23 ho => ?_)
  have w22 := (ho 22 (by decide)).trans w22
  have w24 := (ho 24 (by decide)).trans w24
  have w25 := (ho 25 (by decide)).trans w25
  have w26 := (ho 26 (by decide)).trans w26
  have w27 := (ho 27 (by decide)).trans w27
  have w28 := (ho 28 (by decide)).trans w28
  have w29 := (ho 29 (by decide)).trans w29
  have w30 := (ho 30 (by decide)).trans w30
  have w31 := (ho 31 (by decide)).trans w31
  have w32 := (ho 32 (by decide)).trans w32
  have w33 := (ho 33 (by decide)).trans w33
  have w34 := (ho 34 (by decide)).trans w34
  have w35 := (ho 35 (by decide)).trans w35
  have w36 := (ho 36 (by decide)).trans w36
  have w37 := (ho 37 (by decide)).trans w37
  have w38 := (ho 38 (by decide)).trans w38
  have w39 := (ho 39 (by decide)).trans w39
  have w40 := (ho 40 (by decide)).trans w40
  have w41 := (ho 41 (by decide)).trans w41
  have w23 : G[23]? = some (x23, .inl (cI, 9, .inl (upd (upd (upd (upd (upd (upd (upd (upd (upd (fun _ => 0) (0) (nI (10))) (1) (nI (50))) (2) (nI (10))) (3) (nI (40))) (4) (nI (50))) (5) (nI (10))) (6) (nI (10))) (7) (nI (5))) (8) (nI (2))))) := w23
  have hk := gk_step hk ho (by decide)
  have hn : ∀ k, 42 ≤ k → G[k]? = none := fun k q => (ho k (by omega)).trans (hn k (by omega))
  clear ho
  refine lv_iconst (v := nI (0)) (pc := 247) hx hb dX8_init_247 (by decide) ?_
  refine lv_istore_n (lv' := [(1, .int (nI (0))), (0, .ref x22)]) (pc := 248) hx hb dX8_init_248 rfl hl (by decide) rfl (fun ls hl => ?_)
  have LP : ∀ (k : Nat) (i : Nat) (wf : Nat → Int32), i + k = 4 → ∀ (G : va_W) (H : Heap) (locs : List Loc) (ls : Array Slot), va_P D vwCl G H → va_D A G → va_S A s.heap H locs → (∀ j, j ∉ [22, 23, 24, 25, 26, 27, 28, 29, 30, 31, 32, 33, 34, 35, 36, 37, 38, 39, 40, 41] → G[j]? = G0[j]?) → G[22]? = some (x22, .inr (8, [.int (nI (4)), .int (nI (3)), .ref x23, .ref x24, .ref x25, .ref x26, .ref x27, .ref x28, .ref x29, .int (nI (0)), .int (nI (0)), .int (nI (0)), .int ((-6)), .int (nI (0)), .int (nI (0)), .int (nI (0)), .int (gB (false)), .ref x30, .ref x31, .ref x32, .int (nI (0)), .ref x33, .ref x34, .ref x35, .ref x36, .int (nI (0)), .long (0), .long (0), .long (0), .long (0), .long (0), .ref x37, .ref x38, .ref x39, .int (nI (0)), .ref x40, .ref x41])) → G[23]? = some (x23, .inl (cI, 9, .inl (upd (upd (upd (upd (upd (upd (upd (upd (upd (fun _ => 0) (0) (nI (10))) (1) (nI (50))) (2) (nI (10))) (3) (nI (40))) (4) (nI (50))) (5) (nI (10))) (6) (nI (10))) (7) (nI (5))) (8) (nI (2))))) → G[24]? = some (x24, .inl (cI, 8, .inl (fun _ => 0))) → G[25]? = some (x25, .inl (cI, 8, .inl (fun _ => 0))) → G[26]? = some (x26, .inl (cI, 8, .inl (fun _ => 0))) → G[27]? = some (x27, .inl (cI, 40, .inl (fun _ => 0))) → G[28]? = some (x28, .inl (cI, 8000, .inl (fun _ => 0))) → G[29]? = some (x29, .inl (cZ, 1000, .inl (fun j => gB ((fun _ => false) j)))) → G[30]? = some (x30, .inl (cI, 8, .inl (fun _ => 0))) → G[31]? = some (x31, .inl (cI, 30, .inl (fun _ => 0))) → G[32]? = some (x32, .inl (cI, 30, .inl (fun _ => 0))) → G[33]? = some (x33, .inl (cI, 8, .inl (fun _ => 0))) → G[34]? = some (x34, .inl (cI, 8, .inl (fun _ => 0))) → G[35]? = some (x35, .inl (cI, 8, .inl (fun _ => 0))) → G[36]? = some (x36, .inl (cI, 8, .inl (fun _ => 0))) → G[37]? = some (x37, .inl (cI, 7, .inl (fun j => nI ((fun _ => 0) j)))) → G[38]? = some (x38, .inl (cI, 7, .inl (fun _ => 0))) → G[39]? = some (x39, .inl (cI, 16, .inl (wf))) → G[40]? = some (x40, .inl (cI, 7, .inl (fun j => nI ((fun _ => 0) j)))) → G[41]? = some (x41, .inl (cI, 7, .inl (fun j => nI ((fun _ => 0) j)))) → lv_has ls 3 [(0, .ref x22), (1, .int (nI (i)))] → (∀ (G : va_W) (H : Heap) (locs : List Loc) (ls : Array Slot), va_P D vwCl G H → va_D A G → va_S A s.heap H locs → (∀ j, j ∉ [22, 23, 24, 25, 26, 27, 28, 29, 30, 31, 32, 33, 34, 35, 36, 37, 38, 39, 40, 41] → G[j]? = G0[j]?) → G[22]? = some (x22, .inr (8, [.int (nI (4)), .int (nI (3)), .ref x23, .ref x24, .ref x25, .ref x26, .ref x27, .ref x28, .ref x29, .int (nI (0)), .int (nI (0)), .int (nI (0)), .int ((-6)), .int (nI (0)), .int (nI (0)), .int (nI (0)), .int (gB (false)), .ref x30, .ref x31, .ref x32, .int (nI (0)), .ref x33, .ref x34, .ref x35, .ref x36, .int (nI (0)), .long (0), .long (0), .long (0), .long (0), .long (0), .ref x37, .ref x38, .ref x39, .int (nI (0)), .ref x40, .ref x41])) → G[23]? = some (x23, .inl (cI, 9, .inl (upd (upd (upd (upd (upd (upd (upd (upd (upd (fun _ => 0) (0) (nI (10))) (1) (nI (50))) (2) (nI (10))) (3) (nI (40))) (4) (nI (50))) (5) (nI (10))) (6) (nI (10))) (7) (nI (5))) (8) (nI (2))))) → G[24]? = some (x24, .inl (cI, 8, .inl (fun _ => 0))) → G[25]? = some (x25, .inl (cI, 8, .inl (fun _ => 0))) → G[26]? = some (x26, .inl (cI, 8, .inl (fun _ => 0))) → G[27]? = some (x27, .inl (cI, 40, .inl (fun _ => 0))) → G[28]? = some (x28, .inl (cI, 8000, .inl (fun _ => 0))) → G[29]? = some (x29, .inl (cZ, 1000, .inl (fun j => gB ((fun _ => false) j)))) → G[30]? = some (x30, .inl (cI, 8, .inl (fun _ => 0))) → G[31]? = some (x31, .inl (cI, 30, .inl (fun _ => 0))) → G[32]? = some (x32, .inl (cI, 30, .inl (fun _ => 0))) → G[33]? = some (x33, .inl (cI, 8, .inl (fun _ => 0))) → G[34]? = some (x34, .inl (cI, 8, .inl (fun _ => 0))) → G[35]? = some (x35, .inl (cI, 8, .inl (fun _ => 0))) → G[36]? = some (x36, .inl (cI, 8, .inl (fun _ => 0))) → G[37]? = some (x37, .inl (cI, 7, .inl (fun j => nI ((fun _ => 0) j)))) → G[38]? = some (x38, .inl (cI, 7, .inl (fun _ => 0))) → G[39]? = some (x39, .inl (cI, 16, .inl (gVa k i wf))) → G[40]? = some (x40, .inl (cI, 7, .inl (fun j => nI ((fun _ => 0) j)))) → G[41]? = some (x41, .inl (cI, 7, .inl (fun j => nI ((fun _ => 0) j)))) → lv_has ls 3 [(0, .ref x22)] → W p l e ({ frames := 1, cells := 19, slots := 9217, locals := 21 } : Room) s m args below meth c H locs 19 9217 Q (F0 m 294 ls [])) → W p l e ({ frames := 1, cells := 19, slots := 9217, locals := 21 } : Room) s m args below meth c H locs 19 9217 Q (F0 m 249 ls []) := by
    intro k
    induction k with
    | zero =>
      intro i wf hi G H locs ls hP hD hS hk w22 w23 w24 w25 w26 w27 w28 w29 w30 w31 w32 w33 w34 w35 w36 w37 w38 w39 w40 w41 hl hcont
      refine lv_iload_n (pc := 249) hx hb dX8_init_249 rfl (lv_at hl 1 rfl) ?_
      refine lv_iconst (v := nI (4)) (pc := 250) hx hb dX8_init_250 (by decide) ?_
      refine mx_cge (tgt := 294) (pc := 251) hx hb (by omega) (by omega) dX8_init_251 (by decide) (fun c251 => ?_) (fun c251 => absurd c251 (by omega))
      exact hcont G H locs ls hP hD hS hk w22 w23 w24 w25 w26 w27 w28 w29 w30 w31 w32 w33 w34 w35 w36 w37 w38 w39 w40 w41 (lv_sub hl [0] rfl)
    | succ k ih =>
      intro i wf hi G H locs ls hP hD hS hk w22 w23 w24 w25 w26 w27 w28 w29 w30 w31 w32 w33 w34 w35 w36 w37 w38 w39 w40 w41 hl hcont
      refine lv_iload_n (pc := 249) hx hb dX8_init_249 rfl (lv_at hl 1 rfl) ?_
      refine lv_iconst (v := nI (4)) (pc := 250) hx hb dX8_init_250 (by decide) ?_
      refine mx_cge (tgt := 294) (pc := 251) hx hb (by omega) (by omega) dX8_init_251 (by decide) (fun c251 => absurd c251 (by omega)) (fun c251 => ?_)
      refine lv_iconst (v := nI (0)) (pc := 254) hx hb dX8_init_254 (by decide) ?_
      refine lv_istore_n (lv' := [(2, .int (nI (0))), (0, .ref x22), (1, .int (nI (i)))]) (pc := 255) hx hb dX8_init_255 rfl hl (by decide) rfl (fun ls hl => ?_)
      have LJ : ∀ (k2 : Nat) (j : Nat) (wf : Nat → Int32), j + k2 = 4 → ∀ (G : va_W) (H : Heap) (locs : List Loc) (ls : Array Slot), va_P D vwCl G H → va_D A G → va_S A s.heap H locs → (∀ j, j ∉ [22, 23, 24, 25, 26, 27, 28, 29, 30, 31, 32, 33, 34, 35, 36, 37, 38, 39, 40, 41] → G[j]? = G0[j]?) → G[22]? = some (x22, .inr (8, [.int (nI (4)), .int (nI (3)), .ref x23, .ref x24, .ref x25, .ref x26, .ref x27, .ref x28, .ref x29, .int (nI (0)), .int (nI (0)), .int (nI (0)), .int ((-6)), .int (nI (0)), .int (nI (0)), .int (nI (0)), .int (gB (false)), .ref x30, .ref x31, .ref x32, .int (nI (0)), .ref x33, .ref x34, .ref x35, .ref x36, .int (nI (0)), .long (0), .long (0), .long (0), .long (0), .long (0), .ref x37, .ref x38, .ref x39, .int (nI (0)), .ref x40, .ref x41])) → G[23]? = some (x23, .inl (cI, 9, .inl (upd (upd (upd (upd (upd (upd (upd (upd (upd (fun _ => 0) (0) (nI (10))) (1) (nI (50))) (2) (nI (10))) (3) (nI (40))) (4) (nI (50))) (5) (nI (10))) (6) (nI (10))) (7) (nI (5))) (8) (nI (2))))) → G[24]? = some (x24, .inl (cI, 8, .inl (fun _ => 0))) → G[25]? = some (x25, .inl (cI, 8, .inl (fun _ => 0))) → G[26]? = some (x26, .inl (cI, 8, .inl (fun _ => 0))) → G[27]? = some (x27, .inl (cI, 40, .inl (fun _ => 0))) → G[28]? = some (x28, .inl (cI, 8000, .inl (fun _ => 0))) → G[29]? = some (x29, .inl (cZ, 1000, .inl (fun j => gB ((fun _ => false) j)))) → G[30]? = some (x30, .inl (cI, 8, .inl (fun _ => 0))) → G[31]? = some (x31, .inl (cI, 30, .inl (fun _ => 0))) → G[32]? = some (x32, .inl (cI, 30, .inl (fun _ => 0))) → G[33]? = some (x33, .inl (cI, 8, .inl (fun _ => 0))) → G[34]? = some (x34, .inl (cI, 8, .inl (fun _ => 0))) → G[35]? = some (x35, .inl (cI, 8, .inl (fun _ => 0))) → G[36]? = some (x36, .inl (cI, 8, .inl (fun _ => 0))) → G[37]? = some (x37, .inl (cI, 7, .inl (fun j => nI ((fun _ => 0) j)))) → G[38]? = some (x38, .inl (cI, 7, .inl (fun _ => 0))) → G[39]? = some (x39, .inl (cI, 16, .inl (wf))) → G[40]? = some (x40, .inl (cI, 7, .inl (fun j => nI ((fun _ => 0) j)))) → G[41]? = some (x41, .inl (cI, 7, .inl (fun j => nI ((fun _ => 0) j)))) → lv_has ls 3 [(0, .ref x22), (1, .int (nI (i))), (2, .int (nI (j)))] → (∀ (G : va_W) (H : Heap) (locs : List Loc) (ls : Array Slot), va_P D vwCl G H → va_D A G → va_S A s.heap H locs → (∀ j, j ∉ [22, 23, 24, 25, 26, 27, 28, 29, 30, 31, 32, 33, 34, 35, 36, 37, 38, 39, 40, 41] → G[j]? = G0[j]?) → G[22]? = some (x22, .inr (8, [.int (nI (4)), .int (nI (3)), .ref x23, .ref x24, .ref x25, .ref x26, .ref x27, .ref x28, .ref x29, .int (nI (0)), .int (nI (0)), .int (nI (0)), .int ((-6)), .int (nI (0)), .int (nI (0)), .int (nI (0)), .int (gB (false)), .ref x30, .ref x31, .ref x32, .int (nI (0)), .ref x33, .ref x34, .ref x35, .ref x36, .int (nI (0)), .long (0), .long (0), .long (0), .long (0), .long (0), .ref x37, .ref x38, .ref x39, .int (nI (0)), .ref x40, .ref x41])) → G[23]? = some (x23, .inl (cI, 9, .inl (upd (upd (upd (upd (upd (upd (upd (upd (upd (fun _ => 0) (0) (nI (10))) (1) (nI (50))) (2) (nI (10))) (3) (nI (40))) (4) (nI (50))) (5) (nI (10))) (6) (nI (10))) (7) (nI (5))) (8) (nI (2))))) → G[24]? = some (x24, .inl (cI, 8, .inl (fun _ => 0))) → G[25]? = some (x25, .inl (cI, 8, .inl (fun _ => 0))) → G[26]? = some (x26, .inl (cI, 8, .inl (fun _ => 0))) → G[27]? = some (x27, .inl (cI, 40, .inl (fun _ => 0))) → G[28]? = some (x28, .inl (cI, 8000, .inl (fun _ => 0))) → G[29]? = some (x29, .inl (cZ, 1000, .inl (fun j => gB ((fun _ => false) j)))) → G[30]? = some (x30, .inl (cI, 8, .inl (fun _ => 0))) → G[31]? = some (x31, .inl (cI, 30, .inl (fun _ => 0))) → G[32]? = some (x32, .inl (cI, 30, .inl (fun _ => 0))) → G[33]? = some (x33, .inl (cI, 8, .inl (fun _ => 0))) → G[34]? = some (x34, .inl (cI, 8, .inl (fun _ => 0))) → G[35]? = some (x35, .inl (cI, 8, .inl (fun _ => 0))) → G[36]? = some (x36, .inl (cI, 8, .inl (fun _ => 0))) → G[37]? = some (x37, .inl (cI, 7, .inl (fun j => nI ((fun _ => 0) j)))) → G[38]? = some (x38, .inl (cI, 7, .inl (fun _ => 0))) → G[39]? = some (x39, .inl (cI, 16, .inl (gVb i k2 j wf))) → G[40]? = some (x40, .inl (cI, 7, .inl (fun j => nI ((fun _ => 0) j)))) → G[41]? = some (x41, .inl (cI, 7, .inl (fun j => nI ((fun _ => 0) j)))) → lv_has ls 3 [(0, .ref x22), (1, .int (nI (i)))] → W p l e ({ frames := 1, cells := 19, slots := 9217, locals := 21 } : Room) s m args below meth c H locs 19 9217 Q (F0 m 288 ls [])) → W p l e ({ frames := 1, cells := 19, slots := 9217, locals := 21 } : Room) s m args below meth c H locs 19 9217 Q (F0 m 256 ls []) := by
        intro k2
        induction k2 with
        | zero =>
          intro j wf hj G H locs ls hP hD hS hk w22 w23 w24 w25 w26 w27 w28 w29 w30 w31 w32 w33 w34 w35 w36 w37 w38 w39 w40 w41 hl hcont
          refine lv_iload_n (pc := 256) hx hb dX8_init_256 rfl (lv_at hl 2 rfl) ?_
          refine lv_iconst (v := nI (4)) (pc := 257) hx hb dX8_init_257 (by decide) ?_
          refine mx_cge (tgt := 288) (pc := 258) hx hb (by omega) (by omega) dX8_init_258 (by decide) (fun c258 => ?_) (fun c258 => absurd c258 (by omega))
          exact hcont G H locs ls hP hD hS hk w22 w23 w24 w25 w26 w27 w28 w29 w30 w31 w32 w33 w34 w35 w36 w37 w38 w39 w40 w41 (lv_sub hl [0, 1] rfl)
        | succ k2 ih =>
          intro j wf hj G H locs ls hP hD hS hk w22 w23 w24 w25 w26 w27 w28 w29 w30 w31 w32 w33 w34 w35 w36 w37 w38 w39 w40 w41 hl hcont
          refine lv_iload_n (pc := 256) hx hb dX8_init_256 rfl (lv_at hl 2 rfl) ?_
          refine lv_iconst (v := nI (4)) (pc := 257) hx hb dX8_init_257 (by decide) ?_
          refine mx_cge (tgt := 288) (pc := 258) hx hb (by omega) (by omega) dX8_init_258 (by decide) (fun c258 => absurd c258 (by omega)) (fun c258 => ?_)
          refine lv_aload_n (pc := 261) hx hb dX8_init_261 rfl (lv_at hl 0 rfl) ?_
          refine va_get (ci := 8) (C := RX8) (T := TX8) (N := 37) (pc := 262) hx hb hts hiX8 hown hK hP 22 w22 rfl 33 (by decide) (hts (.fieldLink RX8 69 "InkPressModel" "washes" "[I") (by decide +kernel)) (fun _ h9 => h9) rfl dX8_init_262 ?_
          refine lv_iconst (v := nI (4)) (pc := 265) hx hb dX8_init_265 (by decide) ?_
          refine lv_iload_n (pc := 266) hx hb dX8_init_266 rfl (lv_at hl 1 rfl) ?_
          refine mx_imul (pc := 267) hx hb dX8_init_267 ?_
          refine lv_iload_n (pc := 268) hx hb dX8_init_268 rfl (lv_at hl 2 rfl) ?_
          refine mx_iadd (pc := 269) hx hb dX8_init_269 ?_
          refine lv_iload_n (pc := 270) hx hb dX8_init_270 rfl (lv_at hl 1 rfl) ?_
          refine lv_iload_n (pc := 271) hx hb dX8_init_271 rfl (lv_at hl 2 rfl) ?_
          refine mx_cne (tgt := 279) (pc := 272) hx hb (by omega) (by omega) dX8_init_272 (by decide) (fun c272 => ?_) (fun c272 => ?_)
          · skip
            refine lv_bipush (v := nI (10)) (pc := 279) hx hb dX8_init_279 (by decide) ?_
            refine mx_iast (x := nI (10)) (pc := 281) hx hb hK hP hD hS 39 w39 ((4) * (i) + j) (by omega) (by decide) dX8_init_281 (fun H locs G hP hD hS w39 ho => ?_)
            have w22 := (ho 22 (by decide)).trans w22
            have w23 := (ho 23 (by decide)).trans w23
            have w24 := (ho 24 (by decide)).trans w24
            have w25 := (ho 25 (by decide)).trans w25
            have w26 := (ho 26 (by decide)).trans w26
            have w27 := (ho 27 (by decide)).trans w27
            have w28 := (ho 28 (by decide)).trans w28
            have w29 := (ho 29 (by decide)).trans w29
            have w30 := (ho 30 (by decide)).trans w30
            have w31 := (ho 31 (by decide)).trans w31
            have w32 := (ho 32 (by decide)).trans w32
            have w33 := (ho 33 (by decide)).trans w33
            have w34 := (ho 34 (by decide)).trans w34
            have w35 := (ho 35 (by decide)).trans w35
            have w36 := (ho 36 (by decide)).trans w36
            have w37 := (ho 37 (by decide)).trans w37
            have w38 := (ho 38 (by decide)).trans w38
            have w40 := (ho 40 (by decide)).trans w40
            have w41 := (ho 41 (by decide)).trans w41
            have w39 : G[39]? = some (x39, .inl (cI, 16, .inl (upd (wf) ((4) * (i) + j) (nI (10))))) := w39
            have hk := gk_step hk ho (by decide)
            clear ho
            refine lv_iinc (v := nI (j + 1)) (lv' := [(2, .int (nI (j + 1))), (0, .ref x22), (1, .int (nI (i)))]) (pc := 282) hx hb dX8_init_282 hl (k := 2) rfl (mx_inc1 _) (by decide) rfl (fun ls hl => ?_)
            refine lv_goto (tgt := 256) (pc := 285) hx hb dX8_init_285 (by decide) ?_
            rw [gVb_n c272] at hcont
            exact ih (j + 1) (upd (wf) ((4) * (i) + j) (nI (10))) (by omega) G H locs ls hP hD hS hk w22 w23 w24 w25 w26 w27 w28 w29 w30 w31 w32 w33 w34 w35 w36 w37 w38 w39 w40 w41 (lv_sub hl [1, 2, 0] rfl) hcont
          · skip
            refine lv_iconst (v := nI (0)) (pc := 275) hx hb dX8_init_275 (by decide) ?_
            refine lv_goto (tgt := 281) (pc := 276) hx hb dX8_init_276 (by decide) ?_
            refine mx_iast (x := nI (0)) (pc := 281) hx hb hK hP hD hS 39 w39 ((4) * (i) + j) (by omega) (by decide) dX8_init_281 (fun H locs G hP hD hS w39 ho => ?_)
            have w22 := (ho 22 (by decide)).trans w22
            have w23 := (ho 23 (by decide)).trans w23
            have w24 := (ho 24 (by decide)).trans w24
            have w25 := (ho 25 (by decide)).trans w25
            have w26 := (ho 26 (by decide)).trans w26
            have w27 := (ho 27 (by decide)).trans w27
            have w28 := (ho 28 (by decide)).trans w28
            have w29 := (ho 29 (by decide)).trans w29
            have w30 := (ho 30 (by decide)).trans w30
            have w31 := (ho 31 (by decide)).trans w31
            have w32 := (ho 32 (by decide)).trans w32
            have w33 := (ho 33 (by decide)).trans w33
            have w34 := (ho 34 (by decide)).trans w34
            have w35 := (ho 35 (by decide)).trans w35
            have w36 := (ho 36 (by decide)).trans w36
            have w37 := (ho 37 (by decide)).trans w37
            have w38 := (ho 38 (by decide)).trans w38
            have w40 := (ho 40 (by decide)).trans w40
            have w41 := (ho 41 (by decide)).trans w41
            have w39 : G[39]? = some (x39, .inl (cI, 16, .inl (upd (wf) ((4) * (i) + j) (nI (0))))) := w39
            have hk := gk_step hk ho (by decide)
            clear ho
            refine lv_iinc (v := nI (j + 1)) (lv' := [(2, .int (nI (j + 1))), (0, .ref x22), (1, .int (nI (i)))]) (pc := 282) hx hb dX8_init_282 hl (k := 2) rfl (mx_inc1 _) (by decide) rfl (fun ls hl => ?_)
            refine lv_goto (tgt := 256) (pc := 285) hx hb dX8_init_285 (by decide) ?_
            rw [gVb_e c272] at hcont
            exact ih (j + 1) (upd (wf) ((4) * (i) + j) (nI (0))) (by omega) G H locs ls hP hD hS hk w22 w23 w24 w25 w26 w27 w28 w29 w30 w31 w32 w33 w34 w35 w36 w37 w38 w39 w40 w41 (lv_sub hl [1, 2, 0] rfl) hcont
      refine LJ 4 (0) (wf) (by omega) G H locs ls hP hD hS hk w22 w23 w24 w25 w26 w27 w28 w29 w30 w31 w32 w33 w34 w35 w36 w37 w38 w39 w40 w41 (lv_sub hl [1, 2, 0] rfl) (fun G H locs ls hP hD hS hk w22 w23 w24 w25 w26 w27 w28 w29 w30 w31 w32 w33 w34 w35 w36 w37 w38 w39 w40 w41 hl => ?_)
      have w39 : G[39]? = some (x39, .inl (cI, 16, .inl (gVb i (4) (0) (wf)))) := w39
      refine lv_iinc (v := nI (i + 1)) (lv' := [(1, .int (nI (i + 1))), (0, .ref x22)]) (pc := 288) hx hb dX8_init_288 hl (k := 1) rfl (mx_inc1 _) (by decide) rfl (fun ls hl => ?_)
      refine lv_goto (tgt := 249) (pc := 291) hx hb dX8_init_291 (by decide) ?_
      exact ih (i + 1) (gVb i (4) (0) (wf)) (by omega) G H locs ls hP hD hS hk w22 w23 w24 w25 w26 w27 w28 w29 w30 w31 w32 w33 w34 w35 w36 w37 w38 w39 w40 w41 (lv_sub hl [1, 0] rfl) hcont
  refine LP 4 (0) ((fun _ => 0)) (by omega) G H locs ls hP hD hS hk w22 w23 w24 w25 w26 w27 w28 w29 w30 w31 w32 w33 w34 w35 w36 w37 w38 w39 w40 w41 (lv_sub hl [1, 0] rfl) (fun G H locs ls hP hD hS hk w22 w23 w24 w25 w26 w27 w28 w29 w30 w31 w32 w33 w34 w35 w36 w37 w38 w39 w40 w41 hl => ?_)
  have w39 : G[39]? = some (x39, .inl (cI, 16, .inl (gVa (4) (0) ((fun _ => 0))))) := w39
  refine lv_aload_n (pc := 294) hx hb dX8_init_294 rfl (lv_at hl 0 rfl) ?_
  refine mx_cVv (As := []) (rest := []) (pc := 295) ⟨hx, hb, hml, hown, hts⟩ (k_X8_begin (a := (fun k => if k = 23 then x23 else if k = 24 then x24 else if k = 25 then x25 else if k = 26 then x26 else if k = 27 then x27 else if k = 28 then x28 else if k = 29 then x29 else if k = 30 then x30 else if k = 31 then x31 else if k = 32 then x32 else if k = 33 then x33 else if k = 34 then x34 else if k = 35 then x35 else if k = 36 then x36 else if k = 37 then x37 else if k = 38 then x38 else if k = 39 then x39 else if k = 40 then x40 else if k = 41 then x41 else x22)) (zn := 4) (tr := 3) (sc := 0) (pn := 0) (mn := 0) (jn := 0) (sg := nI (0)) (sr := nI (0)) (ss := (-6)) (fed := nI (0)) (pap := nI (0)) (bar := nI (0)) (st := false) (q1 := 0) (q2 := 0) (q3 := 0) (q4 := 0) (q5 := 0) (ke := fun _ => 0) (cv := fun _ => 0) (tg := fun _ => 0) (ink := fun _ => 0) hD w22 w24 w25 w26 w27 ) (cwV 0 hts gX8_init_X8_begin rfl rfl rfl (by decide +kernel) ⟨Nat.le_of_ble_eq_true rfl, Nat.le_of_ble_eq_true rfl⟩) 22 rfl rfl w22 hK hN hZ hP hS rfl hl.1 rfl (Nat.le_of_ble_eq_true rfl) dX8_init_295 ⟨Nat.le_of_ble_eq_true rfl, Nat.le_of_ble_eq_true rfl⟩ (fun G H locs hP hD hS hB => ?_)
  obtain ⟨w22, w24, w25, w26, w27, ho⟩ := hB
  have w22 : G[22]? = some (x22, .inr (8, [.int (nI ((4))), .int (nI ((3))), .ref x23, .ref x24, .ref x25, .ref x26, .ref x27, .ref x28, .ref x29, .int (nI (0)), .int (nI (0)), .int (nI (0)), .int ((-6)), .int (nI (0)), .int (nI (0)), .int (nI (0)), .int (gB (false)), .ref x30, .ref x31, .ref x32, .int (nI ((0))), .ref x33, .ref x34, .ref x35, .ref x36, .int (nI ((0))), .long ((0)), .long ((0)), .long ((0)), .long ((0)), .long ((0)), .ref x37, .ref x38, .ref x39, .int (nI ((0))), .ref x40, .ref x41])) := w22
  have w23 := (ho 23 (by decide)).trans w23
  have w24 : G[24]? = some (x24, .inl (cI, 8, .inl (gFil (nI 0) 8 0 (fun _ => 0)))) := w24
  have w25 : G[25]? = some (x25, .inl (cI, 8, .inl (gFil (nI 20) 8 0 (fun _ => 0)))) := w25
  have w26 : G[26]? = some (x26, .inl (cI, 8, .inl (gFil (nI 100) 8 0 (fun _ => 0)))) := w26
  have w27 : G[27]? = some (x27, .inl (cI, 40, .inl (gClr 40 0 (fun _ => 0)))) := w27
  have w28 := (ho 28 (by decide)).trans w28
  have w29 := (ho 29 (by decide)).trans w29
  have w30 := (ho 30 (by decide)).trans w30
  have w31 := (ho 31 (by decide)).trans w31
  have w32 := (ho 32 (by decide)).trans w32
  have w33 := (ho 33 (by decide)).trans w33
  have w34 := (ho 34 (by decide)).trans w34
  have w35 := (ho 35 (by decide)).trans w35
  have w36 := (ho 36 (by decide)).trans w36
  have w37 := (ho 37 (by decide)).trans w37
  have w38 := (ho 38 (by decide)).trans w38
  have w39 := (ho 39 (by decide)).trans w39
  have w40 := (ho 40 (by decide)).trans w40
  have w41 := (ho 41 (by decide)).trans w41
  have hk := gk_call hk ho (by decide)
  clear ho
  exact hret _ _ _ _ _ hP hD hS ⟨x23, x24, x25, x26, x27, x28, x29, x30, x31, x32, x33, x34, x35, x36, x37, x38, x39, x40, x41, w22, w23, w24, w25, w26, w27, w28, w29, w30, w31, w32, w33, w34, w35, w36, w37, w38, w39, w40, w41, hk⟩ dX8_init_298
