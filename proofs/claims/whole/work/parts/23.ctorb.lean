/-! constructors -/
set_option maxHeartbeats 4000000 in
set_option maxRecDepth 100000 in
theorem k_X5_init {l : Launch} {D : va_G} {cI cZ : ClassId} {A : Nat → Prop} {g : Nat → Nat} {G0 : va_W} {x5 : Nat} (hD : va_D A G0) (w5 : G0[5]? = some (x5, .inr (5, [.null, .int (nI (0)), .int (nI (0)), .int (nI (0)), .int (nI (0)), .int (nI (0))]))) (hn : ∀ k, 6 ≤ k → G0[k]? = none) : gNv l D cI cZ A g yX5_init wsX5_init ({ frames := 1, cells := 1, slots := 40, locals := 23 }) [.ref x5] G0 (fun G1 => ∃ x6 : Nat, G1[5]? = some (x5, .inr (5, [.ref x6, .int (nI ((4))), .int (nI ((3))), .int (nI (0)), .int (nI (0)), .int (nI (0))])) ∧ G1[6]? = some (x6, .inl (cI, 40, .inl (gClr 40 0 (fun _ => 0)))) ∧ ∀ k, k ∉ [5, 6] → G1[k]? = G0[k]?) 1 40 := by
  refine gofN (cc := cX5_init) (maxL := 1) (by decide) rfl rfl (Nat.le_of_ble_eq_true rfl) ?_
  intro p e s m args below meth c Q hx hb hml hts hown hin hK hN hZ hA hE hP hS hret ls hl
  have hown : s.vm.findClass RX5 = some m.cls := hown
  have hl : lv_has ls 1 [(0, .ref x5)] := hl
  obtain ⟨locs, elocs⟩ : ∃ q : List Loc, q = [] := ⟨_, rfl⟩
  rw [← elocs] at hS ⊢
  obtain ⟨H, eH⟩ : ∃ q : Heap, q = s.heap := ⟨_, rfl⟩
  have hP : va_P D vwCl G0 H := eH ▸ hP
  have hS : va_S A s.heap H locs := by rw [eH]; exact hS
  rw [← eH]
  clear elocs eH
  have hobj : Cond.code objectInit ⟨#[0xb1]⟩ 1 none ∈ wsX5_init := List.mem_of_getElem? (i := 3) rfl
  have hiX5 : ∀ w ∈ u_ws RX5 TX5 6, w ∈ wsX5_init := by decide +kernel
  have hk : ∀ k, k ∉ [5, 6] → G0[k]? = G0[k]? := fun _ _ => rfl
  refine lv_aload_n (pc := 0) hx hb dX5_init_0 rfl (lv_at hl 0 rfl) ?_
  refine W.objInit hx hb hown (hts (.methodLink RX5 3 objectInit) (by decide +kernel)) (hts (.instanceMethod objectInit) (by decide +kernel)) (hts _ hobj) rfl (by rw [hml]; exact hl.1) rfl dX5_init_1 (Nat.le_of_ble_eq_true rfl) (Nat.le_of_ble_eq_true rfl) ?_
  refine W.eq (g2 := F0 m 4 ls []) rfl ?_
  refine lv_aload_n (pc := 4) hx hb dX5_init_4 rfl (lv_at hl 0 rfl) ?_
  refine lv_bipush (v := nI (40)) (pc := 5) hx hb dX5_init_5 (by decide) ?_
  refine mx_newa (atype := .int) (ty := .int) (f := (fun _ => 0)) (pc := 7) hx hb (hts (.arrayClass .int) (by decide +kernel)) rfl (by decide) 0 rfl hK hP hD hS hA 40 (fun cA => gHf_I cA 40) (by decide) (by decide) (Nat.le_of_ble_eq_true rfl) (Nat.le_of_ble_eq_true rfl) 6 (glen w5 (hn 6 (by omega))) dX5_init_7 (fun x6 H G hP hD hS w6 ho => ?_)
  refine W.widen (k := 1) (n := 40) (Nat.le_of_ble_eq_true rfl) (Nat.le_of_ble_eq_true rfl) ?_
  have w5 := (ho 5 (by decide)).trans w5
  have w6 : G[6]? = some (x6, .inl (cI, 40, .inl (fun _ => 0))) := w6
  have hk := gk_step hk ho (by decide)
  have hn : ∀ k, 7 ≤ k → G[k]? = none := fun k q => (ho k (by omega)).trans (hn k (by omega))
  clear ho
  refine mx_putF (ci := 5) (v := .ref x6) (ty := .array .int) (C := RX5) (T := TX5) (N := 6) (pc := 9) hx hb hts hiX5 tyX5 tyX5_ok nmX5 hown hK hP hD hS 5 w5 rfl 0 (by decide) (hts (.fieldLink RX5 9 "InkPress$Train" "ink" "[I") (by decide +kernel)) (fun _ h9 => h9) rfl hin rfl (by decide +kernel) rfl rfl (Nat.le_of_ble_eq_true rfl) dX5_init_9 (fun H locs G hP hD hS w5 ho => ?_)
  have w6 := (ho 6 (by decide)).trans w6
  have w5 : G[5]? = some (x5, .inr (5, [.ref x6, .int (nI (0)), .int (nI (0)), .int (nI (0)), .int (nI (0)), .int (nI (0))])) := w5
  have hk := gk_step hk ho (by decide)
  have hn : ∀ k, 7 ≤ k → G[k]? = none := fun k q => (ho k (by omega)).trans (hn k (by omega))
  clear ho
  refine lv_aload_n (pc := 12) hx hb dX5_init_12 rfl (lv_at hl 0 rfl) ?_
  refine lv_iconst (v := nI (4)) (pc := 13) hx hb dX5_init_13 (by decide) ?_
  refine lv_iconst (v := nI (3)) (pc := 14) hx hb dX5_init_14 (by decide) ?_
  refine mx_cVv (As := [.int (nI (4)), .int (nI (3))]) (rest := []) (pc := 15) ⟨hx, hb, hml, hown, hts⟩ (k_X5_restart (a := (fun k => if k = 6 then x6 else x5)) (ink := fun _ => 0) (tz := 0) (tr := 0) (fed := nI (0)) (pap := nI (0)) (bar := nI (0)) (n := 4) (r := 3) hD w5 w6 ) (cwV 2 hts gX5_init_X5_restart rfl rfl rfl (by decide +kernel) ⟨Nat.le_of_ble_eq_true rfl, Nat.le_of_ble_eq_true rfl⟩) 5 rfl rfl w5 hK hN hZ hP hS rfl hl.1 rfl (Nat.le_of_ble_eq_true rfl) dX5_init_15 ⟨Nat.le_of_ble_eq_true rfl, Nat.le_of_ble_eq_true rfl⟩ (fun G H locs hP hD hS hB => ?_)
  obtain ⟨w5, w6, ho⟩ := hB
  have w5 : G[5]? = some (x5, .inr (5, [.ref x6, .int (nI ((4))), .int (nI ((3))), .int (nI (0)), .int (nI (0)), .int (nI (0))])) := w5
  have w6 : G[6]? = some (x6, .inl (cI, 40, .inl (gClr 40 0 (fun _ => 0)))) := w6
  have hk := gk_call hk ho (by decide)
  have hn : ∀ k, 7 ≤ k → G[k]? = none := fun k q => (ho k (by simp only [List.mem_cons, List.not_mem_nil, or_false]; omega)).trans (hn k (by omega))
  clear ho
  exact hret _ _ _ _ _ hP hD hS ⟨x6, w5, w6, hk⟩ dX5_init_18
set_option maxHeartbeats 4000000 in
set_option maxRecDepth 100000 in
theorem k_X4_init {l : Launch} {D : va_G} {cI cZ : ClassId} {A : Nat → Prop} {g : Nat → Nat} {G0 : va_W} {x7 : Nat} (hD : va_D A G0) (w7 : G0[7]? = some (x7, .inr (4, [.null, .null, .int (nI (0)), .int (nI (0)), .int (nI (0)), .int (nI (0))]))) (hn : ∀ k, 8 ≤ k → G0[k]? = none) : gNv l D cI cZ A g yX4_init wsX4_init ({ frames := 1, cells := 2, slots := 9000, locals := 20 }) [.ref x7] G0 (fun G1 => ∃ x8 : Nat, ∃ x9 : Nat, G1[7]? = some (x7, .inr (4, [.ref x8, .ref x9, .int (nI (0)), .int (nI (0)), .int (nI (0)), .int ((-6))])) ∧ G1[8]? = some (x8, .inl (cI, 8000, .inl (fun _ => 0))) ∧ G1[9]? = some (x9, .inl (cZ, 1000, .inl (fun j => gB ((fun _ => false) j)))) ∧ ∀ k, k ∉ [7, 8, 9] → G1[k]? = G0[k]?) 2 9000 := by
  refine gofN (cc := cX4_init) (maxL := 1) (by decide) rfl rfl (Nat.le_of_ble_eq_true rfl) ?_
  intro p e s m args below meth c Q hx hb hml hts hown hin hK hN hZ hA hE hP hS hret ls hl
  have hown : s.vm.findClass RX4 = some m.cls := hown
  have hl : lv_has ls 1 [(0, .ref x7)] := hl
  obtain ⟨locs, elocs⟩ : ∃ q : List Loc, q = [] := ⟨_, rfl⟩
  rw [← elocs] at hS ⊢
  obtain ⟨H, eH⟩ : ∃ q : Heap, q = s.heap := ⟨_, rfl⟩
  have hP : va_P D vwCl G0 H := eH ▸ hP
  have hS : va_S A s.heap H locs := by rw [eH]; exact hS
  rw [← eH]
  clear elocs eH
  have hobj : Cond.code objectInit ⟨#[0xb1]⟩ 1 none ∈ wsX4_init := List.mem_of_getElem? (i := 3) rfl
  have hiX4 : ∀ w ∈ u_ws RX4 TX4 6, w ∈ wsX4_init := by decide +kernel
  have hk : ∀ k, k ∉ [7, 8, 9] → G0[k]? = G0[k]? := fun _ _ => rfl
  refine lv_aload_n (pc := 0) hx hb dX4_init_0 rfl (lv_at hl 0 rfl) ?_
  refine W.objInit hx hb hown (hts (.methodLink RX4 3 objectInit) (by decide +kernel)) (hts (.instanceMethod objectInit) (by decide +kernel)) (hts _ hobj) rfl (by rw [hml]; exact hl.1) rfl dX4_init_1 (Nat.le_of_ble_eq_true rfl) (Nat.le_of_ble_eq_true rfl) ?_
  refine W.eq (g2 := F0 m 4 ls []) rfl ?_
  refine lv_aload_n (pc := 4) hx hb dX4_init_4 rfl (lv_at hl 0 rfl) ?_
  refine lv_sipush (v := nI (8000)) (pc := 5) hx hb dX4_init_5 (by decide) ?_
  refine mx_newa (atype := .int) (ty := .int) (f := (fun _ => 0)) (pc := 8) hx hb (hts (.arrayClass .int) (by decide +kernel)) rfl (by decide) 0 rfl hK hP hD hS hA 8000 (fun cA => gHf_I cA 8000) (by decide) (by decide) (Nat.le_of_ble_eq_true rfl) (Nat.le_of_ble_eq_true rfl) 8 (glen w7 (hn 8 (by omega))) dX4_init_8 (fun x8 H G hP hD hS w8 ho => ?_)
  refine W.widen (k := 1) (n := 8000) (Nat.le_of_ble_eq_true rfl) (Nat.le_of_ble_eq_true rfl) ?_
  have w7 := (ho 7 (by decide)).trans w7
  have w8 : G[8]? = some (x8, .inl (cI, 8000, .inl (fun _ => 0))) := w8
  have hk := gk_step hk ho (by decide)
  have hn : ∀ k, 9 ≤ k → G[k]? = none := fun k q => (ho k (by omega)).trans (hn k (by omega))
  clear ho
  refine mx_putF (ci := 4) (v := .ref x8) (ty := .array .int) (C := RX4) (T := TX4) (N := 6) (pc := 10) hx hb hts hiX4 tyX4 tyX4_ok nmX4 hown hK hP hD hS 7 w7 rfl 0 (by decide) (hts (.fieldLink RX4 9 "InkPress$SheetLog" "densities" "[I") (by decide +kernel)) (fun _ h9 => h9) rfl hin rfl (by decide +kernel) rfl rfl (Nat.le_of_ble_eq_true rfl) dX4_init_10 (fun H locs G hP hD hS w7 ho => ?_)
  have w8 := (ho 8 (by decide)).trans w8
  have w7 : G[7]? = some (x7, .inr (4, [.ref x8, .null, .int (nI (0)), .int (nI (0)), .int (nI (0)), .int (nI (0))])) := w7
  have hk := gk_step hk ho (by decide)
  have hn : ∀ k, 9 ≤ k → G[k]? = none := fun k q => (ho k (by omega)).trans (hn k (by omega))
  clear ho
  refine lv_aload_n (pc := 13) hx hb dX4_init_13 rfl (lv_at hl 0 rfl) ?_
  refine lv_sipush (v := nI (1000)) (pc := 14) hx hb dX4_init_14 (by decide) ?_
  refine mx_newa (atype := .boolean) (ty := .boolean) (f := (fun j => gB ((fun _ => false) j))) (pc := 17) hx hb (hts (.arrayClass .boolean) (by decide +kernel)) rfl (by decide) 1 rfl hK hP hD hS hA 1000 (fun cA => gHf_Z cA 1000) (by decide) (by decide) (Nat.le_of_ble_eq_true rfl) (Nat.le_of_ble_eq_true rfl) 9 (glen w8 (hn 9 (by omega))) dX4_init_17 (fun x9 H G hP hD hS w9 ho => ?_)
  refine W.widen (k := 2) (n := 9000) (Nat.le_of_ble_eq_true rfl) (Nat.le_of_ble_eq_true rfl) ?_
  have w7 := (ho 7 (by decide)).trans w7
  have w8 := (ho 8 (by decide)).trans w8
  have w9 : G[9]? = some (x9, .inl (cZ, 1000, .inl (fun j => gB ((fun _ => false) j)))) := w9
  have hk := gk_step hk ho (by decide)
  have hn : ∀ k, 10 ≤ k → G[k]? = none := fun k q => (ho k (by omega)).trans (hn k (by omega))
  clear ho
  refine mx_putF (ci := 4) (v := .ref x9) (ty := .array .boolean) (C := RX4) (T := TX4) (N := 6) (pc := 19) hx hb hts hiX4 tyX4 tyX4_ok nmX4 hown hK hP hD hS 7 w7 rfl 1 (by decide) (hts (.fieldLink RX4 15 "InkPress$SheetLog" "good" "[Z") (by decide +kernel)) (fun _ h9 => h9) rfl hin rfl (by decide +kernel) rfl rfl (Nat.le_of_ble_eq_true rfl) dX4_init_19 (fun H locs G hP hD hS w7 ho => ?_)
  have w8 := (ho 8 (by decide)).trans w8
  have w9 := (ho 9 (by decide)).trans w9
  have w7 : G[7]? = some (x7, .inr (4, [.ref x8, .ref x9, .int (nI (0)), .int (nI (0)), .int (nI (0)), .int (nI (0))])) := w7
  have hk := gk_step hk ho (by decide)
  have hn : ∀ k, 10 ≤ k → G[k]? = none := fun k q => (ho k (by omega)).trans (hn k (by omega))
  clear ho
  refine lv_aload_n (pc := 22) hx hb dX4_init_22 rfl (lv_at hl 0 rfl) ?_
  refine mx_cVv (As := []) (rest := []) (pc := 23) ⟨hx, hb, hml, hown, hts⟩ (k_X4_restart (a := (fun k => if k = 8 then x8 else if k = 9 then x9 else x7)) (den := fun _ => 0) (go := fun _ => false) (sc := 0) (sg := nI (0)) (sr := nI (0)) (ss := nI (0)) hD w7 w8 w9 ) (cwV 0 hts gX4_init_X4_restart rfl rfl rfl (by decide +kernel) ⟨Nat.le_of_ble_eq_true rfl, Nat.le_of_ble_eq_true rfl⟩) 7 rfl rfl w7 hK hN hZ hP hS rfl hl.1 rfl (Nat.le_of_ble_eq_true rfl) dX4_init_23 ⟨Nat.le_of_ble_eq_true rfl, Nat.le_of_ble_eq_true rfl⟩ (fun G H locs hP hD hS hB => ?_)
  obtain ⟨w7, ho⟩ := hB
  have w7 : G[7]? = some (x7, .inr (4, [.ref x8, .ref x9, .int (nI (0)), .int (nI (0)), .int (nI (0)), .int ((-6))])) := w7
  have w8 := (ho 8 (by decide)).trans w8
  have w9 := (ho 9 (by decide)).trans w9
  have hk := gk_call hk ho (by decide)
  have hn : ∀ k, 10 ≤ k → G[k]? = none := fun k q => (ho k (by simp only [List.mem_cons, List.not_mem_nil, or_false]; omega)).trans (hn k (by omega))
  clear ho
  exact hret _ _ _ _ _ hP hD hS ⟨x8, x9, w7, w8, w9, hk⟩ dX4_init_26
set_option maxHeartbeats 4000000 in
set_option maxRecDepth 100000 in
theorem k_X2_init {l : Launch} {D : va_G} {cI cZ : ClassId} {A : Nat → Prop} {g : Nat → Nat} {G0 : va_W} {x10 : Nat} (hD : va_D A G0) (w10 : G0[10]? = some (x10, .inr (2, [.int (nI (0)), .long (0), .long (0), .long (0), .long (0)]))) (hn : ∀ k, 11 ≤ k → G0[k]? = none) : gNv l D cI cZ A g yX2_init wsX2_init ({ frames := 1, cells := 0, slots := 0, locals := 12 }) [.ref x10] G0 (fun G1 => G1[10]? = some (x10, .inr (2, [.int (nI (0)), .long (0), .long (0), .long (0), .long (0)])) ∧ ∀ k, k ∉ [10] → G1[k]? = G0[k]?) 0 0 := by
  refine gofN (cc := cX2_init) (maxL := 1) (by decide) rfl rfl (Nat.le_of_ble_eq_true rfl) ?_
  intro p e s m args below meth c Q hx hb hml hts hown hin hK hN hZ hA hE hP hS hret ls hl
  have hown : s.vm.findClass RX2 = some m.cls := hown
  have hl : lv_has ls 1 [(0, .ref x10)] := hl
  obtain ⟨locs, elocs⟩ : ∃ q : List Loc, q = [] := ⟨_, rfl⟩
  rw [← elocs] at hS ⊢
  obtain ⟨H, eH⟩ : ∃ q : Heap, q = s.heap := ⟨_, rfl⟩
  have hP : va_P D vwCl G0 H := eH ▸ hP
  have hS : va_S A s.heap H locs := by rw [eH]; exact hS
  rw [← eH]
  clear elocs eH
  have hobj : Cond.code objectInit ⟨#[0xb1]⟩ 1 none ∈ wsX2_init := List.mem_of_getElem? (i := 3) rfl
  have hiX2 : ∀ w ∈ u_ws RX2 TX2 5, w ∈ wsX2_init := by decide +kernel
  have hk : ∀ k, k ∉ [10] → G0[k]? = G0[k]? := fun _ _ => rfl
  refine lv_aload_n (pc := 0) hx hb dX2_init_0 rfl (lv_at hl 0 rfl) ?_
  refine W.objInit hx hb hown (hts (.methodLink RX2 3 objectInit) (by decide +kernel)) (hts (.instanceMethod objectInit) (by decide +kernel)) (hts _ hobj) rfl (by rw [hml]; exact hl.1) rfl dX2_init_1 (Nat.le_of_ble_eq_true rfl) (Nat.le_of_ble_eq_true rfl) ?_
  refine W.eq (g2 := F0 m 4 ls []) rfl ?_
  refine lv_aload_n (pc := 4) hx hb dX2_init_4 rfl (lv_at hl 0 rfl) ?_
  refine lv_iconst (v := nI (0)) (pc := 5) hx hb dX2_init_5 (by decide) ?_
  refine mx_put (ci := 2) (v := .int (nI (0))) (ty := .int) (C := RX2) (T := TX2) (N := 5) (pc := 6) hx hb hts hiX2 tyX2 tyX2_ok nmX2 hown hK hP hD hS 10 w10 rfl 0 (by decide) (hts (.fieldLink RX2 9 "InkPress$PastJobs" "count" "I") (by decide +kernel)) (fun _ h9 => h9) rfl (by decide +kernel) rfl rfl (Nat.le_of_ble_eq_true rfl) dX2_init_6 (fun H locs G hP hD hS w10 ho => ?_)
  have w10 : G[10]? = some (x10, .inr (2, [.int (nI (0)), .long (0), .long (0), .long (0), .long (0)])) := w10
  have hk := gk_step hk ho (by decide)
  have hn : ∀ k, 11 ≤ k → G[k]? = none := fun k q => (ho k (by omega)).trans (hn k (by omega))
  clear ho
  exact hret _ _ _ _ _ hP hD hS ⟨w10, hk⟩ dX2_init_9
set_option maxHeartbeats 4000000 in
set_option maxRecDepth 100000 in
theorem k_X1_init {l : Launch} {D : va_G} {cI cZ : ClassId} {A : Nat → Prop} {g : Nat → Nat} {G0 : va_W} {x11 : Nat} (hD : va_D A G0) (w11 : G0[11]? = some (x11, .inr (1, [.null, .null, .null, .null, .int (nI (0)), .long (0), .long (0), .long (0), .long (0), .long (0), .long (0), .long (0)]))) (hn : ∀ k, 12 ≤ k → G0[k]? = none) : gNv l D cI cZ A g yX1_init wsX1_init ({ frames := 1, cells := 4, slots := 32, locals := 12 }) [.ref x11] G0 (fun G1 => ∃ x12 : Nat, ∃ x13 : Nat, ∃ x14 : Nat, ∃ x15 : Nat, G1[11]? = some (x11, .inr (1, [.ref x12, .ref x13, .ref x14, .ref x15, .int (nI (0)), .long (0), .long (0), .long (0), .long (0), .long (0), .long (0), .long (0)])) ∧ G1[12]? = some (x12, .inl (cI, 8, .inl (fun _ => 0))) ∧ G1[13]? = some (x13, .inl (cI, 8, .inl (fun _ => 0))) ∧ G1[14]? = some (x14, .inl (cI, 8, .inl (fun _ => 0))) ∧ G1[15]? = some (x15, .inl (cI, 8, .inl (fun _ => 0))) ∧ ∀ k, k ∉ [11, 12, 13, 14, 15] → G1[k]? = G0[k]?) 4 32 := by
  refine gofN (cc := cX1_init) (maxL := 1) (by decide) rfl rfl (Nat.le_of_ble_eq_true rfl) ?_
  intro p e s m args below meth c Q hx hb hml hts hown hin hK hN hZ hA hE hP hS hret ls hl
  have hown : s.vm.findClass RX1 = some m.cls := hown
  have hl : lv_has ls 1 [(0, .ref x11)] := hl
  obtain ⟨locs, elocs⟩ : ∃ q : List Loc, q = [] := ⟨_, rfl⟩
  rw [← elocs] at hS ⊢
  obtain ⟨H, eH⟩ : ∃ q : Heap, q = s.heap := ⟨_, rfl⟩
  have hP : va_P D vwCl G0 H := eH ▸ hP
  have hS : va_S A s.heap H locs := by rw [eH]; exact hS
  rw [← eH]
  clear elocs eH
  have hobj : Cond.code objectInit ⟨#[0xb1]⟩ 1 none ∈ wsX1_init := List.mem_of_getElem? (i := 3) rfl
  have hiX1 : ∀ w ∈ u_ws RX1 TX1 12, w ∈ wsX1_init := by decide +kernel
  have hk : ∀ k, k ∉ [11, 12, 13, 14, 15] → G0[k]? = G0[k]? := fun _ _ => rfl
  refine lv_aload_n (pc := 0) hx hb dX1_init_0 rfl (lv_at hl 0 rfl) ?_
  refine W.objInit hx hb hown (hts (.methodLink RX1 3 objectInit) (by decide +kernel)) (hts (.instanceMethod objectInit) (by decide +kernel)) (hts _ hobj) rfl (by rw [hml]; exact hl.1) rfl dX1_init_1 (Nat.le_of_ble_eq_true rfl) (Nat.le_of_ble_eq_true rfl) ?_
  refine W.eq (g2 := F0 m 4 ls []) rfl ?_
  refine lv_aload_n (pc := 4) hx hb dX1_init_4 rfl (lv_at hl 0 rfl) ?_
  refine lv_bipush (v := nI (8)) (pc := 5) hx hb dX1_init_5 (by decide) ?_
  refine mx_newa (atype := .int) (ty := .int) (f := (fun _ => 0)) (pc := 7) hx hb (hts (.arrayClass .int) (by decide +kernel)) rfl (by decide) 0 rfl hK hP hD hS hA 8 (fun cA => gHf_I cA 8) (by decide) (by decide) (Nat.le_of_ble_eq_true rfl) (Nat.le_of_ble_eq_true rfl) 12 (glen w11 (hn 12 (by omega))) dX1_init_7 (fun x12 H G hP hD hS w12 ho => ?_)
  refine W.widen (k := 1) (n := 8) (Nat.le_of_ble_eq_true rfl) (Nat.le_of_ble_eq_true rfl) ?_
  have w11 := (ho 11 (by decide)).trans w11
  have w12 : G[12]? = some (x12, .inl (cI, 8, .inl (fun _ => 0))) := w12
  have hk := gk_step hk ho (by decide)
  have hn : ∀ k, 13 ≤ k → G[k]? = none := fun k q => (ho k (by omega)).trans (hn k (by omega))
  clear ho
  refine mx_putF (ci := 1) (v := .ref x12) (ty := .array .int) (C := RX1) (T := TX1) (N := 12) (pc := 9) hx hb hts hiX1 tyX1 tyX1_ok nmX1 hown hK hP hD hS 11 w11 rfl 0 (by decide) (hts (.fieldLink RX1 11 "InkPress$Marks" "x" "[I") (by decide +kernel)) (fun _ h9 => h9) rfl hin rfl (by decide +kernel) rfl rfl (Nat.le_of_ble_eq_true rfl) dX1_init_9 (fun H locs G hP hD hS w11 ho => ?_)
  have w12 := (ho 12 (by decide)).trans w12
  have w11 : G[11]? = some (x11, .inr (1, [.ref x12, .null, .null, .null, .int (nI (0)), .long (0), .long (0), .long (0), .long (0), .long (0), .long (0), .long (0)])) := w11
  have hk := gk_step hk ho (by decide)
  have hn : ∀ k, 13 ≤ k → G[k]? = none := fun k q => (ho k (by omega)).trans (hn k (by omega))
  clear ho
  refine lv_aload_n (pc := 12) hx hb dX1_init_12 rfl (lv_at hl 0 rfl) ?_
  refine lv_bipush (v := nI (8)) (pc := 13) hx hb dX1_init_13 (by decide) ?_
  refine mx_newa (atype := .int) (ty := .int) (f := (fun _ => 0)) (pc := 15) hx hb (hts (.arrayClass .int) (by decide +kernel)) rfl (by decide) 0 rfl hK hP hD hS hA 8 (fun cA => gHf_I cA 8) (by decide) (by decide) (Nat.le_of_ble_eq_true rfl) (Nat.le_of_ble_eq_true rfl) 13 (glen w12 (hn 13 (by omega))) dX1_init_15 (fun x13 H G hP hD hS w13 ho => ?_)
  refine W.widen (k := 2) (n := 16) (Nat.le_of_ble_eq_true rfl) (Nat.le_of_ble_eq_true rfl) ?_
  have w11 := (ho 11 (by decide)).trans w11
  have w12 := (ho 12 (by decide)).trans w12
  have w13 : G[13]? = some (x13, .inl (cI, 8, .inl (fun _ => 0))) := w13
  have hk := gk_step hk ho (by decide)
  have hn : ∀ k, 14 ≤ k → G[k]? = none := fun k q => (ho k (by omega)).trans (hn k (by omega))
  clear ho
  refine mx_putF (ci := 1) (v := .ref x13) (ty := .array .int) (C := RX1) (T := TX1) (N := 12) (pc := 17) hx hb hts hiX1 tyX1 tyX1_ok nmX1 hown hK hP hD hS 11 w11 rfl 1 (by decide) (hts (.fieldLink RX1 15 "InkPress$Marks" "y" "[I") (by decide +kernel)) (fun _ h9 => h9) rfl hin rfl (by decide +kernel) rfl rfl (Nat.le_of_ble_eq_true rfl) dX1_init_17 (fun H locs G hP hD hS w11 ho => ?_)
  have w12 := (ho 12 (by decide)).trans w12
  have w13 := (ho 13 (by decide)).trans w13
  have w11 : G[11]? = some (x11, .inr (1, [.ref x12, .ref x13, .null, .null, .int (nI (0)), .long (0), .long (0), .long (0), .long (0), .long (0), .long (0), .long (0)])) := w11
  have hk := gk_step hk ho (by decide)
  have hn : ∀ k, 14 ≤ k → G[k]? = none := fun k q => (ho k (by omega)).trans (hn k (by omega))
  clear ho
  refine lv_aload_n (pc := 20) hx hb dX1_init_20 rfl (lv_at hl 0 rfl) ?_
  refine lv_bipush (v := nI (8)) (pc := 21) hx hb dX1_init_21 (by decide) ?_
  refine mx_newa (atype := .int) (ty := .int) (f := (fun _ => 0)) (pc := 23) hx hb (hts (.arrayClass .int) (by decide +kernel)) rfl (by decide) 0 rfl hK hP hD hS hA 8 (fun cA => gHf_I cA 8) (by decide) (by decide) (Nat.le_of_ble_eq_true rfl) (Nat.le_of_ble_eq_true rfl) 14 (glen w13 (hn 14 (by omega))) dX1_init_23 (fun x14 H G hP hD hS w14 ho => ?_)
  refine W.widen (k := 3) (n := 24) (Nat.le_of_ble_eq_true rfl) (Nat.le_of_ble_eq_true rfl) ?_
  have w11 := (ho 11 (by decide)).trans w11
  have w12 := (ho 12 (by decide)).trans w12
  have w13 := (ho 13 (by decide)).trans w13
  have w14 : G[14]? = some (x14, .inl (cI, 8, .inl (fun _ => 0))) := w14
  have hk := gk_step hk ho (by decide)
  have hn : ∀ k, 15 ≤ k → G[k]? = none := fun k q => (ho k (by omega)).trans (hn k (by omega))
  clear ho
  refine mx_putF (ci := 1) (v := .ref x14) (ty := .array .int) (C := RX1) (T := TX1) (N := 12) (pc := 25) hx hb hts hiX1 tyX1 tyX1_ok nmX1 hown hK hP hD hS 11 w11 rfl 2 (by decide) (hts (.fieldLink RX1 18 "InkPress$Marks" "dx" "[I") (by decide +kernel)) (fun _ h9 => h9) rfl hin rfl (by decide +kernel) rfl rfl (Nat.le_of_ble_eq_true rfl) dX1_init_25 (fun H locs G hP hD hS w11 ho => ?_)
  have w12 := (ho 12 (by decide)).trans w12
  have w13 := (ho 13 (by decide)).trans w13
  have w14 := (ho 14 (by decide)).trans w14
  have w11 : G[11]? = some (x11, .inr (1, [.ref x12, .ref x13, .ref x14, .null, .int (nI (0)), .long (0), .long (0), .long (0), .long (0), .long (0), .long (0), .long (0)])) := w11
  have hk := gk_step hk ho (by decide)
  have hn : ∀ k, 15 ≤ k → G[k]? = none := fun k q => (ho k (by omega)).trans (hn k (by omega))
  clear ho
  refine lv_aload_n (pc := 28) hx hb dX1_init_28 rfl (lv_at hl 0 rfl) ?_
  refine lv_bipush (v := nI (8)) (pc := 29) hx hb dX1_init_29 (by decide) ?_
  refine mx_newa (atype := .int) (ty := .int) (f := (fun _ => 0)) (pc := 31) hx hb (hts (.arrayClass .int) (by decide +kernel)) rfl (by decide) 0 rfl hK hP hD hS hA 8 (fun cA => gHf_I cA 8) (by decide) (by decide) (Nat.le_of_ble_eq_true rfl) (Nat.le_of_ble_eq_true rfl) 15 (glen w14 (hn 15 (by omega))) dX1_init_31 (fun x15 H G hP hD hS w15 ho => ?_)
  refine W.widen (k := 4) (n := 32) (Nat.le_of_ble_eq_true rfl) (Nat.le_of_ble_eq_true rfl) ?_
  have w11 := (ho 11 (by decide)).trans w11
  have w12 := (ho 12 (by decide)).trans w12
  have w13 := (ho 13 (by decide)).trans w13
  have w14 := (ho 14 (by decide)).trans w14
  have w15 : G[15]? = some (x15, .inl (cI, 8, .inl (fun _ => 0))) := w15
  have hk := gk_step hk ho (by decide)
  have hn : ∀ k, 16 ≤ k → G[k]? = none := fun k q => (ho k (by omega)).trans (hn k (by omega))
  clear ho
  refine mx_putF (ci := 1) (v := .ref x15) (ty := .array .int) (C := RX1) (T := TX1) (N := 12) (pc := 33) hx hb hts hiX1 tyX1 tyX1_ok nmX1 hown hK hP hD hS 11 w11 rfl 3 (by decide) (hts (.fieldLink RX1 21 "InkPress$Marks" "dy" "[I") (by decide +kernel)) (fun _ h9 => h9) rfl hin rfl (by decide +kernel) rfl rfl (Nat.le_of_ble_eq_true rfl) dX1_init_33 (fun H locs G hP hD hS w11 ho => ?_)
  have w12 := (ho 12 (by decide)).trans w12
  have w13 := (ho 13 (by decide)).trans w13
  have w14 := (ho 14 (by decide)).trans w14
  have w15 := (ho 15 (by decide)).trans w15
  have w11 : G[11]? = some (x11, .inr (1, [.ref x12, .ref x13, .ref x14, .ref x15, .int (nI (0)), .long (0), .long (0), .long (0), .long (0), .long (0), .long (0), .long (0)])) := w11
  have hk := gk_step hk ho (by decide)
  have hn : ∀ k, 16 ≤ k → G[k]? = none := fun k q => (ho k (by omega)).trans (hn k (by omega))
  clear ho
  exact hret _ _ _ _ _ hP hD hS ⟨x12, x13, x14, x15, w11, w12, w13, w14, w15, hk⟩ dX1_init_36
