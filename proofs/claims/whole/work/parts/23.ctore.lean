/-! the constructor of the class -/
set_option maxHeartbeats 4000000 in
set_option maxRecDepth 100000 in
theorem k_X7_init {l : Launch} {D : va_G} {cI cZ : ClassId} {A : Nat → Prop} {g : Nat → Nat} {G0 : va_W} {x0 : Nat} (hD : va_D A G0) (w0 : G0[0]? = some (x0, .inr (7, [.null, .null, .null, .null, .null, .null, .null, .int (gB (false))]))) (hn : ∀ k, 1 ≤ k → G0[k]? = none) : gNv l D cI cZ A g yX7_init wsX7_init ({ frames := 2, cells := 21, slots := 10207, locals := 43 }) [.ref x0] G0 (fun G1 => ∃ x1 : Nat, ∃ x2 : Nat, ∃ x3 : Nat, ∃ x4 : Nat, ∃ x5 : Nat, ∃ x6 : Nat, ∃ x7 : Nat, ∃ x8 : Nat, ∃ x9 : Nat, ∃ x10 : Nat, ∃ x11 : Nat, ∃ x12 : Nat, ∃ x13 : Nat, ∃ x14 : Nat, ∃ x15 : Nat, ∃ x16 : Nat, ∃ x17 : Nat, ∃ x18 : Nat, ∃ x19 : Nat, ∃ x20 : Nat, ∃ x21 : Nat, G1[0]? = some (x0, .inr (7, [.ref x1, .ref x3, .ref x5, .ref x7, .ref x10, .ref x11, .ref x16, .int (gB (false))])) ∧ G1[1]? = some (x1, .inr (3, [.ref x2])) ∧ G1[2]? = some (x2, .inl (cI, 9, .inl (fun j => (gTab 2).getD j 0))) ∧ G1[3]? = some (x3, .inr (6, [.ref x4, .int (nI ((4)))])) ∧ G1[4]? = some (x4, .inl (cI, 24, .inl (gZr 24 0 (fun _ => 0)))) ∧ G1[5]? = some (x5, .inr (5, [.ref x6, .int (nI ((4))), .int (nI ((3))), .int (nI (0)), .int (nI (0)), .int (nI (0))])) ∧ G1[6]? = some (x6, .inl (cI, 40, .inl (gClr 40 0 (fun _ => 0)))) ∧ G1[7]? = some (x7, .inr (4, [.ref x8, .ref x9, .int (nI (0)), .int (nI (0)), .int (nI (0)), .int ((-6))])) ∧ G1[8]? = some (x8, .inl (cI, 8000, .inl (fun _ => 0))) ∧ G1[9]? = some (x9, .inl (cZ, 1000, .inl (fun j => gB ((fun _ => false) j)))) ∧ G1[10]? = some (x10, .inr (2, [.int (nI (0)), .long (0), .long (0), .long (0), .long (0)])) ∧ G1[11]? = some (x11, .inr (1, [.ref x12, .ref x13, .ref x14, .ref x15, .int (nI (0)), .long (0), .long (0), .long (0), .long (0), .long (0), .long (0), .long (0)])) ∧ G1[12]? = some (x12, .inl (cI, 8, .inl (fun _ => 0))) ∧ G1[13]? = some (x13, .inl (cI, 8, .inl (fun _ => 0))) ∧ G1[14]? = some (x14, .inl (cI, 8, .inl (fun _ => 0))) ∧ G1[15]? = some (x15, .inl (cI, 8, .inl (fun _ => 0))) ∧ G1[16]? = some (x16, .inr (0, [.ref x17, .ref x18, .ref x19, .ref x20, .ref x21, .int (nI (0)), .int (gB (false))])) ∧ G1[17]? = some (x17, .inl (cI, 8, .inl (fun j => nI ((fun _ => 0) j)))) ∧ G1[18]? = some (x18, .inl (cI, 8, .inl (fun _ => 0))) ∧ G1[19]? = some (x19, .inl (cI, 16, .inl (gWf (16) (0) ((fun _ => 0))))) ∧ G1[20]? = some (x20, .inl (cI, 1024, .inl (fun _ => 0))) ∧ G1[21]? = some (x21, .inl (cI, 7, .inl (fun j => nI ((fun _ => 0) j)))) ∧ ∀ k, k ∉ [0, 1, 2, 3, 4, 5, 6, 7, 8, 9, 10, 11, 12, 13, 14, 15, 16, 17, 18, 19, 20, 21] → G1[k]? = G0[k]?) 21 10207 := by
  refine gofN (cc := cX7_init) (maxL := 1) (by decide) rfl rfl (Nat.le_of_ble_eq_true rfl) ?_
  intro p e s m args below meth c Q hx hb hml hts hown hin hK hN hZ hA hE hP hS hret ls hl
  have hown : s.vm.findClass RX7 = some m.cls := hown
  have hl : lv_has ls 1 [(0, .ref x0)] := hl
  obtain ⟨locs, elocs⟩ : ∃ q : List Loc, q = [] := ⟨_, rfl⟩
  rw [← elocs] at hS ⊢
  obtain ⟨H, eH⟩ : ∃ q : Heap, q = s.heap := ⟨_, rfl⟩
  have hP : va_P D vwCl G0 H := eH ▸ hP
  have hS : va_S A s.heap H locs := by rw [eH]; exact hS
  rw [← eH]
  clear elocs eH
  have hobj : Cond.code objectInit ⟨#[0xb1]⟩ 1 none ∈ wsX7_init := List.mem_of_getElem? (i := 3) rfl
  have hiX0 : ∀ w ∈ u_ws RX0 TX0 7, w ∈ wsX7_init := by decide +kernel
  have hiX1 : ∀ w ∈ u_ws RX1 TX1 12, w ∈ wsX7_init := by decide +kernel
  have hiX2 : ∀ w ∈ u_ws RX2 TX2 5, w ∈ wsX7_init := by decide +kernel
  have hiX3 : ∀ w ∈ u_ws RX3 TX3 1, w ∈ wsX7_init := by decide +kernel
  have hiX4 : ∀ w ∈ u_ws RX4 TX4 6, w ∈ wsX7_init := by decide +kernel
  have hiX5 : ∀ w ∈ u_ws RX5 TX5 6, w ∈ wsX7_init := by decide +kernel
  have hiX6 : ∀ w ∈ u_ws RX6 TX6 2, w ∈ wsX7_init := by decide +kernel
  have hiX7 : ∀ w ∈ u_ws RX7 TX7 8, w ∈ wsX7_init := by decide +kernel
  have hk : ∀ k, k ∉ [0, 1, 2, 3, 4, 5, 6, 7, 8, 9, 10, 11, 12, 13, 14, 15, 16, 17, 18, 19, 20, 21] → G0[k]? = G0[k]? := fun _ _ => rfl
  refine lv_aload_n (pc := 0) hx hb dX7_init_0 rfl (lv_at hl 0 rfl) ?_
  refine W.objInit hx hb hown (hts (.methodLink RX7 1 objectInit) (by decide +kernel)) (hts (.instanceMethod objectInit) (by decide +kernel)) (hts _ hobj) rfl (by rw [hml]; exact hl.1) rfl dX7_init_1 (Nat.le_of_ble_eq_true rfl) (Nat.le_of_ble_eq_true rfl) ?_
  refine W.eq (g2 := F0 m 4 ls []) rfl ?_
  refine lv_aload_n (pc := 4) hx hb dX7_init_4 rfl (lv_at hl 0 rfl) ?_
  refine mx_new (ci := 3) (fs := [.null]) (own := RX7) (C := RX3) (T := TX3) (N := 1) hx hb hts hiX3 tyX3 tyX3_ok hown (hts (.classLink RX7 7 RX3) (by decide +kernel)) (hts (.instantiable RX3 1) (by decide +kernel)) (hts (.initialized RX3) (by decide +kernel)) hK hP hD hS hA rfl (fun j hj => by rcases (show j = 0 by omega) with rfl <;> rfl) (Nat.le_of_ble_eq_true rfl) (Nat.le_of_ble_eq_true rfl) 1 (glen w0 (hn 1 (by omega))) dX7_init_5 (fun x1 H G hP hD hS w1 ho => ?_)
  refine W.widen (k := 1) (n := 1) (Nat.le_of_ble_eq_true rfl) (Nat.le_of_ble_eq_true rfl) ?_
  have w0 := (ho 0 (by decide)).trans w0
  have w1 : G[1]? = some (x1, .inr (3, [.null])) := w1
  have hk := gk_step hk ho (by decide)
  have hn : ∀ k, 2 ≤ k → G[k]? = none := fun k q => (ho k (by omega)).trans (hn k (by omega))
  clear ho
  refine lv_dup (pc := 8) hx hb dX7_init_8 rfl ?_
  refine mx_cI (As := []) (rest := [.ref x1, .ref x0]) (pc := 9) ⟨hx, hb, hml, hown, hts⟩ (k_X3_init (x1 := x1) hD w1 (fun k q => hn k q)) (cwI 0 hts gX7_init_X3_init rfl rfl rfl (hts (.initialized RX3) (by decide +kernel)) (hts (.methodLink RX7 9 yX3_init) (by decide +kernel)) (hts (.instanceMethod yX3_init) (by decide +kernel)) rfl (by decide +kernel) ⟨Nat.le_of_ble_eq_true rfl, Nat.le_of_ble_eq_true rfl⟩) hK hN hZ hA hE hP hS rfl hl.1 rfl (Nat.le_of_ble_eq_true rfl) dX7_init_9 ⟨Nat.le_of_ble_eq_true rfl, Nat.le_of_ble_eq_true rfl⟩ (fun G H locs hP hD hS hB => ?_)
  obtain ⟨x2, w1, w2, ho⟩ := hB
  refine W.widen (k := 2) (n := 10) (Nat.le_of_ble_eq_true rfl) (Nat.le_of_ble_eq_true rfl) ?_
  have w0 := (ho 0 (by decide)).trans w0
  have w1 : G[1]? = some (x1, .inr (3, [.ref x2])) := w1
  have w2 : G[2]? = some (x2, .inl (cI, 9, .inl (fun j => (gTab 2).getD j 0))) := w2
  have hk := gk_call hk ho (by decide)
  have hn : ∀ k, 3 ≤ k → G[k]? = none := fun k q => (ho k (by simp only [List.mem_cons, List.not_mem_nil, or_false]; omega)).trans (hn k (by omega))
  clear ho
  refine mx_putF (ci := 7) (v := .ref x1) (ty := .object "InkPress$Rules") (C := RX7) (T := TX7) (N := 8) (pc := 12) hx hb hts hiX7 tyX7 tyX7_ok nmX7 hown hK hP hD hS 0 w0 rfl 0 (by decide) (hts (.fieldLink RX7 10 "InkPress" "rules" "LInkPress$Rules;") (by decide +kernel)) (fun _ h9 => h9) rfl hin rfl (by decide +kernel) rfl rfl (Nat.le_of_ble_eq_true rfl) dX7_init_12 (fun H locs G hP hD hS w0 ho => ?_)
  have w1 := (ho 1 (by decide)).trans w1
  have w2 := (ho 2 (by decide)).trans w2
  have w0 : G[0]? = some (x0, .inr (7, [.ref x1, .null, .null, .null, .null, .null, .null, .int (gB (false))])) := w0
  have hk := gk_step hk ho (by decide)
  have hn : ∀ k, 3 ≤ k → G[k]? = none := fun k q => (ho k (by omega)).trans (hn k (by omega))
  clear ho
  refine lv_aload_n (pc := 15) hx hb dX7_init_15 rfl (lv_at hl 0 rfl) ?_
  refine mx_new (ci := 6) (fs := [.null, .int (nI (0))]) (own := RX7) (C := RX6) (T := TX6) (N := 2) hx hb hts hiX6 tyX6 tyX6_ok hown (hts (.classLink RX7 16 RX6) (by decide +kernel)) (hts (.instantiable RX6 2) (by decide +kernel)) (hts (.initialized RX6) (by decide +kernel)) hK hP hD hS hA rfl (fun j hj => by rcases (show j = 0 ∨ j = 1 by omega) with rfl | rfl <;> rfl) (Nat.le_of_ble_eq_true rfl) (Nat.le_of_ble_eq_true rfl) 3 (glen w2 (hn 3 (by omega))) dX7_init_16 (fun x3 H G hP hD hS w3 ho => ?_)
  refine W.widen (k := 3) (n := 12) (Nat.le_of_ble_eq_true rfl) (Nat.le_of_ble_eq_true rfl) ?_
  have w0 := (ho 0 (by decide)).trans w0
  have w1 := (ho 1 (by decide)).trans w1
  have w2 := (ho 2 (by decide)).trans w2
  have w3 : G[3]? = some (x3, .inr (6, [.null, .int (nI (0))])) := w3
  have hk := gk_step hk ho (by decide)
  have hn : ∀ k, 4 ≤ k → G[k]? = none := fun k q => (ho k (by omega)).trans (hn k (by omega))
  clear ho
  refine lv_dup (pc := 19) hx hb dX7_init_19 rfl ?_
  refine mx_cI (As := []) (rest := [.ref x3, .ref x0]) (pc := 20) ⟨hx, hb, hml, hown, hts⟩ (k_X6_init (x3 := x3) hD w3 (fun k q => hn k q)) (cwI 0 hts gX7_init_X6_init rfl rfl rfl (hts (.initialized RX6) (by decide +kernel)) (hts (.methodLink RX7 18 yX6_init) (by decide +kernel)) (hts (.instanceMethod yX6_init) (by decide +kernel)) rfl (by decide +kernel) ⟨Nat.le_of_ble_eq_true rfl, Nat.le_of_ble_eq_true rfl⟩) hK hN hZ hA hE hP hS rfl hl.1 rfl (Nat.le_of_ble_eq_true rfl) dX7_init_20 ⟨Nat.le_of_ble_eq_true rfl, Nat.le_of_ble_eq_true rfl⟩ (fun G H locs hP hD hS hB => ?_)
  obtain ⟨x4, w3, w4, ho⟩ := hB
  refine W.widen (k := 4) (n := 36) (Nat.le_of_ble_eq_true rfl) (Nat.le_of_ble_eq_true rfl) ?_
  have w0 := (ho 0 (by decide)).trans w0
  have w1 := (ho 1 (by decide)).trans w1
  have w2 := (ho 2 (by decide)).trans w2
  have w3 : G[3]? = some (x3, .inr (6, [.ref x4, .int (nI ((4)))])) := w3
  have w4 : G[4]? = some (x4, .inl (cI, 24, .inl (gZr 24 0 (fun _ => 0)))) := w4
  have hk := gk_call hk ho (by decide)
  have hn : ∀ k, 5 ≤ k → G[k]? = none := fun k q => (ho k (by simp only [List.mem_cons, List.not_mem_nil, or_false]; omega)).trans (hn k (by omega))
  clear ho
  refine mx_putF (ci := 7) (v := .ref x3) (ty := .object "InkPress$Zones") (C := RX7) (T := TX7) (N := 8) (pc := 23) hx hb hts hiX7 tyX7 tyX7_ok nmX7 hown hK hP hD hS 0 w0 rfl 1 (by decide) (hts (.fieldLink RX7 19 "InkPress" "zones" "LInkPress$Zones;") (by decide +kernel)) (fun _ h9 => h9) rfl hin rfl (by decide +kernel) rfl rfl (Nat.le_of_ble_eq_true rfl) dX7_init_23 (fun H locs G hP hD hS w0 ho => ?_)
  have w1 := (ho 1 (by decide)).trans w1
  have w2 := (ho 2 (by decide)).trans w2
  have w3 := (ho 3 (by decide)).trans w3
  have w4 := (ho 4 (by decide)).trans w4
  have w0 : G[0]? = some (x0, .inr (7, [.ref x1, .ref x3, .null, .null, .null, .null, .null, .int (gB (false))])) := w0
  have hk := gk_step hk ho (by decide)
  have hn : ∀ k, 5 ≤ k → G[k]? = none := fun k q => (ho k (by omega)).trans (hn k (by omega))
  clear ho
  refine lv_aload_n (pc := 26) hx hb dX7_init_26 rfl (lv_at hl 0 rfl) ?_
  refine mx_new (ci := 5) (fs := [.null, .int (nI (0)), .int (nI (0)), .int (nI (0)), .int (nI (0)), .int (nI (0))]) (own := RX7) (C := RX5) (T := TX5) (N := 6) hx hb hts hiX5 tyX5 tyX5_ok hown (hts (.classLink RX7 23 RX5) (by decide +kernel)) (hts (.instantiable RX5 6) (by decide +kernel)) (hts (.initialized RX5) (by decide +kernel)) hK hP hD hS hA rfl (fun j hj => by rcases (show j = 0 ∨ j = 1 ∨ j = 2 ∨ j = 3 ∨ j = 4 ∨ j = 5 by omega) with rfl | rfl | rfl | rfl | rfl | rfl <;> rfl) (Nat.le_of_ble_eq_true rfl) (Nat.le_of_ble_eq_true rfl) 5 (glen w4 (hn 5 (by omega))) dX7_init_27 (fun x5 H G hP hD hS w5 ho => ?_)
  refine W.widen (k := 5) (n := 42) (Nat.le_of_ble_eq_true rfl) (Nat.le_of_ble_eq_true rfl) ?_
  have w0 := (ho 0 (by decide)).trans w0
  have w1 := (ho 1 (by decide)).trans w1
  have w2 := (ho 2 (by decide)).trans w2
  have w3 := (ho 3 (by decide)).trans w3
  have w4 := (ho 4 (by decide)).trans w4
  have w5 : G[5]? = some (x5, .inr (5, [.null, .int (nI (0)), .int (nI (0)), .int (nI (0)), .int (nI (0)), .int (nI (0))])) := w5
  have hk := gk_step hk ho (by decide)
  have hn : ∀ k, 6 ≤ k → G[k]? = none := fun k q => (ho k (by omega)).trans (hn k (by omega))
  clear ho
  refine lv_dup (pc := 30) hx hb dX7_init_30 rfl ?_
  refine mx_cI (As := []) (rest := [.ref x5, .ref x0]) (pc := 31) ⟨hx, hb, hml, hown, hts⟩ (k_X5_init (x5 := x5) hD w5 (fun k q => hn k q)) (cwI 0 hts gX7_init_X5_init rfl rfl rfl (hts (.initialized RX5) (by decide +kernel)) (hts (.methodLink RX7 25 yX5_init) (by decide +kernel)) (hts (.instanceMethod yX5_init) (by decide +kernel)) rfl (by decide +kernel) ⟨Nat.le_of_ble_eq_true rfl, Nat.le_of_ble_eq_true rfl⟩) hK hN hZ hA hE hP hS rfl hl.1 rfl (Nat.le_of_ble_eq_true rfl) dX7_init_31 ⟨Nat.le_of_ble_eq_true rfl, Nat.le_of_ble_eq_true rfl⟩ (fun G H locs hP hD hS hB => ?_)
  obtain ⟨x6, w5, w6, ho⟩ := hB
  refine W.widen (k := 6) (n := 82) (Nat.le_of_ble_eq_true rfl) (Nat.le_of_ble_eq_true rfl) ?_
  have w0 := (ho 0 (by decide)).trans w0
  have w1 := (ho 1 (by decide)).trans w1
  have w2 := (ho 2 (by decide)).trans w2
  have w3 := (ho 3 (by decide)).trans w3
  have w4 := (ho 4 (by decide)).trans w4
  have w5 : G[5]? = some (x5, .inr (5, [.ref x6, .int (nI ((4))), .int (nI ((3))), .int (nI (0)), .int (nI (0)), .int (nI (0))])) := w5
  have w6 : G[6]? = some (x6, .inl (cI, 40, .inl (gClr 40 0 (fun _ => 0)))) := w6
  have hk := gk_call hk ho (by decide)
  have hn : ∀ k, 7 ≤ k → G[k]? = none := fun k q => (ho k (by simp only [List.mem_cons, List.not_mem_nil, or_false]; omega)).trans (hn k (by omega))
  clear ho
  refine mx_putF (ci := 7) (v := .ref x5) (ty := .object "InkPress$Train") (C := RX7) (T := TX7) (N := 8) (pc := 34) hx hb hts hiX7 tyX7 tyX7_ok nmX7 hown hK hP hD hS 0 w0 rfl 2 (by decide) (hts (.fieldLink RX7 26 "InkPress" "train" "LInkPress$Train;") (by decide +kernel)) (fun _ h9 => h9) rfl hin rfl (by decide +kernel) rfl rfl (Nat.le_of_ble_eq_true rfl) dX7_init_34 (fun H locs G hP hD hS w0 ho => ?_)
  have w1 := (ho 1 (by decide)).trans w1
  have w2 := (ho 2 (by decide)).trans w2
  have w3 := (ho 3 (by decide)).trans w3
  have w4 := (ho 4 (by decide)).trans w4
  have w5 := (ho 5 (by decide)).trans w5
  have w6 := (ho 6 (by decide)).trans w6
  have w0 : G[0]? = some (x0, .inr (7, [.ref x1, .ref x3, .ref x5, .null, .null, .null, .null, .int (gB (false))])) := w0
  have hk := gk_step hk ho (by decide)
  have hn : ∀ k, 7 ≤ k → G[k]? = none := fun k q => (ho k (by omega)).trans (hn k (by omega))
  clear ho
  refine lv_aload_n (pc := 37) hx hb dX7_init_37 rfl (lv_at hl 0 rfl) ?_
  refine mx_new (ci := 4) (fs := [.null, .null, .int (nI (0)), .int (nI (0)), .int (nI (0)), .int (nI (0))]) (own := RX7) (C := RX4) (T := TX4) (N := 6) hx hb hts hiX4 tyX4 tyX4_ok hown (hts (.classLink RX7 30 RX4) (by decide +kernel)) (hts (.instantiable RX4 6) (by decide +kernel)) (hts (.initialized RX4) (by decide +kernel)) hK hP hD hS hA rfl (fun j hj => by rcases (show j = 0 ∨ j = 1 ∨ j = 2 ∨ j = 3 ∨ j = 4 ∨ j = 5 by omega) with rfl | rfl | rfl | rfl | rfl | rfl <;> rfl) (Nat.le_of_ble_eq_true rfl) (Nat.le_of_ble_eq_true rfl) 7 (glen w6 (hn 7 (by omega))) dX7_init_38 (fun x7 H G hP hD hS w7 ho => ?_)
  refine W.widen (k := 7) (n := 88) (Nat.le_of_ble_eq_true rfl) (Nat.le_of_ble_eq_true rfl) ?_
  have w0 := (ho 0 (by decide)).trans w0
  have w1 := (ho 1 (by decide)).trans w1
  have w2 := (ho 2 (by decide)).trans w2
  have w3 := (ho 3 (by decide)).trans w3
  have w4 := (ho 4 (by decide)).trans w4
  have w5 := (ho 5 (by decide)).trans w5
  have w6 := (ho 6 (by decide)).trans w6
  have w7 : G[7]? = some (x7, .inr (4, [.null, .null, .int (nI (0)), .int (nI (0)), .int (nI (0)), .int (nI (0))])) := w7
  have hk := gk_step hk ho (by decide)
  have hn : ∀ k, 8 ≤ k → G[k]? = none := fun k q => (ho k (by omega)).trans (hn k (by omega))
  clear ho
  refine lv_dup (pc := 41) hx hb dX7_init_41 rfl ?_
  refine mx_cI (As := []) (rest := [.ref x7, .ref x0]) (pc := 42) ⟨hx, hb, hml, hown, hts⟩ (k_X4_init (x7 := x7) hD w7 (fun k q => hn k q)) (cwI 0 hts gX7_init_X4_init rfl rfl rfl (hts (.initialized RX4) (by decide +kernel)) (hts (.methodLink RX7 32 yX4_init) (by decide +kernel)) (hts (.instanceMethod yX4_init) (by decide +kernel)) rfl (by decide +kernel) ⟨Nat.le_of_ble_eq_true rfl, Nat.le_of_ble_eq_true rfl⟩) hK hN hZ hA hE hP hS rfl hl.1 rfl (Nat.le_of_ble_eq_true rfl) dX7_init_42 ⟨Nat.le_of_ble_eq_true rfl, Nat.le_of_ble_eq_true rfl⟩ (fun G H locs hP hD hS hB => ?_)
  obtain ⟨x8, x9, w7, w8, w9, ho⟩ := hB
  refine W.widen (k := 9) (n := 9088) (Nat.le_of_ble_eq_true rfl) (Nat.le_of_ble_eq_true rfl) ?_
  have w0 := (ho 0 (by decide)).trans w0
  have w1 := (ho 1 (by decide)).trans w1
  have w2 := (ho 2 (by decide)).trans w2
  have w3 := (ho 3 (by decide)).trans w3
  have w4 := (ho 4 (by decide)).trans w4
  have w5 := (ho 5 (by decide)).trans w5
  have w6 := (ho 6 (by decide)).trans w6
  have w7 : G[7]? = some (x7, .inr (4, [.ref x8, .ref x9, .int (nI (0)), .int (nI (0)), .int (nI (0)), .int ((-6))])) := w7
  have w8 : G[8]? = some (x8, .inl (cI, 8000, .inl (fun _ => 0))) := w8
  have w9 : G[9]? = some (x9, .inl (cZ, 1000, .inl (fun j => gB ((fun _ => false) j)))) := w9
  have hk := gk_call hk ho (by decide)
  have hn : ∀ k, 10 ≤ k → G[k]? = none := fun k q => (ho k (by simp only [List.mem_cons, List.not_mem_nil, or_false]; omega)).trans (hn k (by omega))
  clear ho
  refine mx_putF (ci := 7) (v := .ref x7) (ty := .object "InkPress$SheetLog") (C := RX7) (T := TX7) (N := 8) (pc := 45) hx hb hts hiX7 tyX7 tyX7_ok nmX7 hown hK hP hD hS 0 w0 rfl 3 (by decide) (hts (.fieldLink RX7 33 "InkPress" "sheets" "LInkPress$SheetLog;") (by decide +kernel)) (fun _ h9 => h9) rfl hin rfl (by decide +kernel) rfl rfl (Nat.le_of_ble_eq_true rfl) dX7_init_45 (fun H locs G hP hD hS w0 ho => ?_)
  have w1 := (ho 1 (by decide)).trans w1
  have w2 := (ho 2 (by decide)).trans w2
  have w3 := (ho 3 (by decide)).trans w3
  have w4 := (ho 4 (by decide)).trans w4
  have w5 := (ho 5 (by decide)).trans w5
  have w6 := (ho 6 (by decide)).trans w6
  have w7 := (ho 7 (by decide)).trans w7
  have w8 := (ho 8 (by decide)).trans w8
  have w9 := (ho 9 (by decide)).trans w9
  have w0 : G[0]? = some (x0, .inr (7, [.ref x1, .ref x3, .ref x5, .ref x7, .null, .null, .null, .int (gB (false))])) := w0
  have hk := gk_step hk ho (by decide)
  have hn : ∀ k, 10 ≤ k → G[k]? = none := fun k q => (ho k (by omega)).trans (hn k (by omega))
  clear ho
  refine lv_aload_n (pc := 48) hx hb dX7_init_48 rfl (lv_at hl 0 rfl) ?_
  refine mx_new (ci := 2) (fs := [.int (nI (0)), .long (0), .long (0), .long (0), .long (0)]) (own := RX7) (C := RX2) (T := TX2) (N := 5) hx hb hts hiX2 tyX2 tyX2_ok hown (hts (.classLink RX7 37 RX2) (by decide +kernel)) (hts (.instantiable RX2 5) (by decide +kernel)) (hts (.initialized RX2) (by decide +kernel)) hK hP hD hS hA rfl (fun j hj => by rcases (show j = 0 ∨ j = 1 ∨ j = 2 ∨ j = 3 ∨ j = 4 by omega) with rfl | rfl | rfl | rfl | rfl <;> rfl) (Nat.le_of_ble_eq_true rfl) (Nat.le_of_ble_eq_true rfl) 10 (glen w9 (hn 10 (by omega))) dX7_init_49 (fun x10 H G hP hD hS w10 ho => ?_)
  refine W.widen (k := 10) (n := 9093) (Nat.le_of_ble_eq_true rfl) (Nat.le_of_ble_eq_true rfl) ?_
  have w0 := (ho 0 (by decide)).trans w0
  have w1 := (ho 1 (by decide)).trans w1
  have w2 := (ho 2 (by decide)).trans w2
  have w3 := (ho 3 (by decide)).trans w3
  have w4 := (ho 4 (by decide)).trans w4
  have w5 := (ho 5 (by decide)).trans w5
  have w6 := (ho 6 (by decide)).trans w6
  have w7 := (ho 7 (by decide)).trans w7
  have w8 := (ho 8 (by decide)).trans w8
  have w9 := (ho 9 (by decide)).trans w9
  have w10 : G[10]? = some (x10, .inr (2, [.int (nI (0)), .long (0), .long (0), .long (0), .long (0)])) := w10
  have hk := gk_step hk ho (by decide)
  have hn : ∀ k, 11 ≤ k → G[k]? = none := fun k q => (ho k (by omega)).trans (hn k (by omega))
  clear ho
  refine lv_dup (pc := 52) hx hb dX7_init_52 rfl ?_
  refine mx_cI (As := []) (rest := [.ref x10, .ref x0]) (pc := 53) ⟨hx, hb, hml, hown, hts⟩ (k_X2_init (x10 := x10) hD w10 (fun k q => hn k q)) (cwI 0 hts gX7_init_X2_init rfl rfl rfl (hts (.initialized RX2) (by decide +kernel)) (hts (.methodLink RX7 39 yX2_init) (by decide +kernel)) (hts (.instanceMethod yX2_init) (by decide +kernel)) rfl (by decide +kernel) ⟨Nat.le_of_ble_eq_true rfl, Nat.le_of_ble_eq_true rfl⟩) hK hN hZ hA hE hP hS rfl hl.1 rfl (Nat.le_of_ble_eq_true rfl) dX7_init_53 ⟨Nat.le_of_ble_eq_true rfl, Nat.le_of_ble_eq_true rfl⟩ (fun G H locs hP hD hS hB => ?_)
  obtain ⟨w10, ho⟩ := hB
  refine W.widen (k := 10) (n := 9093) (Nat.le_of_ble_eq_true rfl) (Nat.le_of_ble_eq_true rfl) ?_
  have w0 := (ho 0 (by decide)).trans w0
  have w1 := (ho 1 (by decide)).trans w1
  have w2 := (ho 2 (by decide)).trans w2
  have w3 := (ho 3 (by decide)).trans w3
  have w4 := (ho 4 (by decide)).trans w4
  have w5 := (ho 5 (by decide)).trans w5
  have w6 := (ho 6 (by decide)).trans w6
  have w7 := (ho 7 (by decide)).trans w7
  have w8 := (ho 8 (by decide)).trans w8
  have w9 := (ho 9 (by decide)).trans w9
  have w10 : G[10]? = some (x10, .inr (2, [.int (nI (0)), .long (0), .long (0), .long (0), .long (0)])) := w10
  have hk := gk_call hk ho (by decide)
  have hn : ∀ k, 11 ≤ k → G[k]? = none := fun k q => (ho k (by simp only [List.mem_cons, List.not_mem_nil, or_false]; omega)).trans (hn k (by omega))
  clear ho
  refine mx_putF (ci := 7) (v := .ref x10) (ty := .object "InkPress$PastJobs") (C := RX7) (T := TX7) (N := 8) (pc := 56) hx hb hts hiX7 tyX7 tyX7_ok nmX7 hown hK hP hD hS 0 w0 rfl 4 (by decide) (hts (.fieldLink RX7 40 "InkPress" "pastJobs" "LInkPress$PastJobs;") (by decide +kernel)) (fun _ h9 => h9) rfl hin rfl (by decide +kernel) rfl rfl (Nat.le_of_ble_eq_true rfl) dX7_init_56 (fun H locs G hP hD hS w0 ho => ?_)
  have w1 := (ho 1 (by decide)).trans w1
  have w2 := (ho 2 (by decide)).trans w2
  have w3 := (ho 3 (by decide)).trans w3
  have w4 := (ho 4 (by decide)).trans w4
  have w5 := (ho 5 (by decide)).trans w5
  have w6 := (ho 6 (by decide)).trans w6
  have w7 := (ho 7 (by decide)).trans w7
  have w8 := (ho 8 (by decide)).trans w8
  have w9 := (ho 9 (by decide)).trans w9
  have w10 := (ho 10 (by decide)).trans w10
  have w0 : G[0]? = some (x0, .inr (7, [.ref x1, .ref x3, .ref x5, .ref x7, .ref x10, .null, .null, .int (gB (false))])) := w0
  have hk := gk_step hk ho (by decide)
  have hn : ∀ k, 11 ≤ k → G[k]? = none := fun k q => (ho k (by omega)).trans (hn k (by omega))
  clear ho
  refine lv_aload_n (pc := 59) hx hb dX7_init_59 rfl (lv_at hl 0 rfl) ?_
  refine mx_new (ci := 1) (fs := [.null, .null, .null, .null, .int (nI (0)), .long (0), .long (0), .long (0), .long (0), .long (0), .long (0), .long (0)]) (own := RX7) (C := RX1) (T := TX1) (N := 12) hx hb hts hiX1 tyX1 tyX1_ok hown (hts (.classLink RX7 44 RX1) (by decide +kernel)) (hts (.instantiable RX1 12) (by decide +kernel)) (hts (.initialized RX1) (by decide +kernel)) hK hP hD hS hA rfl (fun j hj => by rcases (show j = 0 ∨ j = 1 ∨ j = 2 ∨ j = 3 ∨ j = 4 ∨ j = 5 ∨ j = 6 ∨ j = 7 ∨ j = 8 ∨ j = 9 ∨ j = 10 ∨ j = 11 by omega) with rfl | rfl | rfl | rfl | rfl | rfl | rfl | rfl | rfl | rfl | rfl | rfl <;> rfl) (Nat.le_of_ble_eq_true rfl) (Nat.le_of_ble_eq_true rfl) 11 (glen w10 (hn 11 (by omega))) dX7_init_60 (fun x11 H G hP hD hS w11 ho => ?_)
  refine W.widen (k := 11) (n := 9105) (Nat.le_of_ble_eq_true rfl) (Nat.le_of_ble_eq_true rfl) ?_
  have w0 := (ho 0 (by decide)).trans w0
  have w1 := (ho 1 (by decide)).trans w1
  have w2 := (ho 2 (by decide)).trans w2
  have w3 := (ho 3 (by decide)).trans w3
  have w4 := (ho 4 (by decide)).trans w4
  have w5 := (ho 5 (by decide)).trans w5
  have w6 := (ho 6 (by decide)).trans w6
  have w7 := (ho 7 (by decide)).trans w7
  have w8 := (ho 8 (by decide)).trans w8
  have w9 := (ho 9 (by decide)).trans w9
  have w10 := (ho 10 (by decide)).trans w10
  have w11 : G[11]? = some (x11, .inr (1, [.null, .null, .null, .null, .int (nI (0)), .long (0), .long (0), .long (0), .long (0), .long (0), .long (0), .long (0)])) := w11
  have hk := gk_step hk ho (by decide)
  have hn : ∀ k, 12 ≤ k → G[k]? = none := fun k q => (ho k (by omega)).trans (hn k (by omega))
  clear ho
  refine lv_dup (pc := 63) hx hb dX7_init_63 rfl ?_
  refine mx_cI (As := []) (rest := [.ref x11, .ref x0]) (pc := 64) ⟨hx, hb, hml, hown, hts⟩ (k_X1_init (x11 := x11) hD w11 (fun k q => hn k q)) (cwI 0 hts gX7_init_X1_init rfl rfl rfl (hts (.initialized RX1) (by decide +kernel)) (hts (.methodLink RX7 46 yX1_init) (by decide +kernel)) (hts (.instanceMethod yX1_init) (by decide +kernel)) rfl (by decide +kernel) ⟨Nat.le_of_ble_eq_true rfl, Nat.le_of_ble_eq_true rfl⟩) hK hN hZ hA hE hP hS rfl hl.1 rfl (Nat.le_of_ble_eq_true rfl) dX7_init_64 ⟨Nat.le_of_ble_eq_true rfl, Nat.le_of_ble_eq_true rfl⟩ (fun G H locs hP hD hS hB => ?_)
  obtain ⟨x12, x13, x14, x15, w11, w12, w13, w14, w15, ho⟩ := hB
  refine W.widen (k := 15) (n := 9137) (Nat.le_of_ble_eq_true rfl) (Nat.le_of_ble_eq_true rfl) ?_
  have w0 := (ho 0 (by decide)).trans w0
  have w1 := (ho 1 (by decide)).trans w1
  have w2 := (ho 2 (by decide)).trans w2
  have w3 := (ho 3 (by decide)).trans w3
  have w4 := (ho 4 (by decide)).trans w4
  have w5 := (ho 5 (by decide)).trans w5
  have w6 := (ho 6 (by decide)).trans w6
  have w7 := (ho 7 (by decide)).trans w7
  have w8 := (ho 8 (by decide)).trans w8
  have w9 := (ho 9 (by decide)).trans w9
  have w10 := (ho 10 (by decide)).trans w10
  have w11 : G[11]? = some (x11, .inr (1, [.ref x12, .ref x13, .ref x14, .ref x15, .int (nI (0)), .long (0), .long (0), .long (0), .long (0), .long (0), .long (0), .long (0)])) := w11
  have w12 : G[12]? = some (x12, .inl (cI, 8, .inl (fun _ => 0))) := w12
  have w13 : G[13]? = some (x13, .inl (cI, 8, .inl (fun _ => 0))) := w13
  have w14 : G[14]? = some (x14, .inl (cI, 8, .inl (fun _ => 0))) := w14
  have w15 : G[15]? = some (x15, .inl (cI, 8, .inl (fun _ => 0))) := w15
  have hk := gk_call hk ho (by decide)
  have hn : ∀ k, 16 ≤ k → G[k]? = none := fun k q => (ho k (by simp only [List.mem_cons, List.not_mem_nil, or_false]; omega)).trans (hn k (by omega))
  clear ho
  refine mx_putF (ci := 7) (v := .ref x11) (ty := .object "InkPress$Marks") (C := RX7) (T := TX7) (N := 8) (pc := 67) hx hb hts hiX7 tyX7 tyX7_ok nmX7 hown hK hP hD hS 0 w0 rfl 5 (by decide) (hts (.fieldLink RX7 47 "InkPress" "marks" "LInkPress$Marks;") (by decide +kernel)) (fun _ h9 => h9) rfl hin rfl (by decide +kernel) rfl rfl (Nat.le_of_ble_eq_true rfl) dX7_init_67 (fun H locs G hP hD hS w0 ho => ?_)
  have w1 := (ho 1 (by decide)).trans w1
  have w2 := (ho 2 (by decide)).trans w2
  have w3 := (ho 3 (by decide)).trans w3
  have w4 := (ho 4 (by decide)).trans w4
  have w5 := (ho 5 (by decide)).trans w5
  have w6 := (ho 6 (by decide)).trans w6
  have w7 := (ho 7 (by decide)).trans w7
  have w8 := (ho 8 (by decide)).trans w8
  have w9 := (ho 9 (by decide)).trans w9
  have w10 := (ho 10 (by decide)).trans w10
  have w11 := (ho 11 (by decide)).trans w11
  have w12 := (ho 12 (by decide)).trans w12
  have w13 := (ho 13 (by decide)).trans w13
  have w14 := (ho 14 (by decide)).trans w14
  have w15 := (ho 15 (by decide)).trans w15
  have w0 : G[0]? = some (x0, .inr (7, [.ref x1, .ref x3, .ref x5, .ref x7, .ref x10, .ref x11, .null, .int (gB (false))])) := w0
  have hk := gk_step hk ho (by decide)
  have hn : ∀ k, 16 ≤ k → G[k]? = none := fun k q => (ho k (by omega)).trans (hn k (by omega))
  clear ho
  refine lv_aload_n (pc := 70) hx hb dX7_init_70 rfl (lv_at hl 0 rfl) ?_
  refine mx_new (ci := 0) (fs := [.null, .null, .null, .null, .null, .int (nI (0)), .int (gB (false))]) (own := RX7) (C := RX0) (T := TX0) (N := 7) hx hb hts hiX0 tyX0 tyX0_ok hown (hts (.classLink RX7 51 RX0) (by decide +kernel)) (hts (.instantiable RX0 7) (by decide +kernel)) (hts (.initialized RX0) (by decide +kernel)) hK hP hD hS hA rfl (fun j hj => by rcases (show j = 0 ∨ j = 1 ∨ j = 2 ∨ j = 3 ∨ j = 4 ∨ j = 5 ∨ j = 6 by omega) with rfl | rfl | rfl | rfl | rfl | rfl | rfl <;> rfl) (Nat.le_of_ble_eq_true rfl) (Nat.le_of_ble_eq_true rfl) 16 (glen w15 (hn 16 (by omega))) dX7_init_71 (fun x16 H G hP hD hS w16 ho => ?_)
  refine W.widen (k := 16) (n := 9144) (Nat.le_of_ble_eq_true rfl) (Nat.le_of_ble_eq_true rfl) ?_
  have w0 := (ho 0 (by decide)).trans w0
  have w1 := (ho 1 (by decide)).trans w1
  have w2 := (ho 2 (by decide)).trans w2
  have w3 := (ho 3 (by decide)).trans w3
  have w4 := (ho 4 (by decide)).trans w4
  have w5 := (ho 5 (by decide)).trans w5
  have w6 := (ho 6 (by decide)).trans w6
  have w7 := (ho 7 (by decide)).trans w7
  have w8 := (ho 8 (by decide)).trans w8
  have w9 := (ho 9 (by decide)).trans w9
  have w10 := (ho 10 (by decide)).trans w10
  have w11 := (ho 11 (by decide)).trans w11
  have w12 := (ho 12 (by decide)).trans w12
  have w13 := (ho 13 (by decide)).trans w13
  have w14 := (ho 14 (by decide)).trans w14
  have w15 := (ho 15 (by decide)).trans w15
  have w16 : G[16]? = some (x16, .inr (0, [.null, .null, .null, .null, .null, .int (nI (0)), .int (gB (false))])) := w16
  have hk := gk_step hk ho (by decide)
  have hn : ∀ k, 17 ≤ k → G[k]? = none := fun k q => (ho k (by omega)).trans (hn k (by omega))
  clear ho
  refine lv_dup (pc := 74) hx hb dX7_init_74 rfl ?_
  refine mx_cI (As := []) (rest := [.ref x16, .ref x0]) (pc := 75) ⟨hx, hb, hml, hown, hts⟩ (k_X0_init (x16 := x16) hD w16 (fun k q => hn k q)) (cwI 0 hts gX7_init_X0_init rfl rfl rfl (hts (.initialized RX0) (by decide +kernel)) (hts (.methodLink RX7 53 yX0_init) (by decide +kernel)) (hts (.instanceMethod yX0_init) (by decide +kernel)) rfl (by decide +kernel) ⟨Nat.le_of_ble_eq_true rfl, Nat.le_of_ble_eq_true rfl⟩) hK hN hZ hA hE hP hS rfl hl.1 rfl (Nat.le_of_ble_eq_true rfl) dX7_init_75 ⟨Nat.le_of_ble_eq_true rfl, Nat.le_of_ble_eq_true rfl⟩ (fun G H locs hP hD hS hB => ?_)
  obtain ⟨x17, x18, x19, x20, x21, w16, w17, w18, w19, w20, w21, ho⟩ := hB
  refine W.widen (k := 21) (n := 10207) (Nat.le_of_ble_eq_true rfl) (Nat.le_of_ble_eq_true rfl) ?_
  have w0 := (ho 0 (by decide)).trans w0
  have w1 := (ho 1 (by decide)).trans w1
  have w2 := (ho 2 (by decide)).trans w2
  have w3 := (ho 3 (by decide)).trans w3
  have w4 := (ho 4 (by decide)).trans w4
  have w5 := (ho 5 (by decide)).trans w5
  have w6 := (ho 6 (by decide)).trans w6
  have w7 := (ho 7 (by decide)).trans w7
  have w8 := (ho 8 (by decide)).trans w8
  have w9 := (ho 9 (by decide)).trans w9
  have w10 := (ho 10 (by decide)).trans w10
  have w11 := (ho 11 (by decide)).trans w11
  have w12 := (ho 12 (by decide)).trans w12
  have w13 := (ho 13 (by decide)).trans w13
  have w14 := (ho 14 (by decide)).trans w14
  have w15 := (ho 15 (by decide)).trans w15
  have w16 : G[16]? = some (x16, .inr (0, [.ref x17, .ref x18, .ref x19, .ref x20, .ref x21, .int (nI (0)), .int (gB (false))])) := w16
  have w17 : G[17]? = some (x17, .inl (cI, 8, .inl (fun j => nI ((fun _ => 0) j)))) := w17
  have w18 : G[18]? = some (x18, .inl (cI, 8, .inl (fun _ => 0))) := w18
  have w19 : G[19]? = some (x19, .inl (cI, 16, .inl (gWf (16) (0) ((fun _ => 0))))) := w19
  have w20 : G[20]? = some (x20, .inl (cI, 1024, .inl (fun _ => 0))) := w20
  have w21 : G[21]? = some (x21, .inl (cI, 7, .inl (fun j => nI ((fun _ => 0) j)))) := w21
  have hk := gk_call hk ho (by decide)
  have hn : ∀ k, 22 ≤ k → G[k]? = none := fun k q => (ho k (by simp only [List.mem_cons, List.not_mem_nil, or_false]; omega)).trans (hn k (by omega))
  clear ho
  refine mx_putF (ci := 7) (v := .ref x16) (ty := .object "InkPress$Jobs") (C := RX7) (T := TX7) (N := 8) (pc := 78) hx hb hts hiX7 tyX7 tyX7_ok nmX7 hown hK hP hD hS 0 w0 rfl 6 (by decide) (hts (.fieldLink RX7 54 "InkPress" "jobs" "LInkPress$Jobs;") (by decide +kernel)) (fun _ h9 => h9) rfl hin rfl (by decide +kernel) rfl rfl (Nat.le_of_ble_eq_true rfl) dX7_init_78 (fun H locs G hP hD hS w0 ho => ?_)
  have w1 := (ho 1 (by decide)).trans w1
  have w2 := (ho 2 (by decide)).trans w2
  have w3 := (ho 3 (by decide)).trans w3
  have w4 := (ho 4 (by decide)).trans w4
  have w5 := (ho 5 (by decide)).trans w5
  have w6 := (ho 6 (by decide)).trans w6
  have w7 := (ho 7 (by decide)).trans w7
  have w8 := (ho 8 (by decide)).trans w8
  have w9 := (ho 9 (by decide)).trans w9
  have w10 := (ho 10 (by decide)).trans w10
  have w11 := (ho 11 (by decide)).trans w11
  have w12 := (ho 12 (by decide)).trans w12
  have w13 := (ho 13 (by decide)).trans w13
  have w14 := (ho 14 (by decide)).trans w14
  have w15 := (ho 15 (by decide)).trans w15
  have w16 := (ho 16 (by decide)).trans w16
  have w17 := (ho 17 (by decide)).trans w17
  have w18 := (ho 18 (by decide)).trans w18
  have w19 := (ho 19 (by decide)).trans w19
  have w20 := (ho 20 (by decide)).trans w20
  have w21 := (ho 21 (by decide)).trans w21
  have w0 : G[0]? = some (x0, .inr (7, [.ref x1, .ref x3, .ref x5, .ref x7, .ref x10, .ref x11, .ref x16, .int (gB (false))])) := w0
  have hk := gk_step hk ho (by decide)
  have hn : ∀ k, 22 ≤ k → G[k]? = none := fun k q => (ho k (by omega)).trans (hn k (by omega))
  clear ho
  refine lv_aload_n (pc := 81) hx hb dX7_init_81 rfl (lv_at hl 0 rfl) ?_
  refine lv_iconst (v := nI (0)) (pc := 82) hx hb dX7_init_82 (by decide) ?_
  refine mx_put (ci := 7) (v := .int (nI (0))) (ty := .boolean) (C := RX7) (T := TX7) (N := 8) (pc := 83) hx hb hts hiX7 tyX7 tyX7_ok nmX7 hown hK hP hD hS 0 w0 rfl 7 (by decide) (hts (.fieldLink RX7 58 "InkPress" "steering" "Z") (by decide +kernel)) (fun _ h9 => h9) rfl (by decide +kernel) rfl rfl (Nat.le_of_ble_eq_true rfl) dX7_init_83 (fun H locs G hP hD hS w0 ho => ?_)
  have w1 := (ho 1 (by decide)).trans w1
  have w2 := (ho 2 (by decide)).trans w2
  have w3 := (ho 3 (by decide)).trans w3
  have w4 := (ho 4 (by decide)).trans w4
  have w5 := (ho 5 (by decide)).trans w5
  have w6 := (ho 6 (by decide)).trans w6
  have w7 := (ho 7 (by decide)).trans w7
  have w8 := (ho 8 (by decide)).trans w8
  have w9 := (ho 9 (by decide)).trans w9
  have w10 := (ho 10 (by decide)).trans w10
  have w11 := (ho 11 (by decide)).trans w11
  have w12 := (ho 12 (by decide)).trans w12
  have w13 := (ho 13 (by decide)).trans w13
  have w14 := (ho 14 (by decide)).trans w14
  have w15 := (ho 15 (by decide)).trans w15
  have w16 := (ho 16 (by decide)).trans w16
  have w17 := (ho 17 (by decide)).trans w17
  have w18 := (ho 18 (by decide)).trans w18
  have w19 := (ho 19 (by decide)).trans w19
  have w20 := (ho 20 (by decide)).trans w20
  have w21 := (ho 21 (by decide)).trans w21
  have w0 : G[0]? = some (x0, .inr (7, [.ref x1, .ref x3, .ref x5, .ref x7, .ref x10, .ref x11, .ref x16, .int (gB (false))])) := w0
  have hk := gk_step hk ho (by decide)
  have hn : ∀ k, 22 ≤ k → G[k]? = none := fun k q => (ho k (by omega)).trans (hn k (by omega))
  clear ho
  exact hret _ _ _ _ _ hP hD hS ⟨x1, x2, x3, x4, x5, x6, x7, x8, x9, x10, x11, x12, x13, x14, x15, x16, x17, x18, x19, x20, x21, w0, w1, w2, w3, w4, w5, w6, w7, w8, w9, w10, w11, w12, w13, w14, w15, w16, w17, w18, w19, w20, w21, hk⟩ dX7_init_86
