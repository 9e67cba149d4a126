/-! constructors -/
set_option maxHeartbeats 4000000 in
set_option maxRecDepth 100000 in
theorem k_X6_init {l : Launch} {D : va_G} {cI cZ : ClassId} {A : Nat → Prop} {g : Nat → Nat} {G0 : va_W} {x3 : Nat} (hD : va_D A G0) (w3 : G0[3]? = some (x3, .inr (6, [.null, .int (nI (0))]))) (hn : ∀ k, 4 ≤ k → G0[k]? = none) : gNv l D cI cZ A g yX6_init wsX6_init ({ frames := 1, cells := 1, slots := 24, locals := 22 }) [.ref x3] G0 (fun G1 => ∃ x4 : Nat, G1[3]? = some (x3, .inr (6, [.ref x4, .int (nI ((4)))])) ∧ G1[4]? = some (x4, .inl (cI, 24, .inl (gZr 24 0 (fun _ => 0)))) ∧ ∀ k, k ∉ [3, 4] → G1[k]? = G0[k]?) 1 24 := by
  refine gofN (cc := cX6_init) (maxL := 1) (by decide) rfl rfl (Nat.le_of_ble_eq_true rfl) ?_
  intro p e s m args below meth c Q hx hb hml hts hown hin hK hN hZ hA hE hP hS hret ls hl
  have hown : s.vm.findClass RX6 = some m.cls := hown
  have hl : lv_has ls 1 [(0, .ref x3)] := hl
  obtain ⟨locs, elocs⟩ : ∃ q : List Loc, q = [] := ⟨_, rfl⟩
  rw [← elocs] at hS ⊢
  obtain ⟨H, eH⟩ : ∃ q : Heap, q = s.heap := ⟨_, rfl⟩
  have hP : va_P D vwCl G0 H := eH ▸ hP
  have hS : va_S A s.heap H locs := by rw [eH]; exact hS
  rw [← eH]
  clear elocs eH
  have hobj : Cond.code objectInit ⟨#[0xb1]⟩ 1 none ∈ wsX6_init := List.mem_of_getElem? (i := 3) rfl
  have hiX6 : ∀ w ∈ u_ws RX6 TX6 2, w ∈ wsX6_init := by decide +kernel
  have hk : ∀ k, k ∉ [3, 4] → G0[k]? = G0[k]? := fun _ _ => rfl
  refine lv_aload_n (pc := 0) hx hb dX6_init_0 rfl (lv_at hl 0 rfl) ?_
  refine W.objInit hx hb hown (hts (.methodLink RX6 3 objectInit) (by decide +kernel)) (hts (.instanceMethod objectInit) (by decide +kernel)) (hts _ hobj) rfl (by rw [hml]; exact hl.1) rfl dX6_init_1 (Nat.le_of_ble_eq_true rfl) (Nat.le_of_ble_eq_true rfl) ?_
  refine W.eq (g2 := F0 m 4 ls []) rfl ?_
  refine lv_aload_n (pc := 4) hx hb dX6_init_4 rfl (lv_at hl 0 rfl) ?_
  refine va_gets (C := gTabC 4) (n := gTabN 4) (d := "[I") (own := RX6) (ref := "InkPress$Zones") (v := .ref (g 4)) (pc := 5) hx hb (hZ 4 (by decide)).1 hS hown (hts (.fieldLink RX6 9 "InkPress$Zones" "FIRST" "[I") (by decide +kernel)) (fun _ h9 => h9) dX6_init_5 ?_
  refine va_tlen (v := nI 3) (pc := 8) hx hb (hZ 4 (by decide)).2 hS rfl dX6_init_8 ?_
  refine lv_bipush (v := nI (8)) (pc := 9) hx hb dX6_init_9 (by decide) ?_
  refine mx_imul (pc := 11) hx hb dX6_init_11 ?_
  refine mx_newa (atype := .int) (ty := .int) (f := (fun _ => 0)) (pc := 12) hx hb (hts (.arrayClass .int) (by decide +kernel)) rfl (by decide) 0 rfl hK hP hD hS hA 24 (fun cA => gHf_I cA 24) (by decide) (by decide) (Nat.le_of_ble_eq_true rfl) (Nat.le_of_ble_eq_true rfl) 4 (glen w3 (hn 4 (by omega))) dX6_init_12 (fun x4 H G hP hD hS w4 ho => ?_)
  refine W.widen (k := 1) (n := 24) (Nat.le_of_ble_eq_true rfl) (Nat.le_of_ble_eq_true rfl) ?_
  have w3 := (ho 3 (by decide)).trans w3
  have w4 : G[4]? = some (x4, .inl (cI, 24, .inl (fun _ => 0))) := w4
  have hk := gk_step hk ho (by decide)
  have hn : ∀ k, 5 ≤ k → G[k]? = none := fun k q => (ho k (by omega)).trans (hn k (by omega))
  clear ho
  refine mx_putF (ci := 6) (v := .ref x4) (ty := .array .int) (C := RX6) (T := TX6) (N := 2) (pc := 14) hx hb hts hiX6 tyX6 tyX6_ok nmX6 hown hK hP hD hS 3 w3 rfl 0 (by decide) (hts (.fieldLink RX6 15 "InkPress$Zones" "values" "[I") (by decide +kernel)) (fun _ h9 => h9) rfl hin rfl (by decide +kernel) rfl rfl (Nat.le_of_ble_eq_true rfl) dX6_init_14 (fun H locs G hP hD hS w3 ho => ?_)
  have w4 := (ho 4 (by decide)).trans w4
  have w3 : G[3]? = some (x3, .inr (6, [.ref x4, .int (nI (0))])) := w3
  have hk := gk_step hk ho (by decide)
  have hn : ∀ k, 5 ≤ k → G[k]? = none := fun k q => (ho k (by omega)).trans (hn k (by omega))
  clear ho
  refine lv_aload_n (pc := 17) hx hb dX6_init_17 rfl (lv_at hl 0 rfl) ?_
  refine lv_iconst (v := nI (4)) (pc := 18) hx hb dX6_init_18 (by decide) ?_
  refine mx_cVv (As := [.int (nI (4))]) (rest := []) (pc := 19) ⟨hx, hb, hml, hown, hts⟩ (k_X6_restart (a := (fun k => if k = 4 then x4 else x3)) (zv := fun _ => 0) (zn := 0) (n := 4) hD w3 w4 ) (cwV 1 hts gX6_init_X6_restart rfl rfl rfl (by decide +kernel) ⟨Nat.le_of_ble_eq_true rfl, Nat.le_of_ble_eq_true rfl⟩) 3 rfl rfl w3 hK hN hZ hP hS rfl hl.1 rfl (Nat.le_of_ble_eq_true rfl) dX6_init_19 ⟨Nat.le_of_ble_eq_true rfl, Nat.le_of_ble_eq_true rfl⟩ (fun G H locs hP hD hS hB => ?_)
  obtain ⟨w3, w4, ho⟩ := hB
  have w3 : G[3]? = some (x3, .inr (6, [.ref x4, .int (nI ((4)))])) := w3
  have w4 : G[4]? = some (x4, .inl (cI, 24, .inl (gZr 24 0 (fun _ => 0)))) := w4
  have hk := gk_call hk ho (by decide)
  have hn : ∀ k, 5 ≤ k → G[k]? = none := fun k q => (ho k (by simp only [List.mem_cons, List.not_mem_nil, or_false]; omega)).trans (hn k (by omega))
  clear ho
  exact hret _ _ _ _ _ hP hD hS ⟨x4, w3, w4, hk⟩ dX6_init_22
