/-! constructors -/
set_option maxHeartbeats 4000000 in
set_option maxRecDepth 100000 in
theorem k_X3_init {l : Launch} {D : va_G} {cI cZ : ClassId} {A : Nat → Prop} {g : Nat → Nat} {G0 : va_W} {x1 : Nat} (hD : va_D A G0) (w1 : G0[1]? = some (x1, .inr (3, [.null]))) (hn : ∀ k, 2 ≤ k → G0[k]? = none) : gNv l D cI cZ A g yX3_init wsX3_init ({ frames := 1, cells := 1, slots := 9, locals := 15 }) [.ref x1] G0 (fun G1 => ∃ x2 : Nat, G1[1]? = some (x1, .inr (3, [.ref x2])) ∧ G1[2]? = some (x2, .inl (cI, 9, .inl (fun j => (gTab 2).getD j 0))) ∧ ∀ k, k ∉ [1, 2] → G1[k]? = G0[k]?) 1 9 := by
  refine gofN (cc := cX3_init) (maxL := 1) (by decide) rfl rfl (Nat.le_of_ble_eq_true rfl) ?_
  intro p e s m args below meth c Q hx hb hml hts hown hin hK hN hZ hA hE hP hS hret ls hl
  have hown : s.vm.findClass RX3 = some m.cls := hown
  have hl : lv_has ls 1 [(0, .ref x1)] := hl
  obtain ⟨locs, elocs⟩ : ∃ q : List Loc, q = [] := ⟨_, rfl⟩
  rw [← elocs] at hS ⊢
  obtain ⟨H, eH⟩ : ∃ q : Heap, q = s.heap := ⟨_, rfl⟩
  have hP : va_P D vwCl G0 H := eH ▸ hP
  have hS : va_S A s.heap H locs := by rw [eH]; exact hS
  rw [← eH]
  clear elocs eH
  have hobj : Cond.code objectInit ⟨#[0xb1]⟩ 1 none ∈ wsX3_init := List.mem_of_getElem? (i := 3) rfl
  have hiX3 : ∀ w ∈ u_ws RX3 TX3 1, w ∈ wsX3_init := by decide +kernel
  have hk : ∀ k, k ∉ [1, 2] → G0[k]? = G0[k]? := fun _ _ => rfl
  refine lv_aload_n (pc := 0) hx hb dX3_init_0 rfl (lv_at hl 0 rfl) ?_
  refine W.objInit hx hb hown (hts (.methodLink RX3 1 objectInit) (by decide +kernel)) (hts (.instanceMethod objectInit) (by decide +kernel)) (hts _ hobj) rfl (by rw [hml]; exact hl.1) rfl dX3_init_1 (Nat.le_of_ble_eq_true rfl) (Nat.le_of_ble_eq_true rfl) ?_
  refine W.eq (g2 := F0 m 4 ls []) rfl ?_
  refine lv_aload_n (pc := 4) hx hb dX3_init_4 rfl (lv_at hl 0 rfl) ?_
  refine va_gets (C := gTabC 2) (n := gTabN 2) (d := "[I") (own := RX3) (ref := "InkPress$Rules") (v := .ref (g 2)) (pc := 5) hx hb (hZ 2 (by decide)).1 hS hown (hts (.fieldLink RX3 7 "InkPress$Rules" "FIRST" "[I") (by decide +kernel)) (fun _ h9 => h9) dX3_init_5 ?_
  refine mx_cloneT (pc := 8) hx hb (hml.trans hl.1.symm) hown (hts (.methodLink RX3 13 ⟨"[I", "clone", "()Ljava/lang/Object;"⟩) (by decide +kernel)) (hts (.sameMethod "[I" "java/lang/Object" "clone" "()Ljava/lang/Object;") (by decide +kernel)) (hts (.native ⟨"java/lang/Object", "clone", "()Ljava/lang/Object;"⟩) (by decide +kernel)) (hts (.instanceMethod ⟨"java/lang/Object", "clone", "()Ljava/lang/Object;"⟩) (by decide +kernel)) (hts (.selects "[I" ⟨"[I", "clone", "()Ljava/lang/Object;"⟩ ⟨"java/lang/Object", "clone", "()Ljava/lang/Object;"⟩) (by decide +kernel)) (hN (.castable "[I" "java/lang/Cloneable") (by decide +kernel)) hK hP hD hS hA hZ hE (Nat.le_of_ble_eq_true rfl) (Nat.le_of_ble_eq_true rfl) (Nat.le_of_ble_eq_true rfl) (Nat.le_of_ble_eq_true rfl) 2 (glen w1 (hn 2 (by omega))) dX3_init_8 (fun x2 H G hP hD hS w2 ho => ?_)
  refine W.widen (k := 1) (n := 9) (Nat.le_of_ble_eq_true rfl) (Nat.le_of_ble_eq_true rfl) ?_
  have w1 := (ho 1 (by decide)).trans w1
  have w2 : G[2]? = some (x2, .inl (cI, 9, .inl (fun j => (gTab 2).getD j 0))) := w2
  have hk := gk_step hk ho (by decide)
  have hn : ∀ k, 3 ≤ k → G[k]? = none := fun k q => (ho k (by omega)).trans (hn k (by omega))
  clear ho
  refine mx_castT (pc := 11) hx hb hown (hts (.classLink RX3 14 "[I") (by decide +kernel)) hK hP 2 w2 dX3_init_11 ?_
  refine mx_putF (ci := 3) (v := .ref x2) (ty := .array .int) (C := RX3) (T := TX3) (N := 1) (pc := 14) hx hb hts hiX3 tyX3 tyX3_ok nmX3 hown hK hP hD hS 1 w1 rfl 0 (by decide) (hts (.fieldLink RX3 18 "InkPress$Rules" "values" "[I") (by decide +kernel)) (fun _ h9 => h9) rfl hin rfl (by decide +kernel) rfl rfl (Nat.le_of_ble_eq_true rfl) dX3_init_14 (fun H locs G hP hD hS w1 ho => ?_)
  have w2 := (ho 2 (by decide)).trans w2
  have w1 : G[1]? = some (x1, .inr (3, [.ref x2])) := w1
  have hk := gk_step hk ho (by decide)
  have hn : ∀ k, 3 ≤ k → G[k]? = none := fun k q => (ho k (by omega)).trans (hn k (by omega))
  clear ho
  exact hret _ _ _ _ _ hP hD hS ⟨x2, w1, w2, hk⟩ dX3_init_17
