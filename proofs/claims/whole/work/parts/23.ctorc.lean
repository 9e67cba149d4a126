/-! constructors -/
def gWf : Nat → Nat → (Nat → Int32) → Nat → Int32
  | 0, _, f => f
  | k + 1, i, f => gWf k (i + 1) (upd f i (if i / 4 = i % 4 then nI 0 else nI 10))
theorem gWf_s {k i : Nat} {f : Nat → Int32} : gWf (k + 1) i f = gWf k (i + 1) (upd f i (if i / 4 = i % 4 then nI 0 else nI 10)) := rfl
theorem gWf_e {k i : Nat} {f : Nat → Int32} (h : i / 4 = i % 4) : gWf (k + 1) i f = gWf k (i + 1) (upd f i (nI 0)) := by rw [gWf_s, if_pos h]
theorem gWf_n {k i : Nat} {f : Nat → Int32} (h : ¬ i / 4 = i % 4) : gWf (k + 1) i f = gWf k (i + 1) (upd f i (nI 10)) := by rw [gWf_s, if_neg h]
set_option maxHeartbeats 4000000 in
set_option maxRecDepth 100000 in
theorem k_X0_init {l : Launch} {D : va_G} {cI cZ : ClassId} {A : Nat → Prop} {g : Nat → Nat} {G0 : va_W} {x16 : Nat} (hD : va_D A G0) (w16 : G0[16]? = some (x16, .inr (0, [.null, .null, .null, .null, .null, .int (nI (0)), .int (gB (false))]))) (hn : ∀ k, 17 ≤ k → G0[k]? = none) : gNv l D cI cZ A g yX0_init wsX0_init ({ frames := 1, cells := 5, slots := 1063, locals := 12 }) [.ref x16] G0 (fun G1 => ∃ x17 : Nat, ∃ x18 : Nat, ∃ x19 : Nat, ∃ x20 : Nat, ∃ x21 : Nat, G1[16]? = some (x16, .inr (0, [.ref x17, .ref x18, .ref x19, .ref x20, .ref x21, .int (nI (0)), .int (gB (false))])) ∧ G1[17]? = some (x17, .inl (cI, 8, .inl (fun j => nI ((fun _ => 0) j)))) ∧ G1[18]? = some (x18, .inl (cI, 8, .inl (fun _ => 0))) ∧ G1[19]? = some (x19, .inl (cI, 16, .inl (gWf (16) (0) ((fun _ => 0))))) ∧ G1[20]? = some (x20, .inl (cI, 1024, .inl (fun _ => 0))) ∧ G1[21]? = some (x21, .inl (cI, 7, .inl (fun j => nI ((fun _ => 0) j)))) ∧ ∀ k, k ∉ [16, 17, 18, 19, 20, 21] → G1[k]? = G0[k]?) 5 1063 := by
  refine gofN (cc := cX0_init) (maxL := 2) (by decide) rfl rfl (Nat.le_of_ble_eq_true rfl) ?_
  intro p e s m args below meth c Q hx hb hml hts hown hin hK hN hZ hA hE hP hS hret ls hl
  have hown : s.vm.findClass RX0 = some m.cls := hown
  have hl : lv_has ls 2 [(0, .ref x16)] := hl
  obtain ⟨locs, elocs⟩ : ∃ q : List Loc, q = [] := ⟨_, rfl⟩
  rw [← elocs] at hS ⊢
  obtain ⟨H, eH⟩ : ∃ q : Heap, q = s.heap := ⟨_, rfl⟩
  have hP : va_P D vwCl G0 H := eH ▸ hP
  have hS : va_S A s.heap H locs := by rw [eH]; exact hS
  rw [← eH]
  clear elocs eH
  have hobj : Cond.code objectInit ⟨#[0xb1]⟩ 1 none ∈ wsX0_init := List.mem_of_getElem? (i := 3) rfl
  have hiX0 : ∀ w ∈ u_ws RX0 TX0 7, w ∈ wsX0_init := by decide +kernel
  have hk : ∀ k, k ∉ [16, 17, 18, 19, 20, 21] → G0[k]? = G0[k]? := fun _ _ => rfl
  refine lv_aload_n (pc := 0) hx hb dX0_init_0 rfl (lv_at hl 0 rfl) ?_
  refine W.objInit hx hb hown (hts (.methodLink RX0 5 objectInit) (by decide +kernel)) (hts (.instanceMethod objectInit) (by decide +kernel)) (hts _ hobj) rfl (by rw [hml]; exact hl.1) rfl dX0_init_1 (Nat.le_of_ble_eq_true rfl) (Nat.le_of_ble_eq_true rfl) ?_
  refine W.eq (g2 := F0 m 4 ls []) rfl ?_
  refine lv_aload_n (pc := 4) hx hb dX0_init_4 rfl (lv_at hl 0 rfl) ?_
  refine lv_bipush (v := nI (8)) (pc := 5) hx hb dX0_init_5 (by decide) ?_
  refine mx_newa (atype := .int) (ty := .int) (f := (fun j => nI ((fun _ => 0) j))) (pc := 7) hx hb (hts (.arrayClass .int) (by decide +kernel)) rfl (by decide) 0 rfl hK hP hD hS hA 8 (fun cA => gHf_n cA 8) (by decide) (by decide) (Nat.le_of_ble_eq_true rfl) (Nat.le_of_ble_eq_true rfl) 17 (glen w16 (hn 17 (by omega))) dX0_init_7 (fun x17 H G hP hD hS w17 ho => ?_)
  refine W.widen (k := 1) (n := 8) (Nat.le_of_ble_eq_true rfl) (Nat.le_of_ble_eq_true rfl) ?_
  have w16 := (ho 16 (by decide)).trans w16
  have w17 : G[17]? = some (x17, .inl (cI, 8, .inl (fun j => nI ((fun _ => 0) j)))) := w17
  have hk := gk_step hk ho (by decide)
  have hn : ∀ k, 18 ≤ k → G[k]? = none := fun k q => (ho k (by omega)).trans (hn k (by omega))
  clear ho
  refine mx_putF (ci := 0) (v := .ref x17) (ty := .array .int) (C := RX0) (T := TX0) (N := 7) (pc := 9) hx hb hts hiX0 tyX0 tyX0_ok nmX0 hown hK hP hD hS 16 w16 rfl 0 (by decide) (hts (.fieldLink RX0 11 "InkPress$Jobs" "colours" "[I") (by decide +kernel)) (fun _ h9 => h9) rfl hin rfl (by decide +kernel) rfl rfl (Nat.le_of_ble_eq_true rfl) dX0_init_9 (fun H locs G hP hD hS w16 ho => ?_)
  have w17 := (ho 17 (by decide)).trans w17
  have w16 : G[16]? = some (x16, .inr (0, [.ref x17, .null, .null, .null, .null, .int (nI (0)), .int (gB (false))])) := w16
  have hk := gk_step hk ho (by decide)
  have hn : ∀ k, 18 ≤ k → G[k]? = none := fun k q => (ho k (by omega)).trans (hn k (by omega))
  clear ho
  refine lv_aload_n (pc := 12) hx hb dX0_init_12 rfl (lv_at hl 0 rfl) ?_
  refine lv_bipush (v := nI (8)) (pc := 13) hx hb dX0_init_13 (by decide) ?_
  refine mx_newa (atype := .int) (ty := .int) (f := (fun _ => 0)) (pc := 15) hx hb (hts (.arrayClass .int) (by decide +kernel)) rfl (by decide) 0 rfl hK hP hD hS hA 8 (fun cA => gHf_I cA 8) (by decide) (by decide) (Nat.le_of_ble_eq_true rfl) (Nat.le_of_ble_eq_true rfl) 18 (glen w17 (hn 18 (by omega))) dX0_init_15 (fun x18 H G hP hD hS w18 ho => ?_)
  refine W.widen (k := 2) (n := 16) (Nat.le_of_ble_eq_true rfl) (Nat.le_of_ble_eq_true rfl) ?_
  have w16 := (ho 16 (by decide)).trans w16
  have w17 := (ho 17 (by decide)).trans w17
  have w18 : G[18]? = some (x18, .inl (cI, 8, .inl (fun _ => 0))) := w18
  have hk := gk_step hk ho (by decide)
  have hn : ∀ k, 19 ≤ k → G[k]? = none := fun k q => (ho k (by omega)).trans (hn k (by omega))
  clear ho
  refine mx_putF (ci := 0) (v := .ref x18) (ty := .array .int) (C := RX0) (T := TX0) (N := 7) (pc := 17) hx hb hts hiX0 tyX0 tyX0_ok nmX0 hown hK hP hD hS 16 w16 rfl 1 (by decide) (hts (.fieldLink RX0 15 "InkPress$Jobs" "papers" "[I") (by decide +kernel)) (fun _ h9 => h9) rfl hin rfl (by decide +kernel) rfl rfl (Nat.le_of_ble_eq_true rfl) dX0_init_17 (fun H locs G hP hD hS w16 ho => ?_)
  have w17 := (ho 17 (by decide)).trans w17
  have w18 := (ho 18 (by decide)).trans w18
  have w16 : G[16]? = some (x16, .inr (0, [.ref x17, .ref x18, .null, .null, .null, .int (nI (0)), .int (gB (false))])) := w16
  have hk := gk_step hk ho (by decide)
  have hn : ∀ k, 19 ≤ k → G[k]? = none := fun k q => (ho k (by omega)).trans (hn k (by omega))
  clear ho
  refine lv_aload_n (pc := 20) hx hb dX0_init_20 rfl (lv_at hl 0 rfl) ?_
  refine lv_bipush (v := nI (16)) (pc := 21) hx hb dX0_init_21 (by decide) ?_
  refine mx_newa (atype := .int) (ty := .int) (f := (fun _ => 0)) (pc := 23) hx hb (hts (.arrayClass .int) (by decide +kernel)) rfl (by decide) 0 rfl hK hP hD hS hA 16 (fun cA => gHf_I cA 16) (by decide) (by decide) (Nat.le_of_ble_eq_true rfl) (Nat.le_of_ble_eq_true rfl) 19 (glen w18 (hn 19 (by omega))) dX0_init_23 (fun x19 H G hP hD hS w19 ho => ?_)
  refine W.widen (k := 3) (n := 32) (Nat.le_of_ble_eq_true rfl) (Nat.le_of_ble_eq_true rfl) ?_
  have w16 := (ho 16 (by decide)).trans w16
  have w17 := (ho 17 (by decide)).trans w17
  have w18 := (ho 18 (by decide)).trans w18
  have w19 : G[19]? = some (x19, .inl (cI, 16, .inl (fun _ => 0))) := w19
  have hk := gk_step hk ho (by decide)
  have hn : ∀ k, 20 ≤ k → G[k]? = none := fun k q => (ho k (by omega)).trans (hn k (by omega))
  clear ho
  refine mx_putF (ci := 0) (v := .ref x19) (ty := .array .int) (C := RX0) (T := TX0) (N := 7) (pc := 25) hx hb hts hiX0 tyX0 tyX0_ok nmX0 hown hK hP hD hS 16 w16 rfl 2 (by decide) (hts (.fieldLink RX0 18 "InkPress$Jobs" "washes" "[I") (by decide +kernel)) (fun _ h9 => h9) rfl hin rfl (by decide +kernel) rfl rfl (Nat.le_of_ble_eq_true rfl) dX0_init_25 (fun H locs G hP hD hS w16 ho => ?_)
  have w17 := (ho 17 (by decide)).trans w17
  have w18 := (ho 18 (by decide)).trans w18
  have w19 := (ho 19 (by decide)).trans w19
  have w16 : G[16]? = some (x16, .inr (0, [.ref x17, .ref x18, .ref x19, .null, .null, .int (nI (0)), .int (gB (false))])) := w16
  have hk := gk_step hk ho (by decide)
  have hn : ∀ k, 20 ≤ k → G[k]? = none := fun k q => (ho k (by omega)).trans (hn k (by omega))
  clear ho
  refine lv_aload_n (pc := 28) hx hb dX0_init_28 rfl (lv_at hl 0 rfl) ?_
  refine lv_sipush (v := nI (1024)) (pc := 29) hx hb dX0_init_29 (by decide) ?_
  refine mx_newa (atype := .int) (ty := .int) (f := (fun _ => 0)) (pc := 32) hx hb (hts (.arrayClass .int) (by decide +kernel)) rfl (by decide) 0 rfl hK hP hD hS hA 1024 (fun cA => gHf_I cA 1024) (by decide) (by decide) (Nat.le_of_ble_eq_true rfl) (Nat.le_of_ble_eq_true rfl) 20 (glen w19 (hn 20 (by omega))) dX0_init_32 (fun x20 H G hP hD hS w20 ho => ?_)
  refine W.widen (k := 4) (n := 1056) (Nat.le_of_ble_eq_true rfl) (Nat.le_of_ble_eq_true rfl) ?_
  have w16 := (ho 16 (by decide)).trans w16
  have w17 := (ho 17 (by decide)).trans w17
  have w18 := (ho 18 (by decide)).trans w18
  have w19 := (ho 19 (by decide)).trans w19
  have w20 : G[20]? = some (x20, .inl (cI, 1024, .inl (fun _ => 0))) := w20
  have hk := gk_step hk ho (by decide)
  have hn : ∀ k, 21 ≤ k → G[k]? = none := fun k q => (ho k (by omega)).trans (hn k (by omega))
  clear ho
  refine mx_putF (ci := 0) (v := .ref x20) (ty := .array .int) (C := RX0) (T := TX0) (N := 7) (pc := 34) hx hb hts hiX0 tyX0 tyX0_ok nmX0 hown hK hP hD hS 16 w16 rfl 3 (by decide) (hts (.fieldLink RX0 21 "InkPress$Jobs" "costsToCome" "[I") (by decide +kernel)) (fun _ h9 => h9) rfl hin rfl (by decide +kernel) rfl rfl (Nat.le_of_ble_eq_true rfl) dX0_init_34 (fun H locs G hP hD hS w16 ho => ?_)
  have w17 := (ho 17 (by decide)).trans w17
  have w18 := (ho 18 (by decide)).trans w18
  have w19 := (ho 19 (by decide)).trans w19
  have w20 := (ho 20 (by decide)).trans w20
  have w16 : G[16]? = some (x16, .inr (0, [.ref x17, .ref x18, .ref x19, .ref x20, .null, .int (nI (0)), .int (gB (false))])) := w16
  have hk := gk_step hk ho (by decide)
  have hn : ∀ k, 21 ≤ k → G[k]? = none := fun k q => (ho k (by omega)).trans (hn k (by omega))
  clear ho
  refine lv_aload_n (pc := 37) hx hb dX0_init_37 rfl (lv_at hl 0 rfl) ?_
  refine lv_bipush (v := nI (7)) (pc := 38) hx hb dX0_init_38 (by decide) ?_
  refine mx_newa (atype := .int) (ty := .int) (f := (fun j => nI ((fun _ => 0) j))) (pc := 40) hx hb (hts (.arrayClass .int) (by decide +kernel)) rfl (by decide) 0 rfl hK hP hD hS hA 7 (fun cA => gHf_n cA 7) (by decide) (by decide) (Nat.le_of_ble_eq_true rfl) (Nat.le_of_ble_eq_true rfl) 21 (glen w20 (hn 21 (by omega))) dX0_init_40 (fun x21 H G hP hD hS w21 ho => ?_)
  refine W.widen (k := 5) (n := 1063) (Nat.le_of_ble_eq_true rfl) (Nat.le_of_ble_eq_true rfl) ?_
  have w16 := (ho 16 (by decide)).trans w16
  have w17 := (ho 17 (by decide)).trans w17
  have w18 := (ho 18 (by decide)).trans w18
  have w19 := (ho 19 (by decide)).trans w19
  have w20 := (ho 20 (by decide)).trans w20
  have w21 : G[21]? = some (x21, .inl (cI, 7, .inl (fun j => nI ((fun _ => 0) j)))) := w21
  have hk := gk_step hk ho (by decide)
  have hn : ∀ k, 22 ≤ k → G[k]? = none := fun k q => (ho k (by omega)).trans (hn k (by omega))
  clear ho
  refine mx_putF (ci := 0) (v := .ref x21) (ty := .array .int) (C := RX0) (T := TX0) (N := 7) (pc := 42) hx hb hts hiX0 tyX0 tyX0_ok nmX0 hown hK hP hD hS 16 w16 rfl 4 (by decide) (hts (.fieldLink RX0 24 "InkPress$Jobs" "best" "[I") (by decide +kernel)) (fun _ h9 => h9) rfl hin rfl (by decide +kernel) rfl rfl (Nat.le_of_ble_eq_true rfl) dX0_init_42 (fun H locs G hP hD hS w16 ho => ?_)
  have w17 := (ho 17 (by decide)).trans w17
  have w18 := (ho 18 (by decide)).trans w18
  have w19 := (ho 19 (by decide)).trans w19
  have w20 := (ho 20 (by decide)).trans w20
  have w21 := (ho 21 (by decide)).trans w21
  have w16 : G[16]? = some (x16, .inr (0, [.ref x17, .ref x18, .ref x19, .ref x20, .ref x21, .int (nI (0)), .int (gB (false))])) := w16
  have hk := gk_step hk ho (by decide)
  have hn : ∀ k, 22 ≤ k → G[k]? = none := fun k q => (ho k (by omega)).trans (hn k (by omega))
  clear ho
  refine lv_iconst (v := nI (0)) (pc := 45) hx hb dX0_init_45 (by decide) ?_
  refine lv_istore_n (lv' := [(1, .int (nI (0))), (0, .ref x16)]) (pc := 46) hx hb dX0_init_46 rfl hl (by decide) rfl (fun ls hl => ?_)
  have LP : ∀ (k : Nat) (i : Nat) (wf : Nat → Int32), i + k = 16 → ∀ (G : va_W) (H : Heap) (locs : List Loc) (ls : Array Slot), va_P D vwCl G H → va_D A G → va_S A s.heap H locs → (∀ j, j ∉ [16, 17, 18, 19, 20, 21] → G[j]? = G0[j]?) → G[16]? = some (x16, .inr (0, [.ref x17, .ref x18, .ref x19, .ref x20, .ref x21, .int (nI (0)), .int (gB (false))])) → G[17]? = some (x17, .inl (cI, 8, .inl (fun j => nI ((fun _ => 0) j)))) → G[18]? = some (x18, .inl (cI, 8, .inl (fun _ => 0))) → G[19]? = some (x19, .inl (cI, 16, .inl (wf))) → G[20]? = some (x20, .inl (cI, 1024, .inl (fun _ => 0))) → G[21]? = some (x21, .inl (cI, 7, .inl (fun j => nI ((fun _ => 0) j)))) → lv_has ls 2 [(0, .ref x16), (1, .int (nI (i)))] → (∀ (G : va_W) (H : Heap) (locs : List Loc) (ls : Array Slot), va_P D vwCl G H → va_D A G → va_S A s.heap H locs → (∀ j, j ∉ [16, 17, 18, 19, 20, 21] → G[j]? = G0[j]?) → G[16]? = some (x16, .inr (0, [.ref x17, .ref x18, .ref x19, .ref x20, .ref x21, .int (nI (0)), .int (gB (false))])) → G[17]? = some (x17, .inl (cI, 8, .inl (fun j => nI ((fun _ => 0) j)))) → G[18]? = some (x18, .inl (cI, 8, .inl (fun _ => 0))) → G[19]? = some (x19, .inl (cI, 16, .inl (gWf k i wf))) → G[20]? = some (x20, .inl (cI, 1024, .inl (fun _ => 0))) → G[21]? = some (x21, .inl (cI, 7, .inl (fun j => nI ((fun _ => 0) j)))) → lv_has ls 2 [(0, .ref x16)] → W p l e ({ frames := 1, cells := 5, slots := 1063, locals := 12 } : Room) s m args below meth c H locs 5 1063 Q (F0 m 83 ls [])) → W p l e ({ frames := 1, cells := 5, slots := 1063, locals := 12 } : Room) s m args below meth c H locs 5 1063 Q (F0 m 47 ls []) := by
    intro k
    induction k with
    | zero =>
      intro i wf hi G H locs ls hP hD hS hk w16 w17 w18 w19 w20 w21 hl hcont
      refine lv_iload_n (pc := 47) hx hb dX0_init_47 rfl (lv_at hl 1 rfl) ?_
      refine lv_aload_n (pc := 48) hx hb dX0_init_48 rfl (lv_at hl 0 rfl) ?_
      refine va_get (ci := 0) (C := RX0) (T := TX0) (N := 7) (pc := 49) hx hb hts hiX0 hown hK hP 16 w16 rfl 2 (by decide) (hts (.fieldLink RX0 18 "InkPress$Jobs" "washes" "[I") (by decide +kernel)) (fun _ h9 => h9) rfl dX0_init_49 ?_
      refine va_alen (v := nI 16) (pc := 52) hx hb hK hP 19 0 w19 rfl rfl dX0_init_52 ?_
      refine mx_cge (tgt := 83) (pc := 53) hx hb (by omega) (by omega) dX0_init_53 (by decide) (fun c53 => ?_) (fun c53 => absurd c53 (by omega))
      exact hcont G H locs ls hP hD hS hk w16 w17 w18 w19 w20 w21 (lv_sub hl [0] rfl)
    | succ k ih =>
      intro i wf hi G H locs ls hP hD hS hk w16 w17 w18 w19 w20 w21 hl hcont
      refine lv_iload_n (pc := 47) hx hb dX0_init_47 rfl (lv_at hl 1 rfl) ?_
      refine lv_aload_n (pc := 48) hx hb dX0_init_48 rfl (lv_at hl 0 rfl) ?_
      refine va_get (ci := 0) (C := RX0) (T := TX0) (N := 7) (pc := 49) hx hb hts hiX0 hown hK hP 16 w16 rfl 2 (by decide) (hts (.fieldLink RX0 18 "InkPress$Jobs" "washes" "[I") (by decide +kernel)) (fun _ h9 => h9) rfl dX0_init_49 ?_
      refine va_alen (v := nI 16) (pc := 52) hx hb hK hP 19 0 w19 rfl rfl dX0_init_52 ?_
      refine mx_cge (tgt := 83) (pc := 53) hx hb (by omega) (by omega) dX0_init_53 (by decide) (fun c53 => absurd c53 (by omega)) (fun c53 => ?_)
      refine lv_aload_n (pc := 56) hx hb dX0_init_56 rfl (lv_at hl 0 rfl) ?_
      refine va_get (ci := 0) (C := RX0) (T := TX0) (N := 7) (pc := 57) hx hb hts hiX0 hown hK hP 16 w16 rfl 2 (by decide) (hts (.fieldLink RX0 18 "InkPress$Jobs" "washes" "[I") (by decide +kernel)) (fun _ h9 => h9) rfl dX0_init_57 ?_
      refine lv_iload_n (pc := 60) hx hb dX0_init_60 rfl (lv_at hl 1 rfl) ?_
      refine lv_iload_n (pc := 61) hx hb dX0_init_61 rfl (lv_at hl 1 rfl) ?_
      refine lv_iconst (v := nI (4)) (pc := 62) hx hb dX0_init_62 (by decide) ?_
      refine mx_idiv (pc := 63) hx hb (by omega) (by omega) (by omega) dX0_init_63 ?_
      refine lv_iload_n (pc := 64) hx hb dX0_init_64 rfl (lv_at hl 1 rfl) ?_
      refine lv_iconst (v := nI (4)) (pc := 65) hx hb dX0_init_65 (by decide) ?_
      refine mx_irem (pc := 66) hx hb (by omega) (by omega) (by omega) dX0_init_66 ?_
      refine mx_cne (tgt := 74) (pc := 67) hx hb (by omega) (by omega) dX0_init_67 (by decide) (fun c67 => ?_) (fun c67 => ?_)
      · skip
        refine lv_bipush (v := nI (10)) (pc := 74) hx hb dX0_init_74 (by decide) ?_
        refine mx_iast (x := nI (10)) (pc := 76) hx hb hK hP hD hS 19 w19 (i) (by omega) (by decide) dX0_init_76 (fun H locs G hP hD hS w19 ho => ?_)
        have w16 := (ho 16 (by decide)).trans w16
        have w17 := (ho 17 (by decide)).trans w17
        have w18 := (ho 18 (by decide)).trans w18
        have w20 := (ho 20 (by decide)).trans w20
        have w21 := (ho 21 (by decide)).trans w21
        have w19 : G[19]? = some (x19, .inl (cI, 16, .inl (upd (wf) (i) (nI (10))))) := w19
        have hk := gk_step hk ho (by decide)
        clear ho
        refine lv_iinc (v := nI (i + 1)) (lv' := [(1, .int (nI (i + 1))), (0, .ref x16)]) (pc := 77) hx hb dX0_init_77 hl (k := 1) rfl (mx_inc1 _) (by decide) rfl (fun ls hl => ?_)
        refine lv_goto (tgt := 47) (pc := 80) hx hb dX0_init_80 (by decide) ?_
        rw [gWf_n c67] at hcont
        exact ih (i + 1) (upd (wf) (i) (nI (10))) (by omega) G H locs ls hP hD hS hk w16 w17 w18 w19 w20 w21 (lv_sub hl [1, 0] rfl) hcont
      · skip
        refine lv_iconst (v := nI (0)) (pc := 70) hx hb dX0_init_70 (by decide) ?_
        refine lv_goto (tgt := 76) (pc := 71) hx hb dX0_init_71 (by decide) ?_
        refine mx_iast (x := nI (0)) (pc := 76) hx hb hK hP hD hS 19 w19 (i) (by omega) (by decide) dX0_init_76 (fun H locs G hP hD hS w19 ho => ?_)
        have w16 := (ho 16 (by decide)).trans w16
        have w17 := (ho 17 (by decide)).trans w17
        have w18 := (ho 18 (by decide)).trans w18
        have w20 := (ho 20 (by decide)).trans w20
        have w21 := (ho 21 (by decide)).trans w21
        have w19 : G[19]? = some (x19, .inl (cI, 16, .inl (upd (wf) (i) (nI (0))))) := w19
        have hk := gk_step hk ho (by decide)
        clear ho
        refine lv_iinc (v := nI (i + 1)) (lv' := [(1, .int (nI (i + 1))), (0, .ref x16)]) (pc := 77) hx hb dX0_init_77 hl (k := 1) rfl (mx_inc1 _) (by decide) rfl (fun ls hl => ?_)
        refine lv_goto (tgt := 47) (pc := 80) hx hb dX0_init_80 (by decide) ?_
        rw [gWf_e c67] at hcont
        exact ih (i + 1) (upd (wf) (i) (nI (0))) (by omega) G H locs ls hP hD hS hk w16 w17 w18 w19 w20 w21 (lv_sub hl [1, 0] rfl) hcont
  refine LP 16 (0) ((fun _ => 0)) (by omega) G H locs ls hP hD hS hk w16 w17 w18 w19 w20 w21 (lv_sub hl [1, 0] rfl) (fun G H locs ls hP hD hS hk w16 w17 w18 w19 w20 w21 hl => ?_)
  have w19 : G[19]? = some (x19, .inl (cI, 16, .inl (gWf (16) (0) ((fun _ => 0))))) := w19
  exact hret _ _ _ _ _ hP hD hS ⟨x17, x18, x19, x20, x21, w16, w17, w18, w19, w20, w21, hk⟩ dX0_init_83
