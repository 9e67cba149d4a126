/-! the reference, on -/
set_option maxHeartbeats 4000000 in
set_option maxRecDepth 100000 in
theorem k_X8_presetOf {l : Launch} {D : va_G} {cI cZ : ClassId} {A : Nat → Prop} {g a : Nat → Nat} {G0 : va_W} {zn : Nat} {tr : Nat} {sc : Nat} {pn : Nat} {mn : Nat} {jn : Nat} {sg : Int32} {sr : Int32} {ss : Int32} {fed : Int32} {pap : Int32} {bar : Int32} {st : Bool} {q1 : Int64} {q2 : Int64} {q3 : Int64} {q4 : Int64} {q5 : Int64} {pc_ : Nat → Int32} {pk_ : Nat → Int32} {x : Int32} (hD : va_D A G0) (w22 : G0[22]? = some (a 22, .inr (8, [.int (nI (zn)), .int (nI (tr)), .ref (a 23), .ref (a 24), .ref (a 25), .ref (a 26), .ref (a 27), .ref (a 28), .ref (a 29), .int (nI (sc)), .int (sg), .int (sr), .int (ss), .int (fed), .int (pap), .int (bar), .int (gB (st)), .ref (a 30), .ref (a 31), .ref (a 32), .int (nI (pn)), .ref (a 33), .ref (a 34), .ref (a 35), .ref (a 36), .int (nI (mn)), .long (q1), .long (q2), .long (q3), .long (q4), .long (q5), .ref (a 37), .ref (a 38), .ref (a 39), .int (nI (jn)), .ref (a 40), .ref (a 41)]))) (w31 : G0[31]? = some (a 31, .inl (cI, 30, .inl (pc_)))) (w32 : G0[32]? = some (a 32, .inl (cI, 30, .inl (pk_)))) (hp : pn ≤ 30) (hp0 : 0 < pn) : gMi l D cI cZ A g yX8_presetOf wsX8_presetOf ({ frames := 0, cells := 0, slots := 0, locals := 0 }) [.ref (a 22), .int (x)] G0 (gMkey pn (gPs pc_ pn 0 0) (gPs pk_ pn 0 0) (gPs (fun j => pc_ j * pc_ j) pn 0 0) (gPs (fun j => pc_ j * pk_ j) pn 0 0) x) (fun G1 => G1 = G0) := by
  refine gof_i (cc := cX8_presetOf) (maxL := 14) (by decide) rfl (Nat.le_of_ble_eq_true rfl) hD ?_
  intro p e s m args below meth c Q hx hb hml hts hown hK hN hZ hP hS hret ls hl
  have hown : s.vm.findClass RX8 = some m.cls := hown
  have hl : lv_has ls 14 [(0, .ref (a 22)), (1, .int (x))] := hl
  obtain ⟨locs, elocs⟩ : ∃ q : List Loc, q = [] := ⟨_, rfl⟩
  rw [← elocs] at hS ⊢
  obtain ⟨H, eH⟩ : ∃ q : Heap, q = s.heap := ⟨_, rfl⟩
  have hP : va_P D vwCl G0 H := eH ▸ hP
  have hS : va_S A s.heap H locs := by rw [eH]; exact hS
  rw [← eH]
  clear elocs eH
  have hiX8 : ∀ w ∈ u_ws RX8 TX8 37, w ∈ wsX8_presetOf := by decide +kernel
  have hk : ∀ k, k ∉ ([] : List Nat) → G0[k]? = G0[k]? := fun _ _ => rfl
  refine lv_lconst (v := 0) (pc := 0) hx hb dX8_presetOf_0 (by decide) ?_
  refine lv_lstore_n (lv' := [(2, .long (0)), (0, .ref (a 22)), (1, .int (x))]) (pc := 1) hx hb dX8_presetOf_1 rfl hl (by decide) rfl (fun ls hl => ?_)
  refine lv_lconst (v := 0) (pc := 2) hx hb dX8_presetOf_2 (by decide) ?_
  refine lv_lstore (lv' := [(4, .long (0)), (2, .long (0)), (0, .ref (a 22)), (1, .int (x))]) (pc := 3) hx hb dX8_presetOf_3 hl (by decide) rfl (fun ls hl => ?_)
  refine lv_lconst (v := 0) (pc := 5) hx hb dX8_presetOf_5 (by decide) ?_
  refine lv_lstore (lv' := [(6, .long (0)), (4, .long (0)), (2, .long (0)), (0, .ref (a 22)), (1, .int (x))]) (pc := 6) hx hb dX8_presetOf_6 hl (by decide) rfl (fun ls hl => ?_)
  refine lv_lconst (v := 0) (pc := 8) hx hb dX8_presetOf_8 (by decide) ?_
  refine lv_lstore (lv' := [(8, .long (0)), (6, .long (0)), (4, .long (0)), (2, .long (0)), (0, .ref (a 22)), (1, .int (x))]) (pc := 9) hx hb dX8_presetOf_9 hl (by decide) rfl (fun ls hl => ?_)
  refine lv_iconst (v := nI (0)) (pc := 11) hx hb dX8_presetOf_11 (by decide) ?_
  refine lv_istore (lv' := [(10, .int (nI (0))), (8, .long (0)), (6, .long (0)), (4, .long (0)), (2, .long (0)), (0, .ref (a 22)), (1, .int (x))]) (pc := 12) hx hb dX8_presetOf_12 hl (by decide) rfl (fun ls hl => ?_)
  have LP : ∀ (k : Nat) (i : Nat) (s1 : Int64) (s2 : Int64) (s3 : Int64) (s4 : Int64), i + k = pn → ∀ (H : Heap) (locs : List Loc) (ls : Array Slot), va_P D vwCl G0 H → va_D A G0 → va_S A s.heap H locs → (∀ j, j ∉ ([] : List Nat) → G0[j]? = G0[j]?) → G0[22]? = some (a 22, .inr (8, [.int (nI (zn)), .int (nI (tr)), .ref (a 23), .ref (a 24), .ref (a 25), .ref (a 26), .ref (a 27), .ref (a 28), .ref (a 29), .int (nI (sc)), .int (sg), .int (sr), .int (ss), .int (fed), .int (pap), .int (bar), .int (gB (st)), .ref (a 30), .ref (a 31), .ref (a 32), .int (nI (pn)), .ref (a 33), .ref (a 34), .ref (a 35), .ref (a 36), .int (nI (mn)), .long (q1), .long (q2), .long (q3), .long (q4), .long (q5), .ref (a 37), .ref (a 38), .ref (a 39), .int (nI (jn)), .ref (a 40), .ref (a 41)])) → G0[31]? = some (a 31, .inl (cI, 30, .inl (pc_))) → G0[32]? = some (a 32, .inl (cI, 30, .inl (pk_))) → lv_has ls 14 [(0, .ref (a 22)), (1, .int (x)), (2, .long (s1)), (4, .long (s2)), (6, .long (s3)), (8, .long (s4)), (10, .int (nI (i)))] → (∀ (H : Heap) (locs : List Loc) (ls : Array Slot), va_P D vwCl G0 H → va_D A G0 → va_S A s.heap H locs → (∀ j, j ∉ ([] : List Nat) → G0[j]? = G0[j]?) → G0[22]? = some (a 22, .inr (8, [.int (nI (zn)), .int (nI (tr)), .ref (a 23), .ref (a 24), .ref (a 25), .ref (a 26), .ref (a 27), .ref (a 28), .ref (a 29), .int (nI (sc)), .int (sg), .int (sr), .int (ss), .int (fed), .int (pap), .int (bar), .int (gB (st)), .ref (a 30), .ref (a 31), .ref (a 32), .int (nI (pn)), .ref (a 33), .ref (a 34), .ref (a 35), .ref (a 36), .int (nI (mn)), .long (q1), .long (q2), .long (q3), .long (q4), .long (q5), .ref (a 37), .ref (a 38), .ref (a 39), .int (nI (jn)), .ref (a 40), .ref (a 41)])) → G0[31]? = some (a 31, .inl (cI, 30, .inl (pc_))) → G0[32]? = some (a 32, .inl (cI, 30, .inl (pk_))) → lv_has ls 14 [(0, .ref (a 22)), (1, .int (x)), (2, .long (gPs pc_ k i s1)), (4, .long (gPs pk_ k i s2)), (6, .long (gPs (fun j => pc_ j * pc_ j) k i s3)), (8, .long (gPs (fun j => pc_ j * pk_ j) k i s4))] → W p l e ({ frames := 0, cells := 0, slots := 0, locals := 0 } : Room) s m args below meth c H locs 0 0 Q (F0 m 95 ls [])) → W p l e ({ frames := 0, cells := 0, slots := 0, locals := 0 } : Room) s m args below meth c H locs 0 0 Q (F0 m 14 ls []) := by
    intro k
    induction k with
    | zero =>
      intro i s1 s2 s3 s4 hi H locs ls hP hD hS hk w22 w31 w32 hl hcont
      refine lv_iload (pc := 14) hx hb dX8_presetOf_14 (lv_at hl 6 rfl) ?_
      refine lv_aload_n (pc := 16) hx hb dX8_presetOf_16 rfl (lv_at hl 0 rfl) ?_
      refine va_get (ci := 8) (C := RX8) (T := TX8) (N := 37) (pc := 17) hx hb hts hiX8 hown hK hP 22 w22 rfl 20 (by decide) (hts (.fieldLink RX8 149 "InkPressModel" "pastMany" "I") (by decide +kernel)) (fun _ h9 => h9) rfl dX8_presetOf_17 ?_
      refine mx_cge (tgt := 95) (pc := 20) hx hb (by omega) (by omega) dX8_presetOf_20 (by decide) (fun c20 => ?_) (fun c20 => absurd c20 (by omega))
      exact hcont H locs ls hP hD hS hk w22 w31 w32 (lv_sub hl [0, 1, 2, 3, 4, 5] rfl)
    | succ k ih =>
      intro i s1 s2 s3 s4 hi H locs ls hP hD hS hk w22 w31 w32 hl hcont
      refine lv_iload (pc := 14) hx hb dX8_presetOf_14 (lv_at hl 6 rfl) ?_
      refine lv_aload_n (pc := 16) hx hb dX8_presetOf_16 rfl (lv_at hl 0 rfl) ?_
      refine va_get (ci := 8) (C := RX8) (T := TX8) (N := 37) (pc := 17) hx hb hts hiX8 hown hK hP 22 w22 rfl 20 (by decide) (hts (.fieldLink RX8 149 "InkPressModel" "pastMany" "I") (by decide +kernel)) (fun _ h9 => h9) rfl dX8_presetOf_17 ?_
      refine mx_cge (tgt := 95) (pc := 20) hx hb (by omega) (by omega) dX8_presetOf_20 (by decide) (fun c20 => absurd c20 (by omega)) (fun c20 => ?_)
      refine lv_lload_n (pc := 23) hx hb dX8_presetOf_23 rfl (lv_at hl 2 rfl) ?_
      refine lv_aload_n (pc := 24) hx hb dX8_presetOf_24 rfl (lv_at hl 0 rfl) ?_
      refine va_get (ci := 8) (C := RX8) (T := TX8) (N := 37) (pc := 25) hx hb hts hiX8 hown hK hP 22 w22 rfl 18 (by decide) (hts (.fieldLink RX8 45 "InkPressModel" "pastCover" "[I") (by decide +kernel)) (fun _ h9 => h9) rfl dX8_presetOf_25 ?_
      refine lv_iload (pc := 28) hx hb dX8_presetOf_28 (lv_at hl 6 rfl) ?_
      refine mx_iald (pc := 30) hx hb hK hP 31 w31 (i) (by omega) (by decide) dX8_presetOf_30 ?_
      refine lv_i2l (v := ((pc_) (i)).toInt64) (pc := 31) hx hb dX8_presetOf_31 rfl ?_
      refine lv_ladd (pc := 32) hx hb dX8_presetOf_32 ?_
      refine lv_lstore_n (lv' := [(2, .long ((s1 + ((pc_) (i)).toInt64))), (0, .ref (a 22)), (1, .int (x)), (4, .long (s2)), (6, .long (s3)), (8, .long (s4)), (10, .int (nI (i)))]) (pc := 33) hx hb dX8_presetOf_33 rfl hl (by decide) rfl (fun ls hl => ?_)
      refine lv_lload (pc := 34) hx hb dX8_presetOf_34 (lv_at hl 3 rfl) ?_
      refine lv_aload_n (pc := 36) hx hb dX8_presetOf_36 rfl (lv_at hl 1 rfl) ?_
      refine va_get (ci := 8) (C := RX8) (T := TX8) (N := 37) (pc := 37) hx hb hts hiX8 hown hK hP 22 w22 rfl 19 (by decide) (hts (.fieldLink RX8 48 "InkPressModel" "pastKey" "[I") (by decide +kernel)) (fun _ h9 => h9) rfl dX8_presetOf_37 ?_
      refine lv_iload (pc := 40) hx hb dX8_presetOf_40 (lv_at hl 6 rfl) ?_
      refine mx_iald (pc := 42) hx hb hK hP 32 w32 (i) (by omega) (by decide) dX8_presetOf_42 ?_
      refine lv_i2l (v := ((pk_) (i)).toInt64) (pc := 43) hx hb dX8_presetOf_43 rfl ?_
      refine lv_ladd (pc := 44) hx hb dX8_presetOf_44 ?_
      refine lv_lstore (lv' := [(4, .long ((s2 + ((pk_) (i)).toInt64))), (2, .long ((s1 + ((pc_) (i)).toInt64))), (0, .ref (a 22)), (1, .int (x)), (6, .long (s3)), (8, .long (s4)), (10, .int (nI (i)))]) (pc := 45) hx hb dX8_presetOf_45 hl (by decide) rfl (fun ls hl => ?_)
      refine lv_lload (pc := 47) hx hb dX8_presetOf_47 (lv_at hl 4 rfl) ?_
      refine lv_aload_n (pc := 49) hx hb dX8_presetOf_49 rfl (lv_at hl 2 rfl) ?_
      refine va_get (ci := 8) (C := RX8) (T := TX8) (N := 37) (pc := 50) hx hb hts hiX8 hown hK hP 22 w22 rfl 18 (by decide) (hts (.fieldLink RX8 45 "InkPressModel" "pastCover" "[I") (by decide +kernel)) (fun _ h9 => h9) rfl dX8_presetOf_50 ?_
      refine lv_iload (pc := 53) hx hb dX8_presetOf_53 (lv_at hl 6 rfl) ?_
      refine mx_iald (pc := 55) hx hb hK hP 31 w31 (i) (by omega) (by decide) dX8_presetOf_55 ?_
      refine lv_aload_n (pc := 56) hx hb dX8_presetOf_56 rfl (lv_at hl 2 rfl) ?_
      refine va_get (ci := 8) (C := RX8) (T := TX8) (N := 37) (pc := 57) hx hb hts hiX8 hown hK hP 22 w22 rfl 18 (by decide) (hts (.fieldLink RX8 45 "InkPressModel" "pastCover" "[I") (by decide +kernel)) (fun _ h9 => h9) rfl dX8_presetOf_57 ?_
      refine lv_iload (pc := 60) hx hb dX8_presetOf_60 (lv_at hl 6 rfl) ?_
      refine mx_iald (pc := 62) hx hb hK hP 31 w31 (i) (by omega) (by decide) dX8_presetOf_62 ?_
      refine lv_imul (pc := 63) hx hb dX8_presetOf_63 ?_
      refine lv_i2l (v := (((pc_) (i) * (pc_) (i))).toInt64) (pc := 64) hx hb dX8_presetOf_64 rfl ?_
      refine lv_ladd (pc := 65) hx hb dX8_presetOf_65 ?_
      refine lv_lstore (lv' := [(6, .long ((s3 + (((pc_) (i) * (pc_) (i))).toInt64))), (4, .long ((s2 + ((pk_) (i)).toInt64))), (2, .long ((s1 + ((pc_) (i)).toInt64))), (0, .ref (a 22)), (1, .int (x)), (8, .long (s4)), (10, .int (nI (i)))]) (pc := 66) hx hb dX8_presetOf_66 hl (by decide) rfl (fun ls hl => ?_)
      refine lv_lload (pc := 68) hx hb dX8_presetOf_68 (lv_at hl 5 rfl) ?_
      refine lv_aload_n (pc := 70) hx hb dX8_presetOf_70 rfl (lv_at hl 3 rfl) ?_
      refine va_get (ci := 8) (C := RX8) (T := TX8) (N := 37) (pc := 71) hx hb hts hiX8 hown hK hP 22 w22 rfl 18 (by decide) (hts (.fieldLink RX8 45 "InkPressModel" "pastCover" "[I") (by decide +kernel)) (fun _ h9 => h9) rfl dX8_presetOf_71 ?_
      refine lv_iload (pc := 74) hx hb dX8_presetOf_74 (lv_at hl 6 rfl) ?_
      refine mx_iald (pc := 76) hx hb hK hP 31 w31 (i) (by omega) (by decide) dX8_presetOf_76 ?_
      refine lv_aload_n (pc := 77) hx hb dX8_presetOf_77 rfl (lv_at hl 3 rfl) ?_
      refine va_get (ci := 8) (C := RX8) (T := TX8) (N := 37) (pc := 78) hx hb hts hiX8 hown hK hP 22 w22 rfl 19 (by decide) (hts (.fieldLink RX8 48 "InkPressModel" "pastKey" "[I") (by decide +kernel)) (fun _ h9 => h9) rfl dX8_presetOf_78 ?_
      refine lv_iload (pc := 81) hx hb dX8_presetOf_81 (lv_at hl 6 rfl) ?_
      refine mx_iald (pc := 83) hx hb hK hP 32 w32 (i) (by omega) (by decide) dX8_presetOf_83 ?_
      refine lv_imul (pc := 84) hx hb dX8_presetOf_84 ?_
      refine lv_i2l (v := (((pc_) (i) * (pk_) (i))).toInt64) (pc := 85) hx hb dX8_presetOf_85 rfl ?_
      refine lv_ladd (pc := 86) hx hb dX8_presetOf_86 ?_
      refine lv_lstore (lv' := [(8, .long ((s4 + (((pc_) (i) * (pk_) (i))).toInt64))), (6, .long ((s3 + (((pc_) (i) * (pc_) (i))).toInt64))), (4, .long ((s2 + ((pk_) (i)).toInt64))), (2, .long ((s1 + ((pc_) (i)).toInt64))), (0, .ref (a 22)), (1, .int (x)), (10, .int (nI (i)))]) (pc := 87) hx hb dX8_presetOf_87 hl (by decide) rfl (fun ls hl => ?_)
      refine lv_iinc (v := nI (i + 1)) (lv' := [(10, .int (nI (i + 1))), (8, .long ((s4 + (((pc_) (i) * (pk_) (i))).toInt64))), (6, .long ((s3 + (((pc_) (i) * (pc_) (i))).toInt64))), (4, .long ((s2 + ((pk_) (i)).toInt64))), (2, .long ((s1 + ((pc_) (i)).toInt64))), (0, .ref (a 22)), (1, .int (x))]) (pc := 89) hx hb dX8_presetOf_89 hl (k := 6) rfl (mx_inc1 _) (by decide) rfl (fun ls hl => ?_)
      refine lv_goto (tgt := 14) (pc := 92) hx hb dX8_presetOf_92 (by decide) ?_
      exact ih (i + 1) ((s1 + ((pc_) (i)).toInt64)) ((s2 + ((pk_) (i)).toInt64)) ((s3 + (((pc_) (i) * (pc_) (i))).toInt64)) ((s4 + (((pc_) (i) * (pk_) (i))).toInt64)) (by omega) H locs ls hP hD hS hk w22 w31 w32 (lv_sub hl [5, 6, 4, 3, 2, 1, 0] rfl) hcont
  refine LP pn (0) (0) (0) (0) (0) (by omega)  H locs ls hP hD hS hk w22 w31 w32 (lv_sub hl [5, 6, 4, 3, 2, 1, 0] rfl) (fun H locs ls hP hD hS hk w22 w31 w32 hl => ?_)
  refine lv_aload_n (pc := 95) hx hb dX8_presetOf_95 rfl (lv_at hl 0 rfl) ?_
  refine va_get (ci := 8) (C := RX8) (T := TX8) (N := 37) (pc := 96) hx hb hts hiX8 hown hK hP 22 w22 rfl 20 (by decide) (hts (.fieldLink RX8 149 "InkPressModel" "pastMany" "I") (by decide +kernel)) (fun _ h9 => h9) rfl dX8_presetOf_96 ?_
  refine lv_i2l (v := (nI (pn)).toInt64) (pc := 99) hx hb dX8_presetOf_99 rfl ?_
  refine lv_lload (pc := 100) hx hb dX8_presetOf_100 (lv_at hl 4 rfl) ?_
  refine lv_lmul (pc := 102) hx hb dX8_presetOf_102 ?_
  refine lv_lload_n (pc := 103) hx hb dX8_presetOf_103 rfl (lv_at hl 2 rfl) ?_
  refine lv_lload_n (pc := 104) hx hb dX8_presetOf_104 rfl (lv_at hl 2 rfl) ?_
  refine lv_lmul (pc := 105) hx hb dX8_presetOf_105 ?_
  refine lv_lsub (pc := 106) hx hb dX8_presetOf_106 ?_
  refine lv_lstore (lv' := [(10, .long ((((nI (pn)).toInt64 * gPs (fun j => pc_ j * pc_ j) (pn) (0) (0)) - (gPs pc_ (pn) (0) (0) * gPs pc_ (pn) (0) (0))))), (0, .ref (a 22)), (1, .int (x)), (2, .long (gPs pc_ (pn) (0) (0))), (4, .long (gPs pk_ (pn) (0) (0))), (6, .long (gPs (fun j => pc_ j * pc_ j) (pn) (0) (0))), (8, .long (gPs (fun j => pc_ j * pk_ j) (pn) (0) (0)))]) (pc := 107) hx hb dX8_presetOf_107 hl (by decide) rfl (fun ls hl => ?_)
  refine lv_lload (pc := 109) hx hb dX8_presetOf_109 (lv_at hl 0 rfl) ?_
  refine lv_lconst (v := 0) (pc := 111) hx hb dX8_presetOf_111 (by decide) ?_
  refine W.lcmp (pc := 112) hx hb dX8_presetOf_112 ?_
  refine lv_if_ne (tgt := 127) (pc := 113) hx hb dX8_presetOf_113 (by decide) (fun c113 => ?_) (fun c113 => ?_)
  · skip
    have c113 := fun z => c113 (lg_eq.mpr z)
    refine lv_lload (pc := 127) hx hb dX8_presetOf_127 (lv_at hl 4 rfl) ?_
    refine lv_lload (pc := 129) hx hb dX8_presetOf_129 (lv_at hl 5 rfl) ?_
    refine lv_lmul (pc := 131) hx hb dX8_presetOf_131 ?_
    refine lv_lload_n (pc := 132) hx hb dX8_presetOf_132 rfl (lv_at hl 3 rfl) ?_
    refine lv_lload (pc := 133) hx hb dX8_presetOf_133 (lv_at hl 6 rfl) ?_
    refine lv_lmul (pc := 135) hx hb dX8_presetOf_135 ?_
    refine lv_lsub (pc := 136) hx hb dX8_presetOf_136 ?_
    refine lv_iload_n (pc := 137) hx hb dX8_presetOf_137 rfl (lv_at hl 2 rfl) ?_
    refine lv_i2l (v := (x).toInt64) (pc := 138) hx hb dX8_presetOf_138 rfl ?_
    refine lv_aload_n (pc := 139) hx hb dX8_presetOf_139 rfl (lv_at hl 1 rfl) ?_
    refine va_get (ci := 8) (C := RX8) (T := TX8) (N := 37) (pc := 140) hx hb hts hiX8 hown hK hP 22 w22 rfl 20 (by decide) (hts (.fieldLink RX8 149 "InkPressModel" "pastMany" "I") (by decide +kernel)) (fun _ h9 => h9) rfl dX8_presetOf_140 ?_
    refine lv_i2l (v := (nI (pn)).toInt64) (pc := 143) hx hb dX8_presetOf_143 rfl ?_
    refine lv_lload (pc := 144) hx hb dX8_presetOf_144 (lv_at hl 6 rfl) ?_
    refine lv_lmul (pc := 146) hx hb dX8_presetOf_146 ?_
    refine lv_lload_n (pc := 147) hx hb dX8_presetOf_147 rfl (lv_at hl 3 rfl) ?_
    refine lv_lload (pc := 148) hx hb dX8_presetOf_148 (lv_at hl 4 rfl) ?_
    refine lv_lmul (pc := 150) hx hb dX8_presetOf_150 ?_
    refine lv_lsub (pc := 151) hx hb dX8_presetOf_151 ?_
    refine lv_lmul (pc := 152) hx hb dX8_presetOf_152 ?_
    refine lv_ladd (pc := 153) hx hb dX8_presetOf_153 ?_
    refine lv_lload (pc := 154) hx hb dX8_presetOf_154 (lv_at hl 0 rfl) ?_
    refine lv_ldiv (pc := 156) hx hb dX8_presetOf_156 c113 ?_
    refine lv_lstore (lv' := [(12, .long (((((gPs pk_ (pn) (0) (0) * gPs (fun j => pc_ j * pc_ j) (pn) (0) (0)) - (gPs pc_ (pn) (0) (0) * gPs (fun j => pc_ j * pk_ j) (pn) (0) (0))) + ((x).toInt64 * (((nI (pn)).toInt64 * gPs (fun j => pc_ j * pk_ j) (pn) (0) (0)) - (gPs pc_ (pn) (0) (0) * gPs pk_ (pn) (0) (0))))) / (((nI (pn)).toInt64 * gPs (fun j => pc_ j * pc_ j) (pn) (0) (0)) - (gPs pc_ (pn) (0) (0) * gPs pc_ (pn) (0) (0)))))), (10, .long ((((nI (pn)).toInt64 * gPs (fun j => pc_ j * pc_ j) (pn) (0) (0)) - (gPs pc_ (pn) (0) (0) * gPs pc_ (pn) (0) (0))))), (0, .ref (a 22)), (1, .int (x)), (2, .long (gPs pc_ (pn) (0) (0))), (4, .long (gPs pk_ (pn) (0) (0))), (6, .long (gPs (fun j => pc_ j * pc_ j) (pn) (0) (0))), (8, .long (gPs (fun j => pc_ j * pk_ j) (pn) (0) (0)))]) (pc := 157) hx hb dX8_presetOf_157 hl (by decide) rfl (fun ls hl => ?_)
    refine lv_lload (pc := 159) hx hb dX8_presetOf_159 (lv_at hl 0 rfl) ?_
    refine lv_lconst (v := 0) (pc := 161) hx hb dX8_presetOf_161 (by decide) ?_
    refine W.lcmp (pc := 162) hx hb dX8_presetOf_162 ?_
    refine lv_if_ge (tgt := 170) (pc := 163) hx hb dX8_presetOf_163 (by decide) (fun c163 => ?_) (fun c163 => ?_)
    · skip
      have c163 := lg_ge.mp c163
      refine lv_lload (pc := 170) hx hb dX8_presetOf_170 (lv_at hl 0 rfl) ?_
      refine lv_ldc2 (own := RX8) (v := (100)) (pc := 172) hx hb hown (hts (.constantLong RX8 125 (100)) (by decide +kernel)) dX8_presetOf_172 ?_
      refine W.lcmp (pc := 175) hx hb dX8_presetOf_175 ?_
      refine lv_if_le (tgt := 184) (pc := 176) hx hb dX8_presetOf_176 (by decide) (fun c176 => ?_) (fun c176 => ?_)
      · skip
        have c176 := lg_le.mp c176
        refine lv_lload (pc := 184) hx hb dX8_presetOf_184 (lv_at hl 0 rfl) ?_
        refine lv_l2i (v := (((((gPs pk_ (pn) (0) (0) * gPs (fun j => pc_ j * pc_ j) (pn) (0) (0)) - (gPs pc_ (pn) (0) (0) * gPs (fun j => pc_ j * pk_ j) (pn) (0) (0))) + ((x).toInt64 * (((nI (pn)).toInt64 * gPs (fun j => pc_ j * pk_ j) (pn) (0) (0)) - (gPs pc_ (pn) (0) (0) * gPs pk_ (pn) (0) (0))))) / (((nI (pn)).toInt64 * gPs (fun j => pc_ j * pc_ j) (pn) (0) (0)) - (gPs pc_ (pn) (0) (0) * gPs pc_ (pn) (0) (0))))).toInt32) (pc := 186) hx hb dX8_presetOf_186 rfl ?_
        exact hret _ _ _ _ _ _ hP hD hS ((gMcl_2 c163 c176).trans (gMkey_n c113).symm) rfl dX8_presetOf_187
      · skip
        have c176 := fun z => c176 (lg_le.mpr z)
        refine lv_bipush (v := nI (100)) (pc := 179) hx hb dX8_presetOf_179 (by decide) ?_
        refine lv_goto (tgt := 187) (pc := 181) hx hb dX8_presetOf_181 (by decide) ?_
        exact hret _ _ _ _ _ _ hP hD hS ((gMcl_1 c163 (Int64.not_le.mp c176)).trans (gMkey_n c113).symm) rfl dX8_presetOf_187
    · skip
      have c163 := fun z => c163 (lg_ge.mpr z)
      refine lv_iconst (v := nI (0)) (pc := 166) hx hb dX8_presetOf_166 (by decide) ?_
      refine lv_goto (tgt := 187) (pc := 167) hx hb dX8_presetOf_167 (by decide) ?_
      exact hret _ _ _ _ _ _ hP hD hS ((gMcl_0 (Int64.not_le.mp c163)).trans (gMkey_n c113).symm) rfl dX8_presetOf_187
  · skip
    have c113 := lg_eq.mp c113
    refine lv_lload (pc := 116) hx hb dX8_presetOf_116 (lv_at hl 4 rfl) ?_
    refine lv_aload_n (pc := 118) hx hb dX8_presetOf_118 rfl (lv_at hl 1 rfl) ?_
    refine va_get (ci := 8) (C := RX8) (T := TX8) (N := 37) (pc := 119) hx hb hts hiX8 hown hK hP 22 w22 rfl 20 (by decide) (hts (.fieldLink RX8 149 "InkPressModel" "pastMany" "I") (by decide +kernel)) (fun _ h9 => h9) rfl dX8_presetOf_119 ?_
    refine lv_i2l (v := (nI (pn)).toInt64) (pc := 122) hx hb dX8_presetOf_122 rfl ?_
    refine lv_ldiv (pc := 123) hx hb dX8_presetOf_123 (gL_ne (gNI_pos hp0 (by omega))) ?_
    refine lv_goto (tgt := 157) (pc := 124) hx hb dX8_presetOf_124 (by decide) ?_
    refine lv_lstore (lv' := [(12, .long ((gPs pk_ (pn) (0) (0) / (nI (pn)).toInt64))), (10, .long ((((nI (pn)).toInt64 * gPs (fun j => pc_ j * pc_ j) (pn) (0) (0)) - (gPs pc_ (pn) (0) (0) * gPs pc_ (pn) (0) (0))))), (0, .ref (a 22)), (1, .int (x)), (2, .long (gPs pc_ (pn) (0) (0))), (4, .long (gPs pk_ (pn) (0) (0))), (6, .long (gPs (fun j => pc_ j * pc_ j) (pn) (0) (0))), (8, .long (gPs (fun j => pc_ j * pk_ j) (pn) (0) (0)))]) (pc := 157) hx hb dX8_presetOf_157 hl (by decide) rfl (fun ls hl => ?_)
    refine lv_lload (pc := 159) hx hb dX8_presetOf_159 (lv_at hl 0 rfl) ?_
    refine lv_lconst (v := 0) (pc := 161) hx hb dX8_presetOf_161 (by decide) ?_
    refine W.lcmp (pc := 162) hx hb dX8_presetOf_162 ?_
    refine lv_if_ge (tgt := 170) (pc := 163) hx hb dX8_presetOf_163 (by decide) (fun c163 => ?_) (fun c163 => ?_)
    · skip
      have c163 := lg_ge.mp c163
      refine lv_lload (pc := 170) hx hb dX8_presetOf_170 (lv_at hl 0 rfl) ?_
      refine lv_ldc2 (own := RX8) (v := (100)) (pc := 172) hx hb hown (hts (.constantLong RX8 125 (100)) (by decide +kernel)) dX8_presetOf_172 ?_
      refine W.lcmp (pc := 175) hx hb dX8_presetOf_175 ?_
      refine lv_if_le (tgt := 184) (pc := 176) hx hb dX8_presetOf_176 (by decide) (fun c176 => ?_) (fun c176 => ?_)
      · skip
        have c176 := lg_le.mp c176
        refine lv_lload (pc := 184) hx hb dX8_presetOf_184 (lv_at hl 0 rfl) ?_
        refine lv_l2i (v := ((gPs pk_ (pn) (0) (0) / (nI (pn)).toInt64)).toInt32) (pc := 186) hx hb dX8_presetOf_186 rfl ?_
        exact hret _ _ _ _ _ _ hP hD hS ((gMcl_2 c163 c176).trans (gMkey_z c113).symm) rfl dX8_presetOf_187
      · skip
        have c176 := fun z => c176 (lg_le.mpr z)
        refine lv_bipush (v := nI (100)) (pc := 179) hx hb dX8_presetOf_179 (by decide) ?_
        refine lv_goto (tgt := 187) (pc := 181) hx hb dX8_presetOf_181 (by decide) ?_
        exact hret _ _ _ _ _ _ hP hD hS ((gMcl_1 c163 (Int64.not_le.mp c176)).trans (gMkey_z c113).symm) rfl dX8_presetOf_187
    · skip
      have c163 := fun z => c163 (lg_ge.mpr z)
      refine lv_iconst (v := nI (0)) (pc := 166) hx hb dX8_presetOf_166 (by decide) ?_
      refine lv_goto (tgt := 187) (pc := 167) hx hb dX8_presetOf_167 (by decide) ?_
      exact hret _ _ _ _ _ _ hP hD hS ((gMcl_0 (Int64.not_le.mp c163)).trans (gMkey_z c113).symm) rfl dX8_presetOf_187
set_option maxHeartbeats 4000000 in
set_option maxRecDepth 100000 in
theorem k_X8_preset_b {l : Launch} {D : va_G} {cI cZ : ClassId} {A : Nat → Prop} {g a : Nat → Nat} {G0 : va_W} {zn : Nat} {tr : Nat} {sc : Nat} {pn : Nat} {mn : Nat} {jn : Nat} {sg : Int32} {sr : Int32} {ss : Int32} {fed : Int32} {pap : Int32} {bar : Int32} {st : Bool} {q1 : Int64} {q2 : Int64} {q3 : Int64} {q4 : Int64} {q5 : Int64} {x : Int32} (hD : va_D A G0) (w22 : G0[22]? = some (a 22, .inr (8, [.int (nI (zn)), .int (nI (tr)), .ref (a 23), .ref (a 24), .ref (a 25), .ref (a 26), .ref (a 27), .ref (a 28), .ref (a 29), .int (nI (sc)), .int (sg), .int (sr), .int (ss), .int (fed), .int (pap), .int (bar), .int (gB (st)), .ref (a 30), .ref (a 31), .ref (a 32), .int (nI (pn)), .ref (a 33), .ref (a 34), .ref (a 35), .ref (a 36), .int (nI (mn)), .long (q1), .long (q2), .long (q3), .long (q4), .long (q5), .ref (a 37), .ref (a 38), .ref (a 39), .int (nI (jn)), .ref (a 40), .ref (a 41)]))) (h1 : gWi x (nI 0) (nI 100) = false) : gMi l D cI cZ A g yX8_preset wsX8_preset ({ frames := 1, cells := 0, slots := 0, locals := 25 }) [.ref (a 22), .int (x)] G0 ((-2)) (fun G1 => G1 = G0) := by
  refine gof_i (cc := cX8_preset) (maxL := 2) (by decide) rfl (Nat.le_of_ble_eq_true rfl) hD ?_
  intro p e s m args below meth c Q hx hb hml hts hown hK hN hZ hP hS hret ls hl
  have hown : s.vm.findClass RX8 = some m.cls := hown
  have hl : lv_has ls 2 [(0, .ref (a 22)), (1, .int (x))] := hl
  obtain ⟨locs, elocs⟩ : ∃ q : List Loc, q = [] := ⟨_, rfl⟩
  rw [← elocs] at hS ⊢
  obtain ⟨H, eH⟩ : ∃ q : Heap, q = s.heap := ⟨_, rfl⟩
  have hP : va_P D vwCl G0 H := eH ▸ hP
  have hS : va_S A s.heap H locs := by rw [eH]; exact hS
  rw [← eH]
  clear elocs eH
  have hk : ∀ k, k ∉ ([] : List Nat) → G0[k]? = G0[k]? := fun _ _ => rfl
  refine lv_iload_n (pc := 0) hx hb dX8_preset_0 rfl (lv_at hl 1 rfl) ?_
  refine lv_i2l (v := (x).toInt64) (pc := 1) hx hb dX8_preset_1 rfl ?_
  refine lv_lconst (v := 0) (pc := 2) hx hb dX8_preset_2 (by decide) ?_
  refine lv_ldc2 (own := RX8) (v := (100)) (pc := 3) hx hb hown (hts (.constantLong RX8 125 (100)) (by decide +kernel)) dX8_preset_3 ?_
  refine mx_cSi (As := [.long ((x).toInt64), .long (0), .long ((100))]) (rest := []) (pc := 6) ⟨hx, hb, hml, hown, hts⟩ (k_X8_in (a := a) (v := (x).toInt64) (lo := 0) (hi := (100)) hD  ) (va_cwS 3 hts gX8_preset_X8_in rfl rfl rfl (by decide +kernel) ⟨Nat.le_of_ble_eq_true rfl, Nat.le_of_ble_eq_true rfl⟩) hK hN hZ hP hS rfl hl.1 rfl (Nat.le_of_ble_eq_true rfl) dX8_preset_6 ⟨Nat.zero_le _, Nat.zero_le _⟩ (fun G' H locs hP hD hS hB => ?_)
  rw [hB] at hP hD
  clear hB G'
  refine mx_bne (tgt := 15) (pc := 9) hx hb dX8_preset_9 (by decide) (fun c9 => absurd (c9.symm.trans ((gIn_w (a := nI 0) (b := nI 100) (by decide) (by decide)).trans h1)) (by decide)) (fun c9 => ?_)
  refine lv_bipush (v := (-2)) (pc := 12) hx hb dX8_preset_12 (by decide) ?_
  exact hret _ _ _ _ _ _ hP hD hS rfl rfl dX8_preset_14
set_option maxHeartbeats 4000000 in
set_option maxRecDepth 100000 in
theorem k_X8_preset_c {l : Launch} {D : va_G} {cI cZ : ClassId} {A : Nat → Prop} {g a : Nat → Nat} {G0 : va_W} {zn : Nat} {tr : Nat} {sc : Nat} {pn : Nat} {mn : Nat} {jn : Nat} {sg : Int32} {sr : Int32} {ss : Int32} {fed : Int32} {pap : Int32} {bar : Int32} {st : Bool} {q1 : Int64} {q2 : Int64} {q3 : Int64} {q4 : Int64} {q5 : Int64} {x : Int32} (hD : va_D A G0) (w22 : G0[22]? = some (a 22, .inr (8, [.int (nI (zn)), .int (nI (tr)), .ref (a 23), .ref (a 24), .ref (a 25), .ref (a 26), .ref (a 27), .ref (a 28), .ref (a 29), .int (nI (sc)), .int (sg), .int (sr), .int (ss), .int (fed), .int (pap), .int (bar), .int (gB (st)), .ref (a 30), .ref (a 31), .ref (a 32), .int (nI (pn)), .ref (a 33), .ref (a 34), .ref (a 35), .ref (a 36), .int (nI (mn)), .long (q1), .long (q2), .long (q3), .long (q4), .long (q5), .ref (a 37), .ref (a 38), .ref (a 39), .int (nI (jn)), .ref (a 40), .ref (a 41)]))) (hp : pn = 0) (h1 : gWi x (nI 0) (nI 100) = true) : gMi l D cI cZ A g yX8_preset wsX8_preset ({ frames := 1, cells := 0, slots := 0, locals := 25 }) [.ref (a 22), .int (x)] G0 ((-3)) (fun G1 => G1 = G0) := by
  refine gof_i (cc := cX8_preset) (maxL := 2) (by decide) rfl (Nat.le_of_ble_eq_true rfl) hD ?_
  intro p e s m args below meth c Q hx hb hml hts hown hK hN hZ hP hS hret ls hl
  have hown : s.vm.findClass RX8 = some m.cls := hown
  have hl : lv_has ls 2 [(0, .ref (a 22)), (1, .int (x))] := hl
  obtain ⟨locs, elocs⟩ : ∃ q : List Loc, q = [] := ⟨_, rfl⟩
  rw [← elocs] at hS ⊢
  obtain ⟨H, eH⟩ : ∃ q : Heap, q = s.heap := ⟨_, rfl⟩
  have hP : va_P D vwCl G0 H := eH ▸ hP
  have hS : va_S A s.heap H locs := by rw [eH]; exact hS
  rw [← eH]
  clear elocs eH
  have hiX8 : ∀ w ∈ u_ws RX8 TX8 37, w ∈ wsX8_preset := by decide +kernel
  have hk : ∀ k, k ∉ ([] : List Nat) → G0[k]? = G0[k]? := fun _ _ => rfl
  refine lv_iload_n (pc := 0) hx hb dX8_preset_0 rfl (lv_at hl 1 rfl) ?_
  refine lv_i2l (v := (x).toInt64) (pc := 1) hx hb dX8_preset_1 rfl ?_
  refine lv_lconst (v := 0) (pc := 2) hx hb dX8_preset_2 (by decide) ?_
  refine lv_ldc2 (own := RX8) (v := (100)) (pc := 3) hx hb hown (hts (.constantLong RX8 125 (100)) (by decide +kernel)) dX8_preset_3 ?_
  refine mx_cSi (As := [.long ((x).toInt64), .long (0), .long ((100))]) (rest := []) (pc := 6) ⟨hx, hb, hml, hown, hts⟩ (k_X8_in (a := a) (v := (x).toInt64) (lo := 0) (hi := (100)) hD  ) (va_cwS 3 hts gX8_preset_X8_in rfl rfl rfl (by decide +kernel) ⟨Nat.le_of_ble_eq_true rfl, Nat.le_of_ble_eq_true rfl⟩) hK hN hZ hP hS rfl hl.1 rfl (Nat.le_of_ble_eq_true rfl) dX8_preset_6 ⟨Nat.zero_le _, Nat.zero_le _⟩ (fun G' H locs hP hD hS hB => ?_)
  rw [hB] at hP hD
  clear hB G'
  refine mx_bne (tgt := 15) (pc := 9) hx hb dX8_preset_9 (by decide) (fun c9 => ?_) (fun c9 => absurd (c9.symm.trans ((gIn_w (a := nI 0) (b := nI 100) (by decide) (by decide)).trans h1)) (by decide))
  refine lv_aload_n (pc := 15) hx hb dX8_preset_15 rfl (lv_at hl 0 rfl) ?_
  refine va_get (ci := 8) (C := RX8) (T := TX8) (N := 37) (pc := 16) hx hb hts hiX8 hown hK hP 22 w22 rfl 20 (by decide) (hts (.fieldLink RX8 149 "InkPressModel" "pastMany" "I") (by decide +kernel)) (fun _ h9 => h9) rfl dX8_preset_16 ?_
  refine mx_nne (tgt := 27) (pc := 19) hx hb (by omega) dX8_preset_19 (by decide) (fun c19 => absurd hp c19) (fun c19 => ?_)
  refine lv_bipush (v := (-3)) (pc := 22) hx hb dX8_preset_22 (by decide) ?_
  refine lv_goto (tgt := 32) (pc := 24) hx hb dX8_preset_24 (by decide) ?_
  exact hret _ _ _ _ _ _ hP hD hS rfl rfl dX8_preset_32
set_option maxHeartbeats 4000000 in
set_option maxRecDepth 100000 in
theorem k_X8_preset_k {l : Launch} {D : va_G} {cI cZ : ClassId} {A : Nat → Prop} {g a : Nat → Nat} {G0 : va_W} {zn : Nat} {tr : Nat} {sc : Nat} {pn : Nat} {mn : Nat} {jn : Nat} {sg : Int32} {sr : Int32} {ss : Int32} {fed : Int32} {pap : Int32} {bar : Int32} {st : Bool} {q1 : Int64} {q2 : Int64} {q3 : Int64} {q4 : Int64} {q5 : Int64} {pc_ : Nat → Int32} {pk_ : Nat → Int32} {x : Int32} (hD : va_D A G0) (w22 : G0[22]? = some (a 22, .inr (8, [.int (nI (zn)), .int (nI (tr)), .ref (a 23), .ref (a 24), .ref (a 25), .ref (a 26), .ref (a 27), .ref (a 28), .ref (a 29), .int (nI (sc)), .int (sg), .int (sr), .int (ss), .int (fed), .int (pap), .int (bar), .int (gB (st)), .ref (a 30), .ref (a 31), .ref (a 32), .int (nI (pn)), .ref (a 33), .ref (a 34), .ref (a 35), .ref (a 36), .int (nI (mn)), .long (q1), .long (q2), .long (q3), .long (q4), .long (q5), .ref (a 37), .ref (a 38), .ref (a 39), .int (nI (jn)), .ref (a 40), .ref (a 41)]))) (w31 : G0[31]? = some (a 31, .inl (cI, 30, .inl (pc_)))) (w32 : G0[32]? = some (a 32, .inl (cI, 30, .inl (pk_)))) (hp : pn ≤ 30) (hp0 : pn ≠ 0) (h1 : gWi x (nI 0) (nI 100) = true) : gMi l D cI cZ A g yX8_preset wsX8_preset ({ frames := 1, cells := 0, slots := 0, locals := 33 }) [.ref (a 22), .int (x)] G0 (gMkey pn (gPs pc_ pn 0 0) (gPs pk_ pn 0 0) (gPs (fun j => pc_ j * pc_ j) pn 0 0) (gPs (fun j => pc_ j * pk_ j) pn 0 0) x) (fun G1 => G1 = G0) := by
  refine gof_i (cc := cX8_preset) (maxL := 2) (by decide) rfl (Nat.le_of_ble_eq_true rfl) hD ?_
  intro p e s m args below meth c Q hx hb hml hts hown hK hN hZ hP hS hret ls hl
  have hown : s.vm.findClass RX8 = some m.cls := hown
  have hl : lv_has ls 2 [(0, .ref (a 22)), (1, .int (x))] := hl
  obtain ⟨locs, elocs⟩ : ∃ q : List Loc, q = [] := ⟨_, rfl⟩
  rw [← elocs] at hS ⊢
  obtain ⟨H, eH⟩ : ∃ q : Heap, q = s.heap := ⟨_, rfl⟩
  have hP : va_P D vwCl G0 H := eH ▸ hP
  have hS : va_S A s.heap H locs := by rw [eH]; exact hS
  rw [← eH]
  clear elocs eH
  have hiX8 : ∀ w ∈ u_ws RX8 TX8 37, w ∈ wsX8_preset := by decide +kernel
  have hk : ∀ k, k ∉ ([] : List Nat) → G0[k]? = G0[k]? := fun _ _ => rfl
  refine lv_iload_n (pc := 0) hx hb dX8_preset_0 rfl (lv_at hl 1 rfl) ?_
  refine lv_i2l (v := (x).toInt64) (pc := 1) hx hb dX8_preset_1 rfl ?_
  refine lv_lconst (v := 0) (pc := 2) hx hb dX8_preset_2 (by decide) ?_
  refine lv_ldc2 (own := RX8) (v := (100)) (pc := 3) hx hb hown (hts (.constantLong RX8 125 (100)) (by decide +kernel)) dX8_preset_3 ?_
  refine mx_cSi (As := [.long ((x).toInt64), .long (0), .long ((100))]) (rest := []) (pc := 6) ⟨hx, hb, hml, hown, hts⟩ (k_X8_in (a := a) (v := (x).toInt64) (lo := 0) (hi := (100)) hD  ) (va_cwS 3 hts gX8_preset_X8_in rfl rfl rfl (by decide +kernel) ⟨Nat.le_of_ble_eq_true rfl, Nat.le_of_ble_eq_true rfl⟩) hK hN hZ hP hS rfl hl.1 rfl (Nat.le_of_ble_eq_true rfl) dX8_preset_6 ⟨Nat.zero_le _, Nat.zero_le _⟩ (fun G' H locs hP hD hS hB => ?_)
  rw [hB] at hP hD
  clear hB G'
  refine mx_bne (tgt := 15) (pc := 9) hx hb dX8_preset_9 (by decide) (fun c9 => ?_) (fun c9 => absurd (c9.symm.trans ((gIn_w (a := nI 0) (b := nI 100) (by decide) (by decide)).trans h1)) (by decide))
  refine lv_aload_n (pc := 15) hx hb dX8_preset_15 rfl (lv_at hl 0 rfl) ?_
  refine va_get (ci := 8) (C := RX8) (T := TX8) (N := 37) (pc := 16) hx hb hts hiX8 hown hK hP 22 w22 rfl 20 (by decide) (hts (.fieldLink RX8 149 "InkPressModel" "pastMany" "I") (by decide +kernel)) (fun _ h9 => h9) rfl dX8_preset_16 ?_
  refine mx_nne (tgt := 27) (pc := 19) hx hb (by omega) dX8_preset_19 (by decide) (fun c19 => ?_) (fun c19 => absurd c19 hp0)
  refine lv_aload_n (pc := 27) hx hb dX8_preset_27 rfl (lv_at hl 0 rfl) ?_
  refine lv_iload_n (pc := 28) hx hb dX8_preset_28 rfl (lv_at hl 1 rfl) ?_
  refine mx_cVi (As := [.int (x)]) (rest := []) (pc := 29) ⟨hx, hb, hml, hown, hts⟩ (k_X8_presetOf (a := a) (zn := zn) (tr := tr) (sc := sc) (pn := pn) (mn := mn) (jn := jn) (sg := sg) (sr := sr) (ss := ss) (fed := fed) (pap := pap) (bar := bar) (st := st) (q1 := q1) (q2 := q2) (q3 := q3) (q4 := q4) (q5 := q5) (pc_ := pc_) (pk_ := pk_) (x := x) hD w22 w31 w32 (by omega) (by omega)) (cwV 1 hts gX8_preset_X8_presetOf rfl rfl rfl (by decide +kernel) ⟨Nat.le_of_ble_eq_true rfl, Nat.le_of_ble_eq_true rfl⟩) 22 rfl rfl w22 hK hN hZ hP hS rfl hl.1 rfl (Nat.le_of_ble_eq_true rfl) dX8_preset_29 ⟨Nat.zero_le _, Nat.zero_le _⟩ (fun G' H locs hP hD hS hB => ?_)
  rw [hB] at hP hD
  clear hB G'
  exact hret _ _ _ _ _ _ hP hD hS rfl rfl dX8_preset_32
set_option maxHeartbeats 4000000 in
set_option maxRecDepth 100000 in
theorem k_X8_presets_b {l : Launch} {D : va_G} {cI cZ : ClassId} {A : Nat → Prop} {g a : Nat → Nat} {G0 : va_W} {zn : Nat} {tr : Nat} {sc : Nat} {pn : Nat} {mn : Nat} {jn : Nat} {sg : Int32} {sr : Int32} {ss : Int32} {fed : Int32} {pap : Int32} {bar : Int32} {st : Bool} {q1 : Int64} {q2 : Int64} {q3 : Int64} {q4 : Int64} {q5 : Int64} (hD : va_D A G0) (w22 : G0[22]? = some (a 22, .inr (8, [.int (nI (zn)), .int (nI (tr)), .ref (a 23), .ref (a 24), .ref (a 25), .ref (a 26), .ref (a 27), .ref (a 28), .ref (a 29), .int (nI (sc)), .int (sg), .int (sr), .int (ss), .int (fed), .int (pap), .int (bar), .int (gB (st)), .ref (a 30), .ref (a 31), .ref (a 32), .int (nI (pn)), .ref (a 33), .ref (a 34), .ref (a 35), .ref (a 36), .int (nI (mn)), .long (q1), .long (q2), .long (q3), .long (q4), .long (q5), .ref (a 37), .ref (a 38), .ref (a 39), .int (nI (jn)), .ref (a 40), .ref (a 41)]))) (hp : pn = 0) : gMi l D cI cZ A g yX8_presets wsX8_presets ({ frames := 0, cells := 0, slots := 0, locals := 0 }) [.ref (a 22)] G0 ((-3)) (fun G1 => G1 = G0) := by
  refine gof_i (cc := cX8_presets) (maxL := 4) (by decide) rfl (Nat.le_of_ble_eq_true rfl) hD ?_
  intro p e s m args below meth c Q hx hb hml hts hown hK hN hZ hP hS hret ls hl
  have hown : s.vm.findClass RX8 = some m.cls := hown
  have hl : lv_has ls 4 [(0, .ref (a 22))] := hl
  obtain ⟨locs, elocs⟩ : ∃ q : List Loc, q = [] := ⟨_, rfl⟩
  rw [← elocs] at hS ⊢
  obtain ⟨H, eH⟩ : ∃ q : Heap, q = s.heap := ⟨_, rfl⟩
  have hP : va_P D vwCl G0 H := eH ▸ hP
  have hS : va_S A s.heap H locs := by rw [eH]; exact hS
  rw [← eH]
  clear elocs eH
  have hiX8 : ∀ w ∈ u_ws RX8 TX8 37, w ∈ wsX8_presets := by decide +kernel
  have hk : ∀ k, k ∉ ([] : List Nat) → G0[k]? = G0[k]? := fun _ _ => rfl
  refine lv_aload_n (pc := 0) hx hb dX8_presets_0 rfl (lv_at hl 0 rfl) ?_
  refine va_get (ci := 8) (C := RX8) (T := TX8) (N := 37) (pc := 1) hx hb hts hiX8 hown hK hP 22 w22 rfl 20 (by decide) (hts (.fieldLink RX8 149 "InkPressModel" "pastMany" "I") (by decide +kernel)) (fun _ h9 => h9) rfl dX8_presets_1 ?_
  refine mx_nne (tgt := 10) (pc := 4) hx hb (by omega) dX8_presets_4 (by decide) (fun c4 => absurd hp c4) (fun c4 => ?_)
  refine lv_bipush (v := (-3)) (pc := 7) hx hb dX8_presets_7 (by decide) ?_
  exact hret _ _ _ _ _ _ hP hD hS rfl rfl dX8_presets_9
set_option maxHeartbeats 4000000 in
set_option maxRecDepth 100000 in
theorem k_X8_presets_k {l : Launch} {D : va_G} {cI cZ : ClassId} {A : Nat → Prop} {g a : Nat → Nat} {G0 : va_W} {zn : Nat} {tr : Nat} {sc : Nat} {pn : Nat} {mn : Nat} {jn : Nat} {sg : Int32} {sr : Int32} {ss : Int32} {fed : Int32} {pap : Int32} {bar : Int32} {st : Bool} {q1 : Int64} {q2 : Int64} {q3 : Int64} {q4 : Int64} {q5 : Int64} {pc_ : Nat → Int32} {pk_ : Nat → Int32} {ke : Nat → Int32} {cv : Nat → Int32} (hD : va_D A G0) (w22 : G0[22]? = some (a 22, .inr (8, [.int (nI (zn)), .int (nI (tr)), .ref (a 23), .ref (a 24), .ref (a 25), .ref (a 26), .ref (a 27), .ref (a 28), .ref (a 29), .int (nI (sc)), .int (sg), .int (sr), .int (ss), .int (fed), .int (pap), .int (bar), .int (gB (st)), .ref (a 30), .ref (a 31), .ref (a 32), .int (nI (pn)), .ref (a 33), .ref (a 34), .ref (a 35), .ref (a 36), .int (nI (mn)), .long (q1), .long (q2), .long (q3), .long (q4), .long (q5), .ref (a 37), .ref (a 38), .ref (a 39), .int (nI (jn)), .ref (a 40), .ref (a 41)]))) (w24 : G0[24]? = some (a 24, .inl (cI, 8, .inl (ke)))) (w25 : G0[25]? = some (a 25, .inl (cI, 8, .inl (cv)))) (w31 : G0[31]? = some (a 31, .inl (cI, 30, .inl (pc_)))) (w32 : G0[32]? = some (a 32, .inl (cI, 30, .inl (pk_)))) (hp : pn ≤ 30) (hp0 : pn ≠ 0) (hz8 : zn ≤ 8) : gMi l D cI cZ A g yX8_presets wsX8_presets ({ frames := 1, cells := 0, slots := 0, locals := 33 }) [.ref (a 22)] G0 (nI (gMQo (gMkey pn (gPs pc_ pn 0 0) (gPs pk_ pn 0 0) (gPs (fun j => pc_ j * pc_ j) pn 0 0) (gPs (fun j => pc_ j * pk_ j) pn 0 0)) cv zn 0 ke 0)) (fun G1 => G1[24]? = some (a 24, .inl (cI, 8, .inl (gMQz (gMkey pn (gPs pc_ pn 0 0) (gPs pk_ pn 0 0) (gPs (fun j => pc_ j * pc_ j) pn 0 0) (gPs (fun j => pc_ j * pk_ j) pn 0 0)) cv zn 0 ke))) ∧ ∀ k, k ∉ [24] → G1[k]? = G0[k]?) := by
  refine gof_i (cc := cX8_presets) (maxL := 4) (by decide) rfl (Nat.le_of_ble_eq_true rfl) hD ?_
  intro p e s m args below meth c Q hx hb hml hts hown hK hN hZ hP hS hret ls hl
  have hown : s.vm.findClass RX8 = some m.cls := hown
  have hl : lv_has ls 4 [(0, .ref (a 22))] := hl
  obtain ⟨locs, elocs⟩ : ∃ q : List Loc, q = [] := ⟨_, rfl⟩
  rw [← elocs] at hS ⊢
  obtain ⟨H, eH⟩ : ∃ q : Heap, q = s.heap := ⟨_, rfl⟩
  have hP : va_P D vwCl G0 H := eH ▸ hP
  have hS : va_S A s.heap H locs := by rw [eH]; exact hS
  rw [← eH]
  clear elocs eH
  have hiX8 : ∀ w ∈ u_ws RX8 TX8 37, w ∈ wsX8_presets := by decide +kernel
  have hk : ∀ k, k ∉ [24] → G0[k]? = G0[k]? := fun _ _ => rfl
  refine lv_aload_n (pc := 0) hx hb dX8_presets_0 rfl (lv_at hl 0 rfl) ?_
  refine va_get (ci := 8) (C := RX8) (T := TX8) (N := 37) (pc := 1) hx hb hts hiX8 hown hK hP 22 w22 rfl 20 (by decide) (hts (.fieldLink RX8 149 "InkPressModel" "pastMany" "I") (by decide +kernel)) (fun _ h9 => h9) rfl dX8_presets_1 ?_
  refine mx_nne (tgt := 10) (pc := 4) hx hb (by omega) dX8_presets_4 (by decide) (fun c4 => ?_) (fun c4 => absurd c4 hp0)
  refine lv_iconst (v := nI (0)) (pc := 10) hx hb dX8_presets_10 (by decide) ?_
  refine lv_istore_n (lv' := [(1, .int (nI (0))), (0, .ref (a 22))]) (pc := 11) hx hb dX8_presets_11 rfl hl (by decide) rfl (fun ls hl => ?_)
  refine lv_iconst (v := nI (0)) (pc := 12) hx hb dX8_presets_12 (by decide) ?_
  refine lv_istore_n (lv' := [(2, .int (nI (0))), (1, .int (nI (0))), (0, .ref (a 22))]) (pc := 13) hx hb dX8_presets_13 rfl hl (by decide) rfl (fun ls hl => ?_)
  have LP : ∀ (k : Nat) (z : Nat) (ke : Nat → Int32) (ot : Nat), z + k = zn → ∀ (G : va_W) (H : Heap) (locs : List Loc) (ls : Array Slot), va_P D vwCl G H → va_D A G → va_S A s.heap H locs → (∀ j, j ∉ [24] → G[j]? = G0[j]?) → G[22]? = some (a 22, .inr (8, [.int (nI (zn)), .int (nI (tr)), .ref (a 23), .ref (a 24), .ref (a 25), .ref (a 26), .ref (a 27), .ref (a 28), .ref (a 29), .int (nI (sc)), .int (sg), .int (sr), .int (ss), .int (fed), .int (pap), .int (bar), .int (gB (st)), .ref (a 30), .ref (a 31), .ref (a 32), .int (nI (pn)), .ref (a 33), .ref (a 34), .ref (a 35), .ref (a 36), .int (nI (mn)), .long (q1), .long (q2), .long (q3), .long (q4), .long (q5), .ref (a 37), .ref (a 38), .ref (a 39), .int (nI (jn)), .ref (a 40), .ref (a 41)])) → G[24]? = some (a 24, .inl (cI, 8, .inl (ke))) → G[25]? = some (a 25, .inl (cI, 8, .inl (cv))) → G[31]? = some (a 31, .inl (cI, 30, .inl (pc_))) → G[32]? = some (a 32, .inl (cI, 30, .inl (pk_))) → lv_has ls 4 [(0, .ref (a 22)), (1, .int (nI (ot))), (2, .int (nI (z)))] → (∀ (G : va_W) (H : Heap) (locs : List Loc) (ls : Array Slot), va_P D vwCl G H → va_D A G → va_S A s.heap H locs → (∀ j, j ∉ [24] → G[j]? = G0[j]?) → G[22]? = some (a 22, .inr (8, [.int (nI (zn)), .int (nI (tr)), .ref (a 23), .ref (a 24), .ref (a 25), .ref (a 26), .ref (a 27), .ref (a 28), .ref (a 29), .int (nI (sc)), .int (sg), .int (sr), .int (ss), .int (fed), .int (pap), .int (bar), .int (gB (st)), .ref (a 30), .ref (a 31), .ref (a 32), .int (nI (pn)), .ref (a 33), .ref (a 34), .ref (a 35), .ref (a 36), .int (nI (mn)), .long (q1), .long (q2), .long (q3), .long (q4), .long (q5), .ref (a 37), .ref (a 38), .ref (a 39), .int (nI (jn)), .ref (a 40), .ref (a 41)])) → G[24]? = some (a 24, .inl (cI, 8, .inl (gMQz (gMkey pn (gPs pc_ pn 0 0) (gPs pk_ pn 0 0) (gPs (fun j => pc_ j * pc_ j) pn 0 0) (gPs (fun j => pc_ j * pk_ j) pn 0 0)) cv k z ke))) → G[25]? = some (a 25, .inl (cI, 8, .inl (cv))) → G[31]? = some (a 31, .inl (cI, 30, .inl (pc_))) → G[32]? = some (a 32, .inl (cI, 30, .inl (pk_))) → lv_has ls 4 [(1, .int (nI (gMQo (gMkey pn (gPs pc_ pn 0 0) (gPs pk_ pn 0 0) (gPs (fun j => pc_ j * pc_ j) pn 0 0) (gPs (fun j => pc_ j * pk_ j) pn 0 0)) cv k z ke ot)))] → W p l e ({ frames := 1, cells := 0, slots := 0, locals := 33 } : Room) s m args below meth c H locs 0 0 Q (F0 m 64 ls [])) → W p l e ({ frames := 1, cells := 0, slots := 0, locals := 33 } : Room) s m args below meth c H locs 0 0 Q (F0 m 14 ls []) := by
    intro k
    induction k with
    | zero =>
      intro z ke ot hz G H locs ls hP hD hS hk w22 w24 w25 w31 w32 hl hcont
      refine lv_iload_n (pc := 14) hx hb dX8_presets_14 rfl (lv_at hl 2 rfl) ?_
      refine lv_aload_n (pc := 15) hx hb dX8_presets_15 rfl (lv_at hl 0 rfl) ?_
      refine va_get (ci := 8) (C := RX8) (T := TX8) (N := 37) (pc := 16) hx hb hts hiX8 hown hK hP 22 w22 rfl 0 (by decide) (hts (.fieldLink RX8 7 "InkPressModel" "zones" "I") (by decide +kernel)) (fun _ h9 => h9) rfl dX8_presets_16 ?_
      refine mx_cge (tgt := 64) (pc := 19) hx hb (by omega) (by omega) dX8_presets_19 (by decide) (fun c19 => ?_) (fun c19 => absurd c19 (by omega))
      exact hcont G H locs ls hP hD hS hk w22 w24 w25 w31 w32 (lv_sub hl [1] rfl)
    | succ k ih =>
      intro z ke ot hz G H locs ls hP hD hS hk w22 w24 w25 w31 w32 hl hcont
      refine lv_iload_n (pc := 14) hx hb dX8_presets_14 rfl (lv_at hl 2 rfl) ?_
      refine lv_aload_n (pc := 15) hx hb dX8_presets_15 rfl (lv_at hl 0 rfl) ?_
      refine va_get (ci := 8) (C := RX8) (T := TX8) (N := 37) (pc := 16) hx hb hts hiX8 hown hK hP 22 w22 rfl 0 (by decide) (hts (.fieldLink RX8 7 "InkPressModel" "zones" "I") (by decide +kernel)) (fun _ h9 => h9) rfl dX8_presets_16 ?_
      refine mx_cge (tgt := 64) (pc := 19) hx hb (by omega) (by omega) dX8_presets_19 (by decide) (fun c19 => absurd c19 (by omega)) (fun c19 => ?_)
      refine lv_aload_n (pc := 22) hx hb dX8_presets_22 rfl (lv_at hl 0 rfl) ?_
      refine lv_aload_n (pc := 23) hx hb dX8_presets_23 rfl (lv_at hl 0 rfl) ?_
      refine va_get (ci := 8) (C := RX8) (T := TX8) (N := 37) (pc := 24) hx hb hts hiX8 hown hK hP 22 w22 rfl 4 (by decide) (hts (.fieldLink RX8 23 "InkPressModel" "cover" "[I") (by decide +kernel)) (fun _ h9 => h9) rfl dX8_presets_24 ?_
      refine lv_iload_n (pc := 27) hx hb dX8_presets_27 rfl (lv_at hl 2 rfl) ?_
      refine mx_iald (pc := 28) hx hb hK hP 25 w25 (z) (by omega) (by decide) dX8_presets_28 ?_
      refine mx_cVi (As := [.int ((cv) (z))]) (rest := []) (pc := 29) ⟨hx, hb, hml, hown, hts⟩ (k_X8_presetOf (a := a) (zn := zn) (tr := tr) (sc := sc) (pn := pn) (mn := mn) (jn := jn) (sg := sg) (sr := sr) (ss := ss) (fed := fed) (pap := pap) (bar := bar) (st := st) (q1 := q1) (q2 := q2) (q3 := q3) (q4 := q4) (q5 := q5) (pc_ := pc_) (pk_ := pk_) (x := (cv) (z)) hD w22 w31 w32 (by omega) (by omega)) (cwV 1 hts gX8_presets_X8_presetOf rfl rfl rfl (by decide +kernel) ⟨Nat.le_of_ble_eq_true rfl, Nat.le_of_ble_eq_true rfl⟩) 22 rfl rfl w22 hK hN hZ hP hS rfl hl.1 rfl (Nat.le_of_ble_eq_true rfl) dX8_presets_29 ⟨Nat.zero_le _, Nat.zero_le _⟩ (fun G' H locs hP hD hS hB => ?_)
      rw [hB] at hP hD
      clear hB G'
      refine lv_istore_n (lv' := [(3, .int (gMkey (pn) (gPs (pc_) (pn) 0 0) (gPs (pk_) (pn) 0 0) (gPs (fun j => (pc_) j * (pc_) j) (pn) 0 0) (gPs (fun j => (pc_) j * (pk_) j) (pn) 0 0) ((cv) (z)))), (0, .ref (a 22)), (1, .int (nI (ot))), (2, .int (nI (z)))]) (pc := 32) hx hb dX8_presets_32 rfl hl (by decide) rfl (fun ls hl => ?_)
      refine lv_iload_n (pc := 33) hx hb dX8_presets_33 rfl (lv_at hl 2 rfl) ?_
      refine lv_iload_n (pc := 34) hx hb dX8_presets_34 rfl (lv_at hl 0 rfl) ?_
      refine lv_aload_n (pc := 35) hx hb dX8_presets_35 rfl (lv_at hl 1 rfl) ?_
      refine va_get (ci := 8) (C := RX8) (T := TX8) (N := 37) (pc := 36) hx hb hts hiX8 hown hK hP 22 w22 rfl 3 (by decide) (hts (.fieldLink RX8 20 "InkPressModel" "key" "[I") (by decide +kernel)) (fun _ h9 => h9) rfl dX8_presets_36 ?_
      refine lv_iload_n (pc := 39) hx hb dX8_presets_39 rfl (lv_at hl 3 rfl) ?_
      refine mx_iald (pc := 40) hx hb hK hP 24 w24 (z) (by omega) (by decide) dX8_presets_40 ?_
      refine lv_icmp_ne (tgt := 48) (pc := 41) hx hb dX8_presets_41 (by decide) (fun c41 => ?_) (fun c41 => ?_)
      · skip
        refine lv_iconst (v := nI (1)) (pc := 48) hx hb dX8_presets_48 (by decide) ?_
        refine mx_iadd (pc := 49) hx hb dX8_presets_49 ?_
        refine lv_istore_n (lv' := [(1, .int (nI (ot + 1))), (3, .int (gMkey (pn) (gPs (pc_) (pn) 0 0) (gPs (pk_) (pn) 0 0) (gPs (fun j => (pc_) j * (pc_) j) (pn) 0 0) (gPs (fun j => (pc_) j * (pk_) j) (pn) 0 0) ((cv) (z)))), (0, .ref (a 22)), (2, .int (nI (z)))]) (pc := 50) hx hb dX8_presets_50 rfl hl (by decide) rfl (fun ls hl => ?_)
        refine lv_aload_n (pc := 51) hx hb dX8_presets_51 rfl (lv_at hl 2 rfl) ?_
        refine va_get (ci := 8) (C := RX8) (T := TX8) (N := 37) (pc := 52) hx hb hts hiX8 hown hK hP 22 w22 rfl 3 (by decide) (hts (.fieldLink RX8 20 "InkPressModel" "key" "[I") (by decide +kernel)) (fun _ h9 => h9) rfl dX8_presets_52 ?_
        refine lv_iload_n (pc := 55) hx hb dX8_presets_55 rfl (lv_at hl 3 rfl) ?_
        refine lv_iload_n (pc := 56) hx hb dX8_presets_56 rfl (lv_at hl 1 rfl) ?_
        refine mx_iast (x := gMkey (pn) (gPs (pc_) (pn) 0 0) (gPs (pk_) (pn) 0 0) (gPs (fun j => (pc_) j * (pc_) j) (pn) 0 0) (gPs (fun j => (pc_) j * (pk_) j) (pn) 0 0) ((cv) (z))) (pc := 57) hx hb hK hP hD hS 24 w24 (z) (by omega) (by decide) dX8_presets_57 (fun H locs G hP hD hS w24 ho => ?_)
        have w22 := (ho 22 (by decide)).trans w22
        have w25 := (ho 25 (by decide)).trans w25
        have w31 := (ho 31 (by decide)).trans w31
        have w32 := (ho 32 (by decide)).trans w32
        have w24 : G[24]? = some (a 24, .inl (cI, 8, .inl (upd (ke) (z) (gMkey (pn) (gPs (pc_) (pn) 0 0) (gPs (pk_) (pn) 0 0) (gPs (fun j => (pc_) j * (pc_) j) (pn) 0 0) (gPs (fun j => (pc_) j * (pk_) j) (pn) 0 0) ((cv) (z)))))) := w24
        have hk := gk_step hk ho (by decide)
        clear ho
        refine lv_iinc (v := nI (z + 1)) (lv' := [(2, .int (nI (z + 1))), (1, .int (nI (ot + 1))), (3, .int (gMkey (pn) (gPs (pc_) (pn) 0 0) (gPs (pk_) (pn) 0 0) (gPs (fun j => (pc_) j * (pc_) j) (pn) 0 0) (gPs (fun j => (pc_) j * (pk_) j) (pn) 0 0) ((cv) (z)))), (0, .ref (a 22))]) (pc := 58) hx hb dX8_presets_58 hl (k := 3) rfl (mx_inc1 _) (by decide) rfl (fun ls hl => ?_)
        refine lv_goto (tgt := 14) (pc := 61) hx hb dX8_presets_61 (by decide) ?_
        rw [gMQo_n c41] at hcont
        exact ih (z + 1) (upd (ke) (z) (gMkey (pn) (gPs (pc_) (pn) 0 0) (gPs (pk_) (pn) 0 0) (gPs (fun j => (pc_) j * (pc_) j) (pn) 0 0) (gPs (fun j => (pc_) j * (pk_) j) (pn) 0 0) ((cv) (z)))) (ot + 1) (by omega) G H locs ls hP hD hS hk w22 w24 w25 w31 w32 (lv_sub hl [3, 1, 0] rfl) hcont
      · skip
        refine lv_iconst (v := nI (0)) (pc := 44) hx hb dX8_presets_44 (by decide) ?_
        refine lv_goto (tgt := 49) (pc := 45) hx hb dX8_presets_45 (by decide) ?_
        refine mx_iadd (pc := 49) hx hb dX8_presets_49 ?_
        refine lv_istore_n (lv' := [(1, .int (nI (ot + 0))), (3, .int (gMkey (pn) (gPs (pc_) (pn) 0 0) (gPs (pk_) (pn) 0 0) (gPs (fun j => (pc_) j * (pc_) j) (pn) 0 0) (gPs (fun j => (pc_) j * (pk_) j) (pn) 0 0) ((cv) (z)))), (0, .ref (a 22)), (2, .int (nI (z)))]) (pc := 50) hx hb dX8_presets_50 rfl hl (by decide) rfl (fun ls hl => ?_)
        refine lv_aload_n (pc := 51) hx hb dX8_presets_51 rfl (lv_at hl 2 rfl) ?_
        refine va_get (ci := 8) (C := RX8) (T := TX8) (N := 37) (pc := 52) hx hb hts hiX8 hown hK hP 22 w22 rfl 3 (by decide) (hts (.fieldLink RX8 20 "InkPressModel" "key" "[I") (by decide +kernel)) (fun _ h9 => h9) rfl dX8_presets_52 ?_
        refine lv_iload_n (pc := 55) hx hb dX8_presets_55 rfl (lv_at hl 3 rfl) ?_
        refine lv_iload_n (pc := 56) hx hb dX8_presets_56 rfl (lv_at hl 1 rfl) ?_
        refine mx_iast (x := gMkey (pn) (gPs (pc_) (pn) 0 0) (gPs (pk_) (pn) 0 0) (gPs (fun j => (pc_) j * (pc_) j) (pn) 0 0) (gPs (fun j => (pc_) j * (pk_) j) (pn) 0 0) ((cv) (z))) (pc := 57) hx hb hK hP hD hS 24 w24 (z) (by omega) (by decide) dX8_presets_57 (fun H locs G hP hD hS w24 ho => ?_)
        have w22 := (ho 22 (by decide)).trans w22
        have w25 := (ho 25 (by decide)).trans w25
        have w31 := (ho 31 (by decide)).trans w31
        have w32 := (ho 32 (by decide)).trans w32
        have w24 : G[24]? = some (a 24, .inl (cI, 8, .inl (upd (ke) (z) (gMkey (pn) (gPs (pc_) (pn) 0 0) (gPs (pk_) (pn) 0 0) (gPs (fun j => (pc_) j * (pc_) j) (pn) 0 0) (gPs (fun j => (pc_) j * (pk_) j) (pn) 0 0) ((cv) (z)))))) := w24
        have hk := gk_step hk ho (by decide)
        clear ho
        refine lv_iinc (v := nI (z + 1)) (lv' := [(2, .int (nI (z + 1))), (1, .int (nI (ot + 0))), (3, .int (gMkey (pn) (gPs (pc_) (pn) 0 0) (gPs (pk_) (pn) 0 0) (gPs (fun j => (pc_) j * (pc_) j) (pn) 0 0) (gPs (fun j => (pc_) j * (pk_) j) (pn) 0 0) ((cv) (z)))), (0, .ref (a 22))]) (pc := 58) hx hb dX8_presets_58 hl (k := 3) rfl (mx_inc1 _) (by decide) rfl (fun ls hl => ?_)
        refine lv_goto (tgt := 14) (pc := 61) hx hb dX8_presets_61 (by decide) ?_
        rw [gMQo_e c41] at hcont
        exact ih (z + 1) (upd (ke) (z) (gMkey (pn) (gPs (pc_) (pn) 0 0) (gPs (pk_) (pn) 0 0) (gPs (fun j => (pc_) j * (pc_) j) (pn) 0 0) (gPs (fun j => (pc_) j * (pk_) j) (pn) 0 0) ((cv) (z)))) (ot + 0) (by omega) G H locs ls hP hD hS hk w22 w24 w25 w31 w32 (lv_sub hl [3, 1, 0] rfl) hcont
  refine LP zn (0) (ke) (0) (by omega) G0 H locs ls hP hD hS hk w22 w24 w25 w31 w32 (lv_sub hl [2, 1, 0] rfl) (fun G H locs ls hP hD hS hk w22 w24 w25 w31 w32 hl => ?_)
  have w24 : G[24]? = some (a 24, .inl (cI, 8, .inl (gMQz (gMkey pn (gPs pc_ pn 0 0) (gPs pk_ pn 0 0) (gPs (fun j => pc_ j * pc_ j) pn 0 0) (gPs (fun j => pc_ j * pk_ j) pn 0 0)) cv (zn) (0) (ke)))) := w24
  refine lv_iload_n (pc := 64) hx hb dX8_presets_64 rfl (lv_at hl 0 rfl) ?_
  exact hret _ _ _ _ _ _ hP hD hS rfl ⟨w24, hk⟩ dX8_presets_65
set_option maxHeartbeats 4000000 in
set_option maxRecDepth 100000 in
theorem k_X8_told_b {l : Launch} {D : va_G} {cI cZ : ClassId} {A : Nat → Prop} {g a : Nat → Nat} {G0 : va_W} {zn : Nat} {tr : Nat} {sc : Nat} {pn : Nat} {mn : Nat} {jn : Nat} {sg : Int32} {sr : Int32} {ss : Int32} {fed : Int32} {pap : Int32} {bar : Int32} {st : Bool} {q1 : Int64} {q2 : Int64} {q3 : Int64} {q4 : Int64} {q5 : Int64} {ink : Nat → Int32} {x : Int32} (hD : va_D A G0) (w22 : G0[22]? = some (a 22, .inr (8, [.int (nI (zn)), .int (nI (tr)), .ref (a 23), .ref (a 24), .ref (a 25), .ref (a 26), .ref (a 27), .ref (a 28), .ref (a 29), .int (nI (sc)), .int (sg), .int (sr), .int (ss), .int (fed), .int (pap), .int (bar), .int (gB (st)), .ref (a 30), .ref (a 31), .ref (a 32), .int (nI (pn)), .ref (a 33), .ref (a 34), .ref (a 35), .ref (a 36), .int (nI (mn)), .long (q1), .long (q2), .long (q3), .long (q4), .long (q5), .ref (a 37), .ref (a 38), .ref (a 39), .int (nI (jn)), .ref (a 40), .ref (a 41)]))) (w27 : G0[27]? = some (a 27, .inl (cI, 40, .inl (ink)))) (hx9 : x.toInt < 0 ∨ 9 < x.toInt) : gMi l D cI cZ A g yX8_told wsX8_told ({ frames := 0, cells := 0, slots := 0, locals := 0 }) [.ref (a 22), .int (x)] G0 ((-1000002)) (fun G1 => G1 = G0) := by
  refine gof_i (cc := cX8_told) (maxL := 4) (by decide) rfl (Nat.le_of_ble_eq_true rfl) hD ?_
  intro p e s m args below meth c Q hx hb hml hts hown hK hN hZ hP hS hret ls hl
  have hown : s.vm.findClass RX8 = some m.cls := hown
  have hl : lv_has ls 4 [(0, .ref (a 22)), (1, .int (x))] := hl
  obtain ⟨locs, elocs⟩ : ∃ q : List Loc, q = [] := ⟨_, rfl⟩
  rw [← elocs] at hS ⊢
  obtain ⟨H, eH⟩ : ∃ q : Heap, q = s.heap := ⟨_, rfl⟩
  have hP : va_P D vwCl G0 H := eH ▸ hP
  have hS : va_S A s.heap H locs := by rw [eH]; exact hS
  rw [← eH]
  clear elocs eH
  have hiX8 : ∀ w ∈ u_ws RX8 TX8 37, w ∈ wsX8_told := by decide +kernel
  have hk : ∀ k, k ∉ ([] : List Nat) → G0[k]? = G0[k]? := fun _ _ => rfl
  refine lv_iconst (v := nI (0)) (pc := 0) hx hb dX8_told_0 (by decide) ?_
  refine lv_istore_n (lv' := [(2, .int (nI (0))), (0, .ref (a 22)), (1, .int (x))]) (pc := 1) hx hb dX8_told_1 rfl hl (by decide) rfl (fun ls hl => ?_)
  refine lv_iconst (v := nI (0)) (pc := 2) hx hb dX8_told_2 (by decide) ?_
  refine lv_istore_n (lv' := [(3, .int (nI (0))), (2, .int (nI (0))), (0, .ref (a 22)), (1, .int (x))]) (pc := 3) hx hb dX8_told_3 rfl hl (by decide) rfl (fun ls hl => ?_)
  have LP : ∀ (k : Nat) (i : Nat) (acc : Int32), i + k = 40 → ∀ (H : Heap) (locs : List Loc) (ls : Array Slot), va_P D vwCl G0 H → va_D A G0 → va_S A s.heap H locs → (∀ j, j ∉ ([] : List Nat) → G0[j]? = G0[j]?) → G0[22]? = some (a 22, .inr (8, [.int (nI (zn)), .int (nI (tr)), .ref (a 23), .ref (a 24), .ref (a 25), .ref (a 26), .ref (a 27), .ref (a 28), .ref (a 29), .int (nI (sc)), .int (sg), .int (sr), .int (ss), .int (fed), .int (pap), .int (bar), .int (gB (st)), .ref (a 30), .ref (a 31), .ref (a 32), .int (nI (pn)), .ref (a 33), .ref (a 34), .ref (a 35), .ref (a 36), .int (nI (mn)), .long (q1), .long (q2), .long (q3), .long (q4), .long (q5), .ref (a 37), .ref (a 38), .ref (a 39), .int (nI (jn)), .ref (a 40), .ref (a 41)])) → G0[27]? = some (a 27, .inl (cI, 40, .inl (ink))) → lv_has ls 4 [(0, .ref (a 22)), (1, .int (x)), (2, .int (acc)), (3, .int (nI (i)))] → (∀ (H : Heap) (locs : List Loc) (ls : Array Slot), va_P D vwCl G0 H → va_D A G0 → va_S A s.heap H locs → (∀ j, j ∉ ([] : List Nat) → G0[j]? = G0[j]?) → G0[22]? = some (a 22, .inr (8, [.int (nI (zn)), .int (nI (tr)), .ref (a 23), .ref (a 24), .ref (a 25), .ref (a 26), .ref (a 27), .ref (a 28), .ref (a 29), .int (nI (sc)), .int (sg), .int (sr), .int (ss), .int (fed), .int (pap), .int (bar), .int (gB (st)), .ref (a 30), .ref (a 31), .ref (a 32), .int (nI (pn)), .ref (a 33), .ref (a 34), .ref (a 35), .ref (a 36), .int (nI (mn)), .long (q1), .long (q2), .long (q3), .long (q4), .long (q5), .ref (a 37), .ref (a 38), .ref (a 39), .int (nI (jn)), .ref (a 40), .ref (a 41)])) → G0[27]? = some (a 27, .inl (cI, 40, .inl (ink))) → lv_has ls 4 [(0, .ref (a 22)), (1, .int (x)), (2, .int (gOn k i acc ink))] → W p l e ({ frames := 0, cells := 0, slots := 0, locals := 0 } : Room) s m args below meth c H locs 0 0 Q (F0 m 25 ls [])) → W p l e ({ frames := 0, cells := 0, slots := 0, locals := 0 } : Room) s m args below meth c H locs 0 0 Q (F0 m 4 ls []) := by
    intro k
    induction k with
    | zero =>
      intro i acc hi H locs ls hP hD hS hk w22 w27 hl hcont
      refine lv_iload_n (pc := 4) hx hb dX8_told_4 rfl (lv_at hl 3 rfl) ?_
      refine lv_bipush (v := nI (40)) (pc := 5) hx hb dX8_told_5 (by decide) ?_
      refine mx_cge (tgt := 25) (pc := 7) hx hb (by omega) (by omega) dX8_told_7 (by decide) (fun c7 => ?_) (fun c7 => absurd c7 (by omega))
      exact hcont H locs ls hP hD hS hk w22 w27 (lv_sub hl [0, 1, 2] rfl)
    | succ k ih =>
      intro i acc hi H locs ls hP hD hS hk w22 w27 hl hcont
      refine lv_iload_n (pc := 4) hx hb dX8_told_4 rfl (lv_at hl 3 rfl) ?_
      refine lv_bipush (v := nI (40)) (pc := 5) hx hb dX8_told_5 (by decide) ?_
      refine mx_cge (tgt := 25) (pc := 7) hx hb (by omega) (by omega) dX8_told_7 (by decide) (fun c7 => absurd c7 (by omega)) (fun c7 => ?_)
      refine lv_iload_n (pc := 10) hx hb dX8_told_10 rfl (lv_at hl 2 rfl) ?_
      refine lv_aload_n (pc := 11) hx hb dX8_told_11 rfl (lv_at hl 0 rfl) ?_
      refine va_get (ci := 8) (C := RX8) (T := TX8) (N := 37) (pc := 12) hx hb hts hiX8 hown hK hP 22 w22 rfl 6 (by decide) (hts (.fieldLink RX8 29 "InkPressModel" "ink" "[I") (by decide +kernel)) (fun _ h9 => h9) rfl dX8_told_12 ?_
      refine lv_iload_n (pc := 15) hx hb dX8_told_15 rfl (lv_at hl 3 rfl) ?_
      refine mx_iald (pc := 16) hx hb hK hP 27 w27 (i) (by omega) (by decide) dX8_told_16 ?_
      refine lv_iadd (pc := 17) hx hb dX8_told_17 ?_
      refine lv_istore_n (lv' := [(2, .int ((acc + (ink) (i)))), (0, .ref (a 22)), (1, .int (x)), (3, .int (nI (i)))]) (pc := 18) hx hb dX8_told_18 rfl hl (by decide) rfl (fun ls hl => ?_)
      refine lv_iinc (v := nI (i + 1)) (lv' := [(3, .int (nI (i + 1))), (2, .int ((acc + (ink) (i)))), (0, .ref (a 22)), (1, .int (x))]) (pc := 19) hx hb dX8_told_19 hl (k := 3) rfl (mx_inc1 _) (by decide) rfl (fun ls hl => ?_)
      refine lv_goto (tgt := 4) (pc := 22) hx hb dX8_told_22 (by decide) ?_
      exact ih (i + 1) ((acc + (ink) (i))) (by omega) H locs ls hP hD hS hk w22 w27 (lv_sub hl [2, 3, 1, 0] rfl) hcont
  refine LP 40 (0) (nI 0) (by omega)  H locs ls hP hD hS hk w22 w27 (lv_sub hl [2, 3, 1, 0] rfl) (fun H locs ls hP hD hS hk w22 w27 hl => ?_)
  refine lv_iload_n (pc := 25) hx hb dX8_told_25 rfl (lv_at hl 1 rfl) ?_
  refine lv_tableOut (tgt := 140) (pc := 26) hx hb dX8_told_26 hx9 (by decide) ?_
  refine lv_ldc (own := RX8) (v := (-1000002)) (pc := 140) hx hb hown (hts (.constant RX8 118 (-1000002)) (by decide +kernel)) dX8_told_140 ?_
  exact hret _ _ _ _ _ _ hP hD hS rfl rfl dX8_told_142
set_option maxHeartbeats 4000000 in
set_option maxRecDepth 100000 in
theorem k_X8_told_0 {l : Launch} {D : va_G} {cI cZ : ClassId} {A : Nat → Prop} {g a : Nat → Nat} {G0 : va_W} {zn : Nat} {tr : Nat} {sc : Nat} {pn : Nat} {mn : Nat} {jn : Nat} {sg : Int32} {sr : Int32} {ss : Int32} {fed : Int32} {pap : Int32} {bar : Int32} {st : Bool} {q1 : Int64} {q2 : Int64} {q3 : Int64} {q4 : Int64} {q5 : Int64} {ink : Nat → Int32} (hD : va_D A G0) (w22 : G0[22]? = some (a 22, .inr (8, [.int (nI (zn)), .int (nI (tr)), .ref (a 23), .ref (a 24), .ref (a 25), .ref (a 26), .ref (a 27), .ref (a 28), .ref (a 29), .int (nI (sc)), .int (sg), .int (sr), .int (ss), .int (fed), .int (pap), .int (bar), .int (gB (st)), .ref (a 30), .ref (a 31), .ref (a 32), .int (nI (pn)), .ref (a 33), .ref (a 34), .ref (a 35), .ref (a 36), .int (nI (mn)), .long (q1), .long (q2), .long (q3), .long (q4), .long (q5), .ref (a 37), .ref (a 38), .ref (a 39), .int (nI (jn)), .ref (a 40), .ref (a 41)]))) (w27 : G0[27]? = some (a 27, .inl (cI, 40, .inl (ink)))) : gMi l D cI cZ A g yX8_told wsX8_told ({ frames := 0, cells := 0, slots := 0, locals := 0 }) [.ref (a 22), .int (nI (0))] G0 (nI sc) (fun G1 => G1 = G0) := by
  refine gof_i (cc := cX8_told) (maxL := 4) (by decide) rfl (Nat.le_of_ble_eq_true rfl) hD ?_
  intro p e s m args below meth c Q hx hb hml hts hown hK hN hZ hP hS hret ls hl
  have hown : s.vm.findClass RX8 = some m.cls := hown
  have hl : lv_has ls 4 [(0, .ref (a 22)), (1, .int (nI (0)))] := hl
  obtain ⟨locs, elocs⟩ : ∃ q : List Loc, q = [] := ⟨_, rfl⟩
  rw [← elocs] at hS ⊢
  obtain ⟨H, eH⟩ : ∃ q : Heap, q = s.heap := ⟨_, rfl⟩
  have hP : va_P D vwCl G0 H := eH ▸ hP
  have hS : va_S A s.heap H locs := by rw [eH]; exact hS
  rw [← eH]
  clear elocs eH
  have hiX8 : ∀ w ∈ u_ws RX8 TX8 37, w ∈ wsX8_told := by decide +kernel
  have hk : ∀ k, k ∉ ([] : List Nat) → G0[k]? = G0[k]? := fun _ _ => rfl
  refine lv_iconst (v := nI (0)) (pc := 0) hx hb dX8_told_0 (by decide) ?_
  refine lv_istore_n (lv' := [(2, .int (nI (0))), (0, .ref (a 22)), (1, .int (nI (0)))]) (pc := 1) hx hb dX8_told_1 rfl hl (by decide) rfl (fun ls hl => ?_)
  refine lv_iconst (v := nI (0)) (pc := 2) hx hb dX8_told_2 (by decide) ?_
  refine lv_istore_n (lv' := [(3, .int (nI (0))), (2, .int (nI (0))), (0, .ref (a 22)), (1, .int (nI (0)))]) (pc := 3) hx hb dX8_told_3 rfl hl (by decide) rfl (fun ls hl => ?_)
  have LP : ∀ (k : Nat) (i : Nat) (acc : Int32), i + k = 40 → ∀ (H : Heap) (locs : List Loc) (ls : Array Slot), va_P D vwCl G0 H → va_D A G0 → va_S A s.heap H locs → (∀ j, j ∉ ([] : List Nat) → G0[j]? = G0[j]?) → G0[22]? = some (a 22, .inr (8, [.int (nI (zn)), .int (nI (tr)), .ref (a 23), .ref (a 24), .ref (a 25), .ref (a 26), .ref (a 27), .ref (a 28), .ref (a 29), .int (nI (sc)), .int (sg), .int (sr), .int (ss), .int (fed), .int (pap), .int (bar), .int (gB (st)), .ref (a 30), .ref (a 31), .ref (a 32), .int (nI (pn)), .ref (a 33), .ref (a 34), .ref (a 35), .ref (a 36), .int (nI (mn)), .long (q1), .long (q2), .long (q3), .long (q4), .long (q5), .ref (a 37), .ref (a 38), .ref (a 39), .int (nI (jn)), .ref (a 40), .ref (a 41)])) → G0[27]? = some (a 27, .inl (cI, 40, .inl (ink))) → lv_has ls 4 [(0, .ref (a 22)), (1, .int (nI (0))), (2, .int (acc)), (3, .int (nI (i)))] → (∀ (H : Heap) (locs : List Loc) (ls : Array Slot), va_P D vwCl G0 H → va_D A G0 → va_S A s.heap H locs → (∀ j, j ∉ ([] : List Nat) → G0[j]? = G0[j]?) → G0[22]? = some (a 22, .inr (8, [.int (nI (zn)), .int (nI (tr)), .ref (a 23), .ref (a 24), .ref (a 25), .ref (a 26), .ref (a 27), .ref (a 28), .ref (a 29), .int (nI (sc)), .int (sg), .int (sr), .int (ss), .int (fed), .int (pap), .int (bar), .int (gB (st)), .ref (a 30), .ref (a 31), .ref (a 32), .int (nI (pn)), .ref (a 33), .ref (a 34), .ref (a 35), .ref (a 36), .int (nI (mn)), .long (q1), .long (q2), .long (q3), .long (q4), .long (q5), .ref (a 37), .ref (a 38), .ref (a 39), .int (nI (jn)), .ref (a 40), .ref (a 41)])) → G0[27]? = some (a 27, .inl (cI, 40, .inl (ink))) → lv_has ls 4 [(0, .ref (a 22)), (1, .int (nI (0))), (2, .int (gOn k i acc ink))] → W p l e ({ frames := 0, cells := 0, slots := 0, locals := 0 } : Room) s m args below meth c H locs 0 0 Q (F0 m 25 ls [])) → W p l e ({ frames := 0, cells := 0, slots := 0, locals := 0 } : Room) s m args below meth c H locs 0 0 Q (F0 m 4 ls []) := by
    intro k
    induction k with
    | zero =>
      intro i acc hi H locs ls hP hD hS hk w22 w27 hl hcont
      refine lv_iload_n (pc := 4) hx hb dX8_told_4 rfl (lv_at hl 3 rfl) ?_
      refine lv_bipush (v := nI (40)) (pc := 5) hx hb dX8_told_5 (by decide) ?_
      refine mx_cge (tgt := 25) (pc := 7) hx hb (by omega) (by omega) dX8_told_7 (by decide) (fun c7 => ?_) (fun c7 => absurd c7 (by omega))
      exact hcont H locs ls hP hD hS hk w22 w27 (lv_sub hl [0, 1, 2] rfl)
    | succ k ih =>
      intro i acc hi H locs ls hP hD hS hk w22 w27 hl hcont
      refine lv_iload_n (pc := 4) hx hb dX8_told_4 rfl (lv_at hl 3 rfl) ?_
      refine lv_bipush (v := nI (40)) (pc := 5) hx hb dX8_told_5 (by decide) ?_
      refine mx_cge (tgt := 25) (pc := 7) hx hb (by omega) (by omega) dX8_told_7 (by decide) (fun c7 => absurd c7 (by omega)) (fun c7 => ?_)
      refine lv_iload_n (pc := 10) hx hb dX8_told_10 rfl (lv_at hl 2 rfl) ?_
      refine lv_aload_n (pc := 11) hx hb dX8_told_11 rfl (lv_at hl 0 rfl) ?_
      refine va_get (ci := 8) (C := RX8) (T := TX8) (N := 37) (pc := 12) hx hb hts hiX8 hown hK hP 22 w22 rfl 6 (by decide) (hts (.fieldLink RX8 29 "InkPressModel" "ink" "[I") (by decide +kernel)) (fun _ h9 => h9) rfl dX8_told_12 ?_
      refine lv_iload_n (pc := 15) hx hb dX8_told_15 rfl (lv_at hl 3 rfl) ?_
      refine mx_iald (pc := 16) hx hb hK hP 27 w27 (i) (by omega) (by decide) dX8_told_16 ?_
      refine lv_iadd (pc := 17) hx hb dX8_told_17 ?_
      refine lv_istore_n (lv' := [(2, .int ((acc + (ink) (i)))), (0, .ref (a 22)), (1, .int (nI (0))), (3, .int (nI (i)))]) (pc := 18) hx hb dX8_told_18 rfl hl (by decide) rfl (fun ls hl => ?_)
      refine lv_iinc (v := nI (i + 1)) (lv' := [(3, .int (nI (i + 1))), (2, .int ((acc + (ink) (i)))), (0, .ref (a 22)), (1, .int (nI (0)))]) (pc := 19) hx hb dX8_told_19 hl (k := 3) rfl (mx_inc1 _) (by decide) rfl (fun ls hl => ?_)
      refine lv_goto (tgt := 4) (pc := 22) hx hb dX8_told_22 (by decide) ?_
      exact ih (i + 1) ((acc + (ink) (i))) (by omega) H locs ls hP hD hS hk w22 w27 (lv_sub hl [2, 3, 1, 0] rfl) hcont
  refine LP 40 (0) (nI 0) (by omega)  H locs ls hP hD hS hk w22 w27 (lv_sub hl [2, 3, 1, 0] rfl) (fun H locs ls hP hD hS hk w22 w27 hl => ?_)
  refine lv_iload_n (pc := 25) hx hb dX8_told_25 rfl (lv_at hl 1 rfl) ?_
  refine lv_tableIn (tgt := 80) (pc := 26) hx hb dX8_told_26 (by decide) (by decide) rfl (by decide) ?_
  refine lv_aload_n (pc := 80) hx hb dX8_told_80 rfl (lv_at hl 0 rfl) ?_
  refine va_get (ci := 8) (C := RX8) (T := TX8) (N := 37) (pc := 81) hx hb hts hiX8 hown hK hP 22 w22 rfl 9 (by decide) (hts (.fieldLink RX8 81 "InkPressModel" "sheets" "I") (by decide +kernel)) (fun _ h9 => h9) rfl dX8_told_81 ?_
  exact hret _ _ _ _ _ _ hP hD hS rfl rfl dX8_told_84
set_option maxHeartbeats 4000000 in
set_option maxRecDepth 100000 in
theorem k_X8_told_1 {l : Launch} {D : va_G} {cI cZ : ClassId} {A : Nat → Prop} {g a : Nat → Nat} {G0 : va_W} {zn : Nat} {tr : Nat} {sc : Nat} {pn : Nat} {mn : Nat} {jn : Nat} {sg : Int32} {sr : Int32} {ss : Int32} {fed : Int32} {pap : Int32} {bar : Int32} {st : Bool} {q1 : Int64} {q2 : Int64} {q3 : Int64} {q4 : Int64} {q5 : Int64} {ink : Nat → Int32} (hD : va_D A G0) (w22 : G0[22]? = some (a 22, .inr (8, [.int (nI (zn)), .int (nI (tr)), .ref (a 23), .ref (a 24), .ref (a 25), .ref (a 26), .ref (a 27), .ref (a 28), .ref (a 29), .int (nI (sc)), .int (sg), .int (sr), .int (ss), .int (fed), .int (pap), .int (bar), .int (gB (st)), .ref (a 30), .ref (a 31), .ref (a 32), .int (nI (pn)), .ref (a 33), .ref (a 34), .ref (a 35), .ref (a 36), .int (nI (mn)), .long (q1), .long (q2), .long (q3), .long (q4), .long (q5), .ref (a 37), .ref (a 38), .ref (a 39), .int (nI (jn)), .ref (a 40), .ref (a 41)]))) (w27 : G0[27]? = some (a 27, .inl (cI, 40, .inl (ink)))) : gMi l D cI cZ A g yX8_told wsX8_told ({ frames := 0, cells := 0, slots := 0, locals := 0 }) [.ref (a 22), .int (nI (1))] G0 (sg) (fun G1 => G1 = G0) := by
  refine gof_i (cc := cX8_told) (maxL := 4) (by decide) rfl (Nat.le_of_ble_eq_true rfl) hD ?_
  intro p e s m args below meth c Q hx hb hml hts hown hK hN hZ hP hS hret ls hl
  have hown : s.vm.findClass RX8 = some m.cls := hown
  have hl : lv_has ls 4 [(0, .ref (a 22)), (1, .int (nI (1)))] := hl
  obtain ⟨locs, elocs⟩ : ∃ q : List Loc, q = [] := ⟨_, rfl⟩
  rw [← elocs] at hS ⊢
  obtain ⟨H, eH⟩ : ∃ q : Heap, q = s.heap := ⟨_, rfl⟩
  have hP : va_P D vwCl G0 H := eH ▸ hP
  have hS : va_S A s.heap H locs := by rw [eH]; exact hS
  rw [← eH]
  clear elocs eH
  have hiX8 : ∀ w ∈ u_ws RX8 TX8 37, w ∈ wsX8_told := by decide +kernel
  have hk : ∀ k, k ∉ ([] : List Nat) → G0[k]? = G0[k]? := fun _ _ => rfl
  refine lv_iconst (v := nI (0)) (pc := 0) hx hb dX8_told_0 (by decide) ?_
  refine lv_istore_n (lv' := [(2, .int (nI (0))), (0, .ref (a 22)), (1, .int (nI (1)))]) (pc := 1) hx hb dX8_told_1 rfl hl (by decide) rfl (fun ls hl => ?_)
  refine lv_iconst (v := nI (0)) (pc := 2) hx hb dX8_told_2 (by decide) ?_
  refine lv_istore_n (lv' := [(3, .int (nI (0))), (2, .int (nI (0))), (0, .ref (a 22)), (1, .int (nI (1)))]) (pc := 3) hx hb dX8_told_3 rfl hl (by decide) rfl (fun ls hl => ?_)
  have LP : ∀ (k : Nat) (i : Nat) (acc : Int32), i + k = 40 → ∀ (H : Heap) (locs : List Loc) (ls : Array Slot), va_P D vwCl G0 H → va_D A G0 → va_S A s.heap H locs → (∀ j, j ∉ ([] : List Nat) → G0[j]? = G0[j]?) → G0[22]? = some (a 22, .inr (8, [.int (nI (zn)), .int (nI (tr)), .ref (a 23), .ref (a 24), .ref (a 25), .ref (a 26), .ref (a 27), .ref (a 28), .ref (a 29), .int (nI (sc)), .int (sg), .int (sr), .int (ss), .int (fed), .int (pap), .int (bar), .int (gB (st)), .ref (a 30), .ref (a 31), .ref (a 32), .int (nI (pn)), .ref (a 33), .ref (a 34), .ref (a 35), .ref (a 36), .int (nI (mn)), .long (q1), .long (q2), .long (q3), .long (q4), .long (q5), .ref (a 37), .ref (a 38), .ref (a 39), .int (nI (jn)), .ref (a 40), .ref (a 41)])) → G0[27]? = some (a 27, .inl (cI, 40, .inl (ink))) → lv_has ls 4 [(0, .ref (a 22)), (1, .int (nI (1))), (2, .int (acc)), (3, .int (nI (i)))] → (∀ (H : Heap) (locs : List Loc) (ls : Array Slot), va_P D vwCl G0 H → va_D A G0 → va_S A s.heap H locs → (∀ j, j ∉ ([] : List Nat) → G0[j]? = G0[j]?) → G0[22]? = some (a 22, .inr (8, [.int (nI (zn)), .int (nI (tr)), .ref (a 23), .ref (a 24), .ref (a 25), .ref (a 26), .ref (a 27), .ref (a 28), .ref (a 29), .int (nI (sc)), .int (sg), .int (sr), .int (ss), .int (fed), .int (pap), .int (bar), .int (gB (st)), .ref (a 30), .ref (a 31), .ref (a 32), .int (nI (pn)), .ref (a 33), .ref (a 34), .ref (a 35), .ref (a 36), .int (nI (mn)), .long (q1), .long (q2), .long (q3), .long (q4), .long (q5), .ref (a 37), .ref (a 38), .ref (a 39), .int (nI (jn)), .ref (a 40), .ref (a 41)])) → G0[27]? = some (a 27, .inl (cI, 40, .inl (ink))) → lv_has ls 4 [(0, .ref (a 22)), (1, .int (nI (1))), (2, .int (gOn k i acc ink))] → W p l e ({ frames := 0, cells := 0, slots := 0, locals := 0 } : Room) s m args below meth c H locs 0 0 Q (F0 m 25 ls [])) → W p l e ({ frames := 0, cells := 0, slots := 0, locals := 0 } : Room) s m args below meth c H locs 0 0 Q (F0 m 4 ls []) := by
    intro k
    induction k with
    | zero =>
      intro i acc hi H locs ls hP hD hS hk w22 w27 hl hcont
      refine lv_iload_n (pc := 4) hx hb dX8_told_4 rfl (lv_at hl 3 rfl) ?_
      refine lv_bipush (v := nI (40)) (pc := 5) hx hb dX8_told_5 (by decide) ?_
      refine mx_cge (tgt := 25) (pc := 7) hx hb (by omega) (by omega) dX8_told_7 (by decide) (fun c7 => ?_) (fun c7 => absurd c7 (by omega))
      exact hcont H locs ls hP hD hS hk w22 w27 (lv_sub hl [0, 1, 2] rfl)
    | succ k ih =>
      intro i acc hi H locs ls hP hD hS hk w22 w27 hl hcont
      refine lv_iload_n (pc := 4) hx hb dX8_told_4 rfl (lv_at hl 3 rfl) ?_
      refine lv_bipush (v := nI (40)) (pc := 5) hx hb dX8_told_5 (by decide) ?_
      refine mx_cge (tgt := 25) (pc := 7) hx hb (by omega) (by omega) dX8_told_7 (by decide) (fun c7 => absurd c7 (by omega)) (fun c7 => ?_)
      refine lv_iload_n (pc := 10) hx hb dX8_told_10 rfl (lv_at hl 2 rfl) ?_
      refine lv_aload_n (pc := 11) hx hb dX8_told_11 rfl (lv_at hl 0 rfl) ?_
      refine va_get (ci := 8) (C := RX8) (T := TX8) (N := 37) (pc := 12) hx hb hts hiX8 hown hK hP 22 w22 rfl 6 (by decide) (hts (.fieldLink RX8 29 "InkPressModel" "ink" "[I") (by decide +kernel)) (fun _ h9 => h9) rfl dX8_told_12 ?_
      refine lv_iload_n (pc := 15) hx hb dX8_told_15 rfl (lv_at hl 3 rfl) ?_
      refine mx_iald (pc := 16) hx hb hK hP 27 w27 (i) (by omega) (by decide) dX8_told_16 ?_
      refine lv_iadd (pc := 17) hx hb dX8_told_17 ?_
      refine lv_istore_n (lv' := [(2, .int ((acc + (ink) (i)))), (0, .ref (a 22)), (1, .int (nI (1))), (3, .int (nI (i)))]) (pc := 18) hx hb dX8_told_18 rfl hl (by decide) rfl (fun ls hl => ?_)
      refine lv_iinc (v := nI (i + 1)) (lv' := [(3, .int (nI (i + 1))), (2, .int ((acc + (ink) (i)))), (0, .ref (a 22)), (1, .int (nI (1)))]) (pc := 19) hx hb dX8_told_19 hl (k := 3) rfl (mx_inc1 _) (by decide) rfl (fun ls hl => ?_)
      refine lv_goto (tgt := 4) (pc := 22) hx hb dX8_told_22 (by decide) ?_
      exact ih (i + 1) ((acc + (ink) (i))) (by omega) H locs ls hP hD hS hk w22 w27 (lv_sub hl [2, 3, 1, 0] rfl) hcont
  refine LP 40 (0) (nI 0) (by omega)  H locs ls hP hD hS hk w22 w27 (lv_sub hl [2, 3, 1, 0] rfl) (fun H locs ls hP hD hS hk w22 w27 hl => ?_)
  refine lv_iload_n (pc := 25) hx hb dX8_told_25 rfl (lv_at hl 1 rfl) ?_
  refine lv_tableIn (tgt := 85) (pc := 26) hx hb dX8_told_26 (by decide) (by decide) rfl (by decide) ?_
  refine lv_aload_n (pc := 85) hx hb dX8_told_85 rfl (lv_at hl 0 rfl) ?_
  refine va_get (ci := 8) (C := RX8) (T := TX8) (N := 37) (pc := 86) hx hb hts hiX8 hown hK hP 22 w22 rfl 10 (by decide) (hts (.fieldLink RX8 84 "InkPressModel" "goodMany" "I") (by decide +kernel)) (fun _ h9 => h9) rfl dX8_told_86 ?_
  exact hret _ _ _ _ _ _ hP hD hS rfl rfl dX8_told_89
set_option maxHeartbeats 4000000 in
set_option maxRecDepth 100000 in
theorem k_X8_told_2 {l : Launch} {D : va_G} {cI cZ : ClassId} {A : Nat → Prop} {g a : Nat → Nat} {G0 : va_W} {zn : Nat} {tr : Nat} {sc : Nat} {pn : Nat} {mn : Nat} {jn : Nat} {sg : Int32} {sr : Int32} {ss : Int32} {fed : Int32} {pap : Int32} {bar : Int32} {st : Bool} {q1 : Int64} {q2 : Int64} {q3 : Int64} {q4 : Int64} {q5 : Int64} {ink : Nat → Int32} (hD : va_D A G0) (w22 : G0[22]? = some (a 22, .inr (8, [.int (nI (zn)), .int (nI (tr)), .ref (a 23), .ref (a 24), .ref (a 25), .ref (a 26), .ref (a 27), .ref (a 28), .ref (a 29), .int (nI (sc)), .int (sg), .int (sr), .int (ss), .int (fed), .int (pap), .int (bar), .int (gB (st)), .ref (a 30), .ref (a 31), .ref (a 32), .int (nI (pn)), .ref (a 33), .ref (a 34), .ref (a 35), .ref (a 36), .int (nI (mn)), .long (q1), .long (q2), .long (q3), .long (q4), .long (q5), .ref (a 37), .ref (a 38), .ref (a 39), .int (nI (jn)), .ref (a 40), .ref (a 41)]))) (w27 : G0[27]? = some (a 27, .inl (cI, 40, .inl (ink)))) : gMi l D cI cZ A g yX8_told wsX8_told ({ frames := 0, cells := 0, slots := 0, locals := 0 }) [.ref (a 22), .int (nI (2))] G0 (nI sc - sg) (fun G1 => G1 = G0) := by
  refine gof_i (cc := cX8_told) (maxL := 4) (by decide) rfl (Nat.le_of_ble_eq_true rfl) hD ?_
  intro p e s m args below meth c Q hx hb hml hts hown hK hN hZ hP hS hret ls hl
  have hown : s.vm.findClass RX8 = some m.cls := hown
  have hl : lv_has ls 4 [(0, .ref (a 22)), (1, .int (nI (2)))] := hl
  obtain ⟨locs, elocs⟩ : ∃ q : List Loc, q = [] := ⟨_, rfl⟩
  rw [← elocs] at hS ⊢
  obtain ⟨H, eH⟩ : ∃ q : Heap, q = s.heap := ⟨_, rfl⟩
  have hP : va_P D vwCl G0 H := eH ▸ hP
  have hS : va_S A s.heap H locs := by rw [eH]; exact hS
  rw [← eH]
  clear elocs eH
  have hiX8 : ∀ w ∈ u_ws RX8 TX8 37, w ∈ wsX8_told := by decide +kernel
  have hk : ∀ k, k ∉ ([] : List Nat) → G0[k]? = G0[k]? := fun _ _ => rfl
  refine lv_iconst (v := nI (0)) (pc := 0) hx hb dX8_told_0 (by decide) ?_
  refine lv_istore_n (lv' := [(2, .int (nI (0))), (0, .ref (a 22)), (1, .int (nI (2)))]) (pc := 1) hx hb dX8_told_1 rfl hl (by decide) rfl (fun ls hl => ?_)
  refine lv_iconst (v := nI (0)) (pc := 2) hx hb dX8_told_2 (by decide) ?_
  refine lv_istore_n (lv' := [(3, .int (nI (0))), (2, .int (nI (0))), (0, .ref (a 22)), (1, .int (nI (2)))]) (pc := 3) hx hb dX8_told_3 rfl hl (by decide) rfl (fun ls hl => ?_)
  have LP : ∀ (k : Nat) (i : Nat) (acc : Int32), i + k = 40 → ∀ (H : Heap) (locs : List Loc) (ls : Array Slot), va_P D vwCl G0 H → va_D A G0 → va_S A s.heap H locs → (∀ j, j ∉ ([] : List Nat) → G0[j]? = G0[j]?) → G0[22]? = some (a 22, .inr (8, [.int (nI (zn)), .int (nI (tr)), .ref (a 23), .ref (a 24), .ref (a 25), .ref (a 26), .ref (a 27), .ref (a 28), .ref (a 29), .int (nI (sc)), .int (sg), .int (sr), .int (ss), .int (fed), .int (pap), .int (bar), .int (gB (st)), .ref (a 30), .ref (a 31), .ref (a 32), .int (nI (pn)), .ref (a 33), .ref (a 34), .ref (a 35), .ref (a 36), .int (nI (mn)), .long (q1), .long (q2), .long (q3), .long (q4), .long (q5), .ref (a 37), .ref (a 38), .ref (a 39), .int (nI (jn)), .ref (a 40), .ref (a 41)])) → G0[27]? = some (a 27, .inl (cI, 40, .inl (ink))) → lv_has ls 4 [(0, .ref (a 22)), (1, .int (nI (2))), (2, .int (acc)), (3, .int (nI (i)))] → (∀ (H : Heap) (locs : List Loc) (ls : Array Slot), va_P D vwCl G0 H → va_D A G0 → va_S A s.heap H locs → (∀ j, j ∉ ([] : List Nat) → G0[j]? = G0[j]?) → G0[22]? = some (a 22, .inr (8, [.int (nI (zn)), .int (nI (tr)), .ref (a 23), .ref (a 24), .ref (a 25), .ref (a 26), .ref (a 27), .ref (a 28), .ref (a 29), .int (nI (sc)), .int (sg), .int (sr), .int (ss), .int (fed), .int (pap), .int (bar), .int (gB (st)), .ref (a 30), .ref (a 31), .ref (a 32), .int (nI (pn)), .ref (a 33), .ref (a 34), .ref (a 35), .ref (a 36), .int (nI (mn)), .long (q1), .long (q2), .long (q3), .long (q4), .long (q5), .ref (a 37), .ref (a 38), .ref (a 39), .int (nI (jn)), .ref (a 40), .ref (a 41)])) → G0[27]? = some (a 27, .inl (cI, 40, .inl (ink))) → lv_has ls 4 [(0, .ref (a 22)), (1, .int (nI (2))), (2, .int (gOn k i acc ink))] → W p l e ({ frames := 0, cells := 0, slots := 0, locals := 0 } : Room) s m args below meth c H locs 0 0 Q (F0 m 25 ls [])) → W p l e ({ frames := 0, cells := 0, slots := 0, locals := 0 } : Room) s m args below meth c H locs 0 0 Q (F0 m 4 ls []) := by
    intro k
    induction k with
    | zero =>
      intro i acc hi H locs ls hP hD hS hk w22 w27 hl hcont
      refine lv_iload_n (pc := 4) hx hb dX8_told_4 rfl (lv_at hl 3 rfl) ?_
      refine lv_bipush (v := nI (40)) (pc := 5) hx hb dX8_told_5 (by decide) ?_
      refine mx_cge (tgt := 25) (pc := 7) hx hb (by omega) (by omega) dX8_told_7 (by decide) (fun c7 => ?_) (fun c7 => absurd c7 (by omega))
      exact hcont H locs ls hP hD hS hk w22 w27 (lv_sub hl [0, 1, 2] rfl)
    | succ k ih =>
      intro i acc hi H locs ls hP hD hS hk w22 w27 hl hcont
      refine lv_iload_n (pc := 4) hx hb dX8_told_4 rfl (lv_at hl 3 rfl) ?_
      refine lv_bipush (v := nI (40)) (pc := 5) hx hb dX8_told_5 (by decide) ?_
      refine mx_cge (tgt := 25) (pc := 7) hx hb (by omega) (by omega) dX8_told_7 (by decide) (fun c7 => absurd c7 (by omega)) (fun c7 => ?_)
      refine lv_iload_n (pc := 10) hx hb dX8_told_10 rfl (lv_at hl 2 rfl) ?_
      refine lv_aload_n (pc := 11) hx hb dX8_told_11 rfl (lv_at hl 0 rfl) ?_
      refine va_get (ci := 8) (C := RX8) (T := TX8) (N := 37) (pc := 12) hx hb hts hiX8 hown hK hP 22 w22 rfl 6 (by decide) (hts (.fieldLink RX8 29 "InkPressModel" "ink" "[I") (by decide +kernel)) (fun _ h9 => h9) rfl dX8_told_12 ?_
      refine lv_iload_n (pc := 15) hx hb dX8_told_15 rfl (lv_at hl 3 rfl) ?_
      refine mx_iald (pc := 16) hx hb hK hP 27 w27 (i) (by omega) (by decide) dX8_told_16 ?_
      refine lv_iadd (pc := 17) hx hb dX8_told_17 ?_
      refine lv_istore_n (lv' := [(2, .int ((acc + (ink) (i)))), (0, .ref (a 22)), (1, .int (nI (2))), (3, .int (nI (i)))]) (pc := 18) hx hb dX8_told_18 rfl hl (by decide) rfl (fun ls hl => ?_)
      refine lv_iinc (v := nI (i + 1)) (lv' := [(3, .int (nI (i + 1))), (2, .int ((acc + (ink) (i)))), (0, .ref (a 22)), (1, .int (nI (2)))]) (pc := 19) hx hb dX8_told_19 hl (k := 3) rfl (mx_inc1 _) (by decide) rfl (fun ls hl => ?_)
      refine lv_goto (tgt := 4) (pc := 22) hx hb dX8_told_22 (by decide) ?_
      exact ih (i + 1) ((acc + (ink) (i))) (by omega) H locs ls hP hD hS hk w22 w27 (lv_sub hl [2, 3, 1, 0] rfl) hcont
  refine LP 40 (0) (nI 0) (by omega)  H locs ls hP hD hS hk w22 w27 (lv_sub hl [2, 3, 1, 0] rfl) (fun H locs ls hP hD hS hk w22 w27 hl => ?_)
  refine lv_iload_n (pc := 25) hx hb dX8_told_25 rfl (lv_at hl 1 rfl) ?_
  refine lv_tableIn (tgt := 90) (pc := 26) hx hb dX8_told_26 (by decide) (by decide) rfl (by decide) ?_
  refine lv_aload_n (pc := 90) hx hb dX8_told_90 rfl (lv_at hl 0 rfl) ?_
  refine va_get (ci := 8) (C := RX8) (T := TX8) (N := 37) (pc := 91) hx hb hts hiX8 hown hK hP 22 w22 rfl 9 (by decide) (hts (.fieldLink RX8 81 "InkPressModel" "sheets" "I") (by decide +kernel)) (fun _ h9 => h9) rfl dX8_told_91 ?_
  refine lv_aload_n (pc := 94) hx hb dX8_told_94 rfl (lv_at hl 0 rfl) ?_
  refine va_get (ci := 8) (C := RX8) (T := TX8) (N := 37) (pc := 95) hx hb hts hiX8 hown hK hP 22 w22 rfl 10 (by decide) (hts (.fieldLink RX8 84 "InkPressModel" "goodMany" "I") (by decide +kernel)) (fun _ h9 => h9) rfl dX8_told_95 ?_
  refine lv_isub (pc := 98) hx hb dX8_told_98 ?_
  exact hret _ _ _ _ _ _ hP hD hS rfl rfl dX8_told_99
set_option maxHeartbeats 4000000 in
set_option maxRecDepth 100000 in
theorem k_X8_told_3 {l : Launch} {D : va_G} {cI cZ : ClassId} {A : Nat → Prop} {g a : Nat → Nat} {G0 : va_W} {zn : Nat} {tr : Nat} {sc : Nat} {pn : Nat} {mn : Nat} {jn : Nat} {sg : Int32} {sr : Int32} {ss : Int32} {fed : Int32} {pap : Int32} {bar : Int32} {st : Bool} {q1 : Int64} {q2 : Int64} {q3 : Int64} {q4 : Int64} {q5 : Int64} {ink : Nat → Int32} (hD : va_D A G0) (w22 : G0[22]? = some (a 22, .inr (8, [.int (nI (zn)), .int (nI (tr)), .ref (a 23), .ref (a 24), .ref (a 25), .ref (a 26), .ref (a 27), .ref (a 28), .ref (a 29), .int (nI (sc)), .int (sg), .int (sr), .int (ss), .int (fed), .int (pap), .int (bar), .int (gB (st)), .ref (a 30), .ref (a 31), .ref (a 32), .int (nI (pn)), .ref (a 33), .ref (a 34), .ref (a 35), .ref (a 36), .int (nI (mn)), .long (q1), .long (q2), .long (q3), .long (q4), .long (q5), .ref (a 37), .ref (a 38), .ref (a 39), .int (nI (jn)), .ref (a 40), .ref (a 41)]))) (w27 : G0[27]? = some (a 27, .inl (cI, 40, .inl (ink)))) : gMi l D cI cZ A g yX8_told wsX8_told ({ frames := 0, cells := 0, slots := 0, locals := 0 }) [.ref (a 22), .int (nI (3))] G0 (ss) (fun G1 => G1 = G0) := by
  refine gof_i (cc := cX8_told) (maxL := 4) (by decide) rfl (Nat.le_of_ble_eq_true rfl) hD ?_
  intro p e s m args below meth c Q hx hb hml hts hown hK hN hZ hP hS hret ls hl
  have hown : s.vm.findClass RX8 = some m.cls := hown
  have hl : lv_has ls 4 [(0, .ref (a 22)), (1, .int (nI (3)))] := hl
  obtain ⟨locs, elocs⟩ : ∃ q : List Loc, q = [] := ⟨_, rfl⟩
  rw [← elocs] at hS ⊢
  obtain ⟨H, eH⟩ : ∃ q : Heap, q = s.heap := ⟨_, rfl⟩
  have hP : va_P D vwCl G0 H := eH ▸ hP
  have hS : va_S A s.heap H locs := by rw [eH]; exact hS
  rw [← eH]
  clear elocs eH
  have hiX8 : ∀ w ∈ u_ws RX8 TX8 37, w ∈ wsX8_told := by decide +kernel
  have hk : ∀ k, k ∉ ([] : List Nat) → G0[k]? = G0[k]? := fun _ _ => rfl
  refine lv_iconst (v := nI (0)) (pc := 0) hx hb dX8_told_0 (by decide) ?_
  refine lv_istore_n (lv' := [(2, .int (nI (0))), (0, .ref (a 22)), (1, .int (nI (3)))]) (pc := 1) hx hb dX8_told_1 rfl hl (by decide) rfl (fun ls hl => ?_)
  refine lv_iconst (v := nI (0)) (pc := 2) hx hb dX8_told_2 (by decide) ?_
  refine lv_istore_n (lv' := [(3, .int (nI (0))), (2, .int (nI (0))), (0, .ref (a 22)), (1, .int (nI (3)))]) (pc := 3) hx hb dX8_told_3 rfl hl (by decide) rfl (fun ls hl => ?_)
  have LP : ∀ (k : Nat) (i : Nat) (acc : Int32), i + k = 40 → ∀ (H : Heap) (locs : List Loc) (ls : Array Slot), va_P D vwCl G0 H → va_D A G0 → va_S A s.heap H locs → (∀ j, j ∉ ([] : List Nat) → G0[j]? = G0[j]?) → G0[22]? = some (a 22, .inr (8, [.int (nI (zn)), .int (nI (tr)), .ref (a 23), .ref (a 24), .ref (a 25), .ref (a 26), .ref (a 27), .ref (a 28), .ref (a 29), .int (nI (sc)), .int (sg), .int (sr), .int (ss), .int (fed), .int (pap), .int (bar), .int (gB (st)), .ref (a 30), .ref (a 31), .ref (a 32), .int (nI (pn)), .ref (a 33), .ref (a 34), .ref (a 35), .ref (a 36), .int (nI (mn)), .long (q1), .long (q2), .long (q3), .long (q4), .long (q5), .ref (a 37), .ref (a 38), .ref (a 39), .int (nI (jn)), .ref (a 40), .ref (a 41)])) → G0[27]? = some (a 27, .inl (cI, 40, .inl (ink))) → lv_has ls 4 [(0, .ref (a 22)), (1, .int (nI (3))), (2, .int (acc)), (3, .int (nI (i)))] → (∀ (H : Heap) (locs : List Loc) (ls : Array Slot), va_P D vwCl G0 H → va_D A G0 → va_S A s.heap H locs → (∀ j, j ∉ ([] : List Nat) → G0[j]? = G0[j]?) → G0[22]? = some (a 22, .inr (8, [.int (nI (zn)), .int (nI (tr)), .ref (a 23), .ref (a 24), .ref (a 25), .ref (a 26), .ref (a 27), .ref (a 28), .ref (a 29), .int (nI (sc)), .int (sg), .int (sr), .int (ss), .int (fed), .int (pap), .int (bar), .int (gB (st)), .ref (a 30), .ref (a 31), .ref (a 32), .int (nI (pn)), .ref (a 33), .ref (a 34), .ref (a 35), .ref (a 36), .int (nI (mn)), .long (q1), .long (q2), .long (q3), .long (q4), .long (q5), .ref (a 37), .ref (a 38), .ref (a 39), .int (nI (jn)), .ref (a 40), .ref (a 41)])) → G0[27]? = some (a 27, .inl (cI, 40, .inl (ink))) → lv_has ls 4 [(0, .ref (a 22)), (1, .int (nI (3))), (2, .int (gOn k i acc ink))] → W p l e ({ frames := 0, cells := 0, slots := 0, locals := 0 } : Room) s m args below meth c H locs 0 0 Q (F0 m 25 ls [])) → W p l e ({ frames := 0, cells := 0, slots := 0, locals := 0 } : Room) s m args below meth c H locs 0 0 Q (F0 m 4 ls []) := by
    intro k
    induction k with
    | zero =>
      intro i acc hi H locs ls hP hD hS hk w22 w27 hl hcont
      refine lv_iload_n (pc := 4) hx hb dX8_told_4 rfl (lv_at hl 3 rfl) ?_
      refine lv_bipush (v := nI (40)) (pc := 5) hx hb dX8_told_5 (by decide) ?_
      refine mx_cge (tgt := 25) (pc := 7) hx hb (by omega) (by omega) dX8_told_7 (by decide) (fun c7 => ?_) (fun c7 => absurd c7 (by omega))
      exact hcont H locs ls hP hD hS hk w22 w27 (lv_sub hl [0, 1, 2] rfl)
    | succ k ih =>
      intro i acc hi H locs ls hP hD hS hk w22 w27 hl hcont
      refine lv_iload_n (pc := 4) hx hb dX8_told_4 rfl (lv_at hl 3 rfl) ?_
      refine lv_bipush (v := nI (40)) (pc := 5) hx hb dX8_told_5 (by decide) ?_
      refine mx_cge (tgt := 25) (pc := 7) hx hb (by omega) (by omega) dX8_told_7 (by decide) (fun c7 => absurd c7 (by omega)) (fun c7 => ?_)
      refine lv_iload_n (pc := 10) hx hb dX8_told_10 rfl (lv_at hl 2 rfl) ?_
      refine lv_aload_n (pc := 11) hx hb dX8_told_11 rfl (lv_at hl 0 rfl) ?_
      refine va_get (ci := 8) (C := RX8) (T := TX8) (N := 37) (pc := 12) hx hb hts hiX8 hown hK hP 22 w22 rfl 6 (by decide) (hts (.fieldLink RX8 29 "InkPressModel" "ink" "[I") (by decide +kernel)) (fun _ h9 => h9) rfl dX8_told_12 ?_
      refine lv_iload_n (pc := 15) hx hb dX8_told_15 rfl (lv_at hl 3 rfl) ?_
      refine mx_iald (pc := 16) hx hb hK hP 27 w27 (i) (by omega) (by decide) dX8_told_16 ?_
      refine lv_iadd (pc := 17) hx hb dX8_told_17 ?_
      refine lv_istore_n (lv' := [(2, .int ((acc + (ink) (i)))), (0, .ref (a 22)), (1, .int (nI (3))), (3, .int (nI (i)))]) (pc := 18) hx hb dX8_told_18 rfl hl (by decide) rfl (fun ls hl => ?_)
      refine lv_iinc (v := nI (i + 1)) (lv' := [(3, .int (nI (i + 1))), (2, .int ((acc + (ink) (i)))), (0, .ref (a 22)), (1, .int (nI (3)))]) (pc := 19) hx hb dX8_told_19 hl (k := 3) rfl (mx_inc1 _) (by decide) rfl (fun ls hl => ?_)
      refine lv_goto (tgt := 4) (pc := 22) hx hb dX8_told_22 (by decide) ?_
      exact ih (i + 1) ((acc + (ink) (i))) (by omega) H locs ls hP hD hS hk w22 w27 (lv_sub hl [2, 3, 1, 0] rfl) hcont
  refine LP 40 (0) (nI 0) (by omega)  H locs ls hP hD hS hk w22 w27 (lv_sub hl [2, 3, 1, 0] rfl) (fun H locs ls hP hD hS hk w22 w27 hl => ?_)
  refine lv_iload_n (pc := 25) hx hb dX8_told_25 rfl (lv_at hl 1 rfl) ?_
  refine lv_tableIn (tgt := 100) (pc := 26) hx hb dX8_told_26 (by decide) (by decide) rfl (by decide) ?_
  refine lv_aload_n (pc := 100) hx hb dX8_told_100 rfl (lv_at hl 0 rfl) ?_
  refine va_get (ci := 8) (C := RX8) (T := TX8) (N := 37) (pc := 101) hx hb hts hiX8 hown hK hP 22 w22 rfl 12 (by decide) (hts (.fieldLink RX8 39 "InkPressModel" "start" "I") (by decide +kernel)) (fun _ h9 => h9) rfl dX8_told_101 ?_
  exact hret _ _ _ _ _ _ hP hD hS rfl rfl dX8_told_104
set_option maxHeartbeats 4000000 in
set_option maxRecDepth 100000 in
theorem k_X8_told_4 {l : Launch} {D : va_G} {cI cZ : ClassId} {A : Nat → Prop} {g a : Nat → Nat} {G0 : va_W} {zn : Nat} {tr : Nat} {sc : Nat} {pn : Nat} {mn : Nat} {jn : Nat} {sg : Int32} {sr : Int32} {ss : Int32} {fed : Int32} {pap : Int32} {bar : Int32} {st : Bool} {q1 : Int64} {q2 : Int64} {q3 : Int64} {q4 : Int64} {q5 : Int64} {ink : Nat → Int32} (hD : va_D A G0) (w22 : G0[22]? = some (a 22, .inr (8, [.int (nI (zn)), .int (nI (tr)), .ref (a 23), .ref (a 24), .ref (a 25), .ref (a 26), .ref (a 27), .ref (a 28), .ref (a 29), .int (nI (sc)), .int (sg), .int (sr), .int (ss), .int (fed), .int (pap), .int (bar), .int (gB (st)), .ref (a 30), .ref (a 31), .ref (a 32), .int (nI (pn)), .ref (a 33), .ref (a 34), .ref (a 35), .ref (a 36), .int (nI (mn)), .long (q1), .long (q2), .long (q3), .long (q4), .long (q5), .ref (a 37), .ref (a 38), .ref (a 39), .int (nI (jn)), .ref (a 40), .ref (a 41)]))) (w27 : G0[27]? = some (a 27, .inl (cI, 40, .inl (ink)))) : gMi l D cI cZ A g yX8_told wsX8_told ({ frames := 0, cells := 0, slots := 0, locals := 0 }) [.ref (a 22), .int (nI (4))] G0 (fed) (fun G1 => G1 = G0) := by
  refine gof_i (cc := cX8_told) (maxL := 4) (by decide) rfl (Nat.le_of_ble_eq_true rfl) hD ?_
  intro p e s m args below meth c Q hx hb hml hts hown hK hN hZ hP hS hret ls hl
  have hown : s.vm.findClass RX8 = some m.cls := hown
  have hl : lv_has ls 4 [(0, .ref (a 22)), (1, .int (nI (4)))] := hl
  obtain ⟨locs, elocs⟩ : ∃ q : List Loc, q = [] := ⟨_, rfl⟩
  rw [← elocs] at hS ⊢
  obtain ⟨H, eH⟩ : ∃ q : Heap, q = s.heap := ⟨_, rfl⟩
  have hP : va_P D vwCl G0 H := eH ▸ hP
  have hS : va_S A s.heap H locs := by rw [eH]; exact hS
  rw [← eH]
  clear elocs eH
  have hiX8 : ∀ w ∈ u_ws RX8 TX8 37, w ∈ wsX8_told := by decide +kernel
  have hk : ∀ k, k ∉ ([] : List Nat) → G0[k]? = G0[k]? := fun _ _ => rfl
  refine lv_iconst (v := nI (0)) (pc := 0) hx hb dX8_told_0 (by decide) ?_
  refine lv_istore_n (lv' := [(2, .int (nI (0))), (0, .ref (a 22)), (1, .int (nI (4)))]) (pc := 1) hx hb dX8_told_1 rfl hl (by decide) rfl (fun ls hl => ?_)
  refine lv_iconst (v := nI (0)) (pc := 2) hx hb dX8_told_2 (by decide) ?_
  refine lv_istore_n (lv' := [(3, .int (nI (0))), (2, .int (nI (0))), (0, .ref (a 22)), (1, .int (nI (4)))]) (pc := 3) hx hb dX8_told_3 rfl hl (by decide) rfl (fun ls hl => ?_)
  have LP : ∀ (k : Nat) (i : Nat) (acc : Int32), i + k = 40 → ∀ (H : Heap) (locs : List Loc) (ls : Array Slot), va_P D vwCl G0 H → va_D A G0 → va_S A s.heap H locs → (∀ j, j ∉ ([] : List Nat) → G0[j]? = G0[j]?) → G0[22]? = some (a 22, .inr (8, [.int (nI (zn)), .int (nI (tr)), .ref (a 23), .ref (a 24), .ref (a 25), .ref (a 26), .ref (a 27), .ref (a 28), .ref (a 29), .int (nI (sc)), .int (sg), .int (sr), .int (ss), .int (fed), .int (pap), .int (bar), .int (gB (st)), .ref (a 30), .ref (a 31), .ref (a 32), .int (nI (pn)), .ref (a 33), .ref (a 34), .ref (a 35), .ref (a 36), .int (nI (mn)), .long (q1), .long (q2), .long (q3), .long (q4), .long (q5), .ref (a 37), .ref (a 38), .ref (a 39), .int (nI (jn)), .ref (a 40), .ref (a 41)])) → G0[27]? = some (a 27, .inl (cI, 40, .inl (ink))) → lv_has ls 4 [(0, .ref (a 22)), (1, .int (nI (4))), (2, .int (acc)), (3, .int (nI (i)))] → (∀ (H : Heap) (locs : List Loc) (ls : Array Slot), va_P D vwCl G0 H → va_D A G0 → va_S A s.heap H locs → (∀ j, j ∉ ([] : List Nat) → G0[j]? = G0[j]?) → G0[22]? = some (a 22, .inr (8, [.int (nI (zn)), .int (nI (tr)), .ref (a 23), .ref (a 24), .ref (a 25), .ref (a 26), .ref (a 27), .ref (a 28), .ref (a 29), .int (nI (sc)), .int (sg), .int (sr), .int (ss), .int (fed), .int (pap), .int (bar), .int (gB (st)), .ref (a 30), .ref (a 31), .ref (a 32), .int (nI (pn)), .ref (a 33), .ref (a 34), .ref (a 35), .ref (a 36), .int (nI (mn)), .long (q1), .long (q2), .long (q3), .long (q4), .long (q5), .ref (a 37), .ref (a 38), .ref (a 39), .int (nI (jn)), .ref (a 40), .ref (a 41)])) → G0[27]? = some (a 27, .inl (cI, 40, .inl (ink))) → lv_has ls 4 [(0, .ref (a 22)), (1, .int (nI (4))), (2, .int (gOn k i acc ink))] → W p l e ({ frames := 0, cells := 0, slots := 0, locals := 0 } : Room) s m args below meth c H locs 0 0 Q (F0 m 25 ls [])) → W p l e ({ frames := 0, cells := 0, slots := 0, locals := 0 } : Room) s m args below meth c H locs 0 0 Q (F0 m 4 ls []) := by
    intro k
    induction k with
    | zero =>
      intro i acc hi H locs ls hP hD hS hk w22 w27 hl hcont
      refine lv_iload_n (pc := 4) hx hb dX8_told_4 rfl (lv_at hl 3 rfl) ?_
      refine lv_bipush (v := nI (40)) (pc := 5) hx hb dX8_told_5 (by decide) ?_
      refine mx_cge (tgt := 25) (pc := 7) hx hb (by omega) (by omega) dX8_told_7 (by decide) (fun c7 => ?_) (fun c7 => absurd c7 (by omega))
      exact hcont H locs ls hP hD hS hk w22 w27 (lv_sub hl [0, 1, 2] rfl)
    | succ k ih =>
      intro i acc hi H locs ls hP hD hS hk w22 w27 hl hcont
      refine lv_iload_n (pc := 4) hx hb dX8_told_4 rfl (lv_at hl 3 rfl) ?_
      refine lv_bipush (v := nI (40)) (pc := 5) hx hb dX8_told_5 (by decide) ?_
      refine mx_cge (tgt := 25) (pc := 7) hx hb (by omega) (by omega) dX8_told_7 (by decide) (fun c7 => absurd c7 (by omega)) (fun c7 => ?_)
      refine lv_iload_n (pc := 10) hx hb dX8_told_10 rfl (lv_at hl 2 rfl) ?_
      refine lv_aload_n (pc := 11) hx hb dX8_told_11 rfl (lv_at hl 0 rfl) ?_
      refine va_get (ci := 8) (C := RX8) (T := TX8) (N := 37) (pc := 12) hx hb hts hiX8 hown hK hP 22 w22 rfl 6 (by decide) (hts (.fieldLink RX8 29 "InkPressModel" "ink" "[I") (by decide +kernel)) (fun _ h9 => h9) rfl dX8_told_12 ?_
      refine lv_iload_n (pc := 15) hx hb dX8_told_15 rfl (lv_at hl 3 rfl) ?_
      refine mx_iald (pc := 16) hx hb hK hP 27 w27 (i) (by omega) (by decide) dX8_told_16 ?_
      refine lv_iadd (pc := 17) hx hb dX8_told_17 ?_
      refine lv_istore_n (lv' := [(2, .int ((acc + (ink) (i)))), (0, .ref (a 22)), (1, .int (nI (4))), (3, .int (nI (i)))]) (pc := 18) hx hb dX8_told_18 rfl hl (by decide) rfl (fun ls hl => ?_)
      refine lv_iinc (v := nI (i + 1)) (lv' := [(3, .int (nI (i + 1))), (2, .int ((acc + (ink) (i)))), (0, .ref (a 22)), (1, .int (nI (4)))]) (pc := 19) hx hb dX8_told_19 hl (k := 3) rfl (mx_inc1 _) (by decide) rfl (fun ls hl => ?_)
      refine lv_goto (tgt := 4) (pc := 22) hx hb dX8_told_22 (by decide) ?_
      exact ih (i + 1) ((acc + (ink) (i))) (by omega) H locs ls hP hD hS hk w22 w27 (lv_sub hl [2, 3, 1, 0] rfl) hcont
  refine LP 40 (0) (nI 0) (by omega)  H locs ls hP hD hS hk w22 w27 (lv_sub hl [2, 3, 1, 0] rfl) (fun H locs ls hP hD hS hk w22 w27 hl => ?_)
  refine lv_iload_n (pc := 25) hx hb dX8_told_25 rfl (lv_at hl 1 rfl) ?_
  refine lv_tableIn (tgt := 105) (pc := 26) hx hb dX8_told_26 (by decide) (by decide) rfl (by decide) ?_
  refine lv_aload_n (pc := 105) hx hb dX8_told_105 rfl (lv_at hl 0 rfl) ?_
  refine va_get (ci := 8) (C := RX8) (T := TX8) (N := 37) (pc := 106) hx hb hts hiX8 hown hK hP 22 w22 rfl 13 (by decide) (hts (.fieldLink RX8 90 "InkPressModel" "fed" "I") (by decide +kernel)) (fun _ h9 => h9) rfl dX8_told_106 ?_
  exact hret _ _ _ _ _ _ hP hD hS rfl rfl dX8_told_109
set_option maxHeartbeats 4000000 in
set_option maxRecDepth 100000 in
theorem k_X8_told_5 {l : Launch} {D : va_G} {cI cZ : ClassId} {A : Nat → Prop} {g a : Nat → Nat} {G0 : va_W} {zn : Nat} {tr : Nat} {sc : Nat} {pn : Nat} {mn : Nat} {jn : Nat} {sg : Int32} {sr : Int32} {ss : Int32} {fed : Int32} {pap : Int32} {bar : Int32} {st : Bool} {q1 : Int64} {q2 : Int64} {q3 : Int64} {q4 : Int64} {q5 : Int64} {ink : Nat → Int32} (hD : va_D A G0) (w22 : G0[22]? = some (a 22, .inr (8, [.int (nI (zn)), .int (nI (tr)), .ref (a 23), .ref (a 24), .ref (a 25), .ref (a 26), .ref (a 27), .ref (a 28), .ref (a 29), .int (nI (sc)), .int (sg), .int (sr), .int (ss), .int (fed), .int (pap), .int (bar), .int (gB (st)), .ref (a 30), .ref (a 31), .ref (a 32), .int (nI (pn)), .ref (a 33), .ref (a 34), .ref (a 35), .ref (a 36), .int (nI (mn)), .long (q1), .long (q2), .long (q3), .long (q4), .long (q5), .ref (a 37), .ref (a 38), .ref (a 39), .int (nI (jn)), .ref (a 40), .ref (a 41)]))) (w27 : G0[27]? = some (a 27, .inl (cI, 40, .inl (ink)))) : gMi l D cI cZ A g yX8_told wsX8_told ({ frames := 0, cells := 0, slots := 0, locals := 0 }) [.ref (a 22), .int (nI (5))] G0 (gOn 40 0 (nI 0) ink) (fun G1 => G1 = G0) := by
  refine gof_i (cc := cX8_told) (maxL := 4) (by decide) rfl (Nat.le_of_ble_eq_true rfl) hD ?_
  intro p e s m args below meth c Q hx hb hml hts hown hK hN hZ hP hS hret ls hl
  have hown : s.vm.findClass RX8 = some m.cls := hown
  have hl : lv_has ls 4 [(0, .ref (a 22)), (1, .int (nI (5)))] := hl
  obtain ⟨locs, elocs⟩ : ∃ q : List Loc, q = [] := ⟨_, rfl⟩
  rw [← elocs] at hS ⊢
  obtain ⟨H, eH⟩ : ∃ q : Heap, q = s.heap := ⟨_, rfl⟩
  have hP : va_P D vwCl G0 H := eH ▸ hP
  have hS : va_S A s.heap H locs := by rw [eH]; exact hS
  rw [← eH]
  clear elocs eH
  have hiX8 : ∀ w ∈ u_ws RX8 TX8 37, w ∈ wsX8_told := by decide +kernel
  have hk : ∀ k, k ∉ ([] : List Nat) → G0[k]? = G0[k]? := fun _ _ => rfl
  refine lv_iconst (v := nI (0)) (pc := 0) hx hb dX8_told_0 (by decide) ?_
  refine lv_istore_n (lv' := [(2, .int (nI (0))), (0, .ref (a 22)), (1, .int (nI (5)))]) (pc := 1) hx hb dX8_told_1 rfl hl (by decide) rfl (fun ls hl => ?_)
  refine lv_iconst (v := nI (0)) (pc := 2) hx hb dX8_told_2 (by decide) ?_
  refine lv_istore_n (lv' := [(3, .int (nI (0))), (2, .int (nI (0))), (0, .ref (a 22)), (1, .int (nI (5)))]) (pc := 3) hx hb dX8_told_3 rfl hl (by decide) rfl (fun ls hl => ?_)
  have LP : ∀ (k : Nat) (i : Nat) (acc : Int32), i + k = 40 → ∀ (H : Heap) (locs : List Loc) (ls : Array Slot), va_P D vwCl G0 H → va_D A G0 → va_S A s.heap H locs → (∀ j, j ∉ ([] : List Nat) → G0[j]? = G0[j]?) → G0[22]? = some (a 22, .inr (8, [.int (nI (zn)), .int (nI (tr)), .ref (a 23), .ref (a 24), .ref (a 25), .ref (a 26), .ref (a 27), .ref (a 28), .ref (a 29), .int (nI (sc)), .int (sg), .int (sr), .int (ss), .int (fed), .int (pap), .int (bar), .int (gB (st)), .ref (a 30), .ref (a 31), .ref (a 32), .int (nI (pn)), .ref (a 33), .ref (a 34), .ref (a 35), .ref (a 36), .int (nI (mn)), .long (q1), .long (q2), .long (q3), .long (q4), .long (q5), .ref (a 37), .ref (a 38), .ref (a 39), .int (nI (jn)), .ref (a 40), .ref (a 41)])) → G0[27]? = some (a 27, .inl (cI, 40, .inl (ink))) → lv_has ls 4 [(0, .ref (a 22)), (1, .int (nI (5))), (2, .int (acc)), (3, .int (nI (i)))] → (∀ (H : Heap) (locs : List Loc) (ls : Array Slot), va_P D vwCl G0 H → va_D A G0 → va_S A s.heap H locs → (∀ j, j ∉ ([] : List Nat) → G0[j]? = G0[j]?) → G0[22]? = some (a 22, .inr (8, [.int (nI (zn)), .int (nI (tr)), .ref (a 23), .ref (a 24), .ref (a 25), .ref (a 26), .ref (a 27), .ref (a 28), .ref (a 29), .int (nI (sc)), .int (sg), .int (sr), .int (ss), .int (fed), .int (pap), .int (bar), .int (gB (st)), .ref (a 30), .ref (a 31), .ref (a 32), .int (nI (pn)), .ref (a 33), .ref (a 34), .ref (a 35), .ref (a 36), .int (nI (mn)), .long (q1), .long (q2), .long (q3), .long (q4), .long (q5), .ref (a 37), .ref (a 38), .ref (a 39), .int (nI (jn)), .ref (a 40), .ref (a 41)])) → G0[27]? = some (a 27, .inl (cI, 40, .inl (ink))) → lv_has ls 4 [(0, .ref (a 22)), (1, .int (nI (5))), (2, .int (gOn k i acc ink))] → W p l e ({ frames := 0, cells := 0, slots := 0, locals := 0 } : Room) s m args below meth c H locs 0 0 Q (F0 m 25 ls [])) → W p l e ({ frames := 0, cells := 0, slots := 0, locals := 0 } : Room) s m args below meth c H locs 0 0 Q (F0 m 4 ls []) := by
    intro k
    induction k with
    | zero =>
      intro i acc hi H locs ls hP hD hS hk w22 w27 hl hcont
      refine lv_iload_n (pc := 4) hx hb dX8_told_4 rfl (lv_at hl 3 rfl) ?_
      refine lv_bipush (v := nI (40)) (pc := 5) hx hb dX8_told_5 (by decide) ?_
      refine mx_cge (tgt := 25) (pc := 7) hx hb (by omega) (by omega) dX8_told_7 (by decide) (fun c7 => ?_) (fun c7 => absurd c7 (by omega))
      exact hcont H locs ls hP hD hS hk w22 w27 (lv_sub hl [0, 1, 2] rfl)
    | succ k ih =>
      intro i acc hi H locs ls hP hD hS hk w22 w27 hl hcont
      refine lv_iload_n (pc := 4) hx hb dX8_told_4 rfl (lv_at hl 3 rfl) ?_
      refine lv_bipush (v := nI (40)) (pc := 5) hx hb dX8_told_5 (by decide) ?_
      refine mx_cge (tgt := 25) (pc := 7) hx hb (by omega) (by omega) dX8_told_7 (by decide) (fun c7 => absurd c7 (by omega)) (fun c7 => ?_)
      refine lv_iload_n (pc := 10) hx hb dX8_told_10 rfl (lv_at hl 2 rfl) ?_
      refine lv_aload_n (pc := 11) hx hb dX8_told_11 rfl (lv_at hl 0 rfl) ?_
      refine va_get (ci := 8) (C := RX8) (T := TX8) (N := 37) (pc := 12) hx hb hts hiX8 hown hK hP 22 w22 rfl 6 (by decide) (hts (.fieldLink RX8 29 "InkPressModel" "ink" "[I") (by decide +kernel)) (fun _ h9 => h9) rfl dX8_told_12 ?_
      refine lv_iload_n (pc := 15) hx hb dX8_told_15 rfl (lv_at hl 3 rfl) ?_
      refine mx_iald (pc := 16) hx hb hK hP 27 w27 (i) (by omega) (by decide) dX8_told_16 ?_
      refine lv_iadd (pc := 17) hx hb dX8_told_17 ?_
      refine lv_istore_n (lv' := [(2, .int ((acc + (ink) (i)))), (0, .ref (a 22)), (1, .int (nI (5))), (3, .int (nI (i)))]) (pc := 18) hx hb dX8_told_18 rfl hl (by decide) rfl (fun ls hl => ?_)
      refine lv_iinc (v := nI (i + 1)) (lv' := [(3, .int (nI (i + 1))), (2, .int ((acc + (ink) (i)))), (0, .ref (a 22)), (1, .int (nI (5)))]) (pc := 19) hx hb dX8_told_19 hl (k := 3) rfl (mx_inc1 _) (by decide) rfl (fun ls hl => ?_)
      refine lv_goto (tgt := 4) (pc := 22) hx hb dX8_told_22 (by decide) ?_
      exact ih (i + 1) ((acc + (ink) (i))) (by omega) H locs ls hP hD hS hk w22 w27 (lv_sub hl [2, 3, 1, 0] rfl) hcont
  refine LP 40 (0) (nI 0) (by omega)  H locs ls hP hD hS hk w22 w27 (lv_sub hl [2, 3, 1, 0] rfl) (fun H locs ls hP hD hS hk w22 w27 hl => ?_)
  refine lv_iload_n (pc := 25) hx hb dX8_told_25 rfl (lv_at hl 1 rfl) ?_
  refine lv_tableIn (tgt := 110) (pc := 26) hx hb dX8_told_26 (by decide) (by decide) rfl (by decide) ?_
  refine lv_iload_n (pc := 110) hx hb dX8_told_110 rfl (lv_at hl 2 rfl) ?_
  exact hret _ _ _ _ _ _ hP hD hS rfl rfl dX8_told_111
set_option maxHeartbeats 4000000 in
set_option maxRecDepth 100000 in
theorem k_X8_told_6 {l : Launch} {D : va_G} {cI cZ : ClassId} {A : Nat → Prop} {g a : Nat → Nat} {G0 : va_W} {zn : Nat} {tr : Nat} {sc : Nat} {pn : Nat} {mn : Nat} {jn : Nat} {sg : Int32} {sr : Int32} {ss : Int32} {fed : Int32} {pap : Int32} {bar : Int32} {st : Bool} {q1 : Int64} {q2 : Int64} {q3 : Int64} {q4 : Int64} {q5 : Int64} {ink : Nat → Int32} (hD : va_D A G0) (w22 : G0[22]? = some (a 22, .inr (8, [.int (nI (zn)), .int (nI (tr)), .ref (a 23), .ref (a 24), .ref (a 25), .ref (a 26), .ref (a 27), .ref (a 28), .ref (a 29), .int (nI (sc)), .int (sg), .int (sr), .int (ss), .int (fed), .int (pap), .int (bar), .int (gB (st)), .ref (a 30), .ref (a 31), .ref (a 32), .int (nI (pn)), .ref (a 33), .ref (a 34), .ref (a 35), .ref (a 36), .int (nI (mn)), .long (q1), .long (q2), .long (q3), .long (q4), .long (q5), .ref (a 37), .ref (a 38), .ref (a 39), .int (nI (jn)), .ref (a 40), .ref (a 41)]))) (w27 : G0[27]? = some (a 27, .inl (cI, 40, .inl (ink)))) : gMi l D cI cZ A g yX8_told wsX8_told ({ frames := 0, cells := 0, slots := 0, locals := 0 }) [.ref (a 22), .int (nI (6))] G0 (pap) (fun G1 => G1 = G0) := by
  refine gof_i (cc := cX8_told) (maxL := 4) (by decide) rfl (Nat.le_of_ble_eq_true rfl) hD ?_
  intro p e s m args below meth c Q hx hb hml hts hown hK hN hZ hP hS hret ls hl
  have hown : s.vm.findClass RX8 = some m.cls := hown
  have hl : lv_has ls 4 [(0, .ref (a 22)), (1, .int (nI (6)))] := hl
  obtain ⟨locs, elocs⟩ : ∃ q : List Loc, q = [] := ⟨_, rfl⟩
  rw [← elocs] at hS ⊢
  obtain ⟨H, eH⟩ : ∃ q : Heap, q = s.heap := ⟨_, rfl⟩
  have hP : va_P D vwCl G0 H := eH ▸ hP
  have hS : va_S A s.heap H locs := by rw [eH]; exact hS
  rw [← eH]
  clear elocs eH
  have hiX8 : ∀ w ∈ u_ws RX8 TX8 37, w ∈ wsX8_told := by decide +kernel
  have hk : ∀ k, k ∉ ([] : List Nat) → G0[k]? = G0[k]? := fun _ _ => rfl
  refine lv_iconst (v := nI (0)) (pc := 0) hx hb dX8_told_0 (by decide) ?_
  refine lv_istore_n (lv' := [(2, .int (nI (0))), (0, .ref (a 22)), (1, .int (nI (6)))]) (pc := 1) hx hb dX8_told_1 rfl hl (by decide) rfl (fun ls hl => ?_)
  refine lv_iconst (v := nI (0)) (pc := 2) hx hb dX8_told_2 (by decide) ?_
  refine lv_istore_n (lv' := [(3, .int (nI (0))), (2, .int (nI (0))), (0, .ref (a 22)), (1, .int (nI (6)))]) (pc := 3) hx hb dX8_told_3 rfl hl (by decide) rfl (fun ls hl => ?_)
  have LP : ∀ (k : Nat) (i : Nat) (acc : Int32), i + k = 40 → ∀ (H : Heap) (locs : List Loc) (ls : Array Slot), va_P D vwCl G0 H → va_D A G0 → va_S A s.heap H locs → (∀ j, j ∉ ([] : List Nat) → G0[j]? = G0[j]?) → G0[22]? = some (a 22, .inr (8, [.int (nI (zn)), .int (nI (tr)), .ref (a 23), .ref (a 24), .ref (a 25), .ref (a 26), .ref (a 27), .ref (a 28), .ref (a 29), .int (nI (sc)), .int (sg), .int (sr), .int (ss), .int (fed), .int (pap), .int (bar), .int (gB (st)), .ref (a 30), .ref (a 31), .ref (a 32), .int (nI (pn)), .ref (a 33), .ref (a 34), .ref (a 35), .ref (a 36), .int (nI (mn)), .long (q1), .long (q2), .long (q3), .long (q4), .long (q5), .ref (a 37), .ref (a 38), .ref (a 39), .int (nI (jn)), .ref (a 40), .ref (a 41)])) → G0[27]? = some (a 27, .inl (cI, 40, .inl (ink))) → lv_has ls 4 [(0, .ref (a 22)), (1, .int (nI (6))), (2, .int (acc)), (3, .int (nI (i)))] → (∀ (H : Heap) (locs : List Loc) (ls : Array Slot), va_P D vwCl G0 H → va_D A G0 → va_S A s.heap H locs → (∀ j, j ∉ ([] : List Nat) → G0[j]? = G0[j]?) → G0[22]? = some (a 22, .inr (8, [.int (nI (zn)), .int (nI (tr)), .ref (a 23), .ref (a 24), .ref (a 25), .ref (a 26), .ref (a 27), .ref (a 28), .ref (a 29), .int (nI (sc)), .int (sg), .int (sr), .int (ss), .int (fed), .int (pap), .int (bar), .int (gB (st)), .ref (a 30), .ref (a 31), .ref (a 32), .int (nI (pn)), .ref (a 33), .ref (a 34), .ref (a 35), .ref (a 36), .int (nI (mn)), .long (q1), .long (q2), .long (q3), .long (q4), .long (q5), .ref (a 37), .ref (a 38), .ref (a 39), .int (nI (jn)), .ref (a 40), .ref (a 41)])) → G0[27]? = some (a 27, .inl (cI, 40, .inl (ink))) → lv_has ls 4 [(0, .ref (a 22)), (1, .int (nI (6))), (2, .int (gOn k i acc ink))] → W p l e ({ frames := 0, cells := 0, slots := 0, locals := 0 } : Room) s m args below meth c H locs 0 0 Q (F0 m 25 ls [])) → W p l e ({ frames := 0, cells := 0, slots := 0, locals := 0 } : Room) s m args below meth c H locs 0 0 Q (F0 m 4 ls []) := by
    intro k
    induction k with
    | zero =>
      intro i acc hi H locs ls hP hD hS hk w22 w27 hl hcont
      refine lv_iload_n (pc := 4) hx hb dX8_told_4 rfl (lv_at hl 3 rfl) ?_
      refine lv_bipush (v := nI (40)) (pc := 5) hx hb dX8_told_5 (by decide) ?_
      refine mx_cge (tgt := 25) (pc := 7) hx hb (by omega) (by omega) dX8_told_7 (by decide) (fun c7 => ?_) (fun c7 => absurd c7 (by omega))
      exact hcont H locs ls hP hD hS hk w22 w27 (lv_sub hl [0, 1, 2] rfl)
    | succ k ih =>
      intro i acc hi H locs ls hP hD hS hk w22 w27 hl hcont
      refine lv_iload_n (pc := 4) hx hb dX8_told_4 rfl (lv_at hl 3 rfl) ?_
      refine lv_bipush (v := nI (40)) (pc := 5) hx hb dX8_told_5 (by decide) ?_
      refine mx_cge (tgt := 25) (pc := 7) hx hb (by omega) (by omega) dX8_told_7 (by decide) (fun c7 => absurd c7 (by omega)) (fun c7 => ?_)
      refine lv_iload_n (pc := 10) hx hb dX8_told_10 rfl (lv_at hl 2 rfl) ?_
      refine lv_aload_n (pc := 11) hx hb dX8_told_11 rfl (lv_at hl 0 rfl) ?_
      refine va_get (ci := 8) (C := RX8) (T := TX8) (N := 37) (pc := 12) hx hb hts hiX8 hown hK hP 22 w22 rfl 6 (by decide) (hts (.fieldLink RX8 29 "InkPressModel" "ink" "[I") (by decide +kernel)) (fun _ h9 => h9) rfl dX8_told_12 ?_
      refine lv_iload_n (pc := 15) hx hb dX8_told_15 rfl (lv_at hl 3 rfl) ?_
      refine mx_iald (pc := 16) hx hb hK hP 27 w27 (i) (by omega) (by decide) dX8_told_16 ?_
      refine lv_iadd (pc := 17) hx hb dX8_told_17 ?_
      refine lv_istore_n (lv' := [(2, .int ((acc + (ink) (i)))), (0, .ref (a 22)), (1, .int (nI (6))), (3, .int (nI (i)))]) (pc := 18) hx hb dX8_told_18 rfl hl (by decide) rfl (fun ls hl => ?_)
      refine lv_iinc (v := nI (i + 1)) (lv' := [(3, .int (nI (i + 1))), (2, .int ((acc + (ink) (i)))), (0, .ref (a 22)), (1, .int (nI (6)))]) (pc := 19) hx hb dX8_told_19 hl (k := 3) rfl (mx_inc1 _) (by decide) rfl (fun ls hl => ?_)
      refine lv_goto (tgt := 4) (pc := 22) hx hb dX8_told_22 (by decide) ?_
      exact ih (i + 1) ((acc + (ink) (i))) (by omega) H locs ls hP hD hS hk w22 w27 (lv_sub hl [2, 3, 1, 0] rfl) hcont
  refine LP 40 (0) (nI 0) (by omega)  H locs ls hP hD hS hk w22 w27 (lv_sub hl [2, 3, 1, 0] rfl) (fun H locs ls hP hD hS hk w22 w27 hl => ?_)
  refine lv_iload_n (pc := 25) hx hb dX8_told_25 rfl (lv_at hl 1 rfl) ?_
  refine lv_tableIn (tgt := 112) (pc := 26) hx hb dX8_told_26 (by decide) (by decide) rfl (by decide) ?_
  refine lv_aload_n (pc := 112) hx hb dX8_told_112 rfl (lv_at hl 0 rfl) ?_
  refine va_get (ci := 8) (C := RX8) (T := TX8) (N := 37) (pc := 113) hx hb hts hiX8 hown hK hP 22 w22 rfl 14 (by decide) (hts (.fieldLink RX8 93 "InkPressModel" "paper" "I") (by decide +kernel)) (fun _ h9 => h9) rfl dX8_told_113 ?_
  exact hret _ _ _ _ _ _ hP hD hS rfl rfl dX8_told_116
set_option maxHeartbeats 4000000 in
set_option maxRecDepth 100000 in
theorem k_X8_told_7 {l : Launch} {D : va_G} {cI cZ : ClassId} {A : Nat → Prop} {g a : Nat → Nat} {G0 : va_W} {zn : Nat} {tr : Nat} {sc : Nat} {pn : Nat} {mn : Nat} {jn : Nat} {sg : Int32} {sr : Int32} {ss : Int32} {fed : Int32} {pap : Int32} {bar : Int32} {st : Bool} {q1 : Int64} {q2 : Int64} {q3 : Int64} {q4 : Int64} {q5 : Int64} {ink : Nat → Int32} (hD : va_D A G0) (w22 : G0[22]? = some (a 22, .inr (8, [.int (nI (zn)), .int (nI (tr)), .ref (a 23), .ref (a 24), .ref (a 25), .ref (a 26), .ref (a 27), .ref (a 28), .ref (a 29), .int (nI (sc)), .int (sg), .int (sr), .int (ss), .int (fed), .int (pap), .int (bar), .int (gB (st)), .ref (a 30), .ref (a 31), .ref (a 32), .int (nI (pn)), .ref (a 33), .ref (a 34), .ref (a 35), .ref (a 36), .int (nI (mn)), .long (q1), .long (q2), .long (q3), .long (q4), .long (q5), .ref (a 37), .ref (a 38), .ref (a 39), .int (nI (jn)), .ref (a 40), .ref (a 41)]))) (w27 : G0[27]? = some (a 27, .inl (cI, 40, .inl (ink)))) : gMi l D cI cZ A g yX8_told wsX8_told ({ frames := 0, cells := 0, slots := 0, locals := 0 }) [.ref (a 22), .int (nI (7))] G0 (bar) (fun G1 => G1 = G0) := by
  refine gof_i (cc := cX8_told) (maxL := 4) (by decide) rfl (Nat.le_of_ble_eq_true rfl) hD ?_
  intro p e s m args below meth c Q hx hb hml hts hown hK hN hZ hP hS hret ls hl
  have hown : s.vm.findClass RX8 = some m.cls := hown
  have hl : lv_has ls 4 [(0, .ref (a 22)), (1, .int (nI (7)))] := hl
  obtain ⟨locs, elocs⟩ : ∃ q : List Loc, q = [] := ⟨_, rfl⟩
  rw [← elocs] at hS ⊢
  obtain ⟨H, eH⟩ : ∃ q : Heap, q = s.heap := ⟨_, rfl⟩
  have hP : va_P D vwCl G0 H := eH ▸ hP
  have hS : va_S A s.heap H locs := by rw [eH]; exact hS
  rw [← eH]
  clear elocs eH
  have hiX8 : ∀ w ∈ u_ws RX8 TX8 37, w ∈ wsX8_told := by decide +kernel
  have hk : ∀ k, k ∉ ([] : List Nat) → G0[k]? = G0[k]? := fun _ _ => rfl
  refine lv_iconst (v := nI (0)) (pc := 0) hx hb dX8_told_0 (by decide) ?_
  refine lv_istore_n (lv' := [(2, .int (nI (0))), (0, .ref (a 22)), (1, .int (nI (7)))]) (pc := 1) hx hb dX8_told_1 rfl hl (by decide) rfl (fun ls hl => ?_)
  refine lv_iconst (v := nI (0)) (pc := 2) hx hb dX8_told_2 (by decide) ?_
  refine lv_istore_n (lv' := [(3, .int (nI (0))), (2, .int (nI (0))), (0, .ref (a 22)), (1, .int (nI (7)))]) (pc := 3) hx hb dX8_told_3 rfl hl (by decide) rfl (fun ls hl => ?_)
  have LP : ∀ (k : Nat) (i : Nat) (acc : Int32), i + k = 40 → ∀ (H : Heap) (locs : List Loc) (ls : Array Slot), va_P D vwCl G0 H → va_D A G0 → va_S A s.heap H locs → (∀ j, j ∉ ([] : List Nat) → G0[j]? = G0[j]?) → G0[22]? = some (a 22, .inr (8, [.int (nI (zn)), .int (nI (tr)), .ref (a 23), .ref (a 24), .ref (a 25), .ref (a 26), .ref (a 27), .ref (a 28), .ref (a 29), .int (nI (sc)), .int (sg), .int (sr), .int (ss), .int (fed), .int (pap), .int (bar), .int (gB (st)), .ref (a 30), .ref (a 31), .ref (a 32), .int (nI (pn)), .ref (a 33), .ref (a 34), .ref (a 35), .ref (a 36), .int (nI (mn)), .long (q1), .long (q2), .long (q3), .long (q4), .long (q5), .ref (a 37), .ref (a 38), .ref (a 39), .int (nI (jn)), .ref (a 40), .ref (a 41)])) → G0[27]? = some (a 27, .inl (cI, 40, .inl (ink))) → lv_has ls 4 [(0, .ref (a 22)), (1, .int (nI (7))), (2, .int (acc)), (3, .int (nI (i)))] → (∀ (H : Heap) (locs : List Loc) (ls : Array Slot), va_P D vwCl G0 H → va_D A G0 → va_S A s.heap H locs → (∀ j, j ∉ ([] : List Nat) → G0[j]? = G0[j]?) → G0[22]? = some (a 22, .inr (8, [.int (nI (zn)), .int (nI (tr)), .ref (a 23), .ref (a 24), .ref (a 25), .ref (a 26), .ref (a 27), .ref (a 28), .ref (a 29), .int (nI (sc)), .int (sg), .int (sr), .int (ss), .int (fed), .int (pap), .int (bar), .int (gB (st)), .ref (a 30), .ref (a 31), .ref (a 32), .int (nI (pn)), .ref (a 33), .ref (a 34), .ref (a 35), .ref (a 36), .int (nI (mn)), .long (q1), .long (q2), .long (q3), .long (q4), .long (q5), .ref (a 37), .ref (a 38), .ref (a 39), .int (nI (jn)), .ref (a 40), .ref (a 41)])) → G0[27]? = some (a 27, .inl (cI, 40, .inl (ink))) → lv_has ls 4 [(0, .ref (a 22)), (1, .int (nI (7))), (2, .int (gOn k i acc ink))] → W p l e ({ frames := 0, cells := 0, slots := 0, locals := 0 } : Room) s m args below meth c H locs 0 0 Q (F0 m 25 ls [])) → W p l e ({ frames := 0, cells := 0, slots := 0, locals := 0 } : Room) s m args below meth c H locs 0 0 Q (F0 m 4 ls []) := by
    intro k
    induction k with
    | zero =>
      intro i acc hi H locs ls hP hD hS hk w22 w27 hl hcont
      refine lv_iload_n (pc := 4) hx hb dX8_told_4 rfl (lv_at hl 3 rfl) ?_
      refine lv_bipush (v := nI (40)) (pc := 5) hx hb dX8_told_5 (by decide) ?_
      refine mx_cge (tgt := 25) (pc := 7) hx hb (by omega) (by omega) dX8_told_7 (by decide) (fun c7 => ?_) (fun c7 => absurd c7 (by omega))
      exact hcont H locs ls hP hD hS hk w22 w27 (lv_sub hl [0, 1, 2] rfl)
    | succ k ih =>
      intro i acc hi H locs ls hP hD hS hk w22 w27 hl hcont
      refine lv_iload_n (pc := 4) hx hb dX8_told_4 rfl (lv_at hl 3 rfl) ?_
      refine lv_bipush (v := nI (40)) (pc := 5) hx hb dX8_told_5 (by decide) ?_
      refine mx_cge (tgt := 25) (pc := 7) hx hb (by omega) (by omega) dX8_told_7 (by decide) (fun c7 => absurd c7 (by omega)) (fun c7 => ?_)
      refine lv_iload_n (pc := 10) hx hb dX8_told_10 rfl (lv_at hl 2 rfl) ?_
      refine lv_aload_n (pc := 11) hx hb dX8_told_11 rfl (lv_at hl 0 rfl) ?_
      refine va_get (ci := 8) (C := RX8) (T := TX8) (N := 37) (pc := 12) hx hb hts hiX8 hown hK hP 22 w22 rfl 6 (by decide) (hts (.fieldLink RX8 29 "InkPressModel" "ink" "[I") (by decide +kernel)) (fun _ h9 => h9) rfl dX8_told_12 ?_
      refine lv_iload_n (pc := 15) hx hb dX8_told_15 rfl (lv_at hl 3 rfl) ?_
      refine mx_iald (pc := 16) hx hb hK hP 27 w27 (i) (by omega) (by decide) dX8_told_16 ?_
      refine lv_iadd (pc := 17) hx hb dX8_told_17 ?_
      refine lv_istore_n (lv' := [(2, .int ((acc + (ink) (i)))), (0, .ref (a 22)), (1, .int (nI (7))), (3, .int (nI (i)))]) (pc := 18) hx hb dX8_told_18 rfl hl (by decide) rfl (fun ls hl => ?_)
      refine lv_iinc (v := nI (i + 1)) (lv' := [(3, .int (nI (i + 1))), (2, .int ((acc + (ink) (i)))), (0, .ref (a 22)), (1, .int (nI (7)))]) (pc := 19) hx hb dX8_told_19 hl (k := 3) rfl (mx_inc1 _) (by decide) rfl (fun ls hl => ?_)
      refine lv_goto (tgt := 4) (pc := 22) hx hb dX8_told_22 (by decide) ?_
      exact ih (i + 1) ((acc + (ink) (i))) (by omega) H locs ls hP hD hS hk w22 w27 (lv_sub hl [2, 3, 1, 0] rfl) hcont
  refine LP 40 (0) (nI 0) (by omega)  H locs ls hP hD hS hk w22 w27 (lv_sub hl [2, 3, 1, 0] rfl) (fun H locs ls hP hD hS hk w22 w27 hl => ?_)
  refine lv_iload_n (pc := 25) hx hb dX8_told_25 rfl (lv_at hl 1 rfl) ?_
  refine lv_tableIn (tgt := 117) (pc := 26) hx hb dX8_told_26 (by decide) (by decide) rfl (by decide) ?_
  refine lv_aload_n (pc := 117) hx hb dX8_told_117 rfl (lv_at hl 0 rfl) ?_
  refine va_get (ci := 8) (C := RX8) (T := TX8) (N := 37) (pc := 118) hx hb hts hiX8 hown hK hP 22 w22 rfl 15 (by decide) (hts (.fieldLink RX8 96 "InkPressModel" "bars" "I") (by decide +kernel)) (fun _ h9 => h9) rfl dX8_told_118 ?_
  exact hret _ _ _ _ _ _ hP hD hS rfl rfl dX8_told_121
set_option maxHeartbeats 4000000 in
set_option maxRecDepth 100000 in
theorem k_X8_told_8 {l : Launch} {D : va_G} {cI cZ : ClassId} {A : Nat → Prop} {g a : Nat → Nat} {G0 : va_W} {zn : Nat} {tr : Nat} {sc : Nat} {pn : Nat} {mn : Nat} {jn : Nat} {sg : Int32} {sr : Int32} {ss : Int32} {fed : Int32} {pap : Int32} {bar : Int32} {st : Bool} {q1 : Int64} {q2 : Int64} {q3 : Int64} {q4 : Int64} {q5 : Int64} {ink : Nat → Int32} (hD : va_D A G0) (w22 : G0[22]? = some (a 22, .inr (8, [.int (nI (zn)), .int (nI (tr)), .ref (a 23), .ref (a 24), .ref (a 25), .ref (a 26), .ref (a 27), .ref (a 28), .ref (a 29), .int (nI (sc)), .int (sg), .int (sr), .int (ss), .int (fed), .int (pap), .int (bar), .int (gB (st)), .ref (a 30), .ref (a 31), .ref (a 32), .int (nI (pn)), .ref (a 33), .ref (a 34), .ref (a 35), .ref (a 36), .int (nI (mn)), .long (q1), .long (q2), .long (q3), .long (q4), .long (q5), .ref (a 37), .ref (a 38), .ref (a 39), .int (nI (jn)), .ref (a 40), .ref (a 41)]))) (w27 : G0[27]? = some (a 27, .inl (cI, 40, .inl (ink)))) : gMi l D cI cZ A g yX8_told wsX8_told ({ frames := 0, cells := 0, slots := 0, locals := 0 }) [.ref (a 22), .int (nI (8))] G0 (gB st) (fun G1 => G1 = G0) := by
  refine gof_i (cc := cX8_told) (maxL := 4) (by decide) rfl (Nat.le_of_ble_eq_true rfl) hD ?_
  intro p e s m args below meth c Q hx hb hml hts hown hK hN hZ hP hS hret ls hl
  have hown : s.vm.findClass RX8 = some m.cls := hown
  have hl : lv_has ls 4 [(0, .ref (a 22)), (1, .int (nI (8)))] := hl
  obtain ⟨locs, elocs⟩ : ∃ q : List Loc, q = [] := ⟨_, rfl⟩
  rw [← elocs] at hS ⊢
  obtain ⟨H, eH⟩ : ∃ q : Heap, q = s.heap := ⟨_, rfl⟩
  have hP : va_P D vwCl G0 H := eH ▸ hP
  have hS : va_S A s.heap H locs := by rw [eH]; exact hS
  rw [← eH]
  clear elocs eH
  have hiX8 : ∀ w ∈ u_ws RX8 TX8 37, w ∈ wsX8_told := by decide +kernel
  have hk : ∀ k, k ∉ ([] : List Nat) → G0[k]? = G0[k]? := fun _ _ => rfl
  refine lv_iconst (v := nI (0)) (pc := 0) hx hb dX8_told_0 (by decide) ?_
  refine lv_istore_n (lv' := [(2, .int (nI (0))), (0, .ref (a 22)), (1, .int (nI (8)))]) (pc := 1) hx hb dX8_told_1 rfl hl (by decide) rfl (fun ls hl => ?_)
  refine lv_iconst (v := nI (0)) (pc := 2) hx hb dX8_told_2 (by decide) ?_
  refine lv_istore_n (lv' := [(3, .int (nI (0))), (2, .int (nI (0))), (0, .ref (a 22)), (1, .int (nI (8)))]) (pc := 3) hx hb dX8_told_3 rfl hl (by decide) rfl (fun ls hl => ?_)
  have LP : ∀ (k : Nat) (i : Nat) (acc : Int32), i + k = 40 → ∀ (H : Heap) (locs : List Loc) (ls : Array Slot), va_P D vwCl G0 H → va_D A G0 → va_S A s.heap H locs → (∀ j, j ∉ ([] : List Nat) → G0[j]? = G0[j]?) → G0[22]? = some (a 22, .inr (8, [.int (nI (zn)), .int (nI (tr)), .ref (a 23), .ref (a 24), .ref (a 25), .ref (a 26), .ref (a 27), .ref (a 28), .ref (a 29), .int (nI (sc)), .int (sg), .int (sr), .int (ss), .int (fed), .int (pap), .int (bar), .int (gB (st)), .ref (a 30), .ref (a 31), .ref (a 32), .int (nI (pn)), .ref (a 33), .ref (a 34), .ref (a 35), .ref (a 36), .int (nI (mn)), .long (q1), .long (q2), .long (q3), .long (q4), .long (q5), .ref (a 37), .ref (a 38), .ref (a 39), .int (nI (jn)), .ref (a 40), .ref (a 41)])) → G0[27]? = some (a 27, .inl (cI, 40, .inl (ink))) → lv_has ls 4 [(0, .ref (a 22)), (1, .int (nI (8))), (2, .int (acc)), (3, .int (nI (i)))] → (∀ (H : Heap) (locs : List Loc) (ls : Array Slot), va_P D vwCl G0 H → va_D A G0 → va_S A s.heap H locs → (∀ j, j ∉ ([] : List Nat) → G0[j]? = G0[j]?) → G0[22]? = some (a 22, .inr (8, [.int (nI (zn)), .int (nI (tr)), .ref (a 23), .ref (a 24), .ref (a 25), .ref (a 26), .ref (a 27), .ref (a 28), .ref (a 29), .int (nI (sc)), .int (sg), .int (sr), .int (ss), .int (fed), .int (pap), .int (bar), .int (gB (st)), .ref (a 30), .ref (a 31), .ref (a 32), .int (nI (pn)), .ref (a 33), .ref (a 34), .ref (a 35), .ref (a 36), .int (nI (mn)), .long (q1), .long (q2), .long (q3), .long (q4), .long (q5), .ref (a 37), .ref (a 38), .ref (a 39), .int (nI (jn)), .ref (a 40), .ref (a 41)])) → G0[27]? = some (a 27, .inl (cI, 40, .inl (ink))) → lv_has ls 4 [(0, .ref (a 22)), (1, .int (nI (8))), (2, .int (gOn k i acc ink))] → W p l e ({ frames := 0, cells := 0, slots := 0, locals := 0 } : Room) s m args below meth c H locs 0 0 Q (F0 m 25 ls [])) → W p l e ({ frames := 0, cells := 0, slots := 0, locals := 0 } : Room) s m args below meth c H locs 0 0 Q (F0 m 4 ls []) := by
    intro k
    induction k with
    | zero =>
      intro i acc hi H locs ls hP hD hS hk w22 w27 hl hcont
      refine lv_iload_n (pc := 4) hx hb dX8_told_4 rfl (lv_at hl 3 rfl) ?_
      refine lv_bipush (v := nI (40)) (pc := 5) hx hb dX8_told_5 (by decide) ?_
      refine mx_cge (tgt := 25) (pc := 7) hx hb (by omega) (by omega) dX8_told_7 (by decide) (fun c7 => ?_) (fun c7 => absurd c7 (by omega))
      exact hcont H locs ls hP hD hS hk w22 w27 (lv_sub hl [0, 1, 2] rfl)
    | succ k ih =>
      intro i acc hi H locs ls hP hD hS hk w22 w27 hl hcont
      refine lv_iload_n (pc := 4) hx hb dX8_told_4 rfl (lv_at hl 3 rfl) ?_
      refine lv_bipush (v := nI (40)) (pc := 5) hx hb dX8_told_5 (by decide) ?_
      refine mx_cge (tgt := 25) (pc := 7) hx hb (by omega) (by omega) dX8_told_7 (by decide) (fun c7 => absurd c7 (by omega)) (fun c7 => ?_)
      refine lv_iload_n (pc := 10) hx hb dX8_told_10 rfl (lv_at hl 2 rfl) ?_
      refine lv_aload_n (pc := 11) hx hb dX8_told_11 rfl (lv_at hl 0 rfl) ?_
      refine va_get (ci := 8) (C := RX8) (T := TX8) (N := 37) (pc := 12) hx hb hts hiX8 hown hK hP 22 w22 rfl 6 (by decide) (hts (.fieldLink RX8 29 "InkPressModel" "ink" "[I") (by decide +kernel)) (fun _ h9 => h9) rfl dX8_told_12 ?_
      refine lv_iload_n (pc := 15) hx hb dX8_told_15 rfl (lv_at hl 3 rfl) ?_
      refine mx_iald (pc := 16) hx hb hK hP 27 w27 (i) (by omega) (by decide) dX8_told_16 ?_
      refine lv_iadd (pc := 17) hx hb dX8_told_17 ?_
      refine lv_istore_n (lv' := [(2, .int ((acc + (ink) (i)))), (0, .ref (a 22)), (1, .int (nI (8))), (3, .int (nI (i)))]) (pc := 18) hx hb dX8_told_18 rfl hl (by decide) rfl (fun ls hl => ?_)
      refine lv_iinc (v := nI (i + 1)) (lv' := [(3, .int (nI (i + 1))), (2, .int ((acc + (ink) (i)))), (0, .ref (a 22)), (1, .int (nI (8)))]) (pc := 19) hx hb dX8_told_19 hl (k := 3) rfl (mx_inc1 _) (by decide) rfl (fun ls hl => ?_)
      refine lv_goto (tgt := 4) (pc := 22) hx hb dX8_told_22 (by decide) ?_
      exact ih (i + 1) ((acc + (ink) (i))) (by omega) H locs ls hP hD hS hk w22 w27 (lv_sub hl [2, 3, 1, 0] rfl) hcont
  refine LP 40 (0) (nI 0) (by omega)  H locs ls hP hD hS hk w22 w27 (lv_sub hl [2, 3, 1, 0] rfl) (fun H locs ls hP hD hS hk w22 w27 hl => ?_)
  refine lv_iload_n (pc := 25) hx hb dX8_told_25 rfl (lv_at hl 1 rfl) ?_
  refine lv_tableIn (tgt := 122) (pc := 26) hx hb dX8_told_26 (by decide) (by decide) rfl (by decide) ?_
  refine lv_aload_n (pc := 122) hx hb dX8_told_122 rfl (lv_at hl 0 rfl) ?_
  refine va_get (ci := 8) (C := RX8) (T := TX8) (N := 37) (pc := 123) hx hb hts hiX8 hown hK hP 22 w22 rfl 16 (by decide) (hts (.fieldLink RX8 99 "InkPressModel" "steers" "Z") (by decide +kernel)) (fun _ h9 => h9) rfl dX8_told_123 ?_
  refine mx_beq (tgt := 133) (pc := 126) hx hb dX8_told_126 (by decide) (fun c126 => ?_) (fun c126 => ?_)
  · skip
    refine lv_iconst (v := nI (0)) (pc := 133) hx hb dX8_told_133 (by decide) ?_
    exact hret _ _ _ _ _ _ hP hD hS (by rw [c126]; rfl) rfl dX8_told_134
  · skip
    refine lv_iconst (v := nI (1)) (pc := 129) hx hb dX8_told_129 (by decide) ?_
    refine lv_goto (tgt := 134) (pc := 130) hx hb dX8_told_130 (by decide) ?_
    exact hret _ _ _ _ _ _ hP hD hS (by rw [c126]; rfl) rfl dX8_told_134
set_option maxHeartbeats 4000000 in
set_option maxRecDepth 100000 in
theorem k_X8_told_9 {l : Launch} {D : va_G} {cI cZ : ClassId} {A : Nat → Prop} {g a : Nat → Nat} {G0 : va_W} {zn : Nat} {tr : Nat} {sc : Nat} {pn : Nat} {mn : Nat} {jn : Nat} {sg : Int32} {sr : Int32} {ss : Int32} {fed : Int32} {pap : Int32} {bar : Int32} {st : Bool} {q1 : Int64} {q2 : Int64} {q3 : Int64} {q4 : Int64} {q5 : Int64} {ink : Nat → Int32} (hD : va_D A G0) (w22 : G0[22]? = some (a 22, .inr (8, [.int (nI (zn)), .int (nI (tr)), .ref (a 23), .ref (a 24), .ref (a 25), .ref (a 26), .ref (a 27), .ref (a 28), .ref (a 29), .int (nI (sc)), .int (sg), .int (sr), .int (ss), .int (fed), .int (pap), .int (bar), .int (gB (st)), .ref (a 30), .ref (a 31), .ref (a 32), .int (nI (pn)), .ref (a 33), .ref (a 34), .ref (a 35), .ref (a 36), .int (nI (mn)), .long (q1), .long (q2), .long (q3), .long (q4), .long (q5), .ref (a 37), .ref (a 38), .ref (a 39), .int (nI (jn)), .ref (a 40), .ref (a 41)]))) (w27 : G0[27]? = some (a 27, .inl (cI, 40, .inl (ink)))) : gMi l D cI cZ A g yX8_told wsX8_told ({ frames := 0, cells := 0, slots := 0, locals := 0 }) [.ref (a 22), .int (nI (9))] G0 (nI pn) (fun G1 => G1 = G0) := by
  refine gof_i (cc := cX8_told) (maxL := 4) (by decide) rfl (Nat.le_of_ble_eq_true rfl) hD ?_
  intro p e s m args below meth c Q hx hb hml hts hown hK hN hZ hP hS hret ls hl
  have hown : s.vm.findClass RX8 = some m.cls := hown
  have hl : lv_has ls 4 [(0, .ref (a 22)), (1, .int (nI (9)))] := hl
  obtain ⟨locs, elocs⟩ : ∃ q : List Loc, q = [] := ⟨_, rfl⟩
  rw [← elocs] at hS ⊢
  obtain ⟨H, eH⟩ : ∃ q : Heap, q = s.heap := ⟨_, rfl⟩
  have hP : va_P D vwCl G0 H := eH ▸ hP
  have hS : va_S A s.heap H locs := by rw [eH]; exact hS
  rw [← eH]
  clear elocs eH
  have hiX8 : ∀ w ∈ u_ws RX8 TX8 37, w ∈ wsX8_told := by decide +kernel
  have hk : ∀ k, k ∉ ([] : List Nat) → G0[k]? = G0[k]? := fun _ _ => rfl
  refine lv_iconst (v := nI (0)) (pc := 0) hx hb dX8_told_0 (by decide) ?_
  refine lv_istore_n (lv' := [(2, .int (nI (0))), (0, .ref (a 22)), (1, .int (nI (9)))]) (pc := 1) hx hb dX8_told_1 rfl hl (by decide) rfl (fun ls hl => ?_)
  refine lv_iconst (v := nI (0)) (pc := 2) hx hb dX8_told_2 (by decide) ?_
  refine lv_istore_n (lv' := [(3, .int (nI (0))), (2, .int (nI (0))), (0, .ref (a 22)), (1, .int (nI (9)))]) (pc := 3) hx hb dX8_told_3 rfl hl (by decide) rfl (fun ls hl => ?_)
  have LP : ∀ (k : Nat) (i : Nat) (acc : Int32), i + k = 40 → ∀ (H : Heap) (locs : List Loc) (ls : Array Slot), va_P D vwCl G0 H → va_D A G0 → va_S A s.heap H locs → (∀ j, j ∉ ([] : List Nat) → G0[j]? = G0[j]?) → G0[22]? = some (a 22, .inr (8, [.int (nI (zn)), .int (nI (tr)), .ref (a 23), .ref (a 24), .ref (a 25), .ref (a 26), .ref (a 27), .ref (a 28), .ref (a 29), .int (nI (sc)), .int (sg), .int (sr), .int (ss), .int (fed), .int (pap), .int (bar), .int (gB (st)), .ref (a 30), .ref (a 31), .ref (a 32), .int (nI (pn)), .ref (a 33), .ref (a 34), .ref (a 35), .ref (a 36), .int (nI (mn)), .long (q1), .long (q2), .long (q3), .long (q4), .long (q5), .ref (a 37), .ref (a 38), .ref (a 39), .int (nI (jn)), .ref (a 40), .ref (a 41)])) → G0[27]? = some (a 27, .inl (cI, 40, .inl (ink))) → lv_has ls 4 [(0, .ref (a 22)), (1, .int (nI (9))), (2, .int (acc)), (3, .int (nI (i)))] → (∀ (H : Heap) (locs : List Loc) (ls : Array Slot), va_P D vwCl G0 H → va_D A G0 → va_S A s.heap H locs → (∀ j, j ∉ ([] : List Nat) → G0[j]? = G0[j]?) → G0[22]? = some (a 22, .inr (8, [.int (nI (zn)), .int (nI (tr)), .ref (a 23), .ref (a 24), .ref (a 25), .ref (a 26), .ref (a 27), .ref (a 28), .ref (a 29), .int (nI (sc)), .int (sg), .int (sr), .int (ss), .int (fed), .int (pap), .int (bar), .int (gB (st)), .ref (a 30), .ref (a 31), .ref (a 32), .int (nI (pn)), .ref (a 33), .ref (a 34), .ref (a 35), .ref (a 36), .int (nI (mn)), .long (q1), .long (q2), .long (q3), .long (q4), .long (q5), .ref (a 37), .ref (a 38), .ref (a 39), .int (nI (jn)), .ref (a 40), .ref (a 41)])) → G0[27]? = some (a 27, .inl (cI, 40, .inl (ink))) → lv_has ls 4 [(0, .ref (a 22)), (1, .int (nI (9))), (2, .int (gOn k i acc ink))] → W p l e ({ frames := 0, cells := 0, slots := 0, locals := 0 } : Room) s m args below meth c H locs 0 0 Q (F0 m 25 ls [])) → W p l e ({ frames := 0, cells := 0, slots := 0, locals := 0 } : Room) s m args below meth c H locs 0 0 Q (F0 m 4 ls []) := by
    intro k
    induction k with
    | zero =>
      intro i acc hi H locs ls hP hD hS hk w22 w27 hl hcont
      refine lv_iload_n (pc := 4) hx hb dX8_told_4 rfl (lv_at hl 3 rfl) ?_
      refine lv_bipush (v := nI (40)) (pc := 5) hx hb dX8_told_5 (by decide) ?_
      refine mx_cge (tgt := 25) (pc := 7) hx hb (by omega) (by omega) dX8_told_7 (by decide) (fun c7 => ?_) (fun c7 => absurd c7 (by omega))
      exact hcont H locs ls hP hD hS hk w22 w27 (lv_sub hl [0, 1, 2] rfl)
    | succ k ih =>
      intro i acc hi H locs ls hP hD hS hk w22 w27 hl hcont
      refine lv_iload_n (pc := 4) hx hb dX8_told_4 rfl (lv_at hl 3 rfl) ?_
      refine lv_bipush (v := nI (40)) (pc := 5) hx hb dX8_told_5 (by decide) ?_
      refine mx_cge (tgt := 25) (pc := 7) hx hb (by omega) (by omega) dX8_told_7 (by decide) (fun c7 => absurd c7 (by omega)) (fun c7 => ?_)
      refine lv_iload_n (pc := 10) hx hb dX8_told_10 rfl (lv_at hl 2 rfl) ?_
      refine lv_aload_n (pc := 11) hx hb dX8_told_11 rfl (lv_at hl 0 rfl) ?_
      refine va_get (ci := 8) (C := RX8) (T := TX8) (N := 37) (pc := 12) hx hb hts hiX8 hown hK hP 22 w22 rfl 6 (by decide) (hts (.fieldLink RX8 29 "InkPressModel" "ink" "[I") (by decide +kernel)) (fun _ h9 => h9) rfl dX8_told_12 ?_
      refine lv_iload_n (pc := 15) hx hb dX8_told_15 rfl (lv_at hl 3 rfl) ?_
      refine mx_iald (pc := 16) hx hb hK hP 27 w27 (i) (by omega) (by decide) dX8_told_16 ?_
      refine lv_iadd (pc := 17) hx hb dX8_told_17 ?_
      refine lv_istore_n (lv' := [(2, .int ((acc + (ink) (i)))), (0, .ref (a 22)), (1, .int (nI (9))), (3, .int (nI (i)))]) (pc := 18) hx hb dX8_told_18 rfl hl (by decide) rfl (fun ls hl => ?_)
      refine lv_iinc (v := nI (i + 1)) (lv' := [(3, .int (nI (i + 1))), (2, .int ((acc + (ink) (i)))), (0, .ref (a 22)), (1, .int (nI (9)))]) (pc := 19) hx hb dX8_told_19 hl (k := 3) rfl (mx_inc1 _) (by decide) rfl (fun ls hl => ?_)
      refine lv_goto (tgt := 4) (pc := 22) hx hb dX8_told_22 (by decide) ?_
      exact ih (i + 1) ((acc + (ink) (i))) (by omega) H locs ls hP hD hS hk w22 w27 (lv_sub hl [2, 3, 1, 0] rfl) hcont
  refine LP 40 (0) (nI 0) (by omega)  H locs ls hP hD hS hk w22 w27 (lv_sub hl [2, 3, 1, 0] rfl) (fun H locs ls hP hD hS hk w22 w27 hl => ?_)
  refine lv_iload_n (pc := 25) hx hb dX8_told_25 rfl (lv_at hl 1 rfl) ?_
  refine lv_tableIn (tgt := 135) (pc := 26) hx hb dX8_told_26 (by decide) (by decide) rfl (by decide) ?_
  refine lv_aload_n (pc := 135) hx hb dX8_told_135 rfl (lv_at hl 0 rfl) ?_
  refine va_get (ci := 8) (C := RX8) (T := TX8) (N := 37) (pc := 136) hx hb hts hiX8 hown hK hP 22 w22 rfl 20 (by decide) (hts (.fieldLink RX8 149 "InkPressModel" "pastMany" "I") (by decide +kernel)) (fun _ h9 => h9) rfl dX8_told_136 ?_
  exact hret _ _ _ _ _ _ hP hD hS rfl rfl dX8_told_139
