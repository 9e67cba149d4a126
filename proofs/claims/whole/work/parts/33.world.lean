/-! the world at the law's start -/
theorem sub_of {big : List Cond} (ws : List Cond) (ps : List Nat) (hp : ws = ps.filterMap (fun i => big[i]?)) : ∀ w ∈ ws, w ∈ big := by
  intro w hw
  rw [hp] at hw
  obtain ⟨i, -, hi⟩ := List.mem_filterMap.mp hw
  exact List.mem_of_getElem? hi
set_option maxRecDepth 100000 in
theorem inX0 : ∀ w ∈ wsX00, w ∈ lw_tbl := sub_of _ [227, 229, 231, 233, 235, 237, 239] rfl
set_option maxRecDepth 100000 in
theorem inX1 : ∀ w ∈ wsX10, w ∈ lw_tbl := sub_of _ [189, 191, 193, 195, 197, 199, 201, 203, 205, 207, 209, 211] rfl
set_option maxRecDepth 100000 in
theorem inX2 : ∀ w ∈ wsX20, w ∈ lw_tbl := sub_of _ [160, 162, 164, 166, 168] rfl
set_option maxRecDepth 100000 in
theorem inX3 : ∀ w ∈ wsX30, w ∈ lw_tbl := sub_of _ [59] rfl
set_option maxRecDepth 100000 in
theorem inX4 : ∀ w ∈ wsX40, w ∈ lw_tbl := sub_of _ [134, 136, 138, 140, 142, 144] rfl
set_option maxRecDepth 100000 in
theorem inX5 : ∀ w ∈ wsX50, w ∈ lw_tbl := sub_of _ [102, 104, 106, 108, 110, 112] rfl
set_option maxRecDepth 100000 in
theorem inX6 : ∀ w ∈ wsX60, w ∈ lw_tbl := sub_of _ [78, 80] rfl
set_option maxRecDepth 100000 in
theorem inX7 : ∀ w ∈ wsX70, w ∈ lw_tbl := sub_of _ [250, 252, 254, 256, 258, 260, 262, 264] rfl
set_option maxRecDepth 100000 in
theorem inX8 : ∀ w ∈ wsX80, w ∈ lw_tbl := sub_of _ [689, 691, 693, 695, 697, 699, 701, 703, 705, 707, 709, 711, 713, 715, 717, 719, 721, 723, 725, 727, 729, 731, 733, 735, 737, 739, 741, 743, 745, 747, 749, 751, 753, 755, 757, 759, 761] rfl
set_option maxRecDepth 100000 in
theorem inNest : ∀ w ∈ gNestW, w ∈ lw_tbl := sub_of _ [128, 77, 130, 133, 97, 99, 101, 155, 594, 475, 455, 294, 314, 56] rfl
set_option maxRecDepth 100000 in
theorem mI_0 : Cond.instantiable RX0 7 ∈ lw_tbl := List.mem_of_getElem? (i := 215) rfl
set_option maxRecDepth 100000 in
theorem mI_1 : Cond.instantiable RX1 12 ∈ lw_tbl := List.mem_of_getElem? (i := 172) rfl
set_option maxRecDepth 100000 in
theorem mI_2 : Cond.instantiable RX2 5 ∈ lw_tbl := List.mem_of_getElem? (i := 149) rfl
set_option maxRecDepth 100000 in
theorem mI_3 : Cond.instantiable RX3 1 ∈ lw_tbl := List.mem_of_getElem? (i := 44) rfl
set_option maxRecDepth 100000 in
theorem mI_4 : Cond.instantiable RX4 6 ∈ lw_tbl := List.mem_of_getElem? (i := 116) rfl
set_option maxRecDepth 100000 in
theorem mI_5 : Cond.instantiable RX5 6 ∈ lw_tbl := List.mem_of_getElem? (i := 84) rfl
set_option maxRecDepth 100000 in
theorem mI_6 : Cond.instantiable RX6 2 ∈ lw_tbl := List.mem_of_getElem? (i := 64) rfl
set_option maxRecDepth 100000 in
theorem mI_7 : Cond.instantiable RX7 8 ∈ lw_tbl := List.mem_of_getElem? (i := 36) rfl
set_option maxRecDepth 100000 in
theorem mI_8 : Cond.instantiable RX8 37 ∈ lw_tbl := List.mem_of_getElem? (i := 643) rfl
set_option maxRecDepth 100000 in
theorem mA_I : Cond.arrayClass .int ∈ lw_tbl := List.mem_of_getElem? (i := 62) rfl
set_option maxRecDepth 100000 in
theorem mA_Z : Cond.arrayClass .boolean ∈ lw_tbl := List.mem_of_getElem? (i := 147) rfl
set_option maxRecDepth 100000 in
theorem mS_0 : Cond.laysStatic "InkPress$Rules" "LEAST" "[I" ∈ lw_tbl := List.mem_of_getElem? (i := 291) rfl
set_option maxRecDepth 100000 in
theorem mS_1 : Cond.laysStatic "InkPress$Rules" "MOST" "[I" ∈ lw_tbl := List.mem_of_getElem? (i := 293) rfl
set_option maxRecDepth 100000 in
theorem mS_2 : Cond.laysStatic "InkPress$Rules" "FIRST" "[I" ∈ lw_tbl := List.mem_of_getElem? (i := 50) rfl
set_option maxRecDepth 100000 in
theorem mS_3 : Cond.laysStatic "InkPress$Zones" "MOST" "[I" ∈ lw_tbl := List.mem_of_getElem? (i := 313) rfl
set_option maxRecDepth 100000 in
theorem mS_4 : Cond.laysStatic "InkPress$Zones" "FIRST" "[I" ∈ lw_tbl := List.mem_of_getElem? (i := 70) rfl
set_option maxRecDepth 100000 in
theorem mN_RX3 : Cond.initialized RX3 ∈ lw_tbl := List.mem_of_getElem? (i := 26) rfl
set_option maxRecDepth 100000 in
theorem mN_RX6 : Cond.initialized RX6 ∈ lw_tbl := List.mem_of_getElem? (i := 27) rfl
set_option maxRecDepth 100000 in
theorem mN_RX7 : Cond.initialized RX7 ∈ lw_tbl := List.mem_of_getElem? (i := 25) rfl
set_option maxRecDepth 100000 in
theorem mN_RX8 : Cond.initialized RX8 ∈ lw_tbl := List.mem_of_getElem? (i := 33) rfl
set_option maxRecDepth 100000 in
theorem mC_7 : Cond.classLink RL 7 RX7 ∈ lw_tbl := List.mem_of_getElem? (i := 35) rfl
set_option maxRecDepth 100000 in
theorem mC_8 : Cond.classLink RL 10 RX8 ∈ lw_tbl := List.mem_of_getElem? (i := 642) rfl
set_option maxRecDepth 100000 in
theorem mM_7 : Cond.methodLink RL 9 yX7_init ∈ lw_tbl := List.mem_of_getElem? (i := 37) rfl
set_option maxRecDepth 100000 in
theorem mM_8 : Cond.methodLink RL 12 yX8_init ∈ lw_tbl := List.mem_of_getElem? (i := 644) rfl
set_option maxRecDepth 100000 in
theorem mm_7 : Cond.instanceMethod yX7_init ∈ lw_tbl := List.mem_of_getElem? (i := 38) rfl
set_option maxRecDepth 100000 in
theorem mm_8 : Cond.instanceMethod yX8_init ∈ lw_tbl := List.mem_of_getElem? (i := 645) rfl
theorem st_K {s : State} {b : Nat} (hts : ∀ w ∈ lw_tbl, w.before #[Value.ref b] s = true) : ∃ (D : va_G) (cI cZ : ClassId), va_K D vwCl (gT cI cZ) s := by
  obtain ⟨c0, i0, h0⟩ := u_known (C := RX0) (T := TX0) (N := 7) (n := 7) hts inX0 (hts _ mI_0)
  obtain ⟨c1, i1, h1⟩ := u_known (C := RX1) (T := TX1) (N := 12) (n := 12) hts inX1 (hts _ mI_1)
  obtain ⟨c2, i2, h2⟩ := u_known (C := RX2) (T := TX2) (N := 5) (n := 5) hts inX2 (hts _ mI_2)
  obtain ⟨c3, i3, h3⟩ := u_known (C := RX3) (T := TX3) (N := 1) (n := 1) hts inX3 (hts _ mI_3)
  obtain ⟨c4, i4, h4⟩ := u_known (C := RX4) (T := TX4) (N := 6) (n := 6) hts inX4 (hts _ mI_4)
  obtain ⟨c5, i5, h5⟩ := u_known (C := RX5) (T := TX5) (N := 6) (n := 6) hts inX5 (hts _ mI_5)
  obtain ⟨c6, i6, h6⟩ := u_known (C := RX6) (T := TX6) (N := 2) (n := 2) hts inX6 (hts _ mI_6)
  obtain ⟨c7, i7, h7⟩ := u_known (C := RX7) (T := TX7) (N := 8) (n := 8) hts inX7 (hts _ mI_7)
  obtain ⟨c8, i8, h8⟩ := u_known (C := RX8) (T := TX8) (N := 37) (n := 37) hts inX8 (hts _ mI_8)
  obtain ⟨cI, kI, coI, a1, a2, a3⟩ := Cond.arrayClass_spec (hts _ mA_I)
  obtain ⟨cZ, kZ, coZ, b1, b2, b3⟩ := Cond.arrayClass_spec (hts _ mA_Z)
  refine ⟨(fun k => [c0, c1, c2, c3, c4, c5, c6, c7, c8].getD k c0, fun k => [i0, i1, i2, i3, i4, i5, i6, i7, i8].getD k i0), cI, cZ, ?_, ?_⟩
  · intro k q hq
    match k, hq with
    | 0, hq => obtain rfl : (RX0, TX0, 7) = q := Option.some.inj hq; exact h0
    | 1, hq => obtain rfl : (RX1, TX1, 12) = q := Option.some.inj hq; exact h1
    | 2, hq => obtain rfl : (RX2, TX2, 5) = q := Option.some.inj hq; exact h2
    | 3, hq => obtain rfl : (RX3, TX3, 1) = q := Option.some.inj hq; exact h3
    | 4, hq => obtain rfl : (RX4, TX4, 6) = q := Option.some.inj hq; exact h4
    | 5, hq => obtain rfl : (RX5, TX5, 6) = q := Option.some.inj hq; exact h5
    | 6, hq => obtain rfl : (RX6, TX6, 2) = q := Option.some.inj hq; exact h6
    | 7, hq => obtain rfl : (RX7, TX7, 8) = q := Option.some.inj hq; exact h7
    | 8, hq => obtain rfl : (RX8, TX8, 37) = q := Option.some.inj hq; exact h8
    | k + 9, hq => exact absurd (List.getElem?_eq_some_iff.mp hq).1 (by show ¬ k + 9 < 9; omega)
  · intro k q hq
    match k, hq with
    | 0, hq => obtain rfl : (cI, FieldType.int) = q := Option.some.inj hq; exact ⟨fun n z => ⟨fun k h => (by cases h), kI, a2, coI, a3⟩, a1⟩
    | 1, hq => obtain rfl : (cZ, FieldType.boolean) = q := Option.some.inj hq; exact ⟨fun n z => ⟨fun k h => (by cases h), kZ, b2, coZ, b3⟩, b1⟩
    | k + 2, hq => exact absurd (List.getElem?_eq_some_iff.mp hq).1 (by show ¬ k + 2 < 2; omega)
theorem st_N {s : State} {b : Nat} (hts : ∀ w ∈ lw_tbl, w.before #[Value.ref b] s = true) : gN s := fun w hw => va_Nw.of (gNest_tabs w hw) (hts w (inNest w hw))
theorem st_size {args : Array Value} {s : State} {tm : Term} {N t : Nat} (hN : N < 2 ^ 31) (hv : (Term.length tm).eval args s none [] s = some (.int (Int32.ofNat N))) (ht : tm.eval args s none [] s = some (.ref t)) : ∃ cell : Cell, s.heap[t]? = some cell ∧ cell.slots.size = N := by
  obtain ⟨a, cell, h1, h2, h3⟩ := Term.length_spec hv
  obtain rfl : t = a := Value.ref.inj (Option.some.inj (ht.symm.trans h1))
  obtain ⟨hcell, -, -, -⟩ := State.arrayAt?_spec h2
  have hsz : cell.slots.size < 2 ^ 31 := by
    simp only [Term.eval, h1, h2, Option.bind_eq_bind, Option.bind_some] at hv
    by_cases hlt : cell.slots.size < 2147483648
    · exact hlt
    · simp [hlt] at hv
  refine ⟨cell, hcell, ?_⟩
  have h4 : nI N = nI cell.slots.size := Value.int.inj h3
  exact ((nI_eq hN hsz).mp h4).symm
theorem st_T {args : Array Value} {s : State} {A : Nat → Prop} {C n : String} {vs : List Int32} (hlen : vs.length < 2 ^ 31) (hl : (Cond.laysStatic C n "[I").before args s = true) (hini : (Cond.initialized C).before args s = true) (harr : (Cond.arrayOf (.static C n "[I") .int).before args s = true) (hle : (Cond.eq (.length (.static C n "[I")) (.int (Int32.ofNat vs.length))).before args s = true) (hel : ∀ j, j < vs.length → (Cond.eq (.elem (.static C n "[I") (.int (Int32.ofNat j))) (.int (vs.getD j 0))).before args s = true) (hA : ∀ a : Nat, a < s.heap.size → ¬ A a) :
    ∃ t : Nat, (Term.static C n "[I").eval args s none [] s = some (.ref t) ∧ va_Z C n "[I" (.ref t) A s s.heap ∧ va_T .int t vs.length (fun j => .int (vs.getD j 0)) A s s.heap ∧ ∃ cell : Cell, s.heap[t]? = some cell ∧ cell.slots.size = vs.length := by
  obtain ⟨t, ht, hT⟩ := va_Tof hlen harr (va_eqt hle) (fun j hj => va_eqt (hel j hj)) hA
  exact ⟨t, ht, va_Zof hl hini ht hA, hT, st_size hlen (va_eqt hle) ht⟩
set_option maxRecDepth 100000 in
theorem st_Z {s : State} {b : Nat} (hts : ∀ w ∈ lw_tbl, w.before #[Value.ref b] s = true) (hgv : (Jvm.Cond.and given_1 narrow_1).before #[Value.ref b] s = true) : ∃ g : Nat → Nat, gZ (fun q : Nat => s.heap.size ≤ q) g s s.heap ∧ (Term.static "InkPress$Rules" "FIRST" "[I").eval #[Value.ref b] s none [] s = some (.ref (g 2)) ∧ ∃ cell : Cell, s.heap[g 2]? = some cell ∧ cell.slots.size = 9 := by
  have hs := flat_of_before _ hgv
  have hA : ∀ a : Nat, a < s.heap.size → ¬ (fun q : Nat => s.heap.size ≤ q) a := fun a h => Nat.not_le.mpr h
  obtain ⟨t0, e0, z0, y0, s0⟩ := st_T (C := "InkPress$Rules") (n := "LEAST") (vs := gTab 0) (by decide) (hts _ mS_0) (hts _ mN_RX3) (hs _ (by decide +kernel)) (hs _ (by decide +kernel)) (fun j hj => by
    have hj : j < 9 := hj
    rcases (show j = 0 ∨ j = 1 ∨ j = 2 ∨ j = 3 ∨ j = 4 ∨ j = 5 ∨ j = 6 ∨ j = 7 ∨ j = 8 by omega) with rfl | rfl | rfl | rfl | rfl | rfl | rfl | rfl | rfl
    · exact hs _ (by decide +kernel)
    · exact hs _ (by decide +kernel)
    · exact hs _ (by decide +kernel)
    · exact hs _ (by decide +kernel)
    · exact hs _ (by decide +kernel)
    · exact hs _ (by decide +kernel)
    · exact hs _ (by decide +kernel)
    · exact hs _ (by decide +kernel)
    · exact hs _ (by decide +kernel)) hA
  obtain ⟨t1, e1, z1, y1, s1⟩ := st_T (C := "InkPress$Rules") (n := "MOST") (vs := gTab 1) (by decide) (hts _ mS_1) (hts _ mN_RX3) (hs _ (by decide +kernel)) (hs _ (by decide +kernel)) (fun j hj => by
    have hj : j < 9 := hj
    rcases (show j = 0 ∨ j = 1 ∨ j = 2 ∨ j = 3 ∨ j = 4 ∨ j = 5 ∨ j = 6 ∨ j = 7 ∨ j = 8 by omega) with rfl | rfl | rfl | rfl | rfl | rfl | rfl | rfl | rfl
    · exact hs _ (by decide +kernel)
    · exact hs _ (by decide +kernel)
    · exact hs _ (by decide +kernel)
    · exact hs _ (by decide +kernel)
    · exact hs _ (by decide +kernel)
    · exact hs _ (by decide +kernel)
    · exact hs _ (by decide +kernel)
    · exact hs _ (by decide +kernel)
    · exact hs _ (by decide +kernel)) hA
  obtain ⟨t2, e2, z2, y2, s2⟩ := st_T (C := "InkPress$Rules") (n := "FIRST") (vs := gTab 2) (by decide) (hts _ mS_2) (hts _ mN_RX3) (hs _ (by decide +kernel)) (hs _ (by decide +kernel)) (fun j hj => by
    have hj : j < 9 := hj
    rcases (show j = 0 ∨ j = 1 ∨ j = 2 ∨ j = 3 ∨ j = 4 ∨ j = 5 ∨ j = 6 ∨ j = 7 ∨ j = 8 by omega) with rfl | rfl | rfl | rfl | rfl | rfl | rfl | rfl | rfl
    · exact hs _ (by decide +kernel)
    · exact hs _ (by decide +kernel)
    · exact hs _ (by decide +kernel)
    · exact hs _ (by decide +kernel)
    · exact hs _ (by decide +kernel)
    · exact hs _ (by decide +kernel)
    · exact hs _ (by decide +kernel)
    · exact hs _ (by decide +kernel)
    · exact hs _ (by decide +kernel)) hA
  obtain ⟨t3, e3, z3, y3, s3⟩ := st_T (C := "InkPress$Zones") (n := "MOST") (vs := gTab 3) (by decide) (hts _ mS_3) (hts _ mN_RX6) (hs _ (by decide +kernel)) (hs _ (by decide +kernel)) (fun j hj => by
    have hj : j < 3 := hj
    rcases (show j = 0 ∨ j = 1 ∨ j = 2 by omega) with rfl | rfl | rfl
    · exact hs _ (by decide +kernel)
    · exact hs _ (by decide +kernel)
    · exact hs _ (by decide +kernel)) hA
  obtain ⟨t4, e4, z4, y4, s4⟩ := st_T (C := "InkPress$Zones") (n := "FIRST") (vs := gTab 4) (by decide) (hts _ mS_4) (hts _ mN_RX6) (hs _ (by decide +kernel)) (hs _ (by decide +kernel)) (fun j hj => by
    have hj : j < 3 := hj
    rcases (show j = 0 ∨ j = 1 ∨ j = 2 by omega) with rfl | rfl | rfl
    · exact hs _ (by decide +kernel)
    · exact hs _ (by decide +kernel)
    · exact hs _ (by decide +kernel)) hA
  refine ⟨fun k => [t0, t1, t2, t3, t4].getD k 0, ?_, e2, s2⟩
  intro k hk
  rcases (show k = 0 ∨ k = 1 ∨ k = 2 ∨ k = 3 ∨ k = 4 by omega) with rfl | rfl | rfl | rfl | rfl
  · exact ⟨z0, y0⟩
  · exact ⟨z1, y1⟩
  · exact ⟨z2, y2⟩
  · exact ⟨z3, y3⟩
  · exact ⟨z4, y4⟩
theorem st_E {s : State} {b : Nat} {D : va_G} {cI cZ : ClassId} {g : Nat → Nat} (hK : va_K D vwCl (gT cI cZ) s) (he : (Term.static "InkPress$Rules" "FIRST" "[I").eval #[Value.ref b] s none [] s = some (.ref (g 2))) (hsz : ∃ cell : Cell, s.heap[g 2]? = some cell ∧ cell.slots.size = 9) (hEx : (Cond.exactly (.static "InkPress$Rules" "FIRST" "[I") "[I").before #[Value.ref b] s = true) : gE cI (fun q : Nat => s.heap.size ≤ q) g s.heap := by
  obtain ⟨cell, h1, h2⟩ := hsz
  obtain ⟨a, c, cell', k, e1, e2, e3, -, -, e6, -⟩ := Cond.exactly_spec hEx
  obtain rfl : g 2 = a := Value.ref.inj (Option.some.inj (he.symm.trans e1))
  obtain rfl : cell = cell' := Option.some.inj (h1.symm.trans e3)
  have hnm := va_nm_int (hK.2 0 (cI, .int) rfl).2
  exact ⟨cell, h1, h2, e6.trans (Option.some.inj (e2.symm.trans hnm)), Nat.not_le.mpr (Array.getElem?_eq_some_iff.mp h1).1⟩
