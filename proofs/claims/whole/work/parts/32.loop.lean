/-! THE CLAIM OUT OF ONE WALK OF THE LAW'S BODY. Your part is whole_start (and what it stands on); all else here is the same for every law, but numbers. -/
def R_law : String := "InkPressLaw"
def lw_P (b : Addr) (xs : List Int32) (args : Array Value) (s : State) : Prop := args = #[.ref b] ∧ s.IntsAt b xs ∧ xs.length ≤ 2560 ∧ (Jvm.Cond.and given_1 narrow_1).before args s = true
def lw_Q (_ : Array Value) (s : State) (o : Outcome) (t : State) : Prop := o = .returned (some (.int 1)) ∧ Framed s o t [] 600000 7302250
def lw_Z (below : List Frame) (a : Array Value) (s : State) : State → Prop := fun t => ∃ o, t.status = .running ∧ Ended t below o ∧ lw_Q a s o t
/-- the law's own end, with 1 on the stack, nothing written that was there before, its room as the claim has it -/
theorem lw_ret {p : Program} {l : Launch} {e : Env} {s : State} {m : MethodId} {below : List Frame} {meth : Method} {c : Code} {b : Nat} (hx : p.tables.exec = Jvm.exec) (hb : c.code = code) (hr : meth.sig.returnType = ret) (hlocks : meth.locks = false) {pc : Nat} {H : Heap} {ls : Array Slot} (hdg : decode code pc = .ok (.ireturn, 1)) : W p l e room_1 s m #[Value.ref b] below meth c H [] 600000 7302250 (lw_Z below #[Value.ref b] s) (F0 m pc ls [.int 1]) := by
  intro T hT X
  obtain ⟨fs, hret, hrun, hended, hW, hframe⟩ := X.leave (v := some (.int 1)) (hlocks := hlocks) (fun h => by rw [hr] at h; cases h)
  have hmeth' : T.vm.method? m = some meth := X.method'
  refine ⟨T.setFrames fs, ?_, .returned (some (.int 1)), hrun, hended, rfl, ⟨_, rfl⟩, hW, hframe⟩
  jvm_step X.here [X.here.top, hx, hb, hdg, hmeth', hr, ret, narrow_b1]
  (try refine ⟨rfl, ?_⟩); (try refine ⟨rfl, ?_⟩)
  first | (intro acts; rw [hret _ acts rfl rfl rfl]) | rw [hret _ _ rfl rfl rfl]
  exact Steps.refl _
/-- what holds at the law's entry: the machine, the code, the tables' words (any of lw_tbl by 'hts w (by decide +kernel)'), the script of L ints xs at the cell b, what the Statement gives of the start (any of its parts by flat_of_before) -/
def lw_At (p : Program) (s : State) (m : MethodId) (meth : Method) (c : Code) (b L : Nat) (xs : Nat → Int32) : Prop :=
  p.tables.exec = Jvm.exec ∧ c.code = code ∧ meth.sig.returnType = ret ∧ c.maxLocals = 4 ∧ s.vm.findClass R_law = some m.cls ∧ (∀ w ∈ lw_tbl, w.before #[Value.ref b] s = true) ∧ va_X b L xs s s.heap ∧ b < s.heap.size ∧ meth.locks = false ∧ (Jvm.Cond.and given_1 narrow_1).before #[Value.ref b] s = true
section LP
variable {p : Program} {l : Launch} {e : Env} {s : State} {m : MethodId} {below : List Frame} {meth : Method} {c : Code} {b L : Nat} {xs : Nat → Int32} {D : va_G} {cI cZ : ClassId} {g a : Nat → Nat} {Q : State → Prop} {cells slots : Nat}

set_option maxHeartbeats 4000000 in
set_option maxRecDepth 100000 in
/-- the law's loop -/
theorem law_loop (E : lwE p s m c b L xs D cI cZ g cells slots) (hr : meth.sig.returnType = ret) (hlocks : meth.locks = false) : ∀ (n i : Nat), L + 1 ≤ i + n → i ≤ L → ∀ (G : va_W) (H : Heap) (locs : List Loc) (ls : Array Slot), gInv cI cZ a G → va_P D vwCl G H → va_D (fun q : Nat => s.heap.size ≤ q) G → va_S (fun q : Nat => s.heap.size ≤ q) s.heap H locs → lv_has ls 4 [(0, .ref b), (1, .ref (a 0)), (2, .ref (a 22)), (3, .int (nI i))] → W p l e room_1 s m #[Value.ref b] below meth c H locs cells slots (lw_Z below #[Value.ref b] s) (F0 m 18 ls []) := by
  have E0 := E
  obtain ⟨hx, hb, hml, hown, hts, hX, hbl, hL, hK, hN, hZ, hce, hsl⟩ := E
  have hbA : ¬ (fun q : Nat => s.heap.size ≤ q) b := Nat.not_le.mpr hbl
  intro n
  induction n with
  | zero => intro i h1 h2; exact absurd h1 (by omega)
  | succ n ih =>
    intro i hin hiL G H locs ls hInv hP hD hS hl
    refine lv_iload_n (pc := 18) hx hb dL_law_18 rfl (lv_at hl 3 rfl) ?_
    refine lv_aload_n (pc := 19) hx hb dL_law_19 rfl (lv_at hl 0 rfl) ?_
    refine va_slen (pc := 20) hx hb hX hbl hbA hS dL_law_20 ?_
    refine lv_iconst (v := nI 5) (pc := 21) hx hb dL_law_21 (by decide) ?_
    refine lv_isub (pc := 22) hx hb dL_law_22 ?_
    have et : (Int32.ofNat L - nI 5).toInt = (L : Int) - ((5 : Nat) : Int) := pk_sub_toInt (by omega) (by decide)
    have ei : (nI i).toInt = (i : Int) := nI_toInt (by omega)
    refine lv_icmp_gt (tgt := 785) (pc := 23) hx hb dL_law_23 (by decide) (fun c23 => ?_) (fun c23 => ?_)
    · refine lv_iconst (v := 1) (pc := 785) hx hb dL_law_785 (by decide) ?_
      refine va_forget (fun q hq => hS.2.2 q hq) ?_
      refine W.widen (k := 600000) (n := 7302250) hce hsl ?_
      exact lw_ret hx hb hr hlocks dL_law_786
    · have hi5 : i + 5 ≤ L := by
        rw [Int32.lt_iff_toInt_lt, et, ei] at c23
        omega
      refine lv_aload_n (pc := 26) hx hb dL_law_26 rfl (lv_at hl 0 rfl) ?_
      refine lv_iload_n (pc := 27) hx hb dL_law_27 rfl (lv_at hl 3 rfl) ?_
      refine mx_sld (pc := 28) hx hb hX hbl hbA hS i (by omega) (by omega) dL_law_28 ?_
      refine lv_bipush (v := nI 31) (pc := 29) hx hb dL_law_29 (by decide) ?_
      refine lv_iand (pc := 31) hx hb dL_law_31 ?_
      obtain ⟨j, hj, ej⟩ := pk_andE (xs i) (m := nI 31) 5 (by decide)
      rw [ej]
      have hnext : ∀ (G : va_W) (H : Heap) (locs : List Loc), va_P D vwCl G H → va_D (fun q : Nat => s.heap.size ≤ q) G → va_S (fun q : Nat => s.heap.size ≤ q) s.heap H locs → gInv cI cZ a G → W p l e room_1 s m #[Value.ref b] below meth c H locs cells slots (lw_Z below #[Value.ref b] s) (F0 m 779 ls []) := by
        intro G H locs hP hD hS hInv
        refine lv_iinc (v := nI (i + 5)) (lv' := [(3, .int (nI (i + 5))), (0, .ref b), (1, .ref (a 0)), (2, .ref (a 22))]) (pc := 779) hx hb dL_law_779 hl (k := 3) rfl (mx_inc5 _) (by decide) rfl (fun ls hl => ?_)
        refine lv_goto (tgt := 18) (pc := 782) hx hb dL_law_782 (by decide) ?_
        exact ih (i + 5) (by omega) hi5 G H locs ls hInv hP hD hS (lv_sub hl [1, 2, 3, 0] rfl)
      rcases Nat.lt_or_ge j 22 with q | q
      · rcases (show j = 0 ∨ j = 1 ∨ j = 2 ∨ j = 3 ∨ j = 4 ∨ j = 5 ∨ j = 6 ∨ j = 7 ∨ j = 8 ∨ j = 9 ∨ j = 10 ∨ j = 11 ∨ j = 12 ∨ j = 13 ∨ j = 14 ∨ j = 15 ∨ j = 16 ∨ j = 17 ∨ j = 18 ∨ j = 19 ∨ j = 20 ∨ j = 21 by omega) with rfl | rfl | rfl | rfl | rfl | rfl | rfl | rfl | rfl | rfl | rfl | rfl | rfl | rfl | rfl | rfl | rfl | rfl | rfl | rfl | rfl | rfl
        · refine lv_tableIn (tgt := 136) (pc := 32) hx hb dL_law_32 (by decide) (by decide) rfl (by decide) ?_
          exact lc_press E0 hi5 hInv hP hD hS hl hnext
        · refine lv_tableIn (tgt := 169) (pc := 32) hx hb dL_law_32 (by decide) (by decide) rfl (by decide) ?_
          exact lc_rule E0 hi5 hInv hP hD hS hl hnext
        · refine lv_tableIn (tgt := 202) (pc := 32) hx hb dL_law_32 (by decide) (by decide) rfl (by decide) ?_
          exact lc_set E0 hi5 hInv hP hD hS hl hnext
        · refine lv_tableIn (tgt := 245) (pc := 32) hx hb dL_law_32 (by decide) (by decide) rfl (by decide) ?_
          exact lc_zone E0 hi5 hInv hP hD hS hl hnext
        · refine lv_tableIn (tgt := 278) (pc := 32) hx hb dL_law_32 (by decide) (by decide) rfl (by decide) ?_
          exact lc_ink E0 hi5 hInv hP hD hS hl hnext
        · refine lv_tableIn (tgt := 311) (pc := 32) hx hb dL_law_32 (by decide) (by decide) rfl (by decide) ?_
          exact lc_print E0 hi5 hInv hP hD hS hl hnext
        · refine lv_tableIn (tgt := 334) (pc := 32) hx hb dL_law_32 (by decide) (by decide) rfl (by decide) ?_
          exact lc_steer E0 hi5 hInv hP hD hS hl hnext
        · refine lv_tableIn (tgt := 373) (pc := 32) hx hb dL_law_32 (by decide) (by decide) rfl (by decide) ?_
          exact lc_good E0 hi5 hInv hP hD hS hl hnext
        · refine lv_tableIn (tgt := 396) (pc := 32) hx hb dL_law_32 (by decide) (by decide) rfl (by decide) ?_
          exact lc_density E0 hi5 hInv hP hD hS hl hnext
        · refine lv_tableIn (tgt := 429) (pc := 32) hx hb dL_law_32 (by decide) (by decide) rfl (by decide) ?_
          exact lc_past E0 hi5 hInv hP hD hS hl hnext
        · refine lv_tableIn (tgt := 462) (pc := 32) hx hb dL_law_32 (by decide) (by decide) rfl (by decide) ?_
          exact lc_preset E0 hi5 hInv hP hD hS hl hnext
        · refine lv_tableIn (tgt := 485) (pc := 32) hx hb dL_law_32 (by decide) (by decide) rfl (by decide) ?_
          exact lc_presets E0 hi5 hInv hP hD hS hl hnext
        · refine lv_tableIn (tgt := 498) (pc := 32) hx hb dL_law_32 (by decide) (by decide) rfl (by decide) ?_
          exact lc_told E0 hi5 hInv hP hD hS hl hnext
        · refine lv_tableIn (tgt := 521) (pc := 32) hx hb dL_law_32 (by decide) (by decide) rfl (by decide) ?_
          exact lc_mark E0 hi5 hInv hP hD hS hl hnext
        · refine lv_tableIn (tgt := 574) (pc := 32) hx hb dL_law_32 (by decide) (by decide) rfl (by decide) ?_
          exact lc_clear E0 hi5 hInv hP hD hS hl hnext
        · refine lv_tableIn (tgt := 587) (pc := 32) hx hb dL_law_32 (by decide) (by decide) rfl (by decide) ?_
          exact lc_fit E0 hi5 hInv hP hD hS hl hnext
        · refine lv_tableIn (tgt := 621) (pc := 32) hx hb dL_law_32 (by decide) (by decide) rfl (by decide) ?_
          exact lc_off E0 hi5 hInv hP hD hS hl hnext
        · refine lv_tableIn (tgt := 654) (pc := 32) hx hb dL_law_32 (by decide) (by decide) rfl (by decide) ?_
          exact lc_job E0 hi5 hInv hP hD hS hl hnext
        · refine lv_tableIn (tgt := 687) (pc := 32) hx hb dL_law_32 (by decide) (by decide) rfl (by decide) ?_
          exact lc_forget E0 hi5 hInv hP hD hS hl hnext
        · refine lv_tableIn (tgt := 700) (pc := 32) hx hb dL_law_32 (by decide) (by decide) rfl (by decide) ?_
          exact lc_wash E0 hi5 hInv hP hD hS hl hnext
        · refine lv_tableIn (tgt := 743) (pc := 32) hx hb dL_law_32 (by decide) (by decide) rfl (by decide) ?_
          exact lc_order E0 hi5 hInv hP hD hS hl hnext
        · refine lv_tableIn (tgt := 756) (pc := 32) hx hb dL_law_32 (by decide) (by decide) rfl (by decide) ?_
          exact lc_orderAt E0 hi5 hInv hP hD hS hl hnext
      · refine lv_tableOut (tgt := 779) (pc := 32) hx hb dL_law_32 (by rw [nI_toInt (by omega)]; right; omega) (by decide) ?_
        exact hnext G H locs hP hD hS hInv
end LP
