/-! rows for constructors: what is made stands at the world's end -/
/-- the static array that is cloned: its size, and that its class is the one of all arrays of int -/
def gE (cI : ClassId) (A : Nat → Prop) (g : Nat → Nat) (H : Heap) : Prop := ∃ cell : Cell, H[g 2]? = some cell ∧ cell.slots.size = 9 ∧ cell.cls = cI ∧ ¬ A (g 2)
theorem gE.kept {cI : ClassId} {A : Nat → Prop} {g : Nat → Nat} {H H1 : Heap} (h : gE cI A g H) (hq : ∀ a : Nat, a < H.size → ¬ A a → H1[a]? = H[a]?) : gE cI A g H1 := by
  obtain ⟨cell, h1, h2, h3, h4⟩ := h
  exact ⟨cell, (hq _ (Array.getElem?_eq_some_iff.mp h1).1 h4).trans h1, h2, h3, h4⟩
def gPreN (D : va_G) (cI cZ : ClassId) (A : Nat → Prop) (g : Nat → Nat) (G : va_W) (U : State) : Prop := gPre D cI cZ A g G U ∧ (∀ q, U.heap.size ≤ q → A q) ∧ gE cI A g U.heap
theorem gHf_I (cA : ClassId) (N : Nat) : vp_cell cA (N, .inl (fun _ => 0)) = arrV cA N (fun _ => defaultValue .int) := rfl
theorem gHf_Z (cA : ClassId) (N : Nat) : vp_cell cA (N, .inl (fun j => gB ((fun _ => false) j))) = arrV cA N (fun _ => defaultValue .boolean) := rfl
theorem gHf_n (cA : ClassId) (N : Nat) : vp_cell cA (N, .inl (fun j => nI ((fun _ => 0) j))) = arrV cA N (fun _ => defaultValue .int) := rfl
abbrev gNv (l : Launch) (D : va_G) (cI cZ : ClassId) (A : Nat → Prop) (g : Nat → Nat) (y : MethodName) (ws : List Cond) (rm : Room) (av : List Value) (G : va_W) (B : va_W → Prop) (mc ms : Nat) : Prop :=
  Met l y ws rm (va_Pc av (gPreN D cI cZ A g G)) (va_Qv (fun (G1 : va_W) => B G1) (fun G1 t => va_P D vwCl G1 t.heap ∧ va_D A G1) A) mc ms A
theorem glen {G : va_W} {n : Nat} {x : Nat × va_E} (h1 : G[n]? = some x) (h2 : G[n + 1]? = none) : G.length = n + 1 := by
  have a1 := (List.getElem?_eq_some_iff.mp h1).1
  have a2 := List.getElem?_eq_none_iff.mp h2
  omega
theorem gapp_new {G : va_W} {n : Nat} {x : Nat × va_E} (h : G.length = n) : (G ++ [x])[n]? = some x := by
  rw [List.getElem?_append_right (by omega), h, Nat.sub_self]
  rfl
theorem gapp_old {G : va_W} {n : Nat} {x : Nat × va_E} (h : G.length = n) : ∀ j, j ≠ n → (G ++ [x])[j]? = G[j]? := by
  intro j hj
  rcases Nat.lt_or_ge j n with q | q
  · rw [List.getElem?_append_left (by omega)]
  · rw [List.getElem?_append_right (by omega), List.getElem?_eq_none_iff.mpr (show G.length ≤ j by omega)]
    exact List.getElem?_eq_none_iff.mpr (by show 1 ≤ j - G.length; omega)
section MN
variable {p : Program} {l : Launch} {e : Env} {R : Room} {s : State} {m : MethodId} {args : Array Value} {below : List Frame} {meth : Method} {c : Code} {H : Heap} {locs : List Loc} {cells slots : Nat} {Q : State → Prop}
variable {cc : ByteArray} {pc : Nat} {ls : Array Slot} {rest st0 : List Value} {D : va_G} {A : Nat → Prop} {a b : Nat} {G : va_W} {H0 : Heap} {cI cZ : ClassId} {g : Nat → Nat}
theorem mx_newa (hexec : p.tables.exec = Jvm.exec) (hb : c.code = cc) {atype : ArrayType} (harr : (Cond.arrayClass (newarray.typeOf atype)).before args s = true) {ty : FieldType} (hty : newarray.typeOf atype = ty) (hti : ty = .int ∨ ty = .boolean) (t0 : Nat) {cT : ClassId} (ht : (gT cI cZ)[t0]? = some (cT, ty)) (hK : va_K D vwCl (gT cI cZ) s) (hP : va_P D vwCl G H) (hD : va_D A G) (hS : va_S A H0 H locs) (hA : ∀ q, H0.size ≤ q → A q)
    (N : Nat) {f : Nat → Int32} (hf : ∀ cA : ClassId, vp_cell cA (N, .inl f) = arrV cA N (fun _ => defaultValue ty)) (hN : N < 2 ^ 31) (hbytes : N * componentBytes ty ≤ 536870912) (hcells : cells + 1 ≤ R.cells) (hslots : slots + N ≤ R.slots) (n : Nat) (hL : G.length = n) (hdg : decode cc pc = .ok (.newarray atype, 2))
    (kk : ∀ (q : Nat) (H1 : Heap) (G1 : va_W), va_P D vwCl G1 H1 → va_D A G1 → va_S A H0 H1 locs → G1[n]? = some (q, .inl (cT, N, .inl f)) → (∀ j, j ≠ n → G1[j]? = G[j]?) → W p l e R s m args below meth c H1 locs (cells + 1) (slots + N) Q (F0 m (pc + 2) ls (.ref q :: rest))) : W p l e R s m args below meth c H locs cells slots Q (F0 m pc ls (.int (nI N) :: rest)) := by
  refine va_newa hexec hb harr hty hK hP hD hS hA (a0 := (N, .inl f)) hf (nI_pos hN) (nI_clamp hN) hbytes hcells hslots hdg ?_
  intro q cA H1 hK1 hP1 hD1 hS1
  have r1 := (hK1.2 2 (cA, ty) (by rfl)).2
  have r2 := (hK.2 t0 (cT, ty) ht).2
  have e : cA = cT := by
    rcases hti with rfl | rfl
    · exact Option.some.inj ((show s.vm.findClass _ = some cA from r1).symm.trans (show s.vm.findClass _ = some cT from r2))
    · exact Option.some.inj ((show s.vm.findClass _ = some cA from r1).symm.trans (show s.vm.findClass _ = some cT from r2))
  subst e
  exact kk q H1 _ hP1 hD1 hS1 (gapp_new hL) (gapp_old hL)
theorem mx_new {own C : String} {T : u_T} {N ci index : Nat} {Ts : List Cond} (hexec : p.tables.exec = Jvm.exec) (hb : c.code = cc) (hts : ∀ w ∈ Ts, w.before args s = true) (hin : ∀ w ∈ u_ws C T N, w ∈ Ts) (ty : Nat → FieldType) (hty : ∀ k, k < N → parseFieldDescriptor (T k).2.2.1 = some (ty k)) (hown : s.vm.findClass own = some m.cls) (hcl : (Cond.classLink own index C).before args s = true) (hinst : (Cond.instantiable C N).before args s = true) (hini : (Cond.initialized C).before args s = true)
    (hK : va_K D vwCl (gT cI cZ) s) (hP : va_P D vwCl G H) (hD : va_D A G) (hS : va_S A H0 H locs) (hA : ∀ q, H0.size ≤ q → A q) (hc : vwCl[ci]? = some (C, T, N)) {fs : List Value} (hfs : ∀ j, j < N → defaultValue (ty j) = vp_V fs j) (hcells : cells + 1 ≤ R.cells) (hslots : slots + N ≤ R.slots) (n : Nat) (hL : G.length = n) (hdg : decode cc pc = .ok (.new index, 3))
    (kk : ∀ (q : Nat) (H1 : Heap) (G1 : va_W), va_P D vwCl G1 H1 → va_D A G1 → va_S A H0 H1 locs → G1[n]? = some (q, .inr (ci, fs)) → (∀ j, j ≠ n → G1[j]? = G[j]?) → W p l e R s m args below meth c H1 locs (cells + 1) (slots + N) Q (F0 m (pc + 3) ls (.ref q :: rest))) : W p l e R s m args below meth c H locs cells slots Q (F0 m pc ls rest) :=
  va_new hexec hb hts hin ty hty hown hcl hinst hini hK hP hD hS hA hc hfs hcells hslots hdg (fun q H1 h1 h2 h3 => kk q H1 _ h1 h2 h3 (gapp_new hL) (gapp_old hL))
theorem mx_putF {cl : List vw_C} {tys : List (ClassId × FieldType)} (hexec : p.tables.exec = Jvm.exec) (hb : c.code = cc) {own ref C : String} {T : u_T} {N ci index : Nat} {Ts : List Cond} (hts : ∀ w ∈ Ts, w.before args s = true) (hin : ∀ w ∈ u_ws C T N, w ∈ Ts) (ty0 : Nat → FieldType) (hty : ∀ k, k < N → parseFieldDescriptor (T k).2.2.1 = some (ty0 k)) (hnm : ∀ a, a < N → ∀ b, b < N → a ≠ b → (T a).2.1 ≠ (T b).2.1) (hown : s.vm.findClass own = some m.cls) (hK : va_K D cl tys s) (hP : va_P D cl G H) (hD : va_D A G) (hS0 : va_S A H0 H locs) (q0 : Nat) {fs : List Value} (he : G[q0]? = some (a, .inr (ci, fs))) (hc : cl[ci]? = some (C, T, N)) (k : Nat) (hk : k < N) (hlink : (Cond.fieldLink own index ref (T k).2.1 (T k).2.2.1).before args s = true) (hsame : ∀ x, s.fieldFound? (T k).1 (T k).2.1 (T k).2.2.1 = some x → s.fieldFound? ref (T k).2.1 (T k).2.2.1 = some x) (hfin : (T k).2.2.2 = true) (hin2 : meth.name = "<init>") (hdecl : (T k).1 = own) {ty : FieldType} {v : Value} (hd : parseFieldDescriptor (T k).2.2.1 = some ty) (hn : narrow ty v = v) (hfit : fits ty v = true) (hl : k < fs.length)
    (hdg : decode cc pc = .ok (.putfield index, 3)) (kk : ∀ (H1 : Heap) (locs1 : List Loc) (G1 : va_W), va_P D cl G1 H1 → va_D A G1 → va_S A H0 H1 locs1 → G1[q0]? = some (a, .inr (ci, fs.set k v)) → (∀ j, j ≠ q0 → G1[j]? = G[j]?) → W p l e R s m args below meth c H1 locs1 cells slots Q (F0 m (pc + 3) ls rest)) : W p l e R s m args below meth c H locs cells slots Q (F0 m pc ls (v :: .ref a :: rest)) :=
  va_putF hexec hb hts hin ty0 hty hnm hown hK hP hD hS0 q0 he hc k hk hlink hsame hfin hin2 hdecl hd hn hfit hl hdg (fun H1 locs1 h1 h2 h3 => kk H1 locs1 _ h1 h2 h3 (gset_self he) gset_ne)
/-- the clone of the static array FIRST -/
theorem mx_cloneT (hexec : p.tables.exec = Jvm.exec) (hb : c.code = cc) (hml : c.maxLocals = ls.size) {own : String} {index : Nat} (hown : s.vm.findClass own = some m.cls) (hlink : (Cond.methodLink own index ⟨"[I", "clone", "()Ljava/lang/Object;"⟩).before args s = true) (hsame : (Cond.sameMethod "[I" "java/lang/Object" "clone" "()Ljava/lang/Object;").before args s = true) (hnat : (Cond.native ⟨"java/lang/Object", "clone", "()Ljava/lang/Object;"⟩).before args s = true) (hinst : (Cond.instanceMethod ⟨"java/lang/Object", "clone", "()Ljava/lang/Object;"⟩).before args s = true) (hsel : (Cond.selects "[I" ⟨"[I", "clone", "()Ljava/lang/Object;"⟩ ⟨"java/lang/Object", "clone", "()Ljava/lang/Object;"⟩).before args s = true) (hcl : va_Nw (.castable "[I" "java/lang/Cloneable") s)
    (hK : va_K D vwCl (gT cI cZ) s) (hP : va_P D vwCl G H) (hD : va_D A G) (hS : va_S A s.heap H locs) (hA : ∀ q, s.heap.size ≤ q → A q) (hZ : gZ A g s s.heap) (hE : gE cI A g s.heap) (hframes : 1 ≤ R.frames) (hlocals : (rest.map fun v => v.category).sum + 14 ≤ R.locals) (hcells : cells + 1 ≤ R.cells) (hslots : slots + 9 ≤ R.slots) (n : Nat) (hL : G.length = n) (hdg : decode cc pc = .ok (.invokevirtual index, 3))
    (kk : ∀ (q : Nat) (H1 : Heap) (G1 : va_W), va_P D vwCl G1 H1 → va_D A G1 → va_S A s.heap H1 locs → G1[n]? = some (q, .inl (cI, 9, .inl (fun j => (gTab 2).getD j 0))) → (∀ j, j ≠ n → G1[j]? = G[j]?) → W p l e R s m args below meth c H1 locs (cells + 1) (slots + 9) Q (F0 m (pc + 3) ls (.ref q :: rest))) : W p l e R s m args below meth c H locs cells slots Q (F0 m pc ls (.ref (g 2) :: rest)) := by
  obtain ⟨cell, c1, c2, c3, c4⟩ := hE
  obtain ⟨cell', t1, t2, t3, t4, t5, t6, t7⟩ := (hZ 2 (by decide)).2
  obtain rfl : cell = cell' := Option.some.inj (c1.symm.trans t1)
  have hnm : s.vm.findClass "[I" = some cell.cls := by rw [c3]; exact va_nm_int (hK.2 0 (cI, .int) rfl).2
  have hcellE : ({ cls := cell.cls, slots := cell.slots } : Cell) = vp_cell cI (9, .inl (fun j => (gTab 2).getD j 0)) := by
    rw [c3, vp_cell_i]
    unfold arrV
    congr 1
    apply Array.ext
    · rw [c2, Array.size_ofFn]
    · intro i h1 h2
      have h3 := t6 i (by rw [c2] at h1; exact h1)
      rw [Array.getElem?_eq_getElem h1] at h3
      rw [Array.getElem_ofFn]
      exact Option.some.inj h3
  obtain ⟨c0, t0', f1, f2, f3⟩ := Cond.castable_spec (va_Nw.use (A := args) rfl hcl)
  have e0 : cell.cls = c0 := Option.some.inj (hnm.symm.trans f1)
  subst e0
  intro T hT X
  have hcellT : T.heap[g 2]? = some cell := by
    rw [hT]
    exact (hS.2.1 _ (Array.getElem?_eq_some_iff.mp c1).1 c4).trans c1
  obtain ⟨-, kA, hkA, comp, hkind⟩ := State.isArrayOf_alike X.warmed.alike t2
  obtain ⟨-, kS, hkS, compS, hkindS⟩ := id t2
  obtain ⟨vm', X', st⟩ := X.cloneArray hexec hown hlink hsame hnat hinst hsel (a := g 2) (cell := cell) hcellT t2.1 t3 hnm f2 f3
    (fun i v hv => by
      have hk' : T.vm.classes[cell.cls]? = some kA := hkA
      have hi : i < 9 := by rw [← c2]; exact (Array.getElem?_eq_some_iff.mp hv).1
      have hv2 : v = .int ((gTab 2).getD i 0) := Option.some.inj (hv.symm.trans (t6 i hi))
      subst hv2
      simp [State.fitsSlot, State.slotType?, hk', hkind, fits])
    (g := F0 m pc ls (.ref (g 2) :: rest)) rfl (by rw [hml]) rfl (by rw [hb]; exact hdg) hframes (by show 2 * 0 + _ + 14 ≤ _; omega) hcells (by rw [c2]; exact hslots) (hloader := Vm.clonesLoader_of_array hkS hkindS)
  rw [hcellE, c2] at X'
  generalize hH1 : H.push (vp_cell cI (9, .inl (fun j => (gTab 2).getD j 0))) = H1
  have z1 : H1.size = H.size + 1 := by rw [← hH1, Array.size_push]
  have e1 : H1[H.size]? = some (vp_cell cI (9, .inl (fun j => (gTab 2).getD j 0))) := by rw [← hH1, Array.getElem?_push_size]
  have o1 : ∀ q : Nat, q < H.size → H1[q]? = H[q]? := fun q hq => by rw [← hH1, Array.getElem?_push, if_neg (Nat.ne_of_lt hq)]
  have hk : ∀ (k : Nat) (y : Nat × va_E), G[k]? = some y → H1[y.1]? = H[y.1]? := fun k y hy => o1 y.1 ((hP k y hy).lt)
  obtain ⟨t, b1, b2⟩ := kk H.size H1 (G ++ [(H.size, .inl (cI, 9, .inl (fun j => (gTab 2).getD j 0)))]) ((hP.kept hk).app (fun k y hy => by
      have hz : k < 1 := (List.getElem?_eq_some_iff.mp hy).1
      rw [show k = 0 by omega] at hy
      cases hy
      exact e1)) (hD.push hP rfl (hA _ hS.1)) ⟨Nat.le_trans hS.1 (by omega), fun y h1 h2 => (o1 y (Nat.lt_of_lt_of_le h1 hS.1)).trans (hS.2.1 y h1 h2), hS.2.2⟩ (gapp_new hL) (gapp_old hL)
    ((T.setVm vm').pushCell (vp_cell cI (9, .inl (fun j => (gTab 2).getD j 0)))) (by rw [← hH1, ← hT]; rfl) X'
  refine ⟨t, st t ?_, b2⟩
  rw [hcellE, hT]
  exact b1
theorem mx_castT (hexec : p.tables.exec = Jvm.exec) (hb : c.code = cc) {own : String} {index : Nat} (hown : s.vm.findClass own = some m.cls) (hlink : (Cond.classLink own index "[I").before args s = true) (hK : va_K D vwCl (gT cI cZ) s) (hP : va_P D vwCl G H) (q0 : Nat) {x : vp_A} (ha : G[q0]? = some (a, .inl (cI, x))) (hdg : decode cc pc = .ok (.checkcast index, 3))
    (k : W p l e R s m args below meth c H locs cells slots Q (F0 m (pc + 3) ls (.ref a :: rest))) : W p l e R s m args below meth c H locs cells slots Q (F0 m pc ls (.ref a :: rest)) :=
  va_castA hexec hb hown hlink hP q0 ha (va_nm_int (hK.2 0 (cI, .int) rfl).2) hdg k
variable {y : MethodName} {ws : List Cond} {rm : Room} {own : String} {index maxL n nL mc ms : Nat} {bytes : ByteArray} {As : List Value} {Ts : List Cond} {B : va_W → Prop}
theorem gN_blind {av : List Value} : FrameBlind (va_Pc av (gPreN D cI cZ A g G)) := fun a U gg mk q => by
  obtain ⟨q0, ⟨qP, qK, qN, qZ⟩, qA, qE⟩ := q
  exact ⟨q0, ⟨qP, va_K.moved (u := U) (U := U.calling gg mk a) (Vm.Alike.refl U.vm) qK, gN.same (u := U) (U := U.calling gg mk a) rfl qN, gZ.moved (u := U) (U := U.calling gg mk a) (Vm.Alike.refl U.vm) qZ⟩, qA, qE⟩
theorem mx_cI (S : CallFix p m c cc nL s args Ts own) (hM : gNv l D cI cZ A g y ws rm (.ref b :: As) G B mc ms) (cw : CallB R s args own index y bytes maxL none ws rm mc ms n ∧ y.name = "<init>" ∧ (Cond.instanceMethod y).before args s = true) (hK : va_K D vwCl (gT cI cZ) s) (hN : gN s) (hZ : gZ A g s s.heap) (hA : ∀ q, s.heap.size ≤ q → A q) (hE : gE cI A g s.heap) (hP : va_P D vwCl G H) (hS : va_S A s.heap H locs) (hn : As.length = n) (hsize : ls.size = nL) (hstack : st0 = As.reverse ++ .ref b :: rest) (hW : (rest.map fun v => v.category).sum ≤ 8) (hdg : decode cc pc = .ok (.invokespecial index, 3)) (hf : cells + mc ≤ R.cells ∧ slots + ms ≤ R.slots)
    (kk : ∀ (G1 : va_W) (H1 : Heap) (locs1 : List Loc), va_P D vwCl G1 H1 → va_D A G1 → va_S A s.heap H1 locs1 → B G1 → W p l e R s m args below meth c H1 locs1 (cells + mc) (slots + ms) Q (F0 m (pc + 3) ls rest)) : W p l e R s m args below meth c H locs cells slots Q (F0 m pc ls st0) := by
  refine va_callv (va_runI (As := As) (rest := rest) S hM cw ⟨gN_blind, fun U hU hW => ⟨rfl, g_env hK hN hZ hP hS U hU hW, fun q hq => hA q (Nat.le_trans hS.1 (by rw [← hU]; exact hq)), by rw [hU]; exact hE.kept (fun a h1 h2 => hS.2.1 a h1 h2)⟩⟩ rfl hn hsize hstack (lv_room hW) hdg hf) hS (fun q _ h => h) (fun q h => h) (fun G1 t H1 locs1 ht hvm hw hB hz1 hk1 hS1 => ?_)
  obtain ⟨h1, h2⟩ := hB
  rw [ht] at h1
  exact kk G1 H1 locs1 h1 h2 hS1 hw
theorem gofN {ws' : List Cond} {av : List Value} {G0 : va_W} (hy : plainName y.cls = true) (hyn : y.name = "<init>") (hw : ws = Cond.code y cc maxL none :: ws') (hfit : (lg_sl av).length ≤ maxL)
    (body : ∀ (p : Program) (e : Env) (s : State) (m : MethodId) (args : Array Value) (below : List Frame) (meth : Method) (c : Code) (Q : State → Prop), p.tables.exec = Jvm.exec → c.code = cc → c.maxLocals = maxL → (∀ w ∈ ws, w.before args s = true) → s.vm.findClass y.cls = some m.cls → meth.name = "<init>" → va_K D vwCl (gT cI cZ) s → gN s → gZ A g s s.heap → (∀ q, s.heap.size ≤ q → A q) → gE cI A g s.heap → va_P D vwCl G0 s.heap → va_S A s.heap s.heap [] →
      (∀ (pc : Nat) (G : va_W) (H : Heap) (locs : List Loc) (ls : Array Slot), va_P D vwCl G H → va_D A G → va_S A s.heap H locs → B G → decode cc pc = .ok (.return_, 1) → W p l e rm s m args below meth c H locs mc ms Q (F0 m pc ls [])) →
      ∀ ls : Array Slot, lv_has ls maxL (lv_args 0 av) → W p l e rm s m args below meth c s.heap [] 0 0 Q (F0 m 0 ls [])) : gNv l D cI cZ A g y ws rm av G0 B mc ms := by
  refine Met.ofW (cc := cc) (maxL := maxL) (ret := none) hy hw ?_
  intro p e s m args below meth c s₁ Bd hml hv
  obtain ⟨rfl, ⟨hP, hK, hN, hZ⟩, hA, hE⟩ := hv
  have hlocks := Bd.notSynchronized
  have hl := lv_entry av (n := maxL) hfit
  rw [lg_entry_eq]
  generalize (lg_sl av ++ List.replicate (maxL - (lg_sl av).length) Slot.unset).toArray = ls at hl ⊢
  refine body p e s m _ below meth c _ Bd.exec Bd.bytes hml (atoms_spec (ws := ws) Bd.pre) (findClass_of_methodNamed Bd.named) ((name_of_methodNamed Bd.named Bd.method).1.trans hyn) hK hN hZ hA hE hP va_S.rf ?_ ls hl
  intro pc G H locs ls hP hD hS hB hdg
  exact W.vret Bd.exec Bd.bytes Bd.returns (fun t ht _ => ⟨⟨G, rfl, hB, by rw [ht]; exact hP, hD⟩, hS.F ht⟩) hS.2.2 hdg hlocks
end MN
