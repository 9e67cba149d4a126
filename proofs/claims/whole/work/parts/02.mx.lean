/-! my own rows over the kit: worlds by fixed places, contracts of one form -/
/-- the words of nest mates that are carried as facts of the tables -/
def gNestW : List Cond := [.fieldLinkNest "InkPress" 105 "InkPress$SheetLog" "count" "I" "InkPress", .fieldLinkNest "InkPress" 138 "InkPress$Zones" "count" "I" "InkPress", .fieldLinkNest "InkPress" 139 "InkPress$SheetLog" "goodCount" "I" "InkPress", .fieldLinkNest "InkPress" 142 "InkPress$SheetLog" "start" "I" "InkPress", .fieldLinkNest "InkPress" 145 "InkPress$Train" "fed" "I" "InkPress", .fieldLinkNest "InkPress" 152 "InkPress$Train" "onPaper" "I" "InkPress", .fieldLinkNest "InkPress" 155 "InkPress$Train" "onBars" "I" "InkPress", .fieldLinkNest "InkPress" 158 "InkPress$PastJobs" "count" "I" "InkPress", .methodLinkNest "InkPress$Jobs" 27 ⟨"InkPress", "within", "(III)Z"⟩ "InkPress", .methodLinkNest "InkPress$Marks" 24 ⟨"InkPress", "within", "(III)Z"⟩ "InkPress", .methodLinkNest "InkPress$PastJobs" 28 ⟨"InkPress", "held", "(JII)I"⟩ "InkPress", .methodLinkNest "InkPress$Rules" 27 ⟨"InkPress", "within", "(III)Z"⟩ "InkPress", .methodLinkNest "InkPress$Zones" 29 ⟨"InkPress", "within", "(III)Z"⟩ "InkPress", .castable "[I" "java/lang/Cloneable"]
def gN (U : State) : Prop := ∀ w ∈ gNestW, va_Nw w U
theorem gNest_tabs : ∀ w ∈ gNestW, w.onTables = true := by decide +kernel
theorem gN.same {u U : State} (h : u.vm = U.vm) (hN : gN u) : gN U := fun w hw => va_Nw.same (gNest_tabs w hw) h (hN w hw)
theorem gN.warm {s U : State} (hW : s.WarmedH U.vm) (hN : gN s) : gN U := by
  intro w hw
  have h1 := hN w hw
  simp only [gNestW, List.mem_cons, List.not_mem_nil, or_false] at hw
  rcases hw with rfl | rfl | rfl | rfl | rfl | rfl | rfl | rfl | rfl | rfl | rfl | rfl | rfl | rfl
  all_goals first | exact va_Nw.warmF hW h1 | exact va_Nw.warmM hW h1 | exact va_Nw.warmC hW h1
/-- the static tables: which they are, and what they hold -/
def gTab (k : Nat) : List Int32 := match k with
  | 0 => [1, 1, 0, 1, 1, 1, 0, 1, 1]
  | 1 => [20, 90, 40, 90, 200, 100, 500, 50, 20]
  | 2 => [10, 50, 10, 40, 50, 10, 10, 5, 2]
  | 3 => [100, 100, 1000]
  | _ => [0, 20, 100]
def gTabC (k : Nat) : String := if k < 3 then "InkPress$Rules" else "InkPress$Zones"
def gTabN (k : Nat) : String := match k with
  | 0 => "LEAST"
  | 1 => "MOST"
  | 2 => "FIRST"
  | 3 => "MOST"
  | _ => "FIRST"
def gZ (A : Nat → Prop) (g : Nat → Nat) (U : State) (H : Heap) : Prop := ∀ k, k < 5 → va_Z (gTabC k) (gTabN k) "[I" (.ref (g k)) A U H ∧ va_T .int (g k) (gTab k).length (fun j => .int ((gTab k).getD j 0)) A U H
theorem gZ.moved {A : Nat → Prop} {g : Nat → Nat} {u U : State} {H : Heap} (hvm : u.vm.Alike U.vm) (h : gZ A g u H) : gZ A g U H := fun k hk => ⟨(h k hk).1.moved hvm, (h k hk).2.moved hvm⟩
theorem gZ.kept {A : Nat → Prop} {g : Nat → Nat} {U : State} {H H1 : Heap} (h : gZ A g U H) (hq : ∀ a : Nat, a < H.size → ¬ A a → H1[a]? = H[a]?) : gZ A g U H1 := fun k hk => ⟨(h k hk).1.kept hq, (h k hk).2.kept hq⟩
abbrev gT (cI cZ : ClassId) : List (ClassId × FieldType) := [(cI, .int), (cZ, .boolean)]
/-- a method's start: the world, the classes, the nest, the tables -/
def gPre (D : va_G) (cI cZ : ClassId) (A : Nat → Prop) (g : Nat → Nat) (G : va_W) (U : State) : Prop := va_P D vwCl G U.heap ∧ va_K D vwCl (gT cI cZ) U ∧ gN U ∧ gZ A g U U.heap
def gB (b : Bool) : Int32 := if b then 1 else 0
abbrev gMi (l : Launch) (D : va_G) (cI cZ : ClassId) (A : Nat → Prop) (g : Nat → Nat) (y : MethodName) (ws : List Cond) (rm : Room) (av : List Value) (G : va_W) (Rv : Int32) (B : va_W → Prop) : Prop :=
  Met l y ws rm (va_Pc av (gPre D cI cZ A g G)) (va_Qi (fun r (G1 : va_W) => r = Rv ∧ B G1) (fun G1 t => va_P D vwCl G1 t.heap ∧ va_D A G1) A) 0 0 A
abbrev gMl (l : Launch) (D : va_G) (cI cZ : ClassId) (A : Nat → Prop) (g : Nat → Nat) (y : MethodName) (ws : List Cond) (rm : Room) (av : List Value) (G : va_W) (Rv : Int64) (B : va_W → Prop) : Prop :=
  Met l y ws rm (va_Pc av (gPre D cI cZ A g G)) (va_Ql (fun r (G1 : va_W) => r = Rv ∧ B G1) (fun G1 t => va_P D vwCl G1 t.heap ∧ va_D A G1) A) 0 0 A
abbrev gMv (l : Launch) (D : va_G) (cI cZ : ClassId) (A : Nat → Prop) (g : Nat → Nat) (y : MethodName) (ws : List Cond) (rm : Room) (av : List Value) (G : va_W) (B : va_W → Prop) : Prop :=
  Met l y ws rm (va_Pc av (gPre D cI cZ A g G)) (va_Qv (fun (G1 : va_W) => B G1) (fun G1 t => va_P D vwCl G1 t.heap ∧ va_D A G1) A) 0 0 A
/-- where the walk stands: the world in the heap, apart, nothing else changed -/
theorem gk_step {ks : List Nat} {G0 G1 G2 : va_W} {i : Nat} (hk : ∀ k, k ∉ ks → G1[k]? = G0[k]?) (ho : ∀ k, k ≠ i → G2[k]? = G1[k]?) (h : i ∈ ks) : ∀ k, k ∉ ks → G2[k]? = G0[k]? := fun k q => (ho k (fun z => q (z ▸ h))).trans (hk k q)
theorem gk_call {ks ks' : List Nat} {G0 G1 G2 : va_W} (hk : ∀ k, k ∉ ks → G1[k]? = G0[k]?) (ho : ∀ k, k ∉ ks' → G2[k]? = G1[k]?) (h : ∀ k ∈ ks', k ∈ ks) : ∀ k, k ∉ ks → G2[k]? = G0[k]? := fun k q => (ho k (fun z => q (h k z))).trans (hk k q)
theorem gset_self {G : va_W} {i : Nat} {x y : Nat × va_E} (h : G[i]? = some x) : (G.set i y)[i]? = some y := by
  have hl : i < G.length := (List.getElem?_eq_some_iff.mp h).1
  simp [hl]
theorem gset_ne {G : va_W} {i : Nat} {y : Nat × va_E} : ∀ k, k ≠ i → (G.set i y)[k]? = G[k]? := fun k hk => by
  rw [List.getElem?_set_ne (fun h => hk h.symm)]
section MX
variable {p : Program} {l : Launch} {e : Env} {R : Room} {s : State} {m : MethodId} {args : Array Value} {below : List Frame} {meth : Method} {c : Code} {H : Heap} {locs : List Loc} {cells slots : Nat} {Q : State → Prop}
variable {cc : ByteArray} {pc : Nat} {ls : Array Slot} {rest : List Value} {D : va_G} {A : Nat → Prop} {a : Nat} {G : va_W} {H0 : Heap} {cI cZ : ClassId} {g : Nat → Nat}
theorem mx_put {cl : List vw_C} {tys : List (ClassId × FieldType)} (hexec : p.tables.exec = Jvm.exec) (hb : c.code = cc) {own ref C : String} {T : u_T} {N ci index : Nat} {Ts : List Cond} (hts : ∀ w ∈ Ts, w.before args s = true) (hin : ∀ w ∈ u_ws C T N, w ∈ Ts) (ty0 : Nat → FieldType) (hty : ∀ k, k < N → parseFieldDescriptor (T k).2.2.1 = some (ty0 k)) (hnm : ∀ a, a < N → ∀ b, b < N → a ≠ b → (T a).2.1 ≠ (T b).2.1) (hown : s.vm.findClass own = some m.cls) (hK : va_K D cl tys s) (hP : va_P D cl G H) (hD : va_D A G) (hS0 : va_S A H0 H locs) (q0 : Nat) {fs : List Value} (he : G[q0]? = some (a, .inr (ci, fs))) (hc : cl[ci]? = some (C, T, N)) (k : Nat) (hk : k < N) (hlink : (Cond.fieldLink own index ref (T k).2.1 (T k).2.2.1).before args s = true) (hsame : ∀ x, s.fieldFound? (T k).1 (T k).2.1 (T k).2.2.1 = some x → s.fieldFound? ref (T k).2.1 (T k).2.2.1 = some x) (hfin : (T k).2.2.2 = false) {ty : FieldType} {v : Value} (hd : parseFieldDescriptor (T k).2.2.1 = some ty) (hn : narrow ty v = v) (hfit : fits ty v = true) (hl : k < fs.length)
    (hdg : decode cc pc = .ok (.putfield index, 3)) (kk : ∀ (H1 : Heap) (locs1 : List Loc) (G1 : va_W), va_P D cl G1 H1 → va_D A G1 → va_S A H0 H1 locs1 → G1[q0]? = some (a, .inr (ci, fs.set k v)) → (∀ j, j ≠ q0 → G1[j]? = G[j]?) → W p l e R s m args below meth c H1 locs1 cells slots Q (F0 m (pc + 3) ls rest)) : W p l e R s m args below meth c H locs cells slots Q (F0 m pc ls (v :: .ref a :: rest)) :=
  va_put hexec hb hts hin ty0 hty hnm hown hK hP hD hS0 q0 he hc k hk hlink hsame hfin hd hn hfit hl hdg (fun H1 locs1 h1 h2 h3 => kk H1 locs1 _ h1 h2 h3 (gset_self he) gset_ne)
theorem mx_iald (hexec : p.tables.exec = Jvm.exec) (hb : c.code = cc) (hK : va_K D vwCl (gT cI cZ) s) (hP : va_P D vwCl G H) (q0 : Nat) {n : Nat} {f : Nat → Int32} (ha : G[q0]? = some (a, .inl (cI, n, .inl f))) (k : Nat) (hk : k < n) (hn : n < 2 ^ 31) (hdg : decode cc pc = .ok (.iaload, 1))
    (kk : W p l e R s m args below meth c H locs cells slots Q (F0 m (pc + 1) ls (.int (f k) :: rest))) : W p l e R s m args below meth c H locs cells slots Q (F0 m pc ls (.int (nI k) :: .ref a :: rest)) := by
  refine va_iald hexec hb hK hP q0 0 ha rfl (vp_in_nI hk hn) hdg ?_
  rw [nI_clamp (Nat.lt_trans hk hn)]
  exact kk
theorem mx_zald (hexec : p.tables.exec = Jvm.exec) (hb : c.code = cc) (hK : va_K D vwCl (gT cI cZ) s) (hP : va_P D vwCl G H) (q0 : Nat) {n : Nat} {f : Nat → Int32} (ha : G[q0]? = some (a, .inl (cZ, n, .inl f))) (k : Nat) (hk : k < n) (hn : n < 2 ^ 31) (hdg : decode cc pc = .ok (.baload, 1))
    (kk : W p l e R s m args below meth c H locs cells slots Q (F0 m (pc + 1) ls (.int (f k) :: rest))) : W p l e R s m args below meth c H locs cells slots Q (F0 m pc ls (.int (nI k) :: .ref a :: rest)) := by
  refine va_zald hexec hb hK hP q0 1 ha rfl (vp_in_nI hk hn) hdg ?_
  rw [nI_clamp (Nat.lt_trans hk hn)]
  exact kk
theorem mx_iast (hexec : p.tables.exec = Jvm.exec) (hb : c.code = cc) (hK : va_K D vwCl (gT cI cZ) s) (hP : va_P D vwCl G H) (hD : va_D A G) (hS : va_S A H0 H locs) (q0 : Nat) {n : Nat} {f : Nat → Int32} (ha : G[q0]? = some (a, .inl (cI, n, .inl f))) (k : Nat) (hk : k < n) (hn : n < 2 ^ 31) {x : Int32} (hdg : decode cc pc = .ok (.iastore, 1))
    (kk : ∀ (H1 : Heap) (locs1 : List Loc) (G1 : va_W), va_P D vwCl G1 H1 → va_D A G1 → va_S A H0 H1 locs1 → G1[q0]? = some (a, .inl (cI, n, .inl (upd f k x))) → (∀ j, j ≠ q0 → G1[j]? = G[j]?) → W p l e R s m args below meth c H1 locs1 cells slots Q (F0 m (pc + 1) ls rest)) : W p l e R s m args below meth c H locs cells slots Q (F0 m pc ls (.int x :: .int (nI k) :: .ref a :: rest)) := by
  refine va_iast hexec hb hK hP hD hS q0 0 ha rfl (vp_in_nI hk hn) hdg ?_
  rw [nI_clamp (Nat.lt_trans hk hn)]
  exact fun H1 locs1 h1 h2 h3 => kk H1 locs1 _ h1 h2 h3 (gset_self ha) gset_ne
theorem mx_zast (hexec : p.tables.exec = Jvm.exec) (hb : c.code = cc) (hK : va_K D vwCl (gT cI cZ) s) (hP : va_P D vwCl G H) (hD : va_D A G) (hS : va_S A H0 H locs) (q0 : Nat) {n : Nat} {f : Nat → Int32} (ha : G[q0]? = some (a, .inl (cZ, n, .inl f))) (k : Nat) (hk : k < n) (hn : n < 2 ^ 31) {x : Int32} (hx : vp_nar .boolean x = x) (hdg : decode cc pc = .ok (.bastore, 1))
    (kk : ∀ (H1 : Heap) (locs1 : List Loc) (G1 : va_W), va_P D vwCl G1 H1 → va_D A G1 → va_S A H0 H1 locs1 → G1[q0]? = some (a, .inl (cZ, n, .inl (upd f k x))) → (∀ j, j ≠ q0 → G1[j]? = G[j]?) → W p l e R s m args below meth c H1 locs1 cells slots Q (F0 m (pc + 1) ls rest)) : W p l e R s m args below meth c H locs cells slots Q (F0 m pc ls (.int x :: .int (nI k) :: .ref a :: rest)) := by
  refine va_zast hexec hb hK hP hD hS q0 1 ha rfl (vp_in_nI hk hn) hdg ?_
  rw [nI_clamp (Nat.lt_trans hk hn), hx]
  exact fun H1 locs1 h1 h2 h3 => kk H1 locs1 _ h1 h2 h3 (gset_self ha) gset_ne
theorem mx_iadd (hexec : p.tables.exec = Jvm.exec) (hb : c.code = cc) {x y : Nat} (hdg : decode cc pc = .ok (.iadd, 1)) (k : W p l e R s m args below meth c H locs cells slots Q (F0 m (pc + 1) ls (.int (nI (x + y)) :: rest))) : W p l e R s m args below meth c H locs cells slots Q (F0 m pc ls (.int (nI y) :: .int (nI x) :: rest)) := lv_iadd hexec hb hdg (by rw [nI_add]; exact k)
theorem mx_imul (hexec : p.tables.exec = Jvm.exec) (hb : c.code = cc) {x y : Nat} (hdg : decode cc pc = .ok (.imul, 1)) (k : W p l e R s m args below meth c H locs cells slots Q (F0 m (pc + 1) ls (.int (nI (x * y)) :: rest))) : W p l e R s m args below meth c H locs cells slots Q (F0 m pc ls (.int (nI y) :: .int (nI x) :: rest)) := lv_imul hexec hb hdg (by rw [pk_mul]; exact k)
theorem mx_isub (hexec : p.tables.exec = Jvm.exec) (hb : c.code = cc) {x y : Nat} (h : y ≤ x) (hdg : decode cc pc = .ok (.isub, 1)) (k : W p l e R s m args below meth c H locs cells slots Q (F0 m (pc + 1) ls (.int (nI (x - y)) :: rest))) : W p l e R s m args below meth c H locs cells slots Q (F0 m pc ls (.int (nI y) :: .int (nI x) :: rest)) := lv_isub hexec hb hdg (by rw [pk_sub h]; exact k)
theorem mx_idiv (hexec : p.tables.exec = Jvm.exec) (hb : c.code = cc) {x y : Nat} (hx : x < 2 ^ 31) (h0 : 0 < y) (hy : y < 2 ^ 31) (hdg : decode cc pc = .ok (.idiv, 1)) (k : W p l e R s m args below meth c H locs cells slots Q (F0 m (pc + 1) ls (.int (nI (x / y)) :: rest))) : W p l e R s m args below meth c H locs cells slots Q (F0 m pc ls (.int (nI y) :: .int (nI x) :: rest)) := lv_idiv hexec hb hdg (nI_ne0 h0 hy) (by rw [pk_div hx h0 hy]; exact k)
theorem mx_irem (hexec : p.tables.exec = Jvm.exec) (hb : c.code = cc) {x y : Nat} (hx : x < 2 ^ 31) (h0 : 0 < y) (hy : y < 2 ^ 31) (hdg : decode cc pc = .ok (.irem, 1)) (k : W p l e R s m args below meth c H locs cells slots Q (F0 m (pc + 1) ls (.int (nI (x % y)) :: rest))) : W p l e R s m args below meth c H locs cells slots Q (F0 m pc ls (.int (nI y) :: .int (nI x) :: rest)) := lv_irem hexec hb hdg (nI_ne0 h0 hy) (by rw [pk_rem hx h0 hy]; exact k)
theorem mx_cge (hexec : p.tables.exec = Jvm.exec) (hb : c.code = cc) {x y : Nat} {off : Int} {tgt : Nat} (hx : x < 2 ^ 31) (hy : y < 2 ^ 31) (hdg : decode cc pc = .ok (.if_icmp .ge off, 3)) (ht : (pc : Int) + off = (tgt : Int)) (kt : y ≤ x → W p l e R s m args below meth c H locs cells slots Q (F0 m tgt ls rest)) (kf : x < y → W p l e R s m args below meth c H locs cells slots Q (F0 m (pc + 3) ls rest)) : W p l e R s m args below meth c H locs cells slots Q (F0 m pc ls (.int (nI y) :: .int (nI x) :: rest)) := lv_icmp_ge hexec hb hdg ht (fun h => kt ((nI_leI hy hx).mp h)) (fun h => kf (Nat.not_le.mp fun q => h ((nI_leI hy hx).mpr q)))
theorem mx_clt (hexec : p.tables.exec = Jvm.exec) (hb : c.code = cc) {x y : Nat} {off : Int} {tgt : Nat} (hx : x < 2 ^ 31) (hy : y < 2 ^ 31) (hdg : decode cc pc = .ok (.if_icmp .lt off, 3)) (ht : (pc : Int) + off = (tgt : Int)) (kt : x < y → W p l e R s m args below meth c H locs cells slots Q (F0 m tgt ls rest)) (kf : y ≤ x → W p l e R s m args below meth c H locs cells slots Q (F0 m (pc + 3) ls rest)) : W p l e R s m args below meth c H locs cells slots Q (F0 m pc ls (.int (nI y) :: .int (nI x) :: rest)) := lv_icmp_lt hexec hb hdg ht (fun h => kt ((nI_ltI hx hy).mp h)) (fun h => kf (Nat.not_lt.mp fun q => h ((nI_ltI hx hy).mpr q)))
theorem mx_cgt (hexec : p.tables.exec = Jvm.exec) (hb : c.code = cc) {x y : Nat} {off : Int} {tgt : Nat} (hx : x < 2 ^ 31) (hy : y < 2 ^ 31) (hdg : decode cc pc = .ok (.if_icmp .gt off, 3)) (ht : (pc : Int) + off = (tgt : Int)) (kt : y < x → W p l e R s m args below meth c H locs cells slots Q (F0 m tgt ls rest)) (kf : x ≤ y → W p l e R s m args below meth c H locs cells slots Q (F0 m (pc + 3) ls rest)) : W p l e R s m args below meth c H locs cells slots Q (F0 m pc ls (.int (nI y) :: .int (nI x) :: rest)) := lv_icmp_gt hexec hb hdg ht (fun h => kt ((nI_ltI hy hx).mp h)) (fun h => kf (Nat.not_lt.mp fun q => h ((nI_ltI hy hx).mpr q)))
theorem mx_cle (hexec : p.tables.exec = Jvm.exec) (hb : c.code = cc) {x y : Nat} {off : Int} {tgt : Nat} (hx : x < 2 ^ 31) (hy : y < 2 ^ 31) (hdg : decode cc pc = .ok (.if_icmp .le off, 3)) (ht : (pc : Int) + off = (tgt : Int)) (kt : x ≤ y → W p l e R s m args below meth c H locs cells slots Q (F0 m tgt ls rest)) (kf : y < x → W p l e R s m args below meth c H locs cells slots Q (F0 m (pc + 3) ls rest)) : W p l e R s m args below meth c H locs cells slots Q (F0 m pc ls (.int (nI y) :: .int (nI x) :: rest)) := lv_icmp_le hexec hb hdg ht (fun h => kt ((nI_leI hx hy).mp h)) (fun h => kf (Nat.not_le.mp fun q => h ((nI_leI hx hy).mpr q)))
theorem mx_ceq (hexec : p.tables.exec = Jvm.exec) (hb : c.code = cc) {x y : Nat} {off : Int} {tgt : Nat} (hx : x < 2 ^ 31) (hy : y < 2 ^ 31) (hdg : decode cc pc = .ok (.if_icmp .eq off, 3)) (ht : (pc : Int) + off = (tgt : Int)) (kt : x = y → W p l e R s m args below meth c H locs cells slots Q (F0 m tgt ls rest)) (kf : x ≠ y → W p l e R s m args below meth c H locs cells slots Q (F0 m (pc + 3) ls rest)) : W p l e R s m args below meth c H locs cells slots Q (F0 m pc ls (.int (nI y) :: .int (nI x) :: rest)) := lv_icmp_eq hexec hb hdg ht (fun h => kt ((nI_eq hx hy).mp h)) (fun h => kf (fun q => h ((nI_eq hx hy).mpr q)))
theorem mx_cne (hexec : p.tables.exec = Jvm.exec) (hb : c.code = cc) {x y : Nat} {off : Int} {tgt : Nat} (hx : x < 2 ^ 31) (hy : y < 2 ^ 31) (hdg : decode cc pc = .ok (.if_icmp .ne off, 3)) (ht : (pc : Int) + off = (tgt : Int)) (kt : x ≠ y → W p l e R s m args below meth c H locs cells slots Q (F0 m tgt ls rest)) (kf : x = y → W p l e R s m args below meth c H locs cells slots Q (F0 m (pc + 3) ls rest)) : W p l e R s m args below meth c H locs cells slots Q (F0 m pc ls (.int (nI y) :: .int (nI x) :: rest)) := lv_icmp_ne hexec hb hdg ht (fun h => kt (fun q => h ((nI_eq hx hy).mpr q))) (fun h => kf ((nI_eq hx hy).mp h))
theorem mx_beq (hexec : p.tables.exec = Jvm.exec) (hb : c.code = cc) {x : Bool} {off : Int} {tgt : Nat} (hdg : decode cc pc = .ok (.ifCond .eq off, 3)) (ht : (pc : Int) + off = (tgt : Int)) (kt : x = false → W p l e R s m args below meth c H locs cells slots Q (F0 m tgt ls rest)) (kf : x = true → W p l e R s m args below meth c H locs cells slots Q (F0 m (pc + 3) ls rest)) : W p l e R s m args below meth c H locs cells slots Q (F0 m pc ls (.int (gB x) :: rest)) := lv_if_eq hexec hb hdg ht (fun h => kt (by cases x; rfl; exact absurd h (by decide))) (fun h => kf (by cases x; exact absurd rfl h; rfl))
theorem mx_bne (hexec : p.tables.exec = Jvm.exec) (hb : c.code = cc) {x : Bool} {off : Int} {tgt : Nat} (hdg : decode cc pc = .ok (.ifCond .ne off, 3)) (ht : (pc : Int) + off = (tgt : Int)) (kt : x = true → W p l e R s m args below meth c H locs cells slots Q (F0 m tgt ls rest)) (kf : x = false → W p l e R s m args below meth c H locs cells slots Q (F0 m (pc + 3) ls rest)) : W p l e R s m args below meth c H locs cells slots Q (F0 m pc ls (.int (gB x) :: rest)) := lv_if_ne hexec hb hdg ht (fun h => kt (by cases x; exact absurd rfl h; rfl)) (fun h => kf (by cases x; rfl; exact absurd h (by decide)))
theorem mx_neq (hexec : p.tables.exec = Jvm.exec) (hb : c.code = cc) {x : Nat} {off : Int} {tgt : Nat} (hx : x < 2 ^ 31) (hdg : decode cc pc = .ok (.ifCond .eq off, 3)) (ht : (pc : Int) + off = (tgt : Int)) (kt : x = 0 → W p l e R s m args below meth c H locs cells slots Q (F0 m tgt ls rest)) (kf : x ≠ 0 → W p l e R s m args below meth c H locs cells slots Q (F0 m (pc + 3) ls rest)) : W p l e R s m args below meth c H locs cells slots Q (F0 m pc ls (.int (nI x) :: rest)) := lv_if_eq hexec hb hdg ht (fun h => kt ((nI_eq hx (by decide)).mp (by rw [nI_0]; exact h))) (fun h => kf (fun q => h (by rw [q]; rfl)))
theorem mx_nne (hexec : p.tables.exec = Jvm.exec) (hb : c.code = cc) {x : Nat} {off : Int} {tgt : Nat} (hx : x < 2 ^ 31) (hdg : decode cc pc = .ok (.ifCond .ne off, 3)) (ht : (pc : Int) + off = (tgt : Int)) (kt : x ≠ 0 → W p l e R s m args below meth c H locs cells slots Q (F0 m tgt ls rest)) (kf : x = 0 → W p l e R s m args below meth c H locs cells slots Q (F0 m (pc + 3) ls rest)) : W p l e R s m args below meth c H locs cells slots Q (F0 m pc ls (.int (nI x) :: rest)) := lv_if_ne hexec hb hdg ht (fun h => kt (fun q => h (by rw [q]; rfl))) (fun h => kf ((nI_eq hx (by decide)).mp (by rw [nI_0]; exact h)))
theorem mx_nle (hexec : p.tables.exec = Jvm.exec) (hb : c.code = cc) {x : Nat} {off : Int} {tgt : Nat} (hx : x < 2 ^ 31) (hdg : decode cc pc = .ok (.ifCond .le off, 3)) (ht : (pc : Int) + off = (tgt : Int)) (kt : x = 0 → W p l e R s m args below meth c H locs cells slots Q (F0 m tgt ls rest)) (kf : 0 < x → W p l e R s m args below meth c H locs cells slots Q (F0 m (pc + 3) ls rest)) : W p l e R s m args below meth c H locs cells slots Q (F0 m pc ls (.int (nI x) :: rest)) := lv_if_le hexec hb hdg ht (fun h => kt (Nat.le_zero.mp ((nI_leI hx (by decide)).mp (by rw [nI_0]; exact h)))) (fun h => kf (Nat.pos_of_ne_zero (fun q => h (by rw [q, nI_0]; decide))))
end MX
theorem lg_lt {x y : Int64} : lg_cmp x y < 0 ↔ x < y := by
  unfold lg_cmp
  rcases Int64.lt_or_le x y with q | q
  · rw [if_neg (Int64.not_lt.mpr (Int64.le_of_lt q)), if_neg (fun z => Int64.lt_irrefl (z ▸ q))]
    exact ⟨fun _ => q, fun _ => by decide⟩
  · refine ⟨fun h => ?_, fun h => absurd q (Int64.not_le.mpr h)⟩
    by_cases q2 : y < x
    · rw [if_pos q2] at h
      exact absurd h (by decide)
    · rw [if_neg q2, if_pos (Int64.le_antisymm (Int64.not_lt.mp q2) q)] at h
      exact absurd h (by decide)
theorem lg_gt {x y : Int64} : 0 < lg_cmp x y ↔ y < x := by
  unfold lg_cmp
  by_cases q2 : y < x
  · rw [if_pos q2]
    exact ⟨fun _ => q2, fun _ => by decide⟩
  · rw [if_neg q2]
    by_cases q3 : x = y
    · rw [if_pos q3]
      exact ⟨fun h => absurd h (by decide), fun h => absurd h q2⟩
    · rw [if_neg q3]
      exact ⟨fun h => absurd h (by decide), fun h => absurd h q2⟩
theorem lg_ge {x y : Int64} : 0 ≤ lg_cmp x y ↔ y ≤ x := by
  rw [← Int32.not_lt, lg_lt, Int64.not_lt]
theorem lg_le {x y : Int64} : lg_cmp x y ≤ 0 ↔ x ≤ y := by
  rw [← Int32.not_lt, lg_gt, Int64.not_lt]
theorem lg_eq {x y : Int64} : lg_cmp x y = 0 ↔ x = y := by
  constructor
  · intro h
    exact Int64.le_antisymm (lg_le.mp (by rw [h]; decide)) (lg_ge.mp (by rw [h]; decide))
  · intro h
    subst h
    unfold lg_cmp
    rw [if_neg Int64.lt_irrefl, if_pos rfl]
section MC
variable {p : Program} {l : Launch} {e : Env} {R : Room} {s : State} {m : MethodId} {args : Array Value} {below : List Frame} {meth : Method} {c : Code} {H : Heap} {locs : List Loc} {cells slots : Nat} {Q : State → Prop}
variable {cc : ByteArray} {pc : Nat} {ls : Array Slot} {rest st0 : List Value} {D : va_G} {A : Nat → Prop} {a b : Nat} {G : va_W} {cI cZ : ClassId} {g : Nat → Nat}
variable {y : MethodName} {ws : List Cond} {rm : Room} {own C host : String} {index maxL n nL ci : Nat} {bytes : ByteArray} {ret : Option FieldType} {As : List Value} {Ts : List Cond} {fs : List Value} {q : vw_C} {B : va_W → Prop}
theorem g_blind {av : List Value} : FrameBlind (va_Pc av (gPre D cI cZ A g G)) := fun a U gg mk q => by
  obtain ⟨q0, qP, qK, qN, qZ⟩ := q
  exact ⟨q0, qP, va_K.moved (u := U) (U := U.calling gg mk a) (Vm.Alike.refl U.vm) qK, gN.same (u := U) (U := U.calling gg mk a) rfl qN, gZ.moved (u := U) (U := U.calling gg mk a) (Vm.Alike.refl U.vm) qZ⟩
theorem g_env (hK : va_K D vwCl (gT cI cZ) s) (hN : gN s) (hZ : gZ A g s s.heap) (hP : va_P D vwCl G H) (hS : va_S A s.heap H locs) : ∀ U : State, U.heap = H → s.WarmedH U.vm → gPre D cI cZ A g G U := fun U hU hW => ⟨by rw [hU]; exact hP, va_K.moved hW.alike hK, gN.warm hW hN, by rw [hU]; exact (hZ.kept (fun a h1 h2 => hS.2.1 a h1 h2)).moved hW.alike⟩
theorem mx_cVi {Rv : Int32} (S : CallFix p m c cc nL s args Ts own) (hM : gMi l D cI cZ A g y ws rm (.ref b :: As) G Rv B) (cw : CallW R s args own C index y bytes maxL ret ws rm 0 0 n) (q0 : Nat) (hc : vwCl[ci]? = some q) (hC : q.1 = C) (he : G[q0]? = some (b, .inr (ci, fs))) (hK : va_K D vwCl (gT cI cZ) s) (hN : gN s) (hZ : gZ A g s s.heap) (hP : va_P D vwCl G H) (hS : va_S A s.heap H locs) (hn : As.length = n) (hsize : ls.size = nL) (hstack : st0 = As.reverse ++ .ref b :: rest) (hW : (rest.map fun v => v.category).sum ≤ 8) (hdg : decode cc pc = .ok (.invokevirtual index, 3)) (hf : cells ≤ R.cells ∧ slots ≤ R.slots)
    (kk : ∀ (G1 : va_W) (H1 : Heap) (locs1 : List Loc), va_P D vwCl G1 H1 → va_D A G1 → va_S A s.heap H1 locs1 → B G1 → W p l e R s m args below meth c H1 locs1 cells slots Q (F0 m (pc + 3) ls (.int Rv :: rest))) : W p l e R s m args below meth c H locs cells slots Q (F0 m pc ls st0) := by
  refine va_calli (va_runV (As := As) (rest := rest) S hM cw ⟨g_blind, (by rw [← hC]; exact va_recv hK hP hc he), fun U hU hW => ⟨rfl, g_env hK hN hZ hP hS U hU hW⟩⟩ rfl hn hsize hstack (lv_room hW) hdg hf) hS (fun q _ h => h) (fun q h => h) (fun r G1 t H1 locs1 ht hvm hw hB hz1 hk1 hS1 => ?_)
  obtain ⟨h1, h2⟩ := hB
  rw [ht] at h1
  obtain ⟨rfl, hw⟩ := hw
  exact kk G1 H1 locs1 h1 h2 hS1 hw
theorem mx_cSi {Rv : Int32} (S : CallFix p m c cc nL s args Ts own) (hM : gMi l D cI cZ A g y ws rm (As) G Rv B) (cw : CallB R s args own index y bytes maxL ret ws rm 0 0 n ∧ (Cond.static y).before args s = true) (hK : va_K D vwCl (gT cI cZ) s) (hN : gN s) (hZ : gZ A g s s.heap) (hP : va_P D vwCl G H) (hS : va_S A s.heap H locs) (hn : As.length = n) (hsize : ls.size = nL) (hstack : st0 = As.reverse ++ rest) (hW : (rest.map fun v => v.category).sum ≤ 8) (hdg : decode cc pc = .ok (.invokestatic index, 3)) (hf : cells ≤ R.cells ∧ slots ≤ R.slots)
    (kk : ∀ (G1 : va_W) (H1 : Heap) (locs1 : List Loc), va_P D vwCl G1 H1 → va_D A G1 → va_S A s.heap H1 locs1 → B G1 → W p l e R s m args below meth c H1 locs1 cells slots Q (F0 m (pc + 3) ls (.int Rv :: rest))) : W p l e R s m args below meth c H locs cells slots Q (F0 m pc ls st0) := by
  refine va_calli (va_runS (As := As) (rest := rest) S hM cw ⟨g_blind, fun U hU hW => ⟨rfl, g_env hK hN hZ hP hS U hU hW⟩⟩ rfl hn hsize hstack (lv_room hW) hdg hf) hS (fun q _ h => h) (fun q h => h) (fun r G1 t H1 locs1 ht hvm hw hB hz1 hk1 hS1 => ?_)
  obtain ⟨h1, h2⟩ := hB
  rw [ht] at h1
  obtain ⟨rfl, hw⟩ := hw
  exact kk G1 H1 locs1 h1 h2 hS1 hw
theorem mx_cNi {Rv : Int32} (S : CallFix p m c cc nL s args Ts own) (hM : gMi l D cI cZ A g y ws rm (As) G Rv B) (cw : va_CN R s args own index y host bytes maxL ret ws rm 0 0 n ∧ (Cond.static y).before args s = true ∧ True) (hK : va_K D vwCl (gT cI cZ) s) (hN : gN s) (hZ : gZ A g s s.heap) (hP : va_P D vwCl G H) (hS : va_S A s.heap H locs) (hn : As.length = n) (hsize : ls.size = nL) (hstack : st0 = As.reverse ++ rest) (hW : (rest.map fun v => v.category).sum ≤ 8) (hdg : decode cc pc = .ok (.invokestatic index, 3)) (hf : cells ≤ R.cells ∧ slots ≤ R.slots)
    (kk : ∀ (G1 : va_W) (H1 : Heap) (locs1 : List Loc), va_P D vwCl G1 H1 → va_D A G1 → va_S A s.heap H1 locs1 → B G1 → W p l e R s m args below meth c H1 locs1 cells slots Q (F0 m (pc + 3) ls (.int Rv :: rest))) : W p l e R s m args below meth c H locs cells slots Q (F0 m pc ls st0) := by
  refine va_calli (va_runSN (As := As) (rest := rest) S hM cw ⟨g_blind, fun U hU hW => ⟨rfl, g_env hK hN hZ hP hS U hU hW⟩⟩ rfl hn hsize hstack (lv_room hW) hdg hf) hS (fun q _ h => h) (fun q h => h) (fun r G1 t H1 locs1 ht hvm hw hB hz1 hk1 hS1 => ?_)
  obtain ⟨h1, h2⟩ := hB
  rw [ht] at h1
  obtain ⟨rfl, hw⟩ := hw
  exact kk G1 H1 locs1 h1 h2 hS1 hw
theorem mx_cVl {Rv : Int64} (S : CallFix p m c cc nL s args Ts own) (hM : gMl l D cI cZ A g y ws rm (.ref b :: As) G Rv B) (cw : CallW R s args own C index y bytes maxL ret ws rm 0 0 n) (q0 : Nat) (hc : vwCl[ci]? = some q) (hC : q.1 = C) (he : G[q0]? = some (b, .inr (ci, fs))) (hK : va_K D vwCl (gT cI cZ) s) (hN : gN s) (hZ : gZ A g s s.heap) (hP : va_P D vwCl G H) (hS : va_S A s.heap H locs) (hn : As.length = n) (hsize : ls.size = nL) (hstack : st0 = As.reverse ++ .ref b :: rest) (hW : (rest.map fun v => v.category).sum ≤ 8) (hdg : decode cc pc = .ok (.invokevirtual index, 3)) (hf : cells ≤ R.cells ∧ slots ≤ R.slots)
    (kk : ∀ (G1 : va_W) (H1 : Heap) (locs1 : List Loc), va_P D vwCl G1 H1 → va_D A G1 → va_S A s.heap H1 locs1 → B G1 → W p l e R s m args below meth c H1 locs1 cells slots Q (F0 m (pc + 3) ls (.long Rv :: rest))) : W p l e R s m args below meth c H locs cells slots Q (F0 m pc ls st0) := by
  refine va_calll (va_runV (As := As) (rest := rest) S hM cw ⟨g_blind, (by rw [← hC]; exact va_recv hK hP hc he), fun U hU hW => ⟨rfl, g_env hK hN hZ hP hS U hU hW⟩⟩ rfl hn hsize hstack (lv_room hW) hdg hf) hS (fun q _ h => h) (fun q h => h) (fun r G1 t H1 locs1 ht hvm hw hB hz1 hk1 hS1 => ?_)
  obtain ⟨h1, h2⟩ := hB
  rw [ht] at h1
  obtain ⟨rfl, hw⟩ := hw
  exact kk G1 H1 locs1 h1 h2 hS1 hw
theorem mx_cSl {Rv : Int64} (S : CallFix p m c cc nL s args Ts own) (hM : gMl l D cI cZ A g y ws rm (As) G Rv B) (cw : CallB R s args own index y bytes maxL ret ws rm 0 0 n ∧ (Cond.static y).before args s = true) (hK : va_K D vwCl (gT cI cZ) s) (hN : gN s) (hZ : gZ A g s s.heap) (hP : va_P D vwCl G H) (hS : va_S A s.heap H locs) (hn : As.length = n) (hsize : ls.size = nL) (hstack : st0 = As.reverse ++ rest) (hW : (rest.map fun v => v.category).sum ≤ 8) (hdg : decode cc pc = .ok (.invokestatic index, 3)) (hf : cells ≤ R.cells ∧ slots ≤ R.slots)
    (kk : ∀ (G1 : va_W) (H1 : Heap) (locs1 : List Loc), va_P D vwCl G1 H1 → va_D A G1 → va_S A s.heap H1 locs1 → B G1 → W p l e R s m args below meth c H1 locs1 cells slots Q (F0 m (pc + 3) ls (.long Rv :: rest))) : W p l e R s m args below meth c H locs cells slots Q (F0 m pc ls st0) := by
  refine va_calll (va_runS (As := As) (rest := rest) S hM cw ⟨g_blind, fun U hU hW => ⟨rfl, g_env hK hN hZ hP hS U hU hW⟩⟩ rfl hn hsize hstack (lv_room hW) hdg hf) hS (fun q _ h => h) (fun q h => h) (fun r G1 t H1 locs1 ht hvm hw hB hz1 hk1 hS1 => ?_)
  obtain ⟨h1, h2⟩ := hB
  rw [ht] at h1
  obtain ⟨rfl, hw⟩ := hw
  exact kk G1 H1 locs1 h1 h2 hS1 hw
theorem mx_cNl {Rv : Int64} (S : CallFix p m c cc nL s args Ts own) (hM : gMl l D cI cZ A g y ws rm (As) G Rv B) (cw : va_CN R s args own index y host bytes maxL ret ws rm 0 0 n ∧ (Cond.static y).before args s = true ∧ True) (hK : va_K D vwCl (gT cI cZ) s) (hN : gN s) (hZ : gZ A g s s.heap) (hP : va_P D vwCl G H) (hS : va_S A s.heap H locs) (hn : As.length = n) (hsize : ls.size = nL) (hstack : st0 = As.reverse ++ rest) (hW : (rest.map fun v => v.category).sum ≤ 8) (hdg : decode cc pc = .ok (.invokestatic index, 3)) (hf : cells ≤ R.cells ∧ slots ≤ R.slots)
    (kk : ∀ (G1 : va_W) (H1 : Heap) (locs1 : List Loc), va_P D vwCl G1 H1 → va_D A G1 → va_S A s.heap H1 locs1 → B G1 → W p l e R s m args below meth c H1 locs1 cells slots Q (F0 m (pc + 3) ls (.long Rv :: rest))) : W p l e R s m args below meth c H locs cells slots Q (F0 m pc ls st0) := by
  refine va_calll (va_runSN (As := As) (rest := rest) S hM cw ⟨g_blind, fun U hU hW => ⟨rfl, g_env hK hN hZ hP hS U hU hW⟩⟩ rfl hn hsize hstack (lv_room hW) hdg hf) hS (fun q _ h => h) (fun q h => h) (fun r G1 t H1 locs1 ht hvm hw hB hz1 hk1 hS1 => ?_)
  obtain ⟨h1, h2⟩ := hB
  rw [ht] at h1
  obtain ⟨rfl, hw⟩ := hw
  exact kk G1 H1 locs1 h1 h2 hS1 hw
theorem mx_cVv (S : CallFix p m c cc nL s args Ts own) (hM : gMv l D cI cZ A g y ws rm (.ref b :: As) G B) (cw : CallW R s args own C index y bytes maxL ret ws rm 0 0 n) (q0 : Nat) (hc : vwCl[ci]? = some q) (hC : q.1 = C) (he : G[q0]? = some (b, .inr (ci, fs))) (hK : va_K D vwCl (gT cI cZ) s) (hN : gN s) (hZ : gZ A g s s.heap) (hP : va_P D vwCl G H) (hS : va_S A s.heap H locs) (hn : As.length = n) (hsize : ls.size = nL) (hstack : st0 = As.reverse ++ .ref b :: rest) (hW : (rest.map fun v => v.category).sum ≤ 8) (hdg : decode cc pc = .ok (.invokevirtual index, 3)) (hf : cells ≤ R.cells ∧ slots ≤ R.slots)
    (kk : ∀ (G1 : va_W) (H1 : Heap) (locs1 : List Loc), va_P D vwCl G1 H1 → va_D A G1 → va_S A s.heap H1 locs1 → B G1 → W p l e R s m args below meth c H1 locs1 cells slots Q (F0 m (pc + 3) ls (rest))) : W p l e R s m args below meth c H locs cells slots Q (F0 m pc ls st0) := by
  refine va_callv (va_runV (As := As) (rest := rest) S hM cw ⟨g_blind, (by rw [← hC]; exact va_recv hK hP hc he), fun U hU hW => ⟨rfl, g_env hK hN hZ hP hS U hU hW⟩⟩ rfl hn hsize hstack (lv_room hW) hdg hf) hS (fun q _ h => h) (fun q h => h) (fun G1 t H1 locs1 ht hvm hw hB hz1 hk1 hS1 => ?_)
  obtain ⟨h1, h2⟩ := hB
  rw [ht] at h1
  exact kk G1 H1 locs1 h1 h2 hS1 hw
theorem mx_cSv (S : CallFix p m c cc nL s args Ts own) (hM : gMv l D cI cZ A g y ws rm (As) G B) (cw : CallB R s args own index y bytes maxL ret ws rm 0 0 n ∧ (Cond.static y).before args s = true) (hK : va_K D vwCl (gT cI cZ) s) (hN : gN s) (hZ : gZ A g s s.heap) (hP : va_P D vwCl G H) (hS : va_S A s.heap H locs) (hn : As.length = n) (hsize : ls.size = nL) (hstack : st0 = As.reverse ++ rest) (hW : (rest.map fun v => v.category).sum ≤ 8) (hdg : decode cc pc = .ok (.invokestatic index, 3)) (hf : cells ≤ R.cells ∧ slots ≤ R.slots)
    (kk : ∀ (G1 : va_W) (H1 : Heap) (locs1 : List Loc), va_P D vwCl G1 H1 → va_D A G1 → va_S A s.heap H1 locs1 → B G1 → W p l e R s m args below meth c H1 locs1 cells slots Q (F0 m (pc + 3) ls (rest))) : W p l e R s m args below meth c H locs cells slots Q (F0 m pc ls st0) := by
  refine va_callv (va_runS (As := As) (rest := rest) S hM cw ⟨g_blind, fun U hU hW => ⟨rfl, g_env hK hN hZ hP hS U hU hW⟩⟩ rfl hn hsize hstack (lv_room hW) hdg hf) hS (fun q _ h => h) (fun q h => h) (fun G1 t H1 locs1 ht hvm hw hB hz1 hk1 hS1 => ?_)
  obtain ⟨h1, h2⟩ := hB
  rw [ht] at h1
  exact kk G1 H1 locs1 h1 h2 hS1 hw
theorem mx_cNv (S : CallFix p m c cc nL s args Ts own) (hM : gMv l D cI cZ A g y ws rm (As) G B) (cw : va_CN R s args own index y host bytes maxL ret ws rm 0 0 n ∧ (Cond.static y).before args s = true ∧ True) (hK : va_K D vwCl (gT cI cZ) s) (hN : gN s) (hZ : gZ A g s s.heap) (hP : va_P D vwCl G H) (hS : va_S A s.heap H locs) (hn : As.length = n) (hsize : ls.size = nL) (hstack : st0 = As.reverse ++ rest) (hW : (rest.map fun v => v.category).sum ≤ 8) (hdg : decode cc pc = .ok (.invokestatic index, 3)) (hf : cells ≤ R.cells ∧ slots ≤ R.slots)
    (kk : ∀ (G1 : va_W) (H1 : Heap) (locs1 : List Loc), va_P D vwCl G1 H1 → va_D A G1 → va_S A s.heap H1 locs1 → B G1 → W p l e R s m args below meth c H1 locs1 cells slots Q (F0 m (pc + 3) ls (rest))) : W p l e R s m args below meth c H locs cells slots Q (F0 m pc ls st0) := by
  refine va_callv (va_runSN (As := As) (rest := rest) S hM cw ⟨g_blind, fun U hU hW => ⟨rfl, g_env hK hN hZ hP hS U hU hW⟩⟩ rfl hn hsize hstack (lv_room hW) hdg hf) hS (fun q _ h => h) (fun q h => h) (fun G1 t H1 locs1 ht hvm hw hB hz1 hk1 hS1 => ?_)
  obtain ⟨h1, h2⟩ := hB
  rw [ht] at h1
  exact kk G1 H1 locs1 h1 h2 hS1 hw
theorem gof_i {l : Launch} {Rv : Int32} {ws' : List Cond} {av : List Value} {G0 : va_W} (hy : plainName y.cls = true) (hw : ws = Cond.code y cc maxL (some .int) :: ws') (hfit : (lg_sl av).length ≤ maxL) (hD : va_D A G0)
    (body : ∀ (p : Program) (e : Env) (s : State) (m : MethodId) (args : Array Value) (below : List Frame) (meth : Method) (c : Code) (Q : State → Prop), p.tables.exec = Jvm.exec → c.code = cc → c.maxLocals = maxL → (∀ w ∈ ws, w.before args s = true) → s.vm.findClass y.cls = some m.cls → va_K D vwCl (gT cI cZ) s → gN s → gZ A g s s.heap → va_P D vwCl G0 s.heap → va_S A s.heap s.heap [] → (∀ (pc : Nat) (G : va_W) (H : Heap) (locs : List Loc) (ls : Array Slot) (v : Int32), va_P D vwCl G H → va_D A G → va_S A s.heap H locs → v = Rv → B G → decode cc pc = .ok (.ireturn, 1) → W p l e rm s m args below meth c H locs 0 0 Q (F0 m pc ls [.int v])) →
      ∀ ls : Array Slot, lv_has ls maxL (lv_args 0 av) → W p l e rm s m args below meth c s.heap [] 0 0 Q (F0 m 0 ls [])) : gMi l D cI cZ A g y ws rm av G0 Rv B := by
  refine Met.ofW (cc := cc) (maxL := maxL) (ret := some .int) hy hw ?_
  intro p e s m args below meth c s₁ Bd hml hv
  obtain ⟨rfl, hP, hK, hN, hZ⟩ := hv
  have hlocks := Bd.notSynchronized
  have hl := lv_entry av (n := maxL) hfit
  rw [lg_entry_eq]
  generalize (lg_sl av ++ List.replicate (maxL - (lg_sl av).length) Slot.unset).toArray = ls at hl ⊢
  refine body p e s m _ below meth c _ Bd.exec Bd.bytes hml (atoms_spec (ws := ws) Bd.pre) (findClass_of_methodNamed Bd.named) hK hN hZ hP va_S.rf ?_ ls hl
  intro pc G H locs ls v hP hD hS hv hB hdg
  exact W.iret Bd.exec Bd.bytes Bd.returns (fun t ht _ => ⟨⟨v, G, rfl, ⟨hv, hB⟩, by rw [ht]; exact hP, hD⟩, hS.F ht⟩) hS.2.2 hdg hlocks
theorem gof_l {l : Launch} {Rv : Int64} {ws' : List Cond} {av : List Value} {G0 : va_W} (hy : plainName y.cls = true) (hw : ws = Cond.code y cc maxL (some .long) :: ws') (hfit : (lg_sl av).length ≤ maxL) (hD : va_D A G0)
    (body : ∀ (p : Program) (e : Env) (s : State) (m : MethodId) (args : Array Value) (below : List Frame) (meth : Method) (c : Code) (Q : State → Prop), p.tables.exec = Jvm.exec → c.code = cc → c.maxLocals = maxL → (∀ w ∈ ws, w.before args s = true) → s.vm.findClass y.cls = some m.cls → va_K D vwCl (gT cI cZ) s → gN s → gZ A g s s.heap → va_P D vwCl G0 s.heap → va_S A s.heap s.heap [] → (∀ (pc : Nat) (G : va_W) (H : Heap) (locs : List Loc) (ls : Array Slot) (v : Int64), va_P D vwCl G H → va_D A G → va_S A s.heap H locs → v = Rv → B G → decode cc pc = .ok (.lreturn, 1) → W p l e rm s m args below meth c H locs 0 0 Q (F0 m pc ls [.long v])) →
      ∀ ls : Array Slot, lv_has ls maxL (lv_args 0 av) → W p l e rm s m args below meth c s.heap [] 0 0 Q (F0 m 0 ls [])) : gMl l D cI cZ A g y ws rm av G0 Rv B := by
  refine Met.ofW (cc := cc) (maxL := maxL) (ret := some .long) hy hw ?_
  intro p e s m args below meth c s₁ Bd hml hv
  obtain ⟨rfl, hP, hK, hN, hZ⟩ := hv
  have hlocks := Bd.notSynchronized
  have hl := lv_entry av (n := maxL) hfit
  rw [lg_entry_eq]
  generalize (lg_sl av ++ List.replicate (maxL - (lg_sl av).length) Slot.unset).toArray = ls at hl ⊢
  refine body p e s m _ below meth c _ Bd.exec Bd.bytes hml (atoms_spec (ws := ws) Bd.pre) (findClass_of_methodNamed Bd.named) hK hN hZ hP va_S.rf ?_ ls hl
  intro pc G H locs ls v hP hD hS hv hB hdg
  exact W.lret Bd.exec Bd.bytes Bd.returns (fun t ht _ => ⟨⟨v, G, rfl, ⟨hv, hB⟩, by rw [ht]; exact hP, hD⟩, hS.F ht⟩) hS.2.2 hdg hlocks
theorem gof_z {l : Launch} {Rv : Int32} {ws' : List Cond} {av : List Value} {G0 : va_W} (hy : plainName y.cls = true) (hw : ws = Cond.code y cc maxL (some .boolean) :: ws') (hfit : (lg_sl av).length ≤ maxL) (hD : va_D A G0)
    (body : ∀ (p : Program) (e : Env) (s : State) (m : MethodId) (args : Array Value) (below : List Frame) (meth : Method) (c : Code) (Q : State → Prop), p.tables.exec = Jvm.exec → c.code = cc → c.maxLocals = maxL → (∀ w ∈ ws, w.before args s = true) → s.vm.findClass y.cls = some m.cls → va_K D vwCl (gT cI cZ) s → gN s → gZ A g s s.heap → va_P D vwCl G0 s.heap → va_S A s.heap s.heap [] → (∀ (pc : Nat) (G : va_W) (H : Heap) (locs : List Loc) (ls : Array Slot) (v : Int32), va_P D vwCl G H → va_D A G → va_S A s.heap H locs → narrow .boolean (.int v) = .int v → v = Rv → B G → decode cc pc = .ok (.ireturn, 1) → W p l e rm s m args below meth c H locs 0 0 Q (F0 m pc ls [.int v])) →
      ∀ ls : Array Slot, lv_has ls maxL (lv_args 0 av) → W p l e rm s m args below meth c s.heap [] 0 0 Q (F0 m 0 ls [])) : gMi l D cI cZ A g y ws rm av G0 Rv B := by
  refine Met.ofW (cc := cc) (maxL := maxL) (ret := some .boolean) hy hw ?_
  intro p e s m args below meth c s₁ Bd hml hv
  obtain ⟨rfl, hP, hK, hN, hZ⟩ := hv
  have hlocks := Bd.notSynchronized
  have hl := lv_entry av (n := maxL) hfit
  rw [lg_entry_eq]
  generalize (lg_sl av ++ List.replicate (maxL - (lg_sl av).length) Slot.unset).toArray = ls at hl ⊢
  refine body p e s m _ below meth c _ Bd.exec Bd.bytes hml (atoms_spec (ws := ws) Bd.pre) (findClass_of_methodNamed Bd.named) hK hN hZ hP va_S.rf ?_ ls hl
  intro pc G H locs ls v hP hD hS hnar hv hB hdg
  exact W.zret Bd.exec Bd.bytes Bd.returns hnar (fun t ht _ => ⟨⟨v, G, rfl, ⟨hv, hB⟩, by rw [ht]; exact hP, hD⟩, hS.F ht⟩) hS.2.2 hdg hlocks
theorem gof_v {l : Launch} {ws' : List Cond} {av : List Value} {G0 : va_W} (hy : plainName y.cls = true) (hw : ws = Cond.code y cc maxL (none) :: ws') (hfit : (lg_sl av).length ≤ maxL) (hD : va_D A G0)
    (body : ∀ (p : Program) (e : Env) (s : State) (m : MethodId) (args : Array Value) (below : List Frame) (meth : Method) (c : Code) (Q : State → Prop), p.tables.exec = Jvm.exec → c.code = cc → c.maxLocals = maxL → (∀ w ∈ ws, w.before args s = true) → s.vm.findClass y.cls = some m.cls → va_K D vwCl (gT cI cZ) s → gN s → gZ A g s s.heap → va_P D vwCl G0 s.heap → va_S A s.heap s.heap [] → (∀ (pc : Nat) (G : va_W) (H : Heap) (locs : List Loc) (ls : Array Slot), va_P D vwCl G H → va_D A G → va_S A s.heap H locs → B G → decode cc pc = .ok (.return_, 1) → W p l e rm s m args below meth c H locs 0 0 Q (F0 m pc ls [])) →
      ∀ ls : Array Slot, lv_has ls maxL (lv_args 0 av) → W p l e rm s m args below meth c s.heap [] 0 0 Q (F0 m 0 ls [])) : gMv l D cI cZ A g y ws rm av G0 B := by
  refine Met.ofW (cc := cc) (maxL := maxL) (ret := none) hy hw ?_
  intro p e s m args below meth c s₁ Bd hml hv
  obtain ⟨rfl, hP, hK, hN, hZ⟩ := hv
  have hlocks := Bd.notSynchronized
  have hl := lv_entry av (n := maxL) hfit
  rw [lg_entry_eq]
  generalize (lg_sl av ++ List.replicate (maxL - (lg_sl av).length) Slot.unset).toArray = ls at hl ⊢
  refine body p e s m _ below meth c _ Bd.exec Bd.bytes hml (atoms_spec (ws := ws) Bd.pre) (findClass_of_methodNamed Bd.named) hK hN hZ hP va_S.rf ?_ ls hl
  intro pc G H locs ls hP hD hS hB hdg
  exact W.vret Bd.exec Bd.bytes Bd.returns (fun t ht _ => ⟨⟨G, rfl, hB, by rw [ht]; exact hP, hD⟩, hS.F ht⟩) hS.2.2 hdg hlocks
end MC
