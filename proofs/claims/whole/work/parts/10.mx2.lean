/-! more of my own rows -/
theorem mx_inc1 (x : Nat) : nI x + Int32.ofInt 1 = nI (x + 1) := nI_1 x
theorem mx_inc5 (x : Nat) : nI x + Int32.ofInt 5 = nI (x + 5) := nI_add x 5
theorem gB_nar (b : Bool) : narrow .boolean (.int (gB b)) = .int (gB b) := by cases b <;> rfl
theorem gB_fits (b : Bool) : fits .boolean (.int (gB b)) = true := by cases b <;> rfl
theorem gB_vnar (b : Bool) : vp_nar .boolean (gB b) = gB b := by cases b <;> rfl
def gLabs (x : Int64) : Int64 := if 0 < x then x else -x
def gLmax (x y : Int64) : Int64 := if y < x then x else y
def gLmin (x y : Int64) : Int64 := if y < x then y else x
theorem mx_sw {x : Int32} {n : Nat} (h : ¬ (x.toInt < 0 ∨ (n : Int) - 1 < x.toInt)) : ∃ j : Nat, j < n ∧ x = nI j := by
  have h0 : ¬ x < 0 := by
    rw [Int32.lt_iff_toInt_lt]
    have : (0 : Int32).toInt = 0 := rfl
    omega
  obtain ⟨j, hj, e⟩ := nI_of h0
  refine ⟨j, ?_, e⟩
  rw [e, nI_toInt hj] at h
  omega
/-- an int as a number below a bound, or not -/
theorem mx_split (x : Int32) (n : Nat) (hn : n < 2 ^ 31) : (x < 0 ∨ nI n ≤ x) ∨ ∃ j : Nat, j < n ∧ x = nI j := by
  rcases pk_ix x hn with h | h | h
  · exact Or.inl (Or.inl h)
  · exact Or.inl (Or.inr h)
  · exact Or.inr h
section MX2
variable {p : Program} {l : Launch} {e : Env} {R : Room} {s : State} {m : MethodId} {args : Array Value} {below : List Frame} {meth : Method} {c : Code} {H : Heap} {locs : List Loc} {cells slots : Nat} {Q : State → Prop}
variable {cc : ByteArray} {pc : Nat} {ls : Array Slot} {rest : List Value} {A : Nat → Prop} {g : Nat → Nat}
theorem mx_ti (hexec : p.tables.exec = Jvm.exec) (hb : c.code = cc) (hZ : gZ A g s s.heap) (hS : va_S A s.heap H locs) (t : Nat) (ht : t < 5) (k : Nat) (hk : k < (gTab t).length) (hdg : decode cc pc = .ok (.iaload, 1))
    (kk : W p l e R s m args below meth c H locs cells slots Q (F0 m (pc + 1) ls (.int ((gTab t).getD k 0) :: rest))) : W p l e R s m args below meth c H locs cells slots Q (F0 m pc ls (.int (nI k) :: .ref (g t) :: rest)) := by
  have hn : (gTab t).length < 2 ^ 31 := by
    rcases (show t = 0 ∨ t = 1 ∨ t = 2 ∨ t = 3 ∨ t = 4 by omega) with rfl | rfl | rfl | rfl | rfl <;> decide
  refine va_ti hexec hb (hZ t ht).2 hS (vp_in_nI hk hn) (v := .int ((gTab t).getD k 0)) ?_ hdg kk
  rw [nI_clamp (Nat.lt_trans hk hn)]
end MX2
/-- within(v, lo, hi) -/
def gWi (v lo hi : Int32) : Bool := decide (lo ≤ v) && decide (v ≤ hi)
theorem gWi_lt {v lo hi : Int32} (h : v < lo) : nI 0 = gB (gWi v lo hi) := by
  have : ¬ lo ≤ v := Int32.not_le.mpr h
  simp [gWi, gB, this]; rfl
theorem gWi_gt {v lo hi : Int32} (h : hi < v) : nI 0 = gB (gWi v lo hi) := by
  have : ¬ v ≤ hi := Int32.not_le.mpr h
  simp [gWi, gB, this]; rfl
theorem gWi_in {v lo hi : Int32} (h1 : ¬ v < lo) (h2 : ¬ hi < v) : nI 1 = gB (gWi v lo hi) := by
  have h1 : lo ≤ v := Int32.not_lt.mp h1
  have h2 : v ≤ hi := Int32.not_lt.mp h2
  simp [gWi, gB, h1, h2]; rfl
/-- has(x): 0 ≤ x < n -/
def gHas (x n : Int32) : Bool := decide (0 ≤ x) && decide (x < n)
theorem gHas_lt {x n : Int32} (h : x < 0) : nI 0 = gB (gHas x n) := by
  have : ¬ 0 ≤ x := Int32.not_le.mpr h
  simp [gHas, gB, this]; rfl
theorem gHas_ge {x n : Int32} (h : n ≤ x) : nI 0 = gB (gHas x n) := by
  have : ¬ x < n := Int32.not_lt.mpr h
  simp [gHas, gB, this]; rfl
theorem gHas_in {x n : Int32} (h1 : ¬ x < 0) (h2 : ¬ n ≤ x) : nI 1 = gB (gHas x n) := by
  have h1 : 0 ≤ x := Int32.not_lt.mp h1
  have h2 : x < n := Int32.not_le.mp h2
  simp [gHas, gB, h1, h2]; rfl
theorem gHas_of {x : Int32} {n : Nat} (hn : n < 2 ^ 31) (h : gHas x (nI n) = true) : ∃ j : Nat, j < n ∧ x = nI j := by
  simp only [gHas, Bool.and_eq_true, decide_eq_true_eq] at h
  rcases mx_split x n hn with (q | q) | q
  · exact absurd h.1 (Int32.not_le.mpr q)
  · exact absurd h.2 (Int32.not_lt.mpr q)
  · exact q
theorem gWi_of {x : Int32} {a b : Nat} (ha : a < 2 ^ 31) (hb : b < 2 ^ 30) (h : gWi x (nI a) (nI b) = true) : ∃ j : Nat, a ≤ j ∧ j ≤ b ∧ x = nI j := by
  simp only [gWi, Bool.and_eq_true, decide_eq_true_eq] at h
  have h0 : ¬ x < 0 := fun q => by
    have h1 := h.1
    rw [Int32.le_iff_toInt_le, nI_toInt ha] at h1
    rw [Int32.lt_iff_toInt_lt] at q
    have : (0 : Int32).toInt = 0 := rfl
    omega
  obtain ⟨j, hj, e⟩ := nI_of h0
  rw [e] at h
  exact ⟨j, (nI_leI ha hj).mp h.1, (nI_leI hj (by omega)).mp h.2, e⟩
