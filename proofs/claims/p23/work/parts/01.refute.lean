/-! A REFUTATION of the claim as written. The start is the printed witness's (start1), but that the array behind the static InkPress$Rules.FIRST is of a SECOND array-of-int kind of the tables ("[Second"), whose own clone throws. All premises hold there; the law ends with a throw. What the premises lack: 'exactly (static InkPress$Rules FIRST) "[I"'. -/
def rf_second : Class := { start1.cArr "[Second" 13 .int with interfaces := #[12], methods := #[Lib.HandJ.method "clone" "()Ljava/lang/Object;" [] (some (.object "java/lang/Object")) 0x1 1 ⟨#[0x2a, 0xbf]⟩] }
def rf_about : State := { start1.about with
  vm := { start1.about.vm with classes := start1.about.vm.classes.push rf_second },
  heap := start1.about.heap.setIfInBounds 3 { cls := 17, slots := #[.int 10, .int 50, .int 10, .int 40, .int 50, .int 10, .int 10, .int 5, .int 2], vm := .none } }
/-! the run of the law at that start, read by the kernel -/
def rf_bot : Frame → Bool
  | .native ⟨⟨0, 0⟩, ⟨[]⟩, 0, ⟨[]⟩, false, none, none, 0⟩ => true
  | _ => false
theorem rf_bot_eq {f : Frame} (h : rf_bot f = true) : f = .native { method := ⟨0, 0⟩, args := #[] } := by
  revert h
  unfold rf_bot
  split
  · intro _; rfl
  · intro h; cases h
theorem rf_dl {α : Type} : ∀ (l : List α) (b : α), l.getLast? = some b → l.dropLast ++ [b] = l
  | [], b, h => by cases h
  | [a], b, h => by
    have h1 : a = b := Option.some.inj h
    rw [h1]; rfl
  | a :: c :: r, b, h => by
    have h1 : (c :: r).getLast? = some b := h
    have h2 := rf_dl (c :: r) b h1
    show a :: ((c :: r).dropLast ++ [b]) = a :: c :: r
    rw [h2]
def rf_in (fs : List Frame) : Bool :=
  (match fs.getLast? with
    | some b => rf_bot b
    | none => false) &&
  (match fs.dropLast with
    | [] => false
    | [.throwing _] => false
    | _ => true)
theorem rf_in_eq {fs : List Frame} (h : rf_in fs = true) : ∃ above, fs = above ++ Lib.HandBits.below0 ∧ above ≠ [] ∧ ∀ a, above ≠ [.throwing a] := by
  unfold rf_in at h
  rw [Bool.and_eq_true] at h
  obtain ⟨h1, h2⟩ := h
  refine ⟨fs.dropLast, ?_, ?_, ?_⟩
  · cases hb : fs.getLast? with
    | none => rw [hb] at h1; cases h1
    | some b =>
      rw [hb] at h1
      have hq := rf_bot_eq h1
      have hd : fs.dropLast ++ [b] = fs := rf_dl fs b hb
      rw [hq] at hd
      exact hd.symm
  · intro h0
    rw [h0] at h2
    cases h2
  · intro a h0
    rw [h0] at h2
    cases h2
def rf_go (s : State) : Bool := rf_in s.frames && (decide (s.status = .running) && (decide (s.curStatus? = some .runnable) && s.alone))
theorem rf_go_eq {s : State} (h : rf_go s = true) : Within s Lib.HandBits.below0 ∧ s.status = .running ∧ s.curStatus? = some .runnable ∧ s.alone = true := by
  unfold rf_go at h
  rw [Bool.and_eq_true, Bool.and_eq_true, Bool.and_eq_true] at h
  exact ⟨rf_in_eq h.1, of_decide_eq_true h.2.1, of_decide_eq_true h.2.2.1, h.2.2.2⟩
def rf_end (s : State) : Bool := decide (s.status = .running) && (match s.frames with
  | [.throwing _, b] => rf_bot b
  | _ => false)
theorem rf_end_eq {s : State} (h : rf_end s = true) : s.status = .running ∧ ∃ a, s.frames = .throwing a :: Lib.HandBits.below0 := by
  unfold rf_end at h
  rw [Bool.and_eq_true] at h
  refine ⟨of_decide_eq_true h.1, ?_⟩
  have h2 := h.2
  split at h2
  · rename_i a b hf
    exact ⟨a, by rw [hf, rf_bot_eq h2]; rfl⟩
  · cases h2
def rf_run (tb : Tables) (e : Env) : Nat → State → Bool
  | 0, s => rf_end s
  | n + 1, s => match rf_go s with
    | true => rf_run tb e n (stepThread tb e s).1
    | false => rf_end s
theorem rf_run_sound (tb : Tables) (e : Env) : ∀ (n : Nat) (s : State), rf_run tb e n s = true →
    ∃ (k : Nat) (a : Addr), (∀ j, j < k → Within (stepsAlone tb e j s) Lib.HandBits.below0) ∧ (stepsAlone tb e k s).status = .running ∧ (stepsAlone tb e k s).frames = .throwing a :: Lib.HandBits.below0 := by
  intro n
  induction n with
  | zero =>
    intro s h
    obtain ⟨hs, a, hf⟩ := rf_end_eq h
    exact ⟨0, a, fun j hj => absurd hj (Nat.not_lt_zero j), hs, hf⟩
  | succ n ih =>
    intro s h
    unfold rf_run at h
    cases hg : rf_go s with
    | false =>
      rw [hg] at h
      obtain ⟨hs, a, hf⟩ := rf_end_eq h
      exact ⟨0, a, fun j hj => absurd hj (Nat.not_lt_zero j), hs, hf⟩
    | true =>
      rw [hg] at h
      obtain ⟨k, a, hw, hs, hf⟩ := ih _ h
      obtain ⟨g1, g2, g3, g4⟩ := rf_go_eq hg
      have hst : ∀ j, stepsAlone tb e (j + 1) s = stepsAlone tb e j (stepThread tb e s).1 := by
        intro j
        rw [stepsAlone, g2, g3, g4]
      refine ⟨k + 1, a, ?_, ?_, ?_⟩
      · intro j hj
        cases j with
        | zero => exact g1
        | succ j => rw [hst]; exact hw j (Nat.lt_of_succ_lt_succ hj)
      · rw [hst]; exact hs
      · rw [hst]; exact hf
set_option maxRecDepth 16384 in
theorem rf_fell : rf_run start1.p0.tables start1.e0 80 rf_about = true := by decide +kernel
