/-! the sheets: class and reference agree -/
theorem it_add {a b : Int32} (h1 : -2147483648 ≤ a.toInt + b.toInt) (h2 : a.toInt + b.toInt < 2147483648) : (a + b).toInt = a.toInt + b.toInt := by
  rw [Int32.toInt_add]
  exact Int.bmod_eq_of_le (by omega) (by omega)
theorem it_sub {a b : Int32} (h1 : -2147483648 ≤ a.toInt - b.toInt) (h2 : a.toInt - b.toInt < 2147483648) : (a - b).toInt = a.toInt - b.toInt := by
  rw [Int32.toInt_sub]
  exact Int.bmod_eq_of_le (by omega) (by omega)
def gSum (f : Nat → Int32) : Nat → Int
  | 0 => 0
  | k + 1 => gSum f k + (f k).toInt
theorem gSum_out {f : Nat → Int32} {i : Nat} {v : Int32} : ∀ n, n ≤ i → gSum (upd f i v) n = gSum f n := by
  intro n
  induction n with
  | zero => intro _; rfl
  | succ n ih =>
    intro h
    show gSum (upd f i v) n + (upd f i v n).toInt = gSum f n + (f n).toInt
    rw [ih (by omega), pk_un (by omega)]
theorem gSum_upd {f : Nat → Int32} {i : Nat} {v : Int32} : ∀ n, i < n → gSum (upd f i v) n = gSum f n - (f i).toInt + v.toInt := by
  intro n
  induction n with
  | zero => intro h; exact absurd h (Nat.not_lt_zero _)
  | succ n ih =>
    intro h
    show gSum (upd f i v) n + (upd f i v n).toInt = gSum f n + (f n).toInt - (f i).toInt + v.toInt
    rcases Nat.lt_or_ge i n with q | q
    · rw [ih q, pk_un (by omega)]
      omega
    · obtain rfl : i = n := by omega
      rw [gSum_out i (Nat.le_refl _), pk_us]
      omega
theorem gSum_nn {f : Nat → Int32} : ∀ n, (∀ i, i < n → 0 ≤ (f i).toInt) → 0 ≤ gSum f n := by
  intro n
  induction n with
  | zero => intro _; exact Int.le_refl _
  | succ n ih =>
    intro h
    have h1 := ih (fun i hi => h i (by omega))
    have h2 := h n (by omega)
    show 0 ≤ gSum f n + (f n).toInt
    omega
theorem gSum_ge {f : Nat → Int32} : ∀ n, (∀ i, i < n → 0 ≤ (f i).toInt) → ∀ i, i < n → (f i).toInt ≤ gSum f n := by
  intro n
  induction n with
  | zero => intro _ i h; exact absurd h (Nat.not_lt_zero _)
  | succ n ih =>
    intro h i hi
    have h0 := gSum_nn n (fun i hi => h i (by omega))
    have h2 := h n (by omega)
    show (f i).toInt ≤ gSum f n + (f n).toInt
    rcases Nat.lt_or_ge i n with q | q
    · have := ih (fun i hi => h i (by omega)) i q
      omega
    · obtain rfl : i = n := by omega
      omega
/-- no place below 0, all together at most B -/
def jI (ink : Nat → Int32) (B : Int) : Prop := (∀ i, i < 40 → 0 ≤ (ink i).toInt) ∧ gSum ink 40 ≤ B
theorem jI_nat {ink : Nat → Int32} {B : Int} (h : jI ink B) {i : Nat} (hi : i < 40) : ∃ n : Nat, ink i = nI n ∧ (n : Int) ≤ B ∧ n < 2 ^ 31 := by
  have h0 := h.1 i hi
  have h1 := gSum_ge 40 h.1 i hi
  obtain ⟨n, hn, e⟩ := nI_of (x := ink i) (fun q => by
    rw [Int32.lt_iff_toInt_lt] at q
    have : (0 : Int32).toInt = 0 := rfl
    omega)
  refine ⟨n, e, ?_, hn⟩
  rw [e, nI_toInt hn] at h1
  have := h.2
  omega
theorem jI_set {ink : Nat → Int32} {B C : Int} (h : jI ink B) {i : Nat} {v : Int32} (hi : i < 40) (hv : 0 ≤ v.toInt) (hB : B - (ink i).toInt + v.toInt ≤ C) : jI (upd ink i v) C := by
  refine ⟨fun j hj => ?_, ?_⟩
  · by_cases e : j = i
    · subst e
      rw [pk_us]
      exact hv
    · rw [pk_un e]
      exact h.1 j hj
  · rw [gSum_upd 40 hi]
    have := h.2
    omega
theorem jI_move {ink : Nat → Int32} {B : Int} (h : jI ink B) {i j : Nat} {v w : Int32} (hi : i < 40) (hj : j < 40) (hij : i ≠ j) (hv : 0 ≤ v.toInt) (hw : 0 ≤ w.toInt) (hs : v.toInt + w.toInt = (ink i).toInt + (ink j).toInt) : jI (upd (upd ink i v) j w) B := by
  refine ⟨fun k hk => ?_, ?_⟩
  · by_cases e : k = j
    · subst e
      rw [pk_us]
      exact hw
    · rw [pk_un e]
      by_cases e2 : k = i
      · subst e2
        rw [pk_us]
        exact hv
      · rw [pk_un e2]
        exact h.1 k hk
  · rw [gSum_upd 40 hj, gSum_upd 40 hi, pk_un (fun q => hij q.symm)]
    have := h.2
    omega
theorem sh_nat {n a w : Nat} (hn : n < 2 ^ 31) (ha : a < 2 ^ 31) (hw : 0 < w) (hw2 : w < 2 ^ 31) : gShare (nI n) (nI a) (nI w) = nI (n * a / w) := by
  unfold gShare
  have hna : n * a < 2 ^ 62 := Nat.lt_of_lt_of_le (Nat.mul_lt_mul_of_lt_of_lt hn ha) (by decide)
  rw [nI_l hn, nI_l ha, nI_l hw2, lN_mul, pk_lDiv (by omega) hw (by omega), lN_i]
theorem sh_100 : (nI 100).toInt64 = 100 := by decide
theorem sh_10000 : (nI 10000).toInt64 = 10000 := by decide
theorem sh_P1 (q : Int32) (r z : Nat) (f : Nat → Int32) : gMP1 q r z f = gP1 q r z f := by
  unfold gMP1 gP1 gShare
  rw [Nat.mul_comm 8 r, sh_100]
theorem sh_Pz (q : Int32) (r : Nat) : ∀ k z f, gMPz q r k z f = gPz q r k z f := by
  intro k
  induction k with
  | zero => intro z f; rfl
  | succ k ih =>
    intro z f
    show gMPz q r k (z + 1) (gMP1 q r z f) = gPz q r k (z + 1) (gP1 q r z f)
    rw [sh_P1, ih]
theorem sh_Pr (q : Int32) (tz : Nat) : ∀ k r f, gMPr q tz k r f = gPr q tz k r f := by
  intro k
  induction k with
  | zero => intro r f; rfl
  | succ k ih =>
    intro r f
    show gMPr q tz k (r + 1) (gMPz q r tz 0 f) = gPr q tz k (r + 1) (gPz q r tz 0 f)
    rw [sh_Pz, ih]
/-- passing on keeps all ink -/
theorem sh_P1I {a r z : Nat} {f : Nat → Int32} {B : Int} (ha : a ≤ 90) (hB : B ≤ 1000000000) (hk : r * 8 + z + 8 < 40) (h : jI f B) : jI (gP1 (nI a) r z f) B := by
  obtain ⟨n, e, hn, hn2⟩ := jI_nat h (show r * 8 + z < 40 by omega)
  obtain ⟨n', e', hn', hn2'⟩ := jI_nat h hk
  have hs := gSum_ge 40 h.1
  have h3 : n * a ≤ n * 90 := Nat.mul_le_mul_left _ ha
  have hq : n * a / 100 ≤ n := by omega
  unfold gP1
  rw [pk_un (f := f) (k := r * 8 + z) (j := r * 8 + z + 8) (by omega), e, e', sh_nat hn2 (by omega) (by decide) (by decide), pk_sub hq, nI_add]
  refine jI_move h (by omega) hk (by omega) ?_ ?_ ?_
  · rw [nI_toInt (by omega)]; omega
  · rw [nI_toInt (by omega)]; omega
  · rw [e, e', nI_toInt (by omega), nI_toInt (by omega), nI_toInt hn2, nI_toInt hn2']; omega
theorem sh_PzI {a r : Nat} {B : Int} (ha : a ≤ 90) (hB : B ≤ 1000000000) (hr : r < 4) : ∀ k z f, z + k ≤ 8 → jI f B → jI (gPz (nI a) r k z f) B := by
  intro k
  induction k with
  | zero => intro z f _ h; exact h
  | succ k ih => intro z f hz h; exact ih (z + 1) _ (by omega) (sh_P1I ha hB (by omega) h)
theorem sh_PrI {a tz : Nat} {B : Int} (ha : a ≤ 90) (hB : B ≤ 1000000000) (htz : tz ≤ 8) : ∀ k r f, r + k ≤ 4 → jI f B → jI (gPr (nI a) tz k r f) B := by
  intro k
  induction k with
  | zero => intro r f _ h; exact h
  | succ k ih => intro r f hz h; exact ih (r + 1) _ (by omega) (sh_PzI ha hB (by omega) tz 0 f (by omega) h)
/-- drift: the same, and all ink stays -/
theorem sh_D {n a : Nat} (ha : a ≤ 40) (hn : n ≤ 50000000) : gShare (nI n) (nI a) (nI 200) = nI n * nI a / nI 200 ∧ gShare (nI n) (nI a) (nI 200) = nI (n * a / 200) ∧ 2 * (n * a / 200) ≤ n := by
  have h3 : n * a ≤ n * 40 := Nat.mul_le_mul_left _ ha
  refine ⟨?_, sh_nat (by omega) (by omega) (by decide) (by decide), by omega⟩
  rw [sh_nat (by omega) (by omega) (by decide) (by decide), pk_mul, pk_div (by omega) (by decide) (by decide)]
theorem sh_as {q : Int32} {b : Nat} {ink : Nat → Int32} : ∀ k z f j, (j < z → gAs q b ink k z f j = f j) ∧ (z ≤ j → j < z + k → gAs q b ink k z f j = ink (b + j) * q / nI 200) := by
  intro k
  induction k with
  | zero => intro z f j; exact ⟨fun _ => rfl, fun h1 h2 => absurd h2 (by omega)⟩
  | succ k ih =>
    intro z f j
    constructor
    · intro h
      show gAs q b ink k (z + 1) (upd f z (ink (b + z) * q / nI 200)) j = _
      rw [(ih (z + 1) _ j).1 (by omega), pk_un (by omega)]
    · intro h1 h2
      show gAs q b ink k (z + 1) (upd f z (ink (b + z) * q / nI 200)) j = _
      rcases Nat.lt_or_eq_of_le h1 with h | h
      · exact (ih (z + 1) _ j).2 (by omega) (by omega)
      · subst h
        rw [(ih (z + 1) _ z).1 (by omega), pk_us]
theorem sh_Dz {q : Int32} {b zn : Nat} {az : Nat → Int32} : ∀ k z f left, 1 ≤ z → z + k = zn → left = az (z - 1) → (∀ y, z ≤ y → y < zn → gShare (f (b + y)) q (nI 200) = az y) → gMdz az b k (z - 1) f = gDz q b k z f left := by
  intro k
  induction k with
  | zero => intro z f left _ _ _ _; rfl
  | succ k ih =>
    intro z f left hz hk hl ha
    have e1 := ha z (Nat.le_refl _) (by omega)
    have es : gMd1 az b (z - 1) f = gD1 q b z f left := by
      unfold gMd1 gD1
      rw [show z - 1 + 1 = z by omega, show b + (z - 1) + 1 = b + z by omega, show b + (z - 1) = b + z - 1 by omega, e1, hl]
    show gMdz az b k (z - 1 + 1) (gMd1 az b (z - 1) f) = gDz q b k (z + 1) (gD1 q b z f left) (gShare (f (b + z)) q (nI 200))
    rw [es, show z - 1 + 1 = z + 1 - 1 by omega]
    refine ih (z + 1) _ _ (by omega) (by omega) (by rw [e1]; rfl) (fun y h1 h2 => ?_)
    unfold gD1
    rw [pk_un (by omega), pk_un (by omega)]
    exact ha y (by omega) h2
theorem sh_DzI {a b : Nat} {B : Int} (ha : a ≤ 40) (hB : B ≤ 50000000) (hb : b + 8 ≤ 40) : ∀ k z f (lf : Nat), 1 ≤ z → z + k ≤ 8 → jI f B → (lf : Int) ≤ (f (b + z - 1)).toInt → jI (gDz (nI a) b k z f (nI lf)) B := by
  intro k
  induction k with
  | zero => intro z f lf _ _ h _; exact h
  | succ k ih =>
    intro z f lf hz hk h hl
    obtain ⟨n, e, hn, hn2⟩ := jI_nat h (show b + z < 40 by omega)
    obtain ⟨n', e', hn', hn2'⟩ := jI_nat h (show b + z - 1 < 40 by omega)
    obtain ⟨-, s2, s3⟩ := sh_D (n := n) ha (by omega)
    rw [e', nI_toInt hn2'] at hl
    show jI (gDz (nI a) b k (z + 1) (gD1 (nI a) b z f (nI lf)) (gShare (f (b + z)) (nI a) (nI 200))) B
    have hr : gShare (f (b + z)) (nI a) (nI 200) = nI (n * a / 200) := by rw [e, s2]
    have t1 : (nI (n * a / 200)).toInt = ((n * a / 200 : Nat) : Int) := nI_toInt (by omega)
    have t2 : (nI lf).toInt = (lf : Int) := nI_toInt (by omega)
    have t3 : (nI (n * a / 200) - nI lf).toInt = ((n * a / 200 : Nat) : Int) - lf := by
      rw [it_sub (by omega) (by omega), t1, t2]
    have t4 : (nI lf - nI (n * a / 200)).toInt = (lf : Int) - ((n * a / 200 : Nat) : Int) := by
      rw [it_sub (by omega) (by omega), t1, t2]
    have tn : (nI n).toInt = (n : Int) := nI_toInt hn2
    have tn' : (nI n').toInt = (n' : Int) := nI_toInt hn2'
    have u1 : (f (b + z - 1) + (nI (n * a / 200) - nI lf)).toInt = (n' : Int) + (((n * a / 200 : Nat) : Int) - lf) := by
      rw [e', it_add (by omega) (by omega), t3, tn']
    have u2 : (f (b + z) + (nI lf - nI (n * a / 200))).toInt = (n : Int) + ((lf : Int) - ((n * a / 200 : Nat) : Int)) := by
      rw [e, it_add (by omega) (by omega), t4, tn]
    have eD : gD1 (nI a) b z f (nI lf) = upd (upd f (b + z - 1) (f (b + z - 1) + (nI (n * a / 200) - nI lf))) (b + z) (f (b + z) + (nI lf - nI (n * a / 200))) := by
      unfold gD1
      rw [hr, pk_un (f := f) (k := b + z - 1) (j := b + z) (by omega)]
    rw [hr, eD]
    refine ih (z + 1) _ _ (by omega) (by omega) ?_ ?_
    · refine jI_move h (by omega) (by omega) (by omega) ?_ ?_ ?_
      · rw [u1]; omega
      · rw [u2]; omega
      · rw [u1, u2, e, e', tn, tn']; omega
    · rw [show b + (z + 1) - 1 = b + z by omega, pk_us, u2]
      omega
theorem sh_Dr {a zn : Nat} {B : Int} (ha : a ≤ 40) (hB : B ≤ 50000000) (hz1 : 1 ≤ zn) (hz8 : zn ≤ 8) : ∀ k r f asd, r + k ≤ 5 → jI f B → gMdI (nI a) zn k r f asd = gDr (nI a) zn k r f ∧ jI (gDr (nI a) zn k r f) B := by
  intro k
  induction k with
  | zero => intro r f asd _ h; exact ⟨rfl, h⟩
  | succ k ih =>
    intro r f asd hr h
    obtain ⟨n0, e0, hn0, hn02⟩ := jI_nat h (show r * 8 < 40 by omega)
    obtain ⟨-, s2, s3⟩ := sh_D (n := n0) ha (by omega)
    have hsh : ∀ y, y < zn → gShare (f (r * 8 + y)) (nI a) (nI 200) = gAs (nI a) (8 * r) f zn 0 asd y := by
      intro y hy
      obtain ⟨n, e, hn, hn2⟩ := jI_nat h (show r * 8 + y < 40 by omega)
      rw [(sh_as zn 0 asd y).2 (Nat.zero_le _) (by omega), Nat.mul_comm 8 r, e]
      exact (sh_D ha (by omega)).1
    have e1 : gMdz (gAs (nI a) (8 * r) f zn 0 asd) (8 * r) (zn - 1) 0 f = gDz (nI a) (r * 8) (zn - 1) 1 f (gShare (f (r * 8)) (nI a) (nI 200)) := by
      have h1 := sh_Dz (q := nI a) (b := r * 8) (zn := zn) (az := gAs (nI a) (8 * r) f zn 0 asd) (zn - 1) 1 f (gShare (f (r * 8)) (nI a) (nI 200)) (by omega) (by omega) (by have := hsh 0 (by omega); exact this) (fun y _ hy => hsh y hy)
      rw [← h1, Nat.mul_comm 8 r]
    have h2 : jI (gDz (nI a) (r * 8) (zn - 1) 1 f (gShare (f (r * 8)) (nI a) (nI 200))) B := by
      rw [e0, s2]
      refine sh_DzI ha hB (by omega) (zn - 1) 1 f _ (by omega) (by omega) h ?_
      rw [show r * 8 + 1 - 1 = r * 8 by omega, e0, nI_toInt hn02]
      omega
    show gMdI (nI a) zn k (r + 1) (gMdz (gAs (nI a) (8 * r) f zn 0 asd) (8 * r) (zn - 1) 0 f) (gAs (nI a) (8 * r) f zn 0 asd) = gDr (nI a) zn k (r + 1) (gDz (nI a) (r * 8) (zn - 1) 1 f (gShare (f (r * 8)) (nI a) (nI 200))) ∧ jI (gDr (nI a) zn k (r + 1) (gDz (nI a) (r * 8) (zn - 1) 1 f (gShare (f (r * 8)) (nI a) (nI 200)))) B
    rw [e1]
    exact ih (r + 1) _ _ (by omega) h2
/-- keys, covers, targets in both ways -/
def jZ (zv ke cv tg : Nat → Int32) : Prop := ∀ z, z < 8 → ke z = gKe zv z ∧ cv z = gCo zv z ∧ tg z = gTt zv z ∧ (∃ n, n ≤ 100 ∧ ke z = nI n) ∧ ∃ n, n ≤ 100 ∧ cv z = nI n
theorem sh_Fi {ke ke' : Nat → Int32} {fe : Int32} (hk : ∀ z, z < 8 → ke z = ke' z) : ∀ k z f, z + k ≤ 8 → gFi ke fe k z f = gFi ke' fe k z f := by
  intro k
  induction k with
  | zero => intro z f _; rfl
  | succ k ih =>
    intro z f h
    show gFi ke fe k (z + 1) (upd f z (f z + ke z * fe)) = gFi ke' fe k (z + 1) (upd f z (f z + ke' z * fe))
    rw [hk z (by omega), ih _ _ (by omega)]
theorem sh_Ff {ke ke' : Nat → Int32} {fe : Int32} (hk : ∀ z, z < 8 → ke z = ke' z) : ∀ k z f, z + k ≤ 8 → gFf ke fe k z f = gFf ke' fe k z f := by
  intro k
  induction k with
  | zero => intro z f _; rfl
  | succ k ih =>
    intro z f h
    show gFf ke fe k (z + 1) (f + ke z * fe) = gFf ke' fe k (z + 1) (f + ke' z * fe)
    rw [hk z (by omega), ih _ _ (by omega)]
theorem sh_FiI {ke : Nat → Int32} {a : Nat} (ha : a ≤ 20) (hk : ∀ z, z < 8 → ∃ n, n ≤ 100 ∧ ke z = nI n) : ∀ (k z : Nat) (f : Nat → Int32) (B : Int), z + k ≤ 8 → B + 2000 * (k : Int) ≤ 50000000 → jI f B → jI (gFi ke (nI a) k z f) (B + 2000 * (k : Int)) := by
  intro k
  induction k with
  | zero => intro z f B _ _ h; rw [show B + 2000 * ((0 : Nat) : Int) = B by omega]; exact h
  | succ k ih =>
    intro z f B hz hB h
    obtain ⟨v, hv, ev⟩ := hk z (by omega)
    obtain ⟨n, e, hn, hn2⟩ := jI_nat h (show z < 40 by omega)
    have hva : v * a ≤ 100 * 20 := Nat.mul_le_mul hv ha
    show jI (gFi ke (nI a) k (z + 1) (upd f z (f z + ke z * nI a))) _
    rw [show B + 2000 * ((k + 1 : Nat) : Int) = (B + 2000) + 2000 * (k : Int) by omega]
    refine ih (z + 1) _ _ (by omega) (by omega) ?_
    rw [ev, pk_mul, e, nI_add]
    refine jI_set h (by omega) ?_ ?_
    · rw [nI_toInt (by omega)]; omega
    · rw [e, nI_toInt hn2, nI_toInt (by omega)]; omega
theorem sh_Pap {tr z a v : Nat} {f : Nat → Int32} (ha : a ≤ 90) (hv : v ≤ 100) : gMPap tr z (nI a) (nI v) f = gPap tr z (nI a) (nI v) f := by
  have hav : a * v ≤ 90 * 100 := Nat.mul_le_mul ha hv
  unfold gMPap gPap gShare
  rw [Nat.mul_comm 8, sh_10000, pk_mul, nI_l (show a < 2 ^ 31 by omega), nI_l (show v < 2 ^ 31 by omega), nI_l (show a * v < 2 ^ 31 by omega), Int64.mul_assoc, lN_mul]
theorem sh_Bar (tr z : Nat) (f : Nat → Int32) : gMBar tr z f = gBar tr z f := by
  unfold gMBar gBar
  rw [Nat.mul_comm 8]
theorem sh_Tk {tr z a v : Nat} {f : Nat → Int32} (ha : a ≤ 90) (hv : v ≤ 100) : gMTk tr z (nI a) (nI v) f = gTk tr z (nI a) (nI v) f := by
  unfold gMTk gTk
  rw [sh_Pap ha hv, sh_Bar, Nat.mul_comm 8]
theorem sh_TkI {tr z a v : Nat} {f : Nat → Int32} {B : Int} (ha : a ≤ 90) (hv : v ≤ 100) (htr : tr ≤ 5) (htr1 : 1 ≤ tr) (hz : z < 8) (hB : B ≤ 50000000) (h : jI f B) : jI (gTk tr z (nI a) (nI v) f) B := by
  obtain ⟨n, e, hn, hn2⟩ := jI_nat h (show (tr - 1) * 8 + z < 40 by omega)
  have hav : a * v ≤ 90 * 100 := Nat.mul_le_mul ha hv
  have h3 : n * (a * v) ≤ n * 9000 := Nat.mul_le_mul_left _ hav
  unfold gTk gPap gBar
  rw [e, pk_mul, sh_nat hn2 (by omega) (by decide) (by decide), pk_div hn2 (by decide) (by decide), nI_add, pk_sub (by omega)]
  refine jI_set h (by omega) ?_ ?_
  · rw [nI_toInt (by omega)]; omega
  · rw [e, nI_toInt hn2, nI_toInt (by omega)]; omega
section SHT
variable {tr a : Nat} {co cv tg tg' : Nat → Int32}
theorem sh_Ti (ha : a ≤ 90) (hc : ∀ z, z < 8 → cv z = co z ∧ ∃ n, n ≤ 100 ∧ cv z = nI n) : ∀ k z f, z + k ≤ 8 → gMTi tr (nI a) cv k z f = gTi tr (nI a) co k z f := by
  intro k
  induction k with
  | zero => intro z f _; rfl
  | succ k ih =>
    intro z f h
    obtain ⟨e1, v, hv, e2⟩ := hc z (by omega)
    show gMTi tr (nI a) cv k (z + 1) (gMTk tr z (nI a) (cv z) f) = gTi tr (nI a) co k (z + 1) (gTk tr z (nI a) (co z) f)
    rw [← e1, e2, sh_Tk ha hv, ih _ _ (by omega)]
theorem sh_TiI {B : Int} (ha : a ≤ 90) (htr : tr ≤ 5) (htr1 : 1 ≤ tr) (hB : B ≤ 50000000) (hc : ∀ z, z < 8 → ∃ n, n ≤ 100 ∧ co z = nI n) : ∀ k z f, z + k ≤ 8 → jI f B → jI (gTi tr (nI a) co k z f) B := by
  intro k
  induction k with
  | zero => intro z f _ h; exact h
  | succ k ih =>
    intro z f h hI
    obtain ⟨v, hv, e2⟩ := hc z (by omega)
    show jI (gTi tr (nI a) co k (z + 1) (gTk tr z (nI a) (co z) f)) B
    rw [e2]
    exact ih _ _ (by omega) (sh_TkI ha hv htr htr1 (by omega) hB hI)
theorem sh_Tp (ha : a ≤ 90) (hc : ∀ z, z < 8 → cv z = co z ∧ ∃ n, n ≤ 100 ∧ cv z = nI n) : ∀ k z f x, z + k ≤ 8 → gMTp tr (nI a) cv k z f x = gTp tr (nI a) co k z f x := by
  intro k
  induction k with
  | zero => intro z f x _; rfl
  | succ k ih =>
    intro z f x h
    obtain ⟨e1, v, hv, e2⟩ := hc z (by omega)
    show gMTp tr (nI a) cv k (z + 1) (gMTk tr z (nI a) (cv z) f) (x + gMPap tr z (nI a) (cv z) f) = gTp tr (nI a) co k (z + 1) (gTk tr z (nI a) (co z) f) (x + gPap tr z (nI a) (co z) f)
    rw [← e1, e2, sh_Tk ha hv, sh_Pap ha hv, ih _ _ _ (by omega)]
theorem sh_Tb (ha : a ≤ 90) (hc : ∀ z, z < 8 → cv z = co z ∧ ∃ n, n ≤ 100 ∧ cv z = nI n) : ∀ k z f x, z + k ≤ 8 → gMTb tr (nI a) cv k z f x = gTb tr (nI a) co k z f x := by
  intro k
  induction k with
  | zero => intro z f x _; rfl
  | succ k ih =>
    intro z f x h
    obtain ⟨e1, v, hv, e2⟩ := hc z (by omega)
    show gMTb tr (nI a) cv k (z + 1) (gMTk tr z (nI a) (cv z) f) (x + gMBar tr z f) = gTb tr (nI a) co k (z + 1) (gTk tr z (nI a) (co z) f) (x + gBar tr z f)
    rw [← e1, e2, sh_Tk ha hv, sh_Bar, ih _ _ _ (by omega)]
theorem sh_Td {bs : Nat} (ha : a ≤ 90) (hc : ∀ z, z < 8 → cv z = co z ∧ ∃ n, n ≤ 100 ∧ cv z = nI n) : ∀ k z f x, z + k ≤ 8 → gMTd tr (nI a) cv bs k z f x = gTd tr (nI a) co bs k z f x := by
  intro k
  induction k with
  | zero => intro z f x _; rfl
  | succ k ih =>
    intro z f x h
    obtain ⟨e1, v, hv, e2⟩ := hc z (by omega)
    show gMTd tr (nI a) cv bs k (z + 1) (gMTk tr z (nI a) (cv z) f) (upd x (bs + z) (nI 10 * gMBar tr z f)) = gTd tr (nI a) co bs k (z + 1) (gTk tr z (nI a) (co z) f) (upd x (bs + z) (nI 10 * gBar tr z f))
    rw [← e1, e2, sh_Tk ha hv, sh_Bar, ih _ _ _ (by omega)]
theorem sh_G1 (gd : Bool) (x t tol : Int32) : gMG1 gd x t tol = gG1 gd x t tol := by
  unfold gMG1 gG1 gMab gAbs
  rw [Int32.zero_sub]
theorem sh_Tg {tol : Int32} (ha : a ≤ 90) (hc : ∀ z, z < 8 → cv z = co z ∧ ∃ n, n ≤ 100 ∧ cv z = nI n) (ht : ∀ z, z < 8 → tg z = tg' z) : ∀ k z f x, z + k ≤ 8 → gMTg tr (nI a) cv tg tol k z f x = gTg tr (nI a) co tg' tol k z f x := by
  intro k
  induction k with
  | zero => intro z f x _; rfl
  | succ k ih =>
    intro z f x h
    obtain ⟨e1, v, hv, e2⟩ := hc z (by omega)
    show gMTg tr (nI a) cv tg tol k (z + 1) (gMTk tr z (nI a) (cv z) f) (gMG1 x (nI 10 * gMBar tr z f) (tg z) tol) = gTg tr (nI a) co tg' tol k (z + 1) (gTk tr z (nI a) (co z) f) (gG1 x (nI 10 * gBar tr z f) (tg' z) tol)
    rw [← e1, e2, sh_Tk ha hv, sh_Bar, sh_G1, ht z (by omega), ih _ _ _ (by omega)]
end SHT
/-- holding between two bounds -/
theorem sh_lt64 (x y : Int32) : x.toInt64 < y.toInt64 ↔ x < y := by
  rw [Int64.lt_iff_toInt_lt, Int32.toInt_toInt64, Int32.toInt_toInt64, ← Int32.lt_iff_toInt_lt]
theorem sh_held {v lo hi : Int32} (h : lo ≤ hi) : gHeld v.toInt64 lo hi = gMh v lo hi := by
  unfold gHeld gMh gLmax gLmin
  by_cases h1 : v < hi
  · rw [if_pos ((sh_lt64 v hi).mpr h1)]
    by_cases h2 : v < lo
    · rw [if_pos ((sh_lt64 v lo).mpr h2), if_pos h2, Int32.toInt32_toInt64]
    · rw [if_neg (fun q => h2 ((sh_lt64 v lo).mp q)), if_neg h2, if_neg (fun q => Int32.lt_asymm q h1), Int32.toInt32_toInt64]
  · rw [if_neg (fun q => h1 ((sh_lt64 v hi).mp q)), if_neg (fun q => Int32.not_lt.mpr h ((sh_lt64 hi lo).mp q)), Int32.toInt32_toInt64]
    have h3 : hi ≤ v := Int32.not_lt.mp h1
    rw [if_neg (fun q => Int32.not_lt.mpr (Int32.le_trans h h3) q)]
    by_cases h4 : hi < v
    · rw [if_pos h4]
    · rw [if_neg h4]
      exact Int32.le_antisymm h3 (Int32.not_lt.mp h4)
theorem sh_mh (v : Int32) : ∃ n, n ≤ 100 ∧ gMh v (nI 0) (nI 100) = nI n := by
  unfold gMh
  by_cases h1 : v < nI 0
  · rw [if_pos h1]
    exact ⟨0, by decide, rfl⟩
  · rw [if_neg h1]
    by_cases h2 : nI 100 < v
    · rw [if_pos h2]
      exact ⟨100, by decide, rfl⟩
    · rw [if_neg h2]
      obtain ⟨j, hj, e⟩ := nI_of (x := v) h1
      refine ⟨j, ?_, e⟩
      rw [e] at h2
      have : ¬ 100 < j := fun q => h2 ((nI_ltI (by decide) hj).mpr q)
      omega
theorem sh_Ld (sc z : Nat) (den : Nat → Int32) : gMLd sc z den = gLd sc z den := by
  unfold gMLd gLd
  rw [Nat.mul_comm 8]
theorem sh_Sk {ru den cv tg : Nat → Int32} {sc a : Nat} (h5 : ru 5 = nI a) (ha : a ≤ 100) : ∀ k z zv ke, z + k ≤ 8 → jZ zv ke cv tg → jZ (gSk ru sc den k z zv) (gMSk ru sc den tg k z ke) cv tg := by
  intro k
  induction k with
  | zero => intro z zv ke _ h; exact h
  | succ k ih =>
    intro z zv ke hz h
    show jZ (gSk ru sc den k (z + 1) (gSk1 ru sc den z zv)) (gMSk ru sc den tg k (z + 1) (upd ke z (gMh (ke z + gMh ((tg z - gMLd sc z den) * ru 4 / nI 1000) (-(ru 5)) (ru 5)) (nI 0) (nI 100)))) cv tg
    refine ih _ _ _ (by omega) (fun y hy => ?_)
    obtain ⟨z1, z2, z3, z4, z5⟩ := h z (by omega)
    obtain ⟨y1, y2, y3, y4, y5⟩ := h y hy
    have hlo : -(ru 5) ≤ ru 5 := by
      rw [h5, Int32.le_iff_toInt_le, sb_negT (by omega), nI_toInt (by omega)]
      omega
    have ev : gHeld (zv (0 * 8 + z) + gHeld ((zv (2 * 8 + z) - gLd sc z den) * ru 4 / nI 1000).toInt64 (-(ru 5)) (ru 5)).toInt64 (nI 0) (nI 100) = gMh (ke z + gMh ((tg z - gMLd sc z den) * ru 4 / nI 1000) (-(ru 5)) (ru 5)) (nI 0) (nI 100) := by
      rw [sh_held hlo, sh_held (by decide), sh_Ld, z1, z3]
      rfl
    unfold gSk1
    rw [ev]
    refine ⟨?_, ?_, ?_, ?_, y5⟩
    · by_cases e : y = z
      · subst e
        show upd ke y _ y = upd zv (0 * 8 + y) _ (0 * 8 + y)
        rw [pk_us, pk_us]
      · show upd ke z _ y = upd zv (0 * 8 + z) _ (0 * 8 + y)
        rw [pk_un e, pk_un (by omega)]
        exact y1
    · show cv y = upd zv (0 * 8 + z) _ (1 * 8 + y)
      rw [pk_un (by omega)]
      exact y2
    · show tg y = upd zv (0 * 8 + z) _ (2 * 8 + y)
      rw [pk_un (by omega)]
      exact y3
    · by_cases e : y = z
      · subst e
        rw [pk_us]
        exact sh_mh _
      · rw [pk_un e]
        exact y4
/-- the rules are within their bounds -/
def jR (ru : Nat → Int32) : Prop := ∀ i, i < 9 → gWi (ru i) ((gTab 0).getD i 0) ((gTab 1).getD i 0) = true
theorem jR_of {ru : Nat → Int32} (h : jR ru) {i lo hi : Nat} (hi9 : i < 9) (h1 : (gTab 0).getD i 0 = nI lo) (h2 : (gTab 1).getD i 0 = nI hi) (hl : lo < 2 ^ 31) (hh : hi < 2 ^ 30) : ∃ v, lo ≤ v ∧ v ≤ hi ∧ ru i = nI v := by
  have h3 := h i hi9
  rw [h1, h2] at h3
  exact gWi_of hl hh h3
theorem sh_Jg (b : Bool) (x : Int32) : gMJg b x = gJg b x := by
  cases b
  · show x + nI 0 = x
    rw [nI_0, Int32.add_zero]
  · rfl
def jS (ss : Int32) : Prop := ss = -6 ∨ 0 ≤ ss
theorem sh_Js {r ho n ss : Int32} (h : jS ss) (hn : 0 ≤ n) : gMJs r ho n ss = gJs r ho n ss ∧ jS (gJs r ho n ss) := by
  rcases h with rfl | h
  · constructor
    · unfold gMJs gJs
      by_cases q : ho ≤ r
      · rw [if_pos ⟨by decide, q⟩, if_pos ⟨rfl, q⟩]
      · rw [if_neg (fun z => q z.2), if_neg (fun z => q z.2)]
    · unfold gJs
      by_cases q : ho ≤ r
      · rw [if_pos ⟨rfl, q⟩]
        exact Or.inr hn
      · rw [if_neg (fun z => q z.2)]
        exact Or.inl rfl
  · have h6 : ¬ ss = -6 := fun q => by
      rw [q] at h
      exact absurd h (by decide)
    rw [gMJs_1 h, gJs_1 h6]
    exact ⟨rfl, Or.inr h⟩
/-- what a press's two sides share -/
def jU (cv tg : Nat → Int32) (u : gU) (v : gMU) : Prop :=
  jZ u.1 v.1 cv tg ∧ v.2.1 = u.2.1 ∧ v.2.2.1 = u.2.2.1 ∧ v.2.2.2.1 = u.2.2.2.1 ∧ v.2.2.2.2.1 = u.2.2.2.2.1 ∧ v.2.2.2.2.2.1 = u.2.2.2.2.2.1 ∧ v.2.2.2.2.2.2.1 = u.2.2.2.2.2.2.1 ∧ v.2.2.2.2.2.2.2.1 = u.2.2.2.2.2.2.2.1 ∧ v.2.2.2.2.2.2.2.2.1 = u.2.2.2.2.2.2.2.2.1 ∧ v.2.2.2.2.2.2.2.2.2.1 = u.2.2.2.2.2.2.2.2.2.1 ∧ v.2.2.2.2.2.2.2.2.2.2.1 = u.2.2.2.2.2.2.2.2.2.2 ∧ jS u.2.2.2.2.2.2.2.2.2.2 ∧ jI u.2.1 (16000 * (u.2.2.2.2.1 : Int))
theorem sh_due {ev n : Int32} {st : Bool} {k2 ke : Nat → Int32} (h : ¬ ev ≤ 0) : gMst st ev n k2 ke = if st = true ∧ gDue ev n = true then k2 else ke := by
  unfold gMst gDue
  rw [if_neg h]
  by_cases q : n - n / ev * ev = 0
  · rw [decide_eq_true q]
    by_cases s : st = true
    · rw [if_pos ⟨s, q⟩, if_pos ⟨s, rfl⟩]
    · rw [if_neg (fun z => s z.1), if_neg (fun z => s z.1)]
  · rw [decide_eq_false q, if_neg (fun z => q z.2), if_neg (fun z => absurd z.2 (by decide))]
