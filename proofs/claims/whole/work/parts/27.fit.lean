/-! marks: class and reference agree -/
def bI (x : Int32) (n : Nat) : Prop := x.toInt.natAbs ≤ n
def bL (x : Int64) (n : Nat) : Prop := x.toInt.natAbs ≤ n
theorem bI_add {x y : Int32} {a b : Nat} (hx : bI x a) (hy : bI y b) (h : a + b < 2147483648) : bI (x + y) (a + b) := by
  unfold bI at *
  rw [Int32.toInt_add, Int.bmod_eq_of_le (by omega) (by omega)]
  omega
theorem bI_sub {x y : Int32} {a b : Nat} (hx : bI x a) (hy : bI y b) (h : a + b < 2147483648) : bI (x - y) (a + b) := by
  unfold bI at *
  rw [Int32.toInt_sub, Int.bmod_eq_of_le (by omega) (by omega)]
  omega
theorem bI_mul {x y : Int32} {a b : Nat} (hx : bI x a) (hy : bI y b) (h : a * b < 2147483648) : bI (x * y) (a * b) := by
  unfold bI at *
  have h1 : (x.toInt * y.toInt).natAbs ≤ a * b := by
    rw [Int.natAbs_mul]
    exact Nat.mul_le_mul hx hy
  rw [Int32.toInt_mul, Int.bmod_eq_of_le (by omega) (by omega)]
  exact h1
theorem bL_add {x y : Int64} {a b : Nat} (hx : bL x a) (hy : bL y b) (h : a + b < 9223372036854775808) : bL (x + y) (a + b) := by
  unfold bL at *
  rw [Int64.toInt_add, Int.bmod_eq_of_le (by omega) (by omega)]
  omega
theorem bL_sub {x y : Int64} {a b : Nat} (hx : bL x a) (hy : bL y b) (h : a + b < 9223372036854775808) : bL (x - y) (a + b) := by
  unfold bL at *
  rw [Int64.toInt_sub, Int.bmod_eq_of_le (by omega) (by omega)]
  omega
theorem bL_mul {x y : Int64} {a b : Nat} (hx : bL x a) (hy : bL y b) (h : a * b < 9223372036854775808) : bL (x * y) (a * b) := by
  unfold bL at *
  have h1 : (x.toInt * y.toInt).natAbs ≤ a * b := by
    rw [Int.natAbs_mul]
    exact Nat.mul_le_mul hx hy
  rw [Int64.toInt_mul, Int.bmod_eq_of_le (by omega) (by omega)]
  exact h1
theorem bL_le {x : Int64} {a b : Nat} (h : bL x a) (hab : a ≤ b) : bL x b := Nat.le_trans h hab
theorem bI_l {x : Int32} {a : Nat} (h : bI x a) : bL x.toInt64 a := by
  unfold bL
  rw [Int32.toInt_toInt64]
  exact h
theorem bL_ps {f : Nat → Int32} {M : Nat} (hM : M < 1000000000) : ∀ n, n ≤ 8 → (∀ j, j < n → bI (f j) M) → bL (gPs f n 0 0) (n * M) := by
  intro n
  induction n with
  | zero => intro _ _; show (0 : Int64).toInt.natAbs ≤ 0 * M; rw [Nat.zero_mul]; decide
  | succ n ih =>
    intro hn h
    have h1 := ih (by omega) (fun j hj => h j (by omega))
    have h2 := bI_l (h n (by omega))
    have h3 : n * M ≤ 8 * M := Nat.mul_le_mul_right _ (by omega)
    rw [ps_snoc, Nat.zero_add, Nat.succ_mul]
    exact bL_add h1 h2 (by omega)
theorem bL_ps8 {f : Nat → Int32} {M n : Nat} (hM : M < 1000000000) (hn : n ≤ 8) (h : ∀ j, j < n → bI (f j) M) : bL (gPs f n 0 0) (8 * M) := bL_le (bL_ps hM n hn h) (Nat.mul_le_mul_right _ hn)
/-- the marks and their sums -/
def jMk (mn : Nat) (mx my mdx mdy : Nat → Int32) (m1 m2 m3 m4 m5 m6 m7 : Int64) : Prop := mn ≤ 8 ∧ m1 = gPs mx mn 0 0 ∧ m2 = gPs my mn 0 0 ∧ m3 = gPs mdx mn 0 0 ∧ m4 = gPs mdy mn 0 0 ∧ m5 = gPs (fun j => mx j * mx j + my j * my j) mn 0 0 ∧ m6 = gPs (fun j => mx j * mdx j + my j * mdy j) mn 0 0 ∧ m7 = gPs (fun j => mx j * mdy j - my j * mdx j) mn 0 0 ∧ ∀ j, j < mn → bI (mx j) 1000 ∧ bI (my j) 1000 ∧ bI (mdx j) 100 ∧ bI (mdy j) 100
theorem bI_wi {x : Int32} {n : Nat} (hn : n < 2147483648) {lo : Int32} (hl : lo.toInt = -(n : Int)) (h : gWi x lo (nI n) = true) : bI x n := by
  simp only [gWi, Bool.and_eq_true, decide_eq_true_eq] at h
  obtain ⟨h1, h2⟩ := h
  rw [Int32.le_iff_toInt_le] at h1 h2
  rw [nI_toInt (by omega)] at h2
  unfold bI
  omega
theorem jMk_push {mn : Nat} {mx my mdx mdy : Nat → Int32} {m1 m2 m3 m4 m5 m6 m7 : Int64} {x y u v : Int32} (h : jMk mn mx my mdx mdy m1 m2 m3 m4 m5 m6 m7) (hm : mn < 8) (bx : bI x 1000) (by_ : bI y 1000) (bu : bI u 100) (bv : bI v 100) :
    jMk (mn + 1) (upd mx mn x) (upd my mn y) (upd mdx mn u) (upd mdy mn v) (m1 + x.toInt64) (m2 + y.toInt64) (m3 + u.toInt64) (m4 + v.toInt64) (m5 + (x * x + y * y).toInt64) (m6 + (x * u + y * v).toInt64) (m7 + (x * v - y * u).toInt64) := by
  obtain ⟨-, e1, e2, e3, e4, e5, e6, e7, hb⟩ := h
  refine ⟨by omega, ?_, ?_, ?_, ?_, ?_, ?_, ?_, fun j hj => ?_⟩
  · rw [e1]; exact ps_push (fun j hj => pk_un (by omega)) pk_us
  · rw [e2]; exact ps_push (fun j hj => pk_un (by omega)) pk_us
  · rw [e3]; exact ps_push (fun j hj => pk_un (by omega)) pk_us
  · rw [e4]; exact ps_push (fun j hj => pk_un (by omega)) pk_us
  · rw [e5]
    refine ps_push (f := fun j => mx j * mx j + my j * my j) (f' := fun j => upd mx mn x j * upd mx mn x j + upd my mn y j * upd my mn y j) (fun j hj => ?_) ?_
    · show upd mx mn x j * upd mx mn x j + upd my mn y j * upd my mn y j = mx j * mx j + my j * my j
      rw [pk_un (by omega), pk_un (by omega)]
    · show upd mx mn x mn * upd mx mn x mn + upd my mn y mn * upd my mn y mn = _
      rw [pk_us, pk_us]
  · rw [e6]
    refine ps_push (f := fun j => mx j * mdx j + my j * mdy j) (f' := fun j => upd mx mn x j * upd mdx mn u j + upd my mn y j * upd mdy mn v j) (fun j hj => ?_) ?_
    · show upd mx mn x j * upd mdx mn u j + upd my mn y j * upd mdy mn v j = mx j * mdx j + my j * mdy j
      rw [pk_un (by omega), pk_un (by omega), pk_un (by omega), pk_un (by omega)]
    · show upd mx mn x mn * upd mdx mn u mn + upd my mn y mn * upd mdy mn v mn = _
      rw [pk_us, pk_us, pk_us, pk_us]
  · rw [e7]
    refine ps_push (f := fun j => mx j * mdy j - my j * mdx j) (f' := fun j => upd mx mn x j * upd mdy mn v j - upd my mn y j * upd mdx mn u j) (fun j hj => ?_) ?_
    · show upd mx mn x j * upd mdy mn v j - upd my mn y j * upd mdx mn u j = mx j * mdy j - my j * mdx j
      rw [pk_un (by omega), pk_un (by omega), pk_un (by omega), pk_un (by omega)]
    · show upd mx mn x mn * upd mdy mn v mn - upd my mn y mn * upd mdx mn u mn = _
      rw [pk_us, pk_us, pk_us, pk_us]
  · by_cases e : j = mn
    · subst e
      rw [pk_us, pk_us, pk_us, pk_us]
      exact ⟨bx, by_, bu, bv⟩
    · rw [pk_un e, pk_un e, pk_un e, pk_un e]
      exact hb j (by omega)
section FT
variable {mn : Nat} {mx my mdx mdy : Nat → Int32} {m1 m2 m3 m4 m5 m6 m7 : Int64}
theorem ft_bd (h : jMk mn mx my mdx mdy m1 m2 m3 m4 m5 m6 m7) : bL m1 8000 ∧ bL m2 8000 ∧ bL m3 800 ∧ bL m4 800 ∧ bL m5 16000000 ∧ bL m6 1600000 ∧ bL m7 1600000 ∧ bL (nI mn).toInt64 8 := by
  obtain ⟨hn, e1, e2, e3, e4, e5, e6, e7, hb⟩ := h
  refine ⟨?_, ?_, ?_, ?_, ?_, ?_, ?_, ?_⟩
  · rw [e1]; exact bL_ps8 (M := 1000) (by decide) hn (fun j hj => (hb j hj).1)
  · rw [e2]; exact bL_ps8 (M := 1000) (by decide) hn (fun j hj => (hb j hj).2.1)
  · rw [e3]; exact bL_ps8 (M := 100) (by decide) hn (fun j hj => (hb j hj).2.2.1)
  · rw [e4]; exact bL_ps8 (M := 100) (by decide) hn (fun j hj => (hb j hj).2.2.2)
  · rw [e5]; exact bL_ps8 (M := 2000000) (by decide) hn (fun j hj => bI_add (bI_mul (hb j hj).1 (hb j hj).1 (by decide)) (bI_mul (hb j hj).2.1 (hb j hj).2.1 (by decide)) (by decide))
  · rw [e6]; exact bL_ps8 (M := 200000) (by decide) hn (fun j hj => bI_add (bI_mul (hb j hj).1 (hb j hj).2.2.1 (by decide)) (bI_mul (hb j hj).2.1 (hb j hj).2.2.2 (by decide)) (by decide))
  · rw [e7]; exact bL_ps8 (M := 200000) (by decide) hn (fun j hj => bI_sub (bI_mul (hb j hj).1 (hb j hj).2.2.2 (by decide)) (bI_mul (hb j hj).2.1 (hb j hj).2.2.1 (by decide)) (by decide))
  · refine bI_l ?_
    unfold bI
    rw [nI_toInt (by omega)]
    omega
theorem ft_bd2 (h : jMk mn mx my mdx mdy m1 m2 m3 m4 m5 m6 m7) : bL (gSp mn m1 m2 m3 m4 m5 m6 m7) 256000000 ∧ bL (gStr mn m1 m2 m3 m4 m5 m6 m7) 25600000 ∧ bL (gTu mn m1 m2 m3 m4 m5 m6 m7) 25600000 := by
  obtain ⟨b1, b2, b3, b4, b5, b6, b7, b8⟩ := ft_bd h
  refine ⟨?_, ?_, ?_⟩
  · exact bL_sub (bL_sub (bL_mul b8 b5 (by decide)) (bL_mul b1 b1 (by decide)) (by decide)) (bL_mul b2 b2 (by decide)) (by decide)
  · exact bL_sub (bL_sub (bL_mul b8 b6 (by decide)) (bL_mul b1 b3 (by decide)) (by decide)) (bL_mul b2 b4 (by decide)) (by decide)
  · exact bL_add (bL_sub (bL_mul b8 b7 (by decide)) (bL_mul b1 b4 (by decide)) (by decide)) (bL_mul b2 b3 (by decide)) (by decide)
theorem ft_upp (h : jMk mn mx my mdx mdy m1 m2 m3 m4 m5 m6 m7) (wh : Nat) : bL (gUpp wh mn m1 m2 m3 m4 m5 m6 m7) 1000000000000 := by
  obtain ⟨b1, b2, b3, b4, b5, b6, b7, b8⟩ := ft_bd h
  obtain ⟨c1, c2, c3⟩ := ft_bd2 h
  match wh with
  | 0 => exact bL_le c2 (by decide)
  | 1 => exact bL_le c3 (by decide)
  | 2 => exact bL_le (bL_add (bL_sub (bL_mul b3 c1 (by decide)) (bL_mul c2 b1 (by decide)) (by decide)) (bL_mul c3 b2 (by decide)) (by decide)) (by decide)
  | n + 3 => exact bL_le (bL_sub (bL_sub (bL_mul b4 c1 (by decide)) (bL_mul c2 b2 (by decide)) (by decide)) (bL_mul c3 b1 (by decide)) (by decide)) (by decide)
theorem ft_mn (h : jMk mn mx my mdx mdy m1 m2 m3 m4 m5 m6 m7) (hs : 0 < gSp mn m1 m2 m3 m4 m5 m6 m7) : 1 ≤ mn := by
  obtain ⟨hn, e1, e2, e3, e4, e5, e6, e7, hb⟩ := h
  rcases Nat.eq_zero_or_pos mn with q | q
  · subst q
    rw [e1, e2, e3, e4, e5, e6, e7] at hs
    have hs : (0 : Int64) < (nI 0).toInt64 * 0 - 0 * 0 - 0 * 0 := hs
    exact absurd hs (by decide)
  · exact q
theorem ft_toInt {x : Int64} (h : 0 < x) : 0 < x.toInt := by
  rw [Int64.lt_iff_toInt_lt] at h
  exact h
theorem ft_low (h : jMk mn mx my mdx mdy m1 m2 m3 m4 m5 m6 m7) (hs : 0 < gSp mn m1 m2 m3 m4 m5 m6 m7) : 0 < (gSp mn m1 m2 m3 m4 m5 m6 m7 * (nI mn).toInt64).toInt ∧ (gSp mn m1 m2 m3 m4 m5 m6 m7 * (nI mn).toInt64).toInt ≤ 2048000000 := by
  obtain ⟨c1, -, -⟩ := ft_bd2 h
  have h1 := ft_mn h hs
  have h8 := h.1
  have hp := ft_toInt hs
  have b8 := (ft_bd h).2.2.2.2.2.2.2
  have hb := bL_mul c1 b8 (by decide)
  unfold bL at c1 hb
  have en : (nI mn).toInt64.toInt = (mn : Int) := by rw [Int32.toInt_toInt64, nI_toInt (by omega)]
  have hmul : 0 < (gSp mn m1 m2 m3 m4 m5 m6 m7).toInt * (mn : Int) := Int.mul_pos hp (by omega)
  have hle : (gSp mn m1 m2 m3 m4 m5 m6 m7).toInt * (mn : Int) ≤ 256000000 * 8 := Int.mul_le_mul (by omega) (by omega) (by omega) (by decide)
  rw [Int64.toInt_mul, en, Int.bmod_eq_of_le (by omega) (by omega)]
  omega
theorem ft_lowp (h : jMk mn mx my mdx mdy m1 m2 m3 m4 m5 m6 m7) (hs : 0 < gSp mn m1 m2 m3 m4 m5 m6 m7) (wh : Nat) : 0 < (gLow wh mn m1 m2 m3 m4 m5 m6 m7).toInt ∧ (gLow wh mn m1 m2 m3 m4 m5 m6 m7).toInt ≤ 2048000000 := by
  have c1 := (ft_bd2 h).1
  have hp := ft_toInt hs
  unfold bL at c1
  match wh with
  | 0 => exact ⟨hp, by show (gSp mn m1 m2 m3 m4 m5 m6 m7).toInt ≤ _; omega⟩
  | 1 => exact ⟨hp, by show (gSp mn m1 m2 m3 m4 m5 m6 m7).toInt ≤ _; omega⟩
  | n + 2 => exact ft_low h hs
end FT
theorem ft_lN {x : Int64} (h : 0 ≤ x.toInt) : x = lN x.toInt.natAbs := by
  have hlt := Int64.toInt_lt x
  apply Int64.toInt_inj.mp
  rw [pk_lT (by omega)]
  omega
theorem ft_neg {x : Int64} {n : Nat} (hb : bL x n) (hn : n < 9223372036854775808) : (-x).toInt = -x.toInt := by
  unfold bL at hb
  rw [Int64.toInt_neg]
  exact Int.bmod_eq_of_le (by omega) (by omega)
theorem ft_mlab {x : Int64} {n : Nat} (hb : bL x n) (hn : n < 9223372036854775808) : gMlab x = lN x.toInt.natAbs := by
  have hng := ft_neg hb hn
  by_cases h : 0 ≤ x
  · rw [gMlab_p h]
    rw [Int64.le_iff_toInt_le] at h
    exact ft_lN h
  · rw [gMlab_n h]
    rw [Int64.le_iff_toInt_le] at h
    have z : (0 : Int64).toInt = 0 := rfl
    have := ft_lN (x := -x) (by omega)
    rw [this, hng, Int.natAbs_neg]
theorem ft_labs {x : Int64} : gLabs x = gMlab x := by
  unfold gLabs gMlab
  by_cases h : 0 < x
  · rw [if_pos h, if_pos (Int64.le_of_lt h)]
  · rw [if_neg h]
    by_cases h2 : 0 ≤ x
    · rw [if_pos h2, Int64.le_antisymm (Int64.not_lt.mp h) h2]
      decide
    · rw [if_neg h2]
theorem ft_gcd : ∀ (j x y : Nat), x < 2 ^ 63 → y < 2 ^ 63 → y < 2 ^ j → gGcd (2 * j + 2) (lN x) (lN y) = lN (Nat.gcd x y) := by
  intro j
  induction j with
  | zero =>
    intro x y hx hy hj
    obtain rfl : y = 0 := by omega
    rw [gGcd_0 (show lN 0 = 0 from rfl), Nat.gcd_zero_right]
  | succ j ih =>
    intro x y hx hy hj
    rw [show 2 * (j + 1) + 2 = (2 * j + 3) + 1 by omega]
    rcases Nat.eq_zero_or_pos y with q | q
    · subst q
      rw [gGcd_0 (show lN 0 = 0 from rfl), Nat.gcd_zero_right]
    · have hyn : ¬ lN y = 0 := fun z => by
        have := (pk_lEQ hy (by decide)).mp (show lN y = lN 0 from z)
        omega
      rw [gGcd_1 hyn, pk_lRem hx q hy, gGcdN q]
      have hm := Nat.mod_lt x q
      rcases Nat.eq_zero_or_pos (x % y) with q2 | q2
      · rw [q2, gGcd_0 (show lN 0 = 0 from rfl), Nat.gcd_zero_right]
      · have hrn : ¬ lN (x % y) = 0 := fun z => by
          have := (pk_lEQ (by omega) (by decide)).mp (show lN (x % y) = lN 0 from z)
          omega
        rw [show 2 * j + 3 = (2 * j + 2) + 1 by omega, gGcd_1 hrn, pk_lRem hy q2 (by omega), gGcdN q2]
        have hm2 := Nat.mod_lt y q2
        have hdm := Nat.div_add_mod y (x % y)
        have hd1 : 1 ≤ y / (x % y) := Nat.div_pos (by omega) q2
        have hd2 : (x % y) * 1 ≤ (x % y) * (y / (x % y)) := Nat.mul_le_mul_left _ hd1
        exact ih _ _ (by omega) (by omega) (by rw [Nat.pow_succ] at hj; omega)
/-- the fit in lowest terms -/
theorem ft_fit {u lo : Int64} {n : Nat} (hb : bL u n) (hn : n < 9223372036854775808) (h0 : 0 < lo.toInt) (h1 : lo.toInt ≤ 2048000000) (pt : Nat) : gFit pt u lo = gNum pt u lo / lN (Nat.gcd u.toInt.natAbs lo.toInt.natAbs) := by
  have hbl : bL lo 2048000000 := by
    unfold bL
    omega
  have hu : u.toInt.natAbs < 2 ^ 63 := by
    unfold bL at hb
    omega
  have hl : lo.toInt.natAbs < 2 ^ 49 := by
    have : (2 : Nat) ^ 49 = 562949953421312 := by decide
    omega
  have e : gCd u lo = lN (Nat.gcd u.toInt.natAbs lo.toInt.natAbs) := by
    unfold gCd
    rw [ft_labs, ft_labs, ft_mlab hb hn, ft_mlab hbl (by decide)]
    exact ft_gcd 49 _ _ hu (by omega) hl
  have hg : 0 < Nat.gcd u.toInt.natAbs lo.toInt.natAbs := Nat.gcd_pos_of_pos_right _ (by omega)
  have hg2 : Nat.gcd u.toInt.natAbs lo.toInt.natAbs ≤ lo.toInt.natAbs := Nat.gcd_le_right _ (by omega)
  rw [gFit_1, e]
  rw [e]
  exact (pk_lLT (a := 0) (by decide) (by omega)).mpr hg
theorem ft_th {lo md b c : Int64} {u : Int32} (h : 0 < lo.toInt) (e : md = b + c) : gTh lo u md = (1000 * (u.toInt64 * lo - b - c) / lo).toInt32 := by
  rw [gTh_1 (Int64.lt_iff_toInt_lt.mpr h), e, Int64.sub_sub]
