/-! the order: the table's way and the rows' way agree -/
theorem jo_rank {used : Nat} : ∀ f j q, q < gUn used f j → gUn used (gNth used f j q - j) j = q := by
  intro f
  induction f with
  | zero => intro j q h; exact absurd h (Nat.not_lt_zero _)
  | succ f ih =>
    intro j q h
    cases hb : gHolds (nI used) (nI j) with
    | true =>
      rw [gUn_t hb] at h
      have s := gNth_spec (used := used) f (j + 1) q h
      have i := ih (j + 1) q h
      rw [gNth_t hb]
      have e : gNth used f (j + 1) q - j = (gNth used f (j + 1) q - (j + 1)) + 1 := by omega
      rw [e, gUn_t hb, i]
    | false =>
      rw [gUn_f hb] at h
      by_cases h0 : q = 0
      · rw [gNth_z hb h0, Nat.sub_self, h0]
        rfl
      · rw [gNth_s hb (by omega)]
        have s := gNth_spec (used := used) f (j + 1) (q - 1) (by omega)
        have i := ih (j + 1) (q - 1) (by omega)
        have e : gNth used f (j + 1) (q - 1) - j = (gNth used f (j + 1) (q - 1) - (j + 1)) + 1 := by omega
        rw [e, gUn_f hb, i]
        omega
theorem jo_at {used : Nat} : ∀ f j x, j ≤ x → x < j + f → gHolds (nI used) (nI x) = false → gNth used f j (gUn used (x - j) j) = x := by
  intro f
  induction f with
  | zero => intro j x h1 h2 _; exact absurd h2 (by omega)
  | succ f ih =>
    intro j x h1 h2 hx
    by_cases e : x = j
    · subst e
      rw [Nat.sub_self]
      exact gNth_z hx rfl
    · have e2 : x - j = (x - (j + 1)) + 1 := by omega
      have i := ih (j + 1) x (by omega) (by omega) hx
      cases hb : gHolds (nI used) (nI j) with
      | true => rw [e2, gUn_t hb, gNth_t hb, i]
      | false => rw [e2, gUn_f hb, gNth_s hb (by omega), Nat.add_sub_cancel, i]
theorem jo_mono {used : Nat} : ∀ f j e, gUn used f j ≤ gUn used (f + e) j := by
  intro f
  induction f with
  | zero => intro j e; exact Nat.zero_le _
  | succ f ih =>
    intro j e
    have i := ih (j + 1) e
    rw [show f + 1 + e = (f + e) + 1 by omega]
    cases hb : gHolds (nI used) (nI j) with
    | true => rw [gUn_t (f := f) hb, gUn_t (f := f + e) hb]; exact i
    | false => rw [gUn_f (f := f) hb, gUn_f (f := f + e) hb]; omega
theorem jo_lt {used : Nat} : ∀ f j x, j ≤ x → x < j + f → gHolds (nI used) (nI x) = false → gUn used (x - j) j < gUn used f j := by
  intro f
  induction f with
  | zero => intro j x h1 h2 _; exact absurd h2 (by omega)
  | succ f ih =>
    intro j x h1 h2 hx
    by_cases e : x = j
    · subst e
      rw [Nat.sub_self, gUn_f hx]
      exact Nat.succ_pos _
    · have e2 : x - j = (x - (j + 1)) + 1 := by omega
      have i := ih (j + 1) x (by omega) (by omega) hx
      cases hb : gHolds (nI used) (nI j) with
      | true => rw [e2, gUn_t (f := x - (j + 1)) hb, gUn_t (f := f) hb]; exact i
      | false => rw [e2, gUn_f (f := x - (j + 1)) hb, gUn_f (f := f) hb]; omega
theorem jo_all {used : Nat} : ∀ f j, (∀ x, j ≤ x → x < j + f → gHolds (nI used) (nI x) = true) → gUn used f j = 0 := by
  intro f
  induction f with
  | zero => intro j _; rfl
  | succ f ih =>
    intro j h
    rw [gUn_t (h j (Nat.le_refl _) (by omega))]
    exact ih (j + 1) (fun x h1 h2 => h x (by omega) (by omega))
/-- the costs of the k jobs left, laid as row number m says, behind la -/
def jC (n : Nat) (c : Nat → Nat → Nat) : Nat → Nat → Nat → Nat → Nat
  | 0, _, _, _ => 0
  | k + 1, d, la, m => c la (gNth d n 0 (m / gFct k)) + jC n c k (d ||| 1 * 2 ^ (gNth d n 0 (m / gFct k))) (gNth d n 0 (m / gFct k)) (m % gFct k)
theorem jC_le {n : Nat} {c : Nat → Nat → Nat} (hc : ∀ a b, c a b ≤ 105) : ∀ k d la m, jC n c k d la m ≤ 105 * k := by
  intro k
  induction k with
  | zero => intro d la m; exact Nat.le_refl _
  | succ k ih =>
    intro d la m
    have h1 := hc la (gNth d n 0 (m / gFct k))
    have h2 := ih (d ||| 1 * 2 ^ (gNth d n 0 (m / gFct k))) (gNth d n 0 (m / gFct k)) (m % gFct k)
    show c la (gNth d n 0 (m / gFct k)) + jC n c k (d ||| 1 * 2 ^ (gNth d n 0 (m / gFct k))) (gNth d n 0 (m / gFct k)) (m % gFct k) ≤ 105 * (k + 1)
    omega
/-- row m is the first of the least ones -/
def jF (n : Nat) (c : Nat → Nat → Nat) (k d la m : Nat) : Prop := m < gFct k ∧ (∀ m', m' < gFct k → jC n c k d la m ≤ jC n c k d la m') ∧ ∀ m', m' < m → jC n c k d la m < jC n c k d la m'
theorem jF_uniq {n : Nat} {c : Nat → Nat → Nat} {k d la m m' : Nat} (h : jF n c k d la m) (h' : jF n c k d la m') : m = m' := by
  rcases Nat.lt_trichotomy m m' with q | q | q
  · have := h'.2.2 m q
    have := h.2.1 m' h'.1
    omega
  · exact q
  · have := h.2.2 m' q
    have := h'.2.1 m h.1
    omega
theorem jF_0 {n : Nat} {c : Nat → Nat → Nat} {d la : Nat} : jF n c 0 d la 0 := ⟨Nat.one_pos, fun _ _ => Nat.le_refl _, fun m' h => absurd h (Nat.not_lt_zero _)⟩
theorem jF_dm {F m1 q : Nat} (h : m1 < F) : (m1 + q * F) / F = q ∧ (m1 + q * F) % F = m1 := by
  have hF : 0 < F := by omega
  constructor
  · rw [Nat.add_mul_div_right _ _ hF, Nat.div_eq_of_lt h, Nat.zero_add]
  · rw [Nat.add_mul_mod_self_right, Nat.mod_eq_of_lt h]
theorem jC_s {n : Nat} {c : Nat → Nat → Nat} {k d la m x r : Nat} (hx : gNth d n 0 (m / gFct k) = x) (hr : m % gFct k = r) : jC n c (k + 1) d la m = c la x + jC n c k (d ||| 1 * 2 ^ x) x r := by
  show c la (gNth d n 0 (m / gFct k)) + jC n c k (d ||| 1 * 2 ^ (gNth d n 0 (m / gFct k))) (gNth d n 0 (m / gFct k)) (m % gFct k) = _
  rw [hx, hr]
theorem jF_step {n k d la b m1 : Nat} {c : Nat → Nat → Nat} {C : Nat → Nat} (hn : n ≤ 7) (hun : gUn d n 0 = k + 1)
    (hC : ∀ x, x < n → gHolds (nI d) (nI x) = false → ∃ m, jF n c k (d ||| 1 * 2 ^ x) x m ∧ C x = c la x + jC n c k (d ||| 1 * 2 ^ x) x m)
    (hb : b < n) (hbu : gHolds (nI d) (nI b) = false) (hle : ∀ x, x < n → gHolds (nI d) (nI x) = false → C b ≤ C x) (hlt : ∀ x, x < b → gHolds (nI d) (nI x) = false → C b < C x)
    (h1 : jF n c k (d ||| 1 * 2 ^ b) b m1) : jF n c (k + 1) d la (m1 + gUn d b 0 * gFct k) ∧ jC n c (k + 1) d la (m1 + gUn d b 0 * gFct k) = C b := by
  have hk : k ≤ 7 := by
    have := gUn_le d n 0
    omega
  have hF := (gFct_le hk).1
  have e1 : C b = c la b + jC n c k (d ||| 1 * 2 ^ b) b m1 := by
    obtain ⟨m, q1, q2⟩ := hC b hb hbu
    rw [jF_uniq h1 q1]
    exact q2
  have hq : gUn d b 0 < k + 1 := by
    have := jo_lt n 0 b (Nat.zero_le _) (by omega) hbu
    rw [hun] at this
    exact this
  have hnb : gNth d n 0 (gUn d b 0) = b := jo_at n 0 b (Nat.zero_le _) (by omega) hbu
  obtain ⟨d1, d2⟩ := jF_dm (q := gUn d b 0) h1.1
  have ev : jC n c (k + 1) d la (m1 + gUn d b 0 * gFct k) = C b := by
    rw [jC_s (x := b) (by rw [d1]; exact hnb) d2, e1]
  have hfs : gFct (k + 1) = k * gFct k + gFct k := Nat.succ_mul k (gFct k)
  have hqm : gUn d b 0 * gFct k ≤ k * gFct k := Nat.mul_le_mul_right _ (by omega)
  have h11 := h1.1
  -- any row's costs, by its first job
  have hany : ∀ m', m' < gFct (k + 1) → ∃ x, x < n ∧ gHolds (nI d) (nI x) = false ∧ gNth d n 0 (m' / gFct k) = x ∧ gUn d x 0 = m' / gFct k ∧ C x ≤ jC n c (k + 1) d la m' := by
    intro m' hm'
    have hq' : m' / gFct k < k + 1 := Nat.div_lt_of_lt_mul (by rw [Nat.mul_comm]; exact hm')
    have sp := gNth_spec n 0 (m' / gFct k) (by rw [hun]; exact hq')
    have rk := jo_rank n 0 (m' / gFct k) (by rw [hun]; exact hq')
    obtain ⟨m2, f2, e2⟩ := hC _ (by omega) sp.2.2
    refine ⟨_, by omega, sp.2.2, rfl, rk, ?_⟩
    rw [e2, jC_s rfl rfl]
    have := f2.2.1 (m' % gFct k) (Nat.mod_lt _ hF)
    omega
  refine ⟨⟨by omega, fun m' hm' => ?_, fun m' hm' => ?_⟩, ev⟩
  · obtain ⟨x, x1, x2, -, -, x3⟩ := hany m' hm'
    have := hle x x1 x2
    omega
  · obtain ⟨x, x1, x2, x4, x5, x3⟩ := hany m' (by omega)
    rw [ev]
    have hdm := Nat.div_add_mod m' (gFct k)
    rcases Nat.lt_trichotomy (m' / gFct k) (gUn d b 0) with q | q | q
    · have hxb : x < b := by
        rcases Nat.lt_or_ge x b with z | z
        · exact z
        · have mo := jo_mono (used := d) b 0 (x - b)
          rw [show b + (x - b) = x by omega] at mo
          omega
      have := hlt x hxb x2
      omega
    · have exb : x = b := by rw [← x4, q, hnb]
      subst exb
      have hm1 : m' % gFct k < m1 := by
        rw [q, Nat.mul_comm] at hdm
        omega
      rw [jC_s x4 rfl, e1]
      have := h1.2.2 _ hm1
      omega
    · have h3 : gFct k * (gUn d b 0 + 1) ≤ gFct k * (m' / gFct k) := Nat.mul_le_mul_left _ q
      rw [Nat.mul_succ, Nat.mul_comm] at h3
      omega
/-- what the search for the next one finds: the first of the least ones -/
theorem jo_bn {cost : Nat → Int32} {C : Nat → Nat} {d n : Nat} (hn : n ≤ 7) (hc : ∀ x, x < n → gHolds (nI d) (nI x) = false → cost x = nI (C x) ∧ C x < 2 ^ 31) : ∀ k nx fo le, nx + k = n →
    ((fo = -6 ∧ ∀ x, x < nx → gHolds (nI d) (nI x) = true) ∨ ∃ b, b < nx ∧ fo = nI b ∧ gHolds (nI d) (nI b) = false ∧ le = nI (C b) ∧ (∀ x, x < nx → gHolds (nI d) (nI x) = false → C b ≤ C x) ∧ ∀ x, x < b → gHolds (nI d) (nI x) = false → C b < C x) →
    (((gBn cost d k nx fo le).1 = -6 ∧ ∀ x, x < n → gHolds (nI d) (nI x) = true) ∨ ∃ b, b < n ∧ (gBn cost d k nx fo le).1 = nI b ∧ gHolds (nI d) (nI b) = false ∧ (∀ x, x < n → gHolds (nI d) (nI x) = false → C b ≤ C x) ∧ ∀ x, x < b → gHolds (nI d) (nI x) = false → C b < C x) := by
  intro k
  induction k with
  | zero =>
    intro nx fo le hk h
    obtain rfl : nx = n := by omega
    rcases h with ⟨h1, h2⟩ | ⟨b, h1, h2, h3, h4, h5, h6⟩
    · exact Or.inl ⟨h1, h2⟩
    · exact Or.inr ⟨b, h1, h2, h3, h5, h6⟩
  | succ k ih =>
    intro nx fo le hk h
    cases hb : gHolds (nI d) (nI nx) with
    | true =>
      rw [gBn_h hb]
      refine ih (nx + 1) fo le (by omega) ?_
      rcases h with ⟨h1, h2⟩ | ⟨b, h1, h2, h3, h4, h5, h6⟩
      · refine Or.inl ⟨h1, fun x hx => ?_⟩
        rcases Nat.lt_or_ge x nx with q | q
        · exact h2 x q
        · rw [show x = nx by omega]; exact hb
      · refine Or.inr ⟨b, by omega, h2, h3, h4, fun x hx hu => ?_, h6⟩
        rcases Nat.lt_or_ge x nx with q | q
        · exact h5 x q hu
        · rw [show x = nx by omega, hb] at hu; exact absurd hu (by decide)
    | false =>
      obtain ⟨c1, c2⟩ := hc nx (by omega) hb
      rcases h with ⟨h1, h2⟩ | ⟨b, h1, h2, h3, h4, h5, h6⟩
      · rw [gBn_n hb h1]
        refine ih (nx + 1) _ _ (by omega) (Or.inr ⟨nx, by omega, rfl, hb, c1, fun x hx hu => ?_, fun x hx hu => ?_⟩)
        · rcases Nat.lt_or_ge x nx with q | q
          · rw [h2 x q] at hu; exact absurd hu (by decide)
          · rw [show x = nx by omega]; exact Nat.le_refl _
        · rw [h2 x hx] at hu; exact absurd hu (by decide)
      · have hfo : ¬ fo = -6 := by
          rw [h2]
          intro q
          have q2 := congrArg Int32.toInt q
          rw [nI_toInt (by omega)] at q2
          have : (-6 : Int32).toInt = -6 := rfl
          omega
        obtain ⟨b1, b2⟩ := hc b (by omega) h3
        by_cases hle : le ≤ cost nx
        · rw [gBn_k hb hfo hle]
          rw [h4, c1, nI_leI b2 c2] at hle
          refine ih (nx + 1) _ _ (by omega) (Or.inr ⟨b, by omega, h2, h3, h4, fun x hx hu => ?_, h6⟩)
          rcases Nat.lt_or_ge x nx with q | q
          · exact h5 x q hu
          · rw [show x = nx by omega]; exact hle
        · rw [gBn_l hb hfo hle]
          rw [h4, c1, nI_leI b2 c2] at hle
          refine ih (nx + 1) _ _ (by omega) (Or.inr ⟨nx, by omega, rfl, hb, c1, fun x hx hu => ?_, fun x hx hu => ?_⟩)
          · rcases Nat.lt_or_ge x nx with q | q
            · have := h5 x q hu
              omega
            · rw [show x = nx by omega]; exact Nat.le_refl _
          · have := h5 x hx hu
            omega
/-- the costs of one change, as a number -/
def jK (co : Nat → Nat) (pa wa : Nat → Int32) (x y : Nat) : Nat := (wa (co x * 4 + co y)).toNatClampNeg + (if pa x = pa y then 0 else 5)
def jWa (wa : Nat → Int32) : Prop := ∀ j, j < 16 → ∃ v, v ≤ 100 ∧ wa j = nI v
theorem jK_le {co : Nat → Nat} {pa wa : Nat → Int32} (hco : ∀ j, co j < 4) (hwa : jWa wa) (x y : Nat) : jK co pa wa x y ≤ 105 := by
  have h1 := hco x
  have h2 := hco y
  obtain ⟨v, hv, e⟩ := hwa (co x * 4 + co y) (by omega)
  unfold jK
  rw [e, nI_clamp (by omega)]
  split <;> omega
theorem jK_eq {co : Nat → Nat} {pa wa : Nat → Int32} (hco : ∀ j, co j < 4) (hwa : jWa wa) (x y : Nat) : wa (co x * 4 + co y) + (if pa x = pa y then nI 0 else nI 5) = nI (jK co pa wa x y) := by
  have h1 := hco x
  have h2 := hco y
  obtain ⟨v, hv, e⟩ := hwa (co x * 4 + co y) (by omega)
  unfold jK
  rw [e, nI_clamp (by omega)]
  split <;> exact nI_add _ _
/-- the table's row d is right -/
def jT (n : Nat) (c : Nat → Nat → Nat) (T : Nat → Int32) (d : Nat) : Prop := ∀ la, la < n → gHolds (nI d) (nI la) = true → ∃ m, jF n c (gUn d n 0) d la m ∧ T (d * 8 + la) = nI (jC n c (gUn d n 0) d la m)
theorem jo_or {n d x : Nat} (hn : n ≤ 7) (hd : d < 2 ^ n) (hx : x < n) (hu : gHolds (nI d) (nI x) = false) : d < d ||| 1 * 2 ^ x ∧ d ||| 1 * 2 ^ x < 2 ^ n ∧ gHolds (nI (d ||| 1 * 2 ^ x)) (nI x) = true ∧ gUn (d ||| 1 * 2 ^ x) n 0 + 1 = gUn d n 0 := by
  have h128 : d < 128 := Nat.lt_of_lt_of_le hd (Nat.pow_le_pow_right (by decide) hn)
  have ho := gHolds_or h128 (show x < 7 by omega) (show x < 8 by omega)
  rw [decide_eq_true rfl, Bool.or_true] at ho
  refine ⟨?_, ?_, ho, (gUn_or h128 (by omega) hu n 0 (by omega)).1 ⟨Nat.zero_le _, by omega⟩⟩
  · rcases Nat.lt_or_eq_of_le (Nat.left_le_or (n := d) (m := 1 * 2 ^ x)) with q | q
    · exact q
    · rw [← q, hu] at ho
      exact absurd ho (by decide)
  · rw [Nat.one_mul]
    exact Nat.or_lt_two_pow hd (Nat.pow_lt_pow_right (by decide) hx)
section JO
variable {n : Nat} {co : Nat → Nat} {pa wa : Nat → Int32} (hn : n ≤ 7) (hco : ∀ j, co j < 4) (hwa : jWa wa)
theorem jo_cost {T : Nat → Int32} {d la : Nat} (hn : n ≤ 7) (hco : ∀ j, co j < 4) (hwa : jWa wa) (hd : d < 2 ^ n) (hT : ∀ d', d < d' → d' < 2 ^ n → jT n (jK co pa wa) T d') : ∃ C : Nat → Nat, ∀ x, x < n → gHolds (nI d) (nI x) = false → (gCost co pa wa T d la x = nI (C x) ∧ C x < 2 ^ 31) ∧ ∃ m, jF n (jK co pa wa) (gUn d n 0 - 1) (d ||| 1 * 2 ^ x) x m ∧ C x = jK co pa wa la x + jC n (jK co pa wa) (gUn d n 0 - 1) (d ||| 1 * 2 ^ x) x m := by
  refine ⟨fun x => (gCost co pa wa T d la x).toNatClampNeg, fun x hx hu => ?_⟩
  obtain ⟨o1, o2, o3, o4⟩ := jo_or hn hd hx hu
  obtain ⟨m, f, e⟩ := hT _ o1 o2 x hx o3
  have hk : gUn (d ||| 1 * 2 ^ x) n 0 = gUn d n 0 - 1 := by omega
  rw [hk] at f e
  have hg : gUn d n 0 ≤ 7 := Nat.le_trans (gUn_le d n 0) hn
  have b1 := jK_le (pa := pa) hco hwa la x
  have b2 := jC_le (n := n) (jK_le (pa := pa) hco hwa) (gUn d n 0 - 1) (d ||| 1 * 2 ^ x) x m
  have ec : gCost co pa wa T d la x = nI (jK co pa wa la x + jC n (jK co pa wa) (gUn d n 0 - 1) (d ||| 1 * 2 ^ x) x m) := by
    unfold gCost
    rw [jK_eq hco hwa, e, nI_add]
  have ecl : (gCost co pa wa T d la x).toNatClampNeg = jK co pa wa la x + jC n (jK co pa wa) (gUn d n 0 - 1) (d ||| 1 * 2 ^ x) x m := by
    rw [ec, nI_clamp (by omega)]
  refine ⟨⟨?_, ?_⟩, m, f, ecl⟩
  · show gCost co pa wa T d la x = nI (gCost co pa wa T d la x).toNatClampNeg
    rw [ecl]
    exact ec
  · show (gCost co pa wa T d la x).toNatClampNeg < 2 ^ 31
    rw [ecl]
    omega
/-- the search at d, la: nothing is left, or the first of the least ones -/
theorem jo_next {T : Nat → Int32} {d la : Nat} (hn : n ≤ 7) (hco : ∀ j, co j < 4) (hwa : jWa wa) (hd : d < 2 ^ n) (hT : ∀ d', d < d' → d' < 2 ^ n → jT n (jK co pa wa) T d') :
    ((gBn (gCost co pa wa T d la) d n 0 (-6) (nI 0)).1 = -6 ∧ gUn d n 0 = 0) ∨ ∃ b k, b < n ∧ (gBn (gCost co pa wa T d la) d n 0 (-6) (nI 0)).1 = nI b ∧ gHolds (nI d) (nI b) = false ∧ gUn d n 0 = k + 1 ∧
      ∃ v, gCost co pa wa T d la b = nI v ∧ ∀ m1, jF n (jK co pa wa) k (d ||| 1 * 2 ^ b) b m1 → jF n (jK co pa wa) (k + 1) d la (m1 + gUn d b 0 * gFct k) ∧ jC n (jK co pa wa) (k + 1) d la (m1 + gUn d b 0 * gFct k) = v := by
  obtain ⟨C, hC⟩ := jo_cost (pa := pa) (la := la) hn hco hwa hd hT
  rcases jo_bn hn (fun x hx hu => (hC x hx hu).1) n 0 (-6) (nI 0) (by omega) (Or.inl ⟨rfl, fun x hx => absurd hx (Nat.not_lt_zero _)⟩) with ⟨h1, h2⟩ | ⟨b, h1, h2, h3, h4, h5⟩
  · exact Or.inl ⟨h1, jo_all n 0 (fun x _ hx => h2 x (by omega))⟩
  · have hpos := jo_lt n 0 b (Nat.zero_le _) (by omega) h3
    refine Or.inr ⟨b, gUn d n 0 - 1, h1, h2, h3, by omega, C b, (hC b h1 h3).1.1, fun m1 hm1 => ?_⟩
    exact jF_step hn (by omega) (fun x hx hu => (hC x hx hu).2) h1 h3 h4 h5 hm1
theorem jo_wv {T : Nat → Int32} {d la : Nat} (hn : n ≤ 7) (hco : ∀ j, co j < 4) (hwa : jWa wa) (hd : d < 2 ^ n) (hT : ∀ d', d < d' → d' < 2 ^ n → jT n (jK co pa wa) T d') : ∃ m, jF n (jK co pa wa) (gUn d n 0) d la m ∧ gWv n co pa wa T d la = nI (jC n (jK co pa wa) (gUn d n 0) d la m) := by
  rcases jo_next (la := la) hn hco hwa hd hT with ⟨h1, h2⟩ | ⟨b, k, h1, h2, h3, h4, v, h5, h6⟩
  · rw [h2, gWv_0 h1]
    exact ⟨0, jF_0, rfl⟩
  · obtain ⟨o1, o2, o3, o4⟩ := jo_or hn hd h1 h3
    obtain ⟨m1, f, -⟩ := hT _ o1 o2 b h1 o3
    rw [show gUn (d ||| 1 * 2 ^ b) n 0 = k by omega] at f
    obtain ⟨f1, f2⟩ := h6 m1 f
    rw [h4]
    refine ⟨_, f1, ?_⟩
    have hne : ¬ (gBn (gCost co pa wa T d la) d n 0 (-6) (nI 0)).1 = -6 := by
      rw [h2]
      intro q
      have q2 := congrArg Int32.toInt q
      rw [nI_toInt (by omega)] at q2
      have : (-6 : Int32).toInt = -6 := rfl
      omega
    rw [gWv_n hne h2 (by omega), h5, f2]
theorem jo_wz {d : Nat} (hn : n ≤ 7) (hco : ∀ j, co j < 4) (hwa : jWa wa) (hd : d < 2 ^ n) : ∀ k la (T : Nat → Int32), la + k = n → (∀ d', d < d' → d' < 2 ^ n → jT n (jK co pa wa) T d') → (∀ la', la' < la → gHolds (nI d) (nI la') = true → ∃ m, jF n (jK co pa wa) (gUn d n 0) d la' m ∧ T (d * 8 + la') = nI (jC n (jK co pa wa) (gUn d n 0) d la' m)) → ∀ d', d ≤ d' → d' < 2 ^ n → jT n (jK co pa wa) (gWz n co pa wa d k la T) d' := by
  intro k
  induction k with
  | zero =>
    intro la T hla h1 h2 d' hd1 hd2
    rcases Nat.lt_or_eq_of_le hd1 with q | q
    · exact h1 d' q hd2
    · subst q
      exact fun la' hl hb => h2 la' (by omega) hb
  | succ k ih =>
    intro la T hla h1 h2
    cases hb : gHolds (nI d) (nI la) with
    | true =>
      rw [gWz_t hb]
      obtain ⟨m, f, e⟩ := jo_wv (la := la) hn hco hwa hd h1
      refine ih (la + 1) _ (by omega) (fun d' q1 q2 la' hl hb' => ?_) (fun la' hl hb' => ?_)
      · obtain ⟨m', f', e'⟩ := h1 d' q1 q2 la' hl hb'
        exact ⟨m', f', by rw [pk_un (by omega)]; exact e'⟩
      · rcases Nat.lt_or_ge la' la with q | q
        · obtain ⟨m', f', e'⟩ := h2 la' q hb'
          exact ⟨m', f', by rw [pk_un (by omega)]; exact e'⟩
        · obtain rfl : la' = la := by omega
          exact ⟨m, f, by rw [pk_us]; exact e⟩
    | false =>
      rw [gWz_f hb]
      refine ih (la + 1) _ (by omega) h1 (fun la' hl hb' => ?_)
      rcases Nat.lt_or_ge la' la with q | q
      · exact h2 la' q hb'
      · obtain rfl : la' = la := by omega
        rw [hb] at hb'
        exact absurd hb' (by decide)
theorem jo_wd (hn : n ≤ 7) (hco : ∀ j, co j < 4) (hwa : jWa wa) : ∀ k (T : Nat → Int32), k < 2 ^ n → (∀ d', k < d' → d' < 2 ^ n → jT n (jK co pa wa) T d') → ∀ d', 0 < d' → d' < 2 ^ n → jT n (jK co pa wa) (gWd n co pa wa k T) d' := by
  intro k
  induction k with
  | zero => intro T _ h; exact h
  | succ k ih =>
    intro T hk h
    refine ih _ (by omega) (fun d' q1 q2 => ?_)
    exact jo_wz hn hco hwa hk n 0 T (by omega) h (fun la' hl => absurd hl (Nat.not_lt_zero _)) d' q1 q2
theorem jo_tab (T : Nat → Int32) (hn : n ≤ 7) (hco : ∀ j, co j < 4) (hwa : jWa wa) : ∀ d', 0 < d' → d' < 2 ^ n → jT n (jK co pa wa) (gWd n co pa wa (1 * 2 ^ n - 1) T) d' := by
  have h2 : 0 < 2 ^ n := Nat.two_pow_pos n
  exact jo_wd hn hco hwa _ T (by omega) (fun d' q1 q2 => by omega)
theorem jo_pc7 (T : Nat → Int32) (hn : n ≤ 7) (hco : ∀ j, co j < 4) (hwa : jWa wa) : ∃ m, jF n (jK co pa wa) n 0 7 m ∧ gPc false n co pa wa T 7 = nI (jC n (jK co pa wa) n 0 7 m) := by
  have h := jo_wv (pa := pa) (la := 7) hn hco hwa (Nat.two_pow_pos n) (fun d' q1 q2 => jo_tab T hn hco hwa d' q1 q2)
  rw [gUn_0 n 0 (by omega)] at h
  obtain ⟨m, f, e⟩ := h
  refine ⟨m, f, ?_⟩
  show upd (gWd n co pa wa (1 * 2 ^ n - 1) T) (0 * 8 + 7) (gWv n co pa wa (gWd n co pa wa (1 * 2 ^ n - 1) T) 0 7) 7 = _
  rw [show (0 * 8 + 7) = 7 from rfl, pk_us]
  exact e
theorem jo_pcT (T : Nat → Int32) (hn : n ≤ 7) (hco : ∀ j, co j < 4) (hwa : jWa wa) : ∀ d', 0 < d' → d' < 2 ^ n → jT n (jK co pa wa) (gPc false n co pa wa T) d' := by
  intro d' h1 h2 la hl hb
  obtain ⟨m, f, e⟩ := jo_tab (pa := pa) T hn hco hwa d' h1 h2 la hl hb
  refine ⟨m, f, ?_⟩
  show upd (gWd n co pa wa (1 * 2 ^ n - 1) T) (0 * 8 + 7) (gWv n co pa wa (gWd n co pa wa (1 * 2 ^ n - 1) T) 0 7) (d' * 8 + la) = _
  rw [pk_un (by omega)]
  exact e
end JO
theorem jo_updN {f : Nat → Nat} {k x : Nat} : vf_upd f k x k = x := if_pos rfl
theorem jo_updO {f : Nat → Nat} {k j x : Nat} (h : j ≠ k) : vf_upd f k x j = f j := if_neg h
theorem jo_lay_lo {n : Nat} : ∀ k i left used (ro : Nat → Nat) j, j < i → gLay n k i left used ro j = ro j := by
  intro k
  induction k with
  | zero => intro i left used ro j _; rfl
  | succ k ih =>
    intro i left used ro j h
    show gLay n k (i + 1) _ _ (vf_upd ro i _) j = _
    rw [ih (i + 1) _ _ _ j (by omega), jo_updO (by omega)]
theorem jo_lay_ind {n : Nat} : ∀ k i left used (ro ro' : Nat → Nat) j, i ≤ j → j < i + k → gLay n k i left used ro j = gLay n k i left used ro' j := by
  intro k
  induction k with
  | zero => intro i left used ro ro' j h1 h2; exact absurd h2 (by omega)
  | succ k ih =>
    intro i left used ro ro' j h1 h2
    show gLay n k (i + 1) _ _ (vf_upd ro i _) j = gLay n k (i + 1) _ _ (vf_upd ro' i _) j
    rcases Nat.lt_or_eq_of_le h1 with q | q
    · exact ih (i + 1) _ _ _ _ j (by omega) (by omega)
    · subst q
      rw [jo_lay_lo k _ _ _ _ _ (by omega), jo_lay_lo k _ _ _ _ _ (by omega), jo_updN, jo_updN]
theorem jo_walk_lo {n : Nat} {co : Nat → Nat} {pa wa T : Nat → Int32} : ∀ k pl d la (bf : Nat → Nat) j, j < pl → gWk n co pa wa T k pl d la bf j = bf j := by
  intro k
  induction k with
  | zero => intro pl d la bf j _; rfl
  | succ k ih =>
    intro pl d la bf j h
    by_cases q : (gBn (gCost co pa wa T d la) d n 0 (-6) (nI 0)).1 = -6
    · rw [gWk_0 q]
    · obtain ⟨x, -, e⟩ := gBx_ne q
      have e3 : gWk n co pa wa T (k + 1) pl d la bf = gWk n co pa wa T k (pl + 1) _ _ (vf_upd bf pl _) := if_neg q
      rw [e3, ih (pl + 1) _ _ _ j (by omega), jo_updO (by omega)]
theorem jo_walk {n : Nat} {co : Nat → Nat} {pa wa T : Nat → Int32} (hn : n ≤ 7) (hco : ∀ j, co j < 4) (hwa : jWa wa) (hT : ∀ d', 0 < d' → d' < 2 ^ n → jT n (jK co pa wa) T d') : ∀ k d la, gUn d n 0 = k → d < 2 ^ n → ∃ m, jF n (jK co pa wa) k d la m ∧ ∀ pl (bf ro : Nat → Nat) i, pl ≤ i → i < pl + k → gWk n co pa wa T k pl d la bf i = gLay n k pl m d ro i := by
  intro k
  induction k with
  | zero => intro d la _ _; exact ⟨0, jF_0, fun pl bf ro i h1 h2 => absurd h2 (by omega)⟩
  | succ k ih =>
    intro d la hk hd
    rcases jo_next (la := la) (pa := pa) hn hco hwa hd (fun d' q1 q2 => hT d' (by omega) q2) with ⟨h1, h2⟩ | ⟨b, k', h1, h2, h3, h4, v, h5, h6⟩
    · rw [hk] at h2
      exact absurd h2 (by omega)
    · obtain rfl : k' = k := by omega
      obtain ⟨o1, o2, o3, o4⟩ := jo_or hn hd h1 h3
      obtain ⟨m1, f, g⟩ := ih (d ||| 1 * 2 ^ b) b (by omega) o2
      refine ⟨_, (h6 m1 f).1, fun pl bf ro i q1 q2 => ?_⟩
      obtain ⟨d1, d2⟩ := jF_dm (q := gUn d b 0) f.1
      have hnb : gNth d n 0 (gUn d b 0) = b := jo_at n 0 b (Nat.zero_le _) (by omega) h3
      have hne : ¬ (gBn (gCost co pa wa T d la) d n 0 (-6) (nI 0)).1 = -6 := by
        rw [h2]
        intro q
        have q2 := congrArg Int32.toInt q
        rw [nI_toInt (by omega)] at q2
        have : (-6 : Int32).toInt = -6 := rfl
        omega
      rw [gWk_1 hne h2 (by omega)]
      have el : gLay n (k' + 1) pl (m1 + gUn d b 0 * gFct k') d ro = gLay n k' (pl + 1) m1 (d ||| 1 * 2 ^ b) (vf_upd ro pl b) := by
        show gLay n k' (pl + 1) ((m1 + gUn d b 0 * gFct k') % gFct k') (d ||| 1 * 2 ^ (gNth d n 0 ((m1 + gUn d b 0 * gFct k') / gFct k'))) (vf_upd ro pl (gNth d n 0 ((m1 + gUn d b 0 * gFct k') / gFct k'))) = _
        rw [d1, d2, hnb]
      rw [el]
      rcases Nat.lt_or_eq_of_le q1 with q | q
      · exact g (pl + 1) _ _ i (by omega) (by omega)
      · subst q
        rw [jo_walk_lo k' _ _ _ _ _ (by omega), jo_lay_lo k' _ _ _ _ _ (by omega), jo_updN, jo_updN]
/-- a row's costs in the reference's way -/
theorem jo_mc {n : Nat} {co : Nat → Nat} {pa wa : Nat → Int32} (hco : ∀ j, co j < 4) (hwa : jWa wa) : ∀ k i m d la (ro : Nat → Nat) cst, gMc co pa wa (gLay n k i m d ro) k i cst (co la) (pa la) = cst + nI (jC n (jK co pa wa) k d la m) := by
  intro k
  induction k with
  | zero =>
    intro i m d la ro cst
    show cst = cst + nI 0
    rw [nI_0, Int32.add_zero]
  | succ k ih =>
    intro i m d la ro cst
    have el : gLay n (k + 1) i m d ro = gLay n k (i + 1) (m % gFct k) (d ||| 1 * 2 ^ (gNth d n 0 (m / gFct k))) (vf_upd ro i (gNth d n 0 (m / gFct k))) := rfl
    have ei : gLay n (k + 1) i m d ro i = gNth d n 0 (m / gFct k) := by
      rw [el, jo_lay_lo k _ _ _ _ _ (by omega), jo_updN]
    rw [gMc_s, ei, el, ih, jC_s rfl rfl, ← nI_add, ← jK_eq hco hwa, Nat.mul_comm 4, Int32.add_assoc]
    by_cases h : pa (gNth d n 0 (m / gFct k)) = pa la
    · rw [if_pos h, if_pos h.symm]
    · rw [if_neg h, if_neg (fun q => h q.symm)]
theorem jo_cp {ro : Nat → Nat} : ∀ k j (be : Nat → Nat) i, (i < j → gCp ro k j be i = be i) ∧ (j ≤ i → i < j + k → gCp ro k j be i = ro i) := by
  intro k
  induction k with
  | zero => intro j be i; exact ⟨fun _ => rfl, fun h1 h2 => absurd h2 (by omega)⟩
  | succ k ih =>
    intro j be i
    constructor
    · intro h
      show gCp ro k (j + 1) (vf_upd be j (ro j)) i = _
      rw [(ih (j + 1) _ i).1 (by omega), jo_updO (by omega)]
    · intro h1 h2
      show gCp ro k (j + 1) (vf_upd be j (ro j)) i = _
      rcases Nat.lt_or_eq_of_le h1 with q | q
      · exact (ih (j + 1) _ i).2 (by omega) (by omega)
      · subst q
        rw [(ih (j + 1) _ j).1 (by omega), jo_updN]
theorem jo_mo {n : Nat} {co : Nat → Nat} {pa wa : Nat → Int32} {f : Nat → Nat} (hf : ∀ m, f m < 2 ^ 31) {F : Nat} (hc : ∀ m u, gMcs n co pa wa m u = nI (f m)) : ∀ k idx (u : Int32 × (Nat → Nat) × (Nat → Nat)), idx + k = F →
    ((idx = 0 ∧ u.1 = -1) ∨ ∃ m, m < idx ∧ u.1 = nI (f m) ∧ (∀ m', m' < idx → f m ≤ f m') ∧ (∀ m', m' < m → f m < f m') ∧ ∀ i, i < n → ∀ ro, u.2.2 i = gLay n n 0 m 0 ro i) →
    ((F = 0 ∧ (gMo n co pa wa k idx u).1 = -1) ∨ ∃ m, m < F ∧ (gMo n co pa wa k idx u).1 = nI (f m) ∧ (∀ m', m' < F → f m ≤ f m') ∧ (∀ m', m' < m → f m < f m') ∧ ∀ i, i < n → ∀ ro, (gMo n co pa wa k idx u).2.2 i = gLay n n 0 m 0 ro i) := by
  intro k
  induction k with
  | zero =>
    intro idx u hk h
    obtain rfl : idx = F := by omega
    exact h
  | succ k ih =>
    intro idx u hk h
    have hcp : ∀ i, i < n → ∀ ro, gCp (gLay n n 0 idx 0 u.2.1) n 0 u.2.2 i = gLay n n 0 idx 0 ro i := by
      intro i hi ro
      rw [(jo_cp n 0 u.2.2 i).2 (Nat.zero_le _) (by omega)]
      exact jo_lay_ind n 0 idx 0 _ _ i (Nat.zero_le _) (by omega)
    rcases h with ⟨h1, h2⟩ | ⟨m, h1, h2, h3, h4, h5⟩
    · rw [gMo_1 (by rw [h2]; decide), hc]
      refine ih (idx + 1) _ (by omega) (Or.inr ⟨idx, by omega, rfl, fun m' hm' => ?_, fun m' hm' => by omega, hcp⟩)
      rw [show m' = idx by omega]
      exact Nat.le_refl _
    · have hpos : ¬ u.1 < 0 := by
        rw [h2]
        exact nI_pos (hf m)
      by_cases hle : u.1 ≤ gMcs n co pa wa idx u
      · rw [gMo_3 hpos hle]
        rw [hc, h2, nI_leI (hf m) (hf idx)] at hle
        refine ih (idx + 1) _ (by omega) (Or.inr ⟨m, by omega, h2, fun m' hm' => ?_, h4, h5⟩)
        rcases Nat.lt_or_ge m' idx with q | q
        · exact h3 m' q
        · rw [show m' = idx by omega]; exact hle
      · rw [gMo_2 hpos hle, hc]
        rw [hc, h2, nI_leI (hf m) (hf idx)] at hle
        refine ih (idx + 1) _ (by omega) (Or.inr ⟨idx, by omega, rfl, fun m' hm' => ?_, fun m' hm' => ?_, hcp⟩)
        · rcases Nat.lt_or_ge m' idx with q | q
          · have := h3 m' q
            omega
          · rw [show m' = idx by omega]; exact Nat.le_refl _
        · have := h3 m' hm'
          omega
/-- THE ORDER: costs and row, both ways -/
theorem jo_order {n : Nat} {co : Nat → Nat} {pa wa : Nat → Int32} (hn : n ≤ 7) (hco : ∀ j, co j < 4) (hwa : jWa wa) (h7 : co 7 = 0) (p7 : pa 7 = nI 0) :
    ∃ v, v < 2 ^ 31 ∧ (∀ ct, gPc false n co pa wa ct 7 = nI v) ∧ (∀ ro be, (gMo n co pa wa (gFct n) 0 (-1, ro, be)).1 = nI v) ∧ ∀ ct be ro be' i, i < n → gPb false n co pa wa ct be i = (gMo n co pa wa (gFct n) 0 (-1, ro, be')).2.2 i := by
  obtain ⟨m, f, -⟩ := jo_pc7 (pa := pa) (fun _ => 0) hn hco hwa
  have hb : ∀ m', jC n (jK co pa wa) n 0 7 m' < 2 ^ 31 := fun m' => by
    have := jC_le (n := n) (jK_le (pa := pa) hco hwa) n 0 7 m'
    omega
  have hcs : ∀ m' u, gMcs n co pa wa m' u = nI (jC n (jK co pa wa) n 0 7 m') := by
    intro m' u
    have := jo_mc (n := n) (pa := pa) hco hwa n 0 m' 0 7 u.2.1 (nI 0)
    rw [h7, p7] at this
    unfold gMcs
    rw [this, nI_0, Int32.zero_add]
  have hmo : ∀ ro be, ∃ m', jF n (jK co pa wa) n 0 7 m' ∧ (gMo n co pa wa (gFct n) 0 (-1, ro, be)).1 = nI (jC n (jK co pa wa) n 0 7 m') ∧ ∀ i, i < n → ∀ ro', (gMo n co pa wa (gFct n) 0 (-1, ro, be)).2.2 i = gLay n n 0 m' 0 ro' i := by
    intro ro be
    rcases jo_mo (F := gFct n) hb hcs (gFct n) 0 (-1, ro, be) (by omega) (Or.inl ⟨rfl, rfl⟩) with ⟨h1, -⟩ | ⟨m', h1, h2, h3, h4, h5⟩
    · have := (gFct_le hn).1
      omega
    · exact ⟨m', ⟨h1, h3, h4⟩, h2, h5⟩
  refine ⟨jC n (jK co pa wa) n 0 7 m, hb m, fun ct => ?_, fun ro be => ?_, fun ct be ro be' i hi => ?_⟩
  · obtain ⟨m', f', e⟩ := jo_pc7 (pa := pa) ct hn hco hwa
    rw [e, jF_uniq f f']
  · obtain ⟨m', f', e, -⟩ := hmo ro be
    rw [e, jF_uniq f f']
  · obtain ⟨m', f', -, e⟩ := hmo ro be'
    obtain ⟨m2, f2, e2⟩ := jo_walk (pa := pa) (T := gPc false n co pa wa ct) hn hco hwa (jo_pcT ct hn hco hwa) n 0 7 (gUn_0 n 0 (by omega)) (Nat.two_pow_pos n)
    rw [e i hi ro]
    show gWk n co pa wa (gPc false n co pa wa ct) n 0 0 7 be i = _
    rw [e2 0 be ro i (Nat.zero_le _) (by omega), jF_uniq f2 f']
