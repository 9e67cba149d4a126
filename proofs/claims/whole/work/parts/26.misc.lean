/-! sheets in a row, past jobs, marks: class and reference agree -/
theorem sh_ink3 {ru zv ke cv tg ink asd : Nat → Int32} {zn tr sc : Nat} (hru : jR ru) (hz2 : 2 ≤ zn) (hz8 : zn ≤ 8) (hr2 : 2 ≤ tr) (hr5 : tr ≤ 5) (hsc : sc < 1000) (hZ : jZ zv ke cv tg) (hI : jI ink (16000 * (sc : Int))) :
    gMi3 ru ke zn tr ink asd = gInk3 ru zv zn tr ink ∧ jI (gInk3 ru zv zn tr ink) (16000 * ((sc + 1 : Nat) : Int)) := by
  obtain ⟨f0, -, h0, e0⟩ := jR_of hru (i := 0) (lo := 1) (hi := 20) (by decide) rfl rfl (by decide) (by decide)
  obtain ⟨f1, -, h1, e1⟩ := jR_of hru (i := 1) (lo := 1) (hi := 90) (by decide) rfl rfl (by decide) (by decide)
  obtain ⟨f2, -, h2, e2⟩ := jR_of hru (i := 2) (lo := 0) (hi := 40) (by decide) rfl rfl (by decide) (by decide)
  have hk : ∀ z, z < 8 → ke z = gKe zv z := fun z hz => (hZ z hz).1
  have hkb : ∀ z, z < 8 → ∃ n, n ≤ 100 ∧ gKe zv z = nI n := fun z hz => by
    obtain ⟨n, q1, q2⟩ := (hZ z hz).2.2.2.1
    exact ⟨n, q1, by rw [← hk z hz]; exact q2⟩
  have I1 := sh_FiI (ke := gKe zv) h0 hkb zn 0 ink _ (by omega) (by omega) hI
  have I1 : jI (gFi (gKe zv) (nI f0) zn 0 ink) (16000 * ((sc + 1 : Nat) : Int)) := ⟨I1.1, Int.le_trans I1.2 (by omega)⟩
  have I2 := sh_PrI (tz := zn) h1 (by omega) hz8 (tr - 1) 0 _ (by omega) I1
  have I3 := sh_Dr h2 (by omega) (by omega) hz8 tr 0 _ asd (by omega) I2
  unfold gMi3 gInk3
  rw [e0, e1, e2, sh_Fi hk zn 0 ink (by omega), sh_Pr]
  exact I3
theorem sh_sheet {ru cv tg : Nat → Int32} {zn tr : Nat} {st : Bool} (hru : jR ru) (hz2 : 2 ≤ zn) (hz8 : zn ≤ 8) (hr2 : 2 ≤ tr) (hr5 : tr ≤ 5) {u : gU} {v : gMU} (hsc : u.2.2.2.2.1 < 1000) (hU : jU cv tg u v) :
    jU cv tg (if st = true ∧ gDue (ru 7) (nI (u.2.2.2.2.1 + 1)) = true then gSt ru zn (gSh ru zn tr u) else gSh ru zn tr u) (gMS ru cv tg zn tr st v) ∧ (if st = true ∧ gDue (ru 7) (nI (u.2.2.2.2.1 + 1)) = true then gSt ru zn (gSh ru zn tr u) else gSh ru zn tr u).2.2.2.2.1 = u.2.2.2.2.1 + 1 := by
  obtain ⟨zv, ink, den, go, sc, fed, pap, bar, sg, sr, ss⟩ := u
  obtain ⟨ke, ink', den', go', sc', fed', pap', bar', sg', sr', ss', asd⟩ := v
  obtain ⟨hZ, x1, x2, x3, x4, x5, x6, x7, x8, x9, x10, hS, hI⟩ := hU
  have x1 : ink' = ink := x1
  have x2 : den' = den := x2
  have x3 : go' = go := x3
  have x4 : sc' = sc := x4
  have x5 : fed' = fed := x5
  have x6 : pap' = pap := x6
  have x7 : bar' = bar := x7
  have x8 : sg' = sg := x8
  have x9 : sr' = sr := x9
  have x10 : ss' = ss := x10
  subst x1 x2 x3 x4 x5 x6 x7 x8 x9 x10
  have hsc : sc' < 1000 := hsc
  have hZ : jZ zv ke cv tg := hZ
  have hS : jS ss' := hS
  have hI : jI ink' (16000 * (sc' : Int)) := hI
  obtain ⟨eI, I3⟩ := sh_ink3 (asd := asd) hru hz2 hz8 hr2 hr5 hsc hZ hI
  obtain ⟨f3, -, h3, e3⟩ := jR_of hru (i := 3) (lo := 1) (hi := 90) (by decide) rfl rfl (by decide) (by decide)
  obtain ⟨f5, -, h5, e5⟩ := jR_of hru (i := 5) (lo := 1) (hi := 100) (by decide) rfl rfl (by decide) (by decide)
  obtain ⟨f7, g7, h7, e7⟩ := jR_of hru (i := 7) (lo := 1) (hi := 50) (by decide) rfl rfl (by decide) (by decide)
  have hev : ¬ ru 7 ≤ 0 := by
    rw [e7]
    exact nI_nle (by omega) (by omega)
  have hc : ∀ z, z < 8 → cv z = gCo zv z ∧ ∃ n, n ≤ 100 ∧ cv z = nI n := fun z hz => ⟨(hZ z hz).2.1, (hZ z hz).2.2.2.2⟩
  have hcb : ∀ z, z < 8 → ∃ n, n ≤ 100 ∧ gCo zv z = nI n := fun z hz => by
    obtain ⟨q0, n, q1, q2⟩ := hc z hz
    exact ⟨n, q1, by rw [← q0]; exact q2⟩
  have ht : ∀ z, z < 8 → tg z = gTt zv z := fun z hz => (hZ z hz).2.2.1
  have hk : ∀ z, z < 8 → ke z = gKe zv z := fun z hz => (hZ z hz).1
  have aTi := sh_Ti (tr := tr) h3 hc zn 0 (gInk3 ru zv zn tr ink') (by omega)
  have aTp := sh_Tp (tr := tr) h3 hc zn 0 (gInk3 ru zv zn tr ink') pap' (by omega)
  have aTb := sh_Tb (tr := tr) h3 hc zn 0 (gInk3 ru zv zn tr ink') bar' (by omega)
  have aTd := sh_Td (tr := tr) (bs := sc' * 8) h3 hc zn 0 (gInk3 ru zv zn tr ink') den' (by omega)
  have aTg := sh_Tg (tr := tr) (tol := ru 6) h3 hc ht zn 0 (gInk3 ru zv zn tr ink') true (by omega)
  have aFf := sh_Ff (fe := ru 0) hk zn 0 fed' (by omega)
  have aTI := sh_TiI (tr := tr) h3 hr5 (by omega) (show (16000 * ((sc' + 1 : Nat) : Int)) ≤ 50000000 by omega) hcb zn 0 (gInk3 ru zv zn tr ink') (by omega) I3
  rw [← e3] at aTi aTp aTb aTd aTg aTI
  have hn0 : 0 ≤ nI (sc' + 1) := nI_pos' (by omega)
  have aJs := sh_Js (r := gJr (gTg tr (ru 3) (gCo zv) (gTt zv) (ru 6) zn 0 (gInk3 ru zv zn tr ink') true) sr') (ho := ru 8) hS hn0
  have hM : gMS ru cv tg zn tr st (ke, ink', den', go', sc', fed', pap', bar', sg', sr', ss', asd) = (if st = true ∧ gDue (ru 7) (nI (sc' + 1)) = true then gMSk ru (sc' + 1) (gTd tr (ru 3) (gCo zv) (sc' * 8) zn 0 (gInk3 ru zv zn tr ink') den') tg zn 0 ke else ke, gTi tr (ru 3) (gCo zv) zn 0 (gInk3 ru zv zn tr ink'), gTd tr (ru 3) (gCo zv) (sc' * 8) zn 0 (gInk3 ru zv zn tr ink') den', vf_upd go' sc' (gTg tr (ru 3) (gCo zv) (gTt zv) (ru 6) zn 0 (gInk3 ru zv zn tr ink') true), sc' + 1, gFf (gKe zv) (ru 0) zn 0 fed', gTp tr (ru 3) (gCo zv) zn 0 (gInk3 ru zv zn tr ink') pap', gTb tr (ru 3) (gCo zv) zn 0 (gInk3 ru zv zn tr ink') bar', gJg (gTg tr (ru 3) (gCo zv) (gTt zv) (ru 6) zn 0 (gInk3 ru zv zn tr ink') true) sg', gJr (gTg tr (ru 3) (gCo zv) (gTt zv) (ru 6) zn 0 (gInk3 ru zv zn tr ink') true) sr', gJs (gJr (gTg tr (ru 3) (gCo zv) (gTt zv) (ru 6) zn 0 (gInk3 ru zv zn tr ink') true) sr') (ru 8) (nI (sc' + 1)) ss', gMa3 ru ke zn tr ink' asd) := by
    rw [← aTi, ← aTp, ← aTb, ← aTd, ← aTg, ← aFf, ← sh_Jg, ← sh_due hev, Nat.mul_comm sc' 8, aTg, ← aJs.1, ← aTg, ← eI]
    rfl
  have hG : gSh ru zn tr (zv, ink', den', go', sc', fed', pap', bar', sg', sr', ss') = (zv, gTi tr (ru 3) (gCo zv) zn 0 (gInk3 ru zv zn tr ink'), gTd tr (ru 3) (gCo zv) (sc' * 8) zn 0 (gInk3 ru zv zn tr ink') den', vf_upd go' sc' (gTg tr (ru 3) (gCo zv) (gTt zv) (ru 6) zn 0 (gInk3 ru zv zn tr ink') true), sc' + 1, gFf (gKe zv) (ru 0) zn 0 fed', gTp tr (ru 3) (gCo zv) zn 0 (gInk3 ru zv zn tr ink') pap', gTb tr (ru 3) (gCo zv) zn 0 (gInk3 ru zv zn tr ink') bar', gJg (gTg tr (ru 3) (gCo zv) (gTt zv) (ru 6) zn 0 (gInk3 ru zv zn tr ink') true) sg', gJr (gTg tr (ru 3) (gCo zv) (gTt zv) (ru 6) zn 0 (gInk3 ru zv zn tr ink') true) sr', gJs (gJr (gTg tr (ru 3) (gCo zv) (gTt zv) (ru 6) zn 0 (gInk3 ru zv zn tr ink') true) sr') (ru 8) (nI (sc' + 1)) ss') := rfl
  rw [hM, hG]
  show jU cv tg (if st = true ∧ gDue (ru 7) (nI (sc' + 1)) = true then (_ : gU) else (_ : gU)) _ ∧ (if st = true ∧ gDue (ru 7) (nI (sc' + 1)) = true then (_ : gU) else (_ : gU) : gU).2.2.2.2.1 = sc' + 1
  by_cases hd : st = true ∧ gDue (ru 7) (nI (sc' + 1)) = true
  · rw [if_pos hd, if_pos hd]
    exact ⟨⟨sh_Sk e5 h5 zn 0 zv ke (by omega) hZ, rfl, rfl, rfl, rfl, rfl, rfl, rfl, rfl, rfl, rfl, aJs.2, aTI⟩, rfl⟩
  · rw [if_neg hd, if_neg hd]
    exact ⟨⟨hZ, rfl, rfl, rfl, rfl, rfl, rfl, rfl, rfl, rfl, rfl, aJs.2, aTI⟩, rfl⟩
theorem sh_run {ru cv tg : Nat → Int32} {zn tr : Nat} {st : Bool} (hru : jR ru) (hz2 : 2 ≤ zn) (hz8 : zn ≤ 8) (hr2 : 2 ≤ tr) (hr5 : tr ≤ 5) : ∀ (k : Nat) (u : gU) (v : gMU), u.2.2.2.2.1 + k ≤ 1000 → jU cv tg u v → jU cv tg (gRun ru zn tr st k u) (gMRun ru cv tg zn tr st k v) ∧ (gRun ru zn tr st k u).2.2.2.2.1 = u.2.2.2.2.1 + k := by
  intro k
  induction k with
  | zero => intro u v _ h; exact ⟨h, rfl⟩
  | succ k ih =>
    intro u v hk h
    obtain ⟨h1, h2⟩ := sh_sheet (st := st) hru hz2 hz8 hr2 hr5 (show u.2.2.2.2.1 < 1000 by omega) h
    have e : gRun ru zn tr st (k + 1) u = gRun ru zn tr st k (if st = true ∧ gDue (ru 7) (nI (u.2.2.2.2.1 + 1)) = true then gSt ru zn (gSh ru zn tr u) else gSh ru zn tr u) := by
      by_cases hd : st = true ∧ gDue (ru 7) (nI (u.2.2.2.2.1 + 1)) = true
      · rw [gRun_2 hd.1 hd.2, if_pos hd]
      · rw [if_neg hd]
        exact if_neg hd
    rw [e]
    obtain ⟨g1, g2⟩ := ih _ _ (by rw [h2]; omega) h1
    refine ⟨g1, ?_⟩
    rw [g2, h2]
    omega
/-- sums -/
theorem ps_snoc {f : Nat → Int32} : ∀ k i acc, gPs f (k + 1) i acc = gPs f k i acc + (f (i + k)).toInt64 := by
  intro k
  induction k with
  | zero => intro i acc; rfl
  | succ k ih =>
    intro i acc
    show gPs f (k + 1) (i + 1) (acc + (f i).toInt64) = gPs f k (i + 1) (acc + (f i).toInt64) + (f (i + (k + 1))).toInt64
    rw [ih, show i + 1 + k = i + (k + 1) by omega]
theorem ps_congr {f f' : Nat → Int32} : ∀ k i acc, (∀ j, i ≤ j → j < i + k → f' j = f j) → gPs f' k i acc = gPs f k i acc := by
  intro k
  induction k with
  | zero => intro i acc _; rfl
  | succ k ih =>
    intro i acc h
    show gPs f' k (i + 1) (acc + (f' i).toInt64) = gPs f k (i + 1) (acc + (f i).toInt64)
    rw [h i (Nat.le_refl _) (by omega), ih _ _ (fun j h1 h2 => h j (by omega) (by omega))]
theorem ps_push {f f' : Nat → Int32} {n : Nat} {y : Int32} (h : ∀ j, j < n → f' j = f j) (h2 : f' n = y) : gPs f n 0 0 + y.toInt64 = gPs f' (n + 1) 0 0 := by
  rw [ps_snoc, Nat.zero_add, h2, ps_congr n 0 0 (fun j _ hj => h j (by omega))]
theorem ps_nat {f : Nat → Int32} {M : Nat} (hM : M < 1000000) : ∀ n, n ≤ 1000 → (∀ j, j < n → ∃ v, v ≤ M ∧ f j = nI v) → ∃ s, s ≤ M * n ∧ gPs f n 0 0 = lN s := by
  intro n
  induction n with
  | zero => intro _ _; exact ⟨0, Nat.zero_le _, rfl⟩
  | succ n ih =>
    intro hn h
    obtain ⟨s, hs, e⟩ := ih (by omega) (fun j hj => h j (by omega))
    obtain ⟨v, hv, ev⟩ := h n (by omega)
    refine ⟨s + v, ?_, ?_⟩
    · rw [Nat.mul_succ]; omega
    · rw [ps_snoc, Nat.zero_add, e, ev, nI_l (by omega), lN_add]
/-- past jobs in both ways -/
def jP (pn : Nat) (pc pk : Nat → Int32) (X Y XX XY : Int64) : Prop := pn ≤ 30 ∧ X = gPs pc pn 0 0 ∧ Y = gPs pk pn 0 0 ∧ XX = gPs (fun j => pc j * pc j) pn 0 0 ∧ XY = gPs (fun j => pc j * pk j) pn 0 0 ∧ ∀ j, j < pn → ∃ v, v ≤ 100 ∧ pk j = nI v
theorem jP_push {pn : Nat} {pc pk : Nat → Int32} {X Y XX XY : Int64} {c k : Int32} (h : jP pn pc pk X Y XX XY) (hp : pn < 30) (hk : ∃ v, v ≤ 100 ∧ k = nI v) : jP (pn + 1) (upd pc pn c) (upd pk pn k) (X + c.toInt64) (Y + k.toInt64) (XX + (c * c).toInt64) (XY + (c * k).toInt64) := by
  obtain ⟨-, e1, e2, e3, e4, hb⟩ := h
  refine ⟨by omega, ?_, ?_, ?_, ?_, fun j hj => ?_⟩
  · rw [e1]; exact ps_push (fun j hj => pk_un (by omega)) pk_us
  · rw [e2]; exact ps_push (fun j hj => pk_un (by omega)) pk_us
  · rw [e3]; exact ps_push (f := fun j => pc j * pc j) (f' := fun j => upd pc pn c j * upd pc pn c j) (fun j hj => by show upd pc pn c j * upd pc pn c j = pc j * pc j; rw [pk_un (by omega)]) (by show upd pc pn c pn * upd pc pn c pn = _; rw [pk_us])
  · rw [e4]; exact ps_push (f := fun j => pc j * pk j) (f' := fun j => upd pc pn c j * upd pk pn k j) (fun j hj => by show upd pc pn c j * upd pk pn k j = pc j * pk j; rw [pk_un (by omega), pk_un (by omega)]) (by show upd pc pn c pn * upd pk pn k pn = _; rw [pk_us, pk_us])
  · by_cases e : j = pn
    · subst e
      rw [pk_us]
      exact hk
    · rw [pk_un e]
      exact hb j (by omega)
theorem ms_held (w : Int64) : gHeld w (nI 0) (nI 100) = gMcl w := by
  have z0 : (nI 0).toInt64 = 0 := by decide
  have z1 : (nI 100).toInt64 = 100 := by decide
  unfold gHeld gMcl gLmax gLmin
  rw [z0, z1]
  by_cases h1 : w < 0
  · have h2 : w < 100 := by
      rw [Int64.lt_iff_toInt_lt] at h1 ⊢
      have : (0 : Int64).toInt = 0 := rfl
      have : (100 : Int64).toInt = 100 := rfl
      omega
    rw [if_pos h2, if_pos h1, if_pos h1]
    decide
  · rw [if_neg h1]
    by_cases h2 : w < 100
    · rw [if_pos h2, if_neg h1, if_neg (fun q => Int64.lt_asymm q h2)]
    · rw [if_neg h2, if_neg (by decide)]
      by_cases h3 : 100 < w
      · rw [if_pos h3]
        decide
      · rw [if_neg h3, Int64.le_antisymm (Int64.not_lt.mp h3) (Int64.not_lt.mp h2)]
theorem ms_mcl (w : Int64) : ∃ n, n ≤ 100 ∧ gMcl w = nI n := by
  unfold gMcl
  by_cases h1 : w < 0
  · rw [if_pos h1]; exact ⟨0, by decide, rfl⟩
  · rw [if_neg h1]
    by_cases h2 : 100 < w
    · rw [if_pos h2]; exact ⟨100, by decide, rfl⟩
    · rw [if_neg h2]
      obtain ⟨k, hk, e⟩ := pk_lOf h1
      refine ⟨k, ?_, by rw [e, lN_i]⟩
      rw [e] at h2
      have : ¬ 100 < k := fun q => h2 ((pk_lLT (by decide) hk).mpr q)
      omega
theorem ms_key {pn : Nat} {pc pk : Nat → Int32} {X Y XX XY : Int64} (h : jP pn pc pk X Y XX XY) (hp : pn ≠ 0) : gMkey pn (gPs pc pn 0 0) (gPs pk pn 0 0) (gPs (fun j => pc j * pc j) pn 0 0) (gPs (fun j => pc j * pk j) pn 0 0) = gKey pn X Y XX XY := by
  obtain ⟨hn, e1, e2, e3, e4, hb⟩ := h
  rw [← e1, ← e2, ← e3, ← e4]
  funext c
  by_cases h0 : (nI pn).toInt64 * XX - X * X = 0
  · rw [gMkey_z h0, gKey_z h0 (by omega)]
    obtain ⟨s, hs, e⟩ := ps_nat (by decide) pn (by omega) hb
    rw [← e2] at e
    rw [e, nI_l (by omega), pk_lDiv (by omega) (by omega) (by omega)]
    have hd : s / pn ≤ 100 := by
      have : s / pn ≤ 100 * pn / pn := Nat.div_le_div_right hs
      rw [Nat.mul_div_cancel _ (by omega)] at this
      exact this
    refine (gMcl_2 ?_ ?_).symm
    · exact (pk_lLE (a := 0) (by decide) (by omega)).mpr (Nat.zero_le _)
    · exact (pk_lLE (b := 100) (by omega) (by decide)).mpr hd
  · rw [gMkey_n h0, gKey_n h0, ms_held]
theorem ms_keyb {pn : Nat} {X Y XX XY : Int64} (c : Int32) : ∃ n, n ≤ 100 ∧ gMkey pn X Y XX XY c = nI n := ms_mcl _
theorem ms_qz {ky : Int32 → Int32} {tg cv : Nat → Int32} (hky : ∀ c, ∃ n, n ≤ 100 ∧ ky c = nI n) : ∀ k z zv ke ot, z + k ≤ 8 → jZ zv ke cv tg → jZ (gQz ky k z zv) (gMQz ky cv k z ke) cv tg ∧ gMQo ky cv k z ke ot = gQo ky k z zv ot := by
  intro k
  induction k with
  | zero => intro z zv ke ot _ h; exact ⟨h, rfl⟩
  | succ k ih =>
    intro z zv ke ot hz h
    obtain ⟨z1, z2, z3, z4, z5⟩ := h z (by omega)
    have z1' : ke z = zv (0 * 8 + z) := z1
    have z2' : cv z = zv (1 * 8 + z) := z2
    have hJ : jZ (upd zv (0 * 8 + z) (ky (zv (1 * 8 + z)))) (upd ke z (ky (cv z))) cv tg := by
      intro y hy
      obtain ⟨y1, y2, y3, y4, y5⟩ := h y hy
      rw [← z2']
      refine ⟨?_, ?_, ?_, ?_, y5⟩
      · show upd ke z (ky (cv z)) y = upd zv (0 * 8 + z) (ky (cv z)) (0 * 8 + y)
        by_cases e : y = z
        · subst e; rw [pk_us, pk_us]
        · rw [pk_un e, pk_un (by omega)]; exact y1
      · show cv y = upd zv (0 * 8 + z) (ky (cv z)) (1 * 8 + y)
        rw [pk_un (by omega)]; exact y2
      · show tg y = upd zv (0 * 8 + z) (ky (cv z)) (2 * 8 + y)
        rw [pk_un (by omega)]; exact y3
      · by_cases e : y = z
        · subst e; rw [pk_us]; exact hky _
        · rw [pk_un e]; exact y4
    constructor
    · exact (ih (z + 1) _ _ ot (by omega) hJ).1
    · by_cases e : ky (cv z) = ke z
      · rw [gMQo_e e, gQo_e (by rw [← z1', ← z2']; exact e.symm)]
        exact (ih (z + 1) _ _ ot (by omega) hJ).2
      · rw [gMQo_n e, gQo_n (by rw [← z1', ← z2']; exact fun q => e q.symm)]
        exact (ih (z + 1) _ _ (ot + 1) (by omega) hJ).2
/-- set, press -/
theorem ms_sel {zv ke cv tg : Nat → Int32} {k z : Nat} (h : jZ zv ke cv tg) (hz : z < 8) (hk : k < 3) : gSel k z ke cv tg = zv (k * 8 + z) := by
  obtain ⟨z1, z2, z3, -, -⟩ := h z hz
  rcases (show k = 0 ∨ k = 1 ∨ k = 2 by omega) with rfl | rfl | rfl
  · exact z1
  · exact z2
  · exact z3
theorem ms_set {zv ke cv tg : Nat → Int32} {k z : Nat} {v : Int32} (h : jZ zv ke cv tg) (hz : z < 8) (hk : k < 3) (hv : gWi v (nI 0) ((gTab 3).getD k 0) = true) : jZ (upd zv (k * 8 + z) v) (gSet k 0 z v ke) (gSet k 1 z v cv) (gSet k 2 z v tg) := by
  intro y hy
  obtain ⟨y1, y2, y3, y4, y5⟩ := h y hy
  rcases (show k = 0 ∨ k = 1 ∨ k = 2 by omega) with rfl | rfl | rfl
  · obtain ⟨n, -, hn, e⟩ := gWi_of (a := 0) (b := 100) (by decide) (by decide) hv
    show upd ke z v y = upd zv (0 * 8 + z) v (0 * 8 + y) ∧ cv y = upd zv (0 * 8 + z) v (1 * 8 + y) ∧ tg y = upd zv (0 * 8 + z) v (2 * 8 + y) ∧ (∃ n, n ≤ 100 ∧ upd ke z v y = nI n) ∧ ∃ n, n ≤ 100 ∧ cv y = nI n
    rw [pk_un (f := zv) (j := 1 * 8 + y) (by omega), pk_un (f := zv) (j := 2 * 8 + y) (by omega)]
    by_cases q : y = z
    · subst q
      rw [pk_us, pk_us]
      exact ⟨rfl, y2, y3, ⟨n, hn, e⟩, y5⟩
    · rw [pk_un q, pk_un (by omega)]
      exact ⟨y1, y2, y3, y4, y5⟩
  · obtain ⟨n, -, hn, e⟩ := gWi_of (a := 0) (b := 100) (by decide) (by decide) hv
    show ke y = upd zv (1 * 8 + z) v (0 * 8 + y) ∧ upd cv z v y = upd zv (1 * 8 + z) v (1 * 8 + y) ∧ tg y = upd zv (1 * 8 + z) v (2 * 8 + y) ∧ (∃ n, n ≤ 100 ∧ ke y = nI n) ∧ ∃ n, n ≤ 100 ∧ upd cv z v y = nI n
    rw [pk_un (f := zv) (j := 0 * 8 + y) (by omega), pk_un (f := zv) (j := 2 * 8 + y) (by omega)]
    by_cases q : y = z
    · subst q
      rw [pk_us, pk_us]
      exact ⟨y1, rfl, y3, y4, ⟨n, hn, e⟩⟩
    · rw [pk_un q, pk_un (by omega)]
      exact ⟨y1, y2, y3, y4, y5⟩
  · show ke y = upd zv (2 * 8 + z) v (0 * 8 + y) ∧ cv y = upd zv (2 * 8 + z) v (1 * 8 + y) ∧ upd tg z v y = upd zv (2 * 8 + z) v (2 * 8 + y) ∧ (∃ n, n ≤ 100 ∧ ke y = nI n) ∧ ∃ n, n ≤ 100 ∧ cv y = nI n
    rw [pk_un (f := zv) (j := 0 * 8 + y) (by omega), pk_un (f := zv) (j := 1 * 8 + y) (by omega)]
    by_cases q : y = z
    · subst q
      rw [pk_us, pk_us]
      exact ⟨y1, y2, rfl, y4, y5⟩
    · rw [pk_un q, pk_un (by omega)]
      exact ⟨y1, y2, y3, y4, y5⟩
theorem ms_zr : ∀ k i (f : Nat → Int32) j, (j < i → gZr k i f j = f j) ∧ (i ≤ j → j < i + k → gZr k i f j = (gTab 4).getD (j / 8) 0) := by
  intro k
  induction k with
  | zero => intro i f j; exact ⟨fun _ => rfl, fun h1 h2 => absurd h2 (by omega)⟩
  | succ k ih =>
    intro i f j
    constructor
    · intro h
      show gZr k (i + 1) (upd f i ((gTab 4).getD (i / 8) 0)) j = _
      rw [(ih (i + 1) _ j).1 (by omega), pk_un (by omega)]
    · intro h1 h2
      show gZr k (i + 1) (upd f i ((gTab 4).getD (i / 8) 0)) j = _
      rcases Nat.lt_or_eq_of_le h1 with h | h
      · exact (ih (i + 1) _ j).2 (by omega) (by omega)
      · subst h
        rw [(ih (i + 1) _ i).1 (by omega), pk_us]
theorem ms_fil {v : Int32} : ∀ k i (f : Nat → Int32) j, (j < i → gFil v k i f j = f j) ∧ (i ≤ j → j < i + k → gFil v k i f j = v) := by
  intro k
  induction k with
  | zero => intro i f j; exact ⟨fun _ => rfl, fun h1 h2 => absurd h2 (by omega)⟩
  | succ k ih =>
    intro i f j
    constructor
    · intro h
      show gFil v k (i + 1) (upd f i v) j = _
      rw [(ih (i + 1) _ j).1 (by omega), pk_un (by omega)]
    · intro h1 h2
      show gFil v k (i + 1) (upd f i v) j = _
      rcases Nat.lt_or_eq_of_le h1 with h | h
      · exact (ih (i + 1) _ j).2 (by omega) (by omega)
      · subst h
        rw [(ih (i + 1) _ i).1 (by omega), pk_us]
theorem ms_press (zv ke cv tg : Nat → Int32) : jZ (gZr 24 0 zv) (gFil (nI 0) 8 0 ke) (gFil (nI 20) 8 0 cv) (gFil (nI 100) 8 0 tg) := by
  intro z hz
  rw [(ms_fil 8 0 ke z).2 (Nat.zero_le _) (by omega), (ms_fil 8 0 cv z).2 (Nat.zero_le _) (by omega), (ms_fil 8 0 tg z).2 (Nat.zero_le _) (by omega)]
  show nI 0 = gZr 24 0 zv (0 * 8 + z) ∧ nI 20 = gZr 24 0 zv (1 * 8 + z) ∧ nI 100 = gZr 24 0 zv (2 * 8 + z) ∧ _
  rw [(ms_zr 24 0 zv (0 * 8 + z)).2 (Nat.zero_le _) (by omega), (ms_zr 24 0 zv (1 * 8 + z)).2 (Nat.zero_le _) (by omega), (ms_zr 24 0 zv (2 * 8 + z)).2 (Nat.zero_le _) (by omega)]
  rw [show (0 * 8 + z) / 8 = 0 by omega, show (1 * 8 + z) / 8 = 1 by omega, show (2 * 8 + z) / 8 = 2 by omega]
  exact ⟨rfl, rfl, rfl, ⟨0, by decide, rfl⟩, ⟨20, by decide, rfl⟩⟩
theorem ms_clr : ∀ k i (f : Nat → Int32) j, (j < i → gClr k i f j = f j) ∧ (i ≤ j → j < i + k → gClr k i f j = nI 0) := by
  intro k
  induction k with
  | zero => intro i f j; exact ⟨fun _ => rfl, fun h1 h2 => absurd h2 (by omega)⟩
  | succ k ih =>
    intro i f j
    constructor
    · intro h
      show gClr k (i + 1) (upd f i (nI 0)) j = _
      rw [(ih (i + 1) _ j).1 (by omega), pk_un (by omega)]
    · intro h1 h2
      show gClr k (i + 1) (upd f i (nI 0)) j = _
      rcases Nat.lt_or_eq_of_le h1 with h | h
      · exact (ih (i + 1) _ j).2 (by omega) (by omega)
      · subst h
        rw [(ih (i + 1) _ i).1 (by omega), pk_us]
theorem ms_sum0 {f : Nat → Int32} : ∀ n, (∀ j, j < n → f j = nI 0) → gSum f n = 0 := by
  intro n
  induction n with
  | zero => intro _; rfl
  | succ n ih =>
    intro h
    show gSum f n + (f n).toInt = 0
    rw [ih (fun j hj => h j (by omega)), h n (by omega)]
    rfl
theorem ms_ink0 {f : Nat → Int32} (h : ∀ j, j < 40 → f j = nI 0) : jI f 0 := by
  refine ⟨fun i hi => ?_, ?_⟩
  · rw [h i hi]; decide
  · rw [ms_sum0 40 h]; decide
