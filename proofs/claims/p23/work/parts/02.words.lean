/-! the words of the tables at the second start: those on bytecode out of the first start's, the others read by the kernel -/
theorem rf_size : start1.about.vm.classes.size = 17 := rfl
def rf_kept : Jvm.Cond → Bool
  | .code x _ _ _ => match start1.about.methodNamed? x with
    | some m => decide (rf_about.methodNamed? x = some m) && decide (m.cls < 17)
    | none => false
  | _ => false
def rf_ok (c : Jvm.Cond) : Bool := match su_isCode c with
  | true => rf_kept c
  | false => c.before start1.args0 rf_about
theorem rf_method {m : MethodId} (h : m.cls < 17) : rf_about.vm.method? m = start1.about.vm.method? m := by
  have hc : rf_about.vm.classes[m.cls]? = start1.about.vm.classes[m.cls]? := by
    show (start1.about.vm.classes.push rf_second)[m.cls]? = start1.about.vm.classes[m.cls]?
    rw [Array.getElem?_push, if_neg (by rw [rf_size]; exact Nat.ne_of_lt h)]
  simp only [Vm.method?, hc]
theorem rf_code {x : MethodName} {b : ByteArray} {ml : Nat} {r : Option FieldType} (hk : rf_kept (.code x b ml r) = true) (h : (Jvm.Cond.code x b ml r).before start1.args0 start1.about = true) :
    (Jvm.Cond.code x b ml r).before start1.args0 rf_about = true := by
  simp only [rf_kept] at hk
  cases hm : start1.about.methodNamed? x with
  | none => rw [hm] at hk; cases hk
  | some m =>
    rw [hm] at hk
    simp only [Bool.and_eq_true, decide_eq_true_eq] at hk
    have hq := rf_method hk.2
    simp only [Cond.before, Cond.holds, Cond.value, hm, hk.1, Option.bind_some, hq] at h ⊢
    exact h
theorem rf_isCode {c : Jvm.Cond} (h : su_isCode c = true) : ∃ x b ml r, c = .code x b ml r := by
  unfold su_isCode at h
  split at h
  · exact ⟨_, _, _, _, rfl⟩
  · cases h
theorem rf_word {c : Jvm.Cond} (h1 : c.before start1.args0 start1.about = true) (h2 : rf_ok c = true) : c.before start1.args0 rf_about = true := by
  unfold rf_ok at h2
  cases hq : su_isCode c with
  | false => rw [hq] at h2; exact h2
  | true =>
    rw [hq] at h2
    obtain ⟨x, b, ml, r, he⟩ := rf_isCode hq
    subst he
    exact rf_code h2 h1
set_option maxRecDepth 16384 in
theorem rf_ok_1_0 : ((tables_1_1).take 40).all rf_ok = true := by decide +kernel
set_option maxRecDepth 16384 in
theorem rf_ok_1_1 : (((tables_1_1).drop 40).take 40).all rf_ok = true := by decide +kernel
set_option maxRecDepth 16384 in
theorem rf_ok_1_2 : ((((tables_1_1).drop 40).drop 40).take 40).all rf_ok = true := by decide +kernel
set_option maxRecDepth 16384 in
theorem rf_ok_1_3 : (((((tables_1_1).drop 40).drop 40).drop 40).take 40).all rf_ok = true := by decide +kernel
set_option maxRecDepth 16384 in
theorem rf_ok_1_4 : ((((((tables_1_1).drop 40).drop 40).drop 40).drop 40).take 40).all rf_ok = true := by decide +kernel
set_option maxRecDepth 16384 in
theorem rf_ok_1_5 : ((((((tables_1_1).drop 40).drop 40).drop 40).drop 40).drop 40).all rf_ok = true := by decide +kernel
theorem rf_oks_1 : (tables_1_1).all rf_ok = true := start1.su_all_split _ 40 (tables_1_1) rf_ok_1_0 (start1.su_all_split _ 40 ((tables_1_1).drop 40) rf_ok_1_1 (start1.su_all_split _ 40 (((tables_1_1).drop 40).drop 40) rf_ok_1_2 (start1.su_all_split _ 40 ((((tables_1_1).drop 40).drop 40).drop 40) rf_ok_1_3 (start1.su_all_split _ 40 (((((tables_1_1).drop 40).drop 40).drop 40).drop 40) rf_ok_1_4 (rf_ok_1_5)))))
set_option maxRecDepth 16384 in
theorem rf_ok_2_0 : ((tables_1_2).take 40).all rf_ok = true := by decide +kernel
set_option maxRecDepth 16384 in
theorem rf_ok_2_1 : (((tables_1_2).drop 40).take 40).all rf_ok = true := by decide +kernel
set_option maxRecDepth 16384 in
theorem rf_ok_2_2 : ((((tables_1_2).drop 40).drop 40).take 40).all rf_ok = true := by decide +kernel
set_option maxRecDepth 16384 in
theorem rf_ok_2_3 : (((((tables_1_2).drop 40).drop 40).drop 40).take 40).all rf_ok = true := by decide +kernel
set_option maxRecDepth 16384 in
theorem rf_ok_2_4 : ((((((tables_1_2).drop 40).drop 40).drop 40).drop 40).take 40).all rf_ok = true := by decide +kernel
set_option maxRecDepth 16384 in
theorem rf_ok_2_5 : ((((((tables_1_2).drop 40).drop 40).drop 40).drop 40).drop 40).all rf_ok = true := by decide +kernel
theorem rf_oks_2 : (tables_1_2).all rf_ok = true := start1.su_all_split _ 40 (tables_1_2) rf_ok_2_0 (start1.su_all_split _ 40 ((tables_1_2).drop 40) rf_ok_2_1 (start1.su_all_split _ 40 (((tables_1_2).drop 40).drop 40) rf_ok_2_2 (start1.su_all_split _ 40 ((((tables_1_2).drop 40).drop 40).drop 40) rf_ok_2_3 (start1.su_all_split _ 40 (((((tables_1_2).drop 40).drop 40).drop 40).drop 40) rf_ok_2_4 (rf_ok_2_5)))))
set_option maxRecDepth 16384 in
theorem rf_ok_3_0 : ((tables_1_3).take 40).all rf_ok = true := by decide +kernel
set_option maxRecDepth 16384 in
theorem rf_ok_3_1 : (((tables_1_3).drop 40).take 40).all rf_ok = true := by decide +kernel
set_option maxRecDepth 16384 in
theorem rf_ok_3_2 : ((((tables_1_3).drop 40).drop 40).take 40).all rf_ok = true := by decide +kernel
set_option maxRecDepth 16384 in
theorem rf_ok_3_3 : (((((tables_1_3).drop 40).drop 40).drop 40).take 40).all rf_ok = true := by decide +kernel
set_option maxRecDepth 16384 in
theorem rf_ok_3_4 : ((((((tables_1_3).drop 40).drop 40).drop 40).drop 40).take 40).all rf_ok = true := by decide +kernel
set_option maxRecDepth 16384 in
theorem rf_ok_3_5 : ((((((tables_1_3).drop 40).drop 40).drop 40).drop 40).drop 40).all rf_ok = true := by decide +kernel
theorem rf_oks_3 : (tables_1_3).all rf_ok = true := start1.su_all_split _ 40 (tables_1_3) rf_ok_3_0 (start1.su_all_split _ 40 ((tables_1_3).drop 40) rf_ok_3_1 (start1.su_all_split _ 40 (((tables_1_3).drop 40).drop 40) rf_ok_3_2 (start1.su_all_split _ 40 ((((tables_1_3).drop 40).drop 40).drop 40) rf_ok_3_3 (start1.su_all_split _ 40 (((((tables_1_3).drop 40).drop 40).drop 40).drop 40) rf_ok_3_4 (rf_ok_3_5)))))
set_option maxRecDepth 16384 in
theorem rf_ok_4_0 : ((tables_1_4).take 40).all rf_ok = true := by decide +kernel
set_option maxRecDepth 16384 in
theorem rf_ok_4_1 : (((tables_1_4).drop 40).take 40).all rf_ok = true := by decide +kernel
set_option maxRecDepth 16384 in
theorem rf_ok_4_2 : ((((tables_1_4).drop 40).drop 40).take 40).all rf_ok = true := by decide +kernel
set_option maxRecDepth 16384 in
theorem rf_ok_4_3 : (((((tables_1_4).drop 40).drop 40).drop 40).take 40).all rf_ok = true := by decide +kernel
set_option maxRecDepth 16384 in
theorem rf_ok_4_4 : (((((tables_1_4).drop 40).drop 40).drop 40).drop 40).all rf_ok = true := by decide +kernel
theorem rf_oks_4 : (tables_1_4).all rf_ok = true := start1.su_all_split _ 40 (tables_1_4) rf_ok_4_0 (start1.su_all_split _ 40 ((tables_1_4).drop 40) rf_ok_4_1 (start1.su_all_split _ 40 (((tables_1_4).drop 40).drop 40) rf_ok_4_2 (start1.su_all_split _ 40 ((((tables_1_4).drop 40).drop 40).drop 40) rf_ok_4_3 (rf_ok_4_4))))
